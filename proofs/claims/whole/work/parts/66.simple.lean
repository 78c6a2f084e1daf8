/-! what is there -/
theorem mn60 {g : Nat} (h : g ≤ 9999) : mn_ (nI g) 60 = nI (if g < 60 then g else 60) := by
  have e : (60 : Int32) < nI g ↔ 60 < g := nI_ltI (a := 60) (by decide) (by omega)
  unfold mn_
  by_cases hg : g < 60
  · rw [if_pos hg, if_neg (fun q => absurd (e.mp q) (by omega))]
  · rw [if_neg hg]
    by_cases hg2 : 60 < g
    · rw [if_pos (e.mpr hg2)]; rfl
    · rw [if_neg (fun q => hg2 (e.mp q)), show g = 60 by omega]
theorem CR_lg {A : AS} {w : hpW} (V : AV A) (H : CR A w) : ∃ g, g ≤ 9999 ∧ hp_i w 57 12 = nI g ∧ rg_ (hp_i w) 71 g (a_r A) ∧ mn_ (hp_i w 57 12) 60 = a_r A 45 ∧ a_r A 45 = nI (if g < 60 then g else 60) := by
  obtain ⟨_, _, _, t, g, _, c4, _⟩ := H
  obtain ⟨d, hd, ed⟩ := V.2.2.2.1.1.2.2.1
  have z0 := c4.2.2.2.2.1.1
  rw [ed, nI_clamp (by omega)] at z0
  have z := c4.2.2.2.2.1.2.1
  exact ⟨g, by omega, c4.2.2.2.1, c4.2.2.2.2.1, by rw [c4.2.2.2.1, mn60 (by omega), z], z⟩
noncomputable def q_rule (A : AS) (x : Int32) : Int32 := if a_n A = 0 then -1 else if x = 0 then a_s A 0 else if x = 1 then (if a_r A 42 = -1 then 8 else a_r A 42) else if x = 2 then a_r A 43 else if x = 3 then a_r A 41 else -1
set_option maxHeartbeats 2000000 in
set_option maxRecDepth 20000 in
theorem oC_rule {E : sxE} {A : AS} {w : hpW} (VA : AV A) (H : CR A w) (x : Int32) : oC E mX11_rule 3 [.ref 16, .int x] w A (q_rule A x) A := by
  intro Q h
  replace h := h w H fR_rf
  obtain ⟨t, p, C, c3'⟩ := CN_of VA H
  have hB := H.1
  have hn8 := VA.2.2.1.1
  have ht := C.2.1
  have hst := C.2.2.1
  have hn := C.2.2.2.1
  unfold q_rule at h
  refine C_of (by decide +kernel) (Nat.le_of_ble_eq_true rfl) ?_
  refine V_aload_n (i := 0) (sx_di dX11_rule 0 rfl) rfl rfl ?_
  refine V_cV0 (mc' := 0) (ms' := 0) (M' := mX11_isStreet) 1 (sx_di dX11_rule 1 rfl) lX11_154 vX11_isStreet (hB.k _ rfl) (by decide) rfl (Nat.le_of_ble_eq_true rfl) ⟨Nat.le_of_ble_eq_true rfl, Nat.le_of_ble_eq_true rfl⟩ ⟨Nat.le_refl _, Nat.le_refl _⟩ ?_
  refine c_X11_isStreet hB ht hst hn hn8 ?_
  refine V_if_ne (tgt := 9) (sx_di dX11_rule 2 rfl) (by decide) (fun h4 => ?_) (fun h4 => ?_)
  · have h5 : ¬ a_n A = 0 := fun z => h4 (if_pos z)
    have h0 : 0 < a_n A := by omega
    have hv := CR_vw H h0
    rw [if_neg h5] at h
    refine V_iload_n (i := 1) (sx_di dX11_rule 5 rfl) rfl rfl ?_
    refine V_top (fun x10 ex10 => ?_)
    by_cases hx10_0 : x10 = 0
    · refine V_tabIn (off := 30) (tgt := 40) (sx_di dX11_rule 6 rfl) (by rw [hx10_0]; decide) (by rw [hx10_0]; decide) (by rw [hx10_0]; decide) (by decide) ?_
      rw [hx10_0] at ex10
      refine V_aload_n (i := 0) (sx_di dX11_rule 7 rfl) rfl rfl ?_
      refine V_getR (sx_di dX11_rule 8 rfl) fX11_48 (fun _ => rfl) (hB.k _ rfl) (ht) ?_
      refine V_cV0 (mc' := 0) (ms' := 0) (M' := mX8_daysBetween) 2 (sx_di dX11_rule 9 rfl) lX11_158 vX8_daysBetween (hst.1) (by decide) rfl (Nat.le_of_ble_eq_true rfl) ⟨Nat.le_of_ble_eq_true rfl, Nat.le_of_ble_eq_true rfl⟩ ⟨Nat.le_refl _, Nat.le_refl _⟩ ?_
      refine c_X8_daysBetween hst ?_
      refine V_iv (y := a_s A 0) (bt_n c3') ?_
      refine V_iret (sx_di dX11_rule 10 rfl) rfl (Nat.le_refl _) (Nat.le_refl _) ?_
      rw [← ex10] at h
      rw [if_pos rfl] at h
      exact h
    · skip
      by_cases hx10_1 : x10 = 1
      · refine V_tabIn (off := 38) (tgt := 48) (sx_di dX11_rule 6 rfl) (by rw [hx10_1]; decide) (by rw [hx10_1]; decide) (by rw [hx10_1]; decide) (by decide) ?_
        rw [hx10_1] at ex10
        refine V_aload_n (i := 0) (sx_di dX11_rule 11 rfl) rfl rfl ?_
        refine V_getR (sx_di dX11_rule 12 rfl) fX11_60 (fun _ => rfl) (hB.k _ rfl) (hB.r _ _ rfl) ?_
        refine V_getI (sx_di dX11_rule 13 rfl) fX11_161 (fun _ => rfl) (hB.k _ rfl) ?_
        refine V_iv (y := a_r A 42) (hv.2.2.2.1) ?_
        refine V_iconst (v := -1) (sx_di dX11_rule 14 rfl) (by decide) ?_
        refine V_icmp_ne (tgt := 64) (sx_di dX11_rule 15 rfl) (by decide) (fun h56 => ?_) (fun h56 => ?_)
        · rw [← ex10] at h
          rw [if_neg (by decide), if_pos rfl] at h
          rw [if_neg h56] at h
          refine V_aload_n (i := 0) (sx_di dX11_rule 18 rfl) rfl rfl ?_
          refine V_getR (sx_di dX11_rule 19 rfl) fX11_60 (fun _ => rfl) (hB.k _ rfl) (hB.r _ _ rfl) ?_
          refine V_getI (sx_di dX11_rule 20 rfl) fX11_161 (fun _ => rfl) (hB.k _ rfl) ?_
          refine V_iv (y := a_r A 42) (hv.2.2.2.1) ?_
          refine V_iret (sx_di dX11_rule 21 rfl) rfl (Nat.le_refl _) (Nat.le_refl _) ?_
          exact h
        · rw [← ex10] at h
          rw [if_neg (by decide), if_pos rfl] at h
          rw [if_pos h56] at h
          refine V_bipush (v := 8) (sx_di dX11_rule 16 rfl) (by decide) ?_
          refine V_goto (tgt := 71) (sx_di dX11_rule 17 rfl) (by decide) ?_
          refine V_iret (sx_di dX11_rule 21 rfl) rfl (Nat.le_refl _) (Nat.le_refl _) ?_
          exact h
      · skip
        by_cases hx10_2 : x10 = 2
        · refine V_tabIn (off := 62) (tgt := 72) (sx_di dX11_rule 6 rfl) (by rw [hx10_2]; decide) (by rw [hx10_2]; decide) (by rw [hx10_2]; decide) (by decide) ?_
          rw [hx10_2] at ex10
          refine V_aload_n (i := 0) (sx_di dX11_rule 22 rfl) rfl rfl ?_
          refine V_getR (sx_di dX11_rule 23 rfl) fX11_60 (fun _ => rfl) (hB.k _ rfl) (hB.r _ _ rfl) ?_
          refine V_getI (sx_di dX11_rule 24 rfl) fX11_164 (fun _ => rfl) (hB.k _ rfl) ?_
          refine V_iv (y := a_r A 43) (hv.2.2.2.2.1) ?_
          refine V_iret (sx_di dX11_rule 25 rfl) rfl (Nat.le_refl _) (Nat.le_refl _) ?_
          rw [← ex10] at h
          rw [if_neg (by decide), if_neg (by decide), if_pos rfl] at h
          exact h
        · skip
          by_cases hx10_3 : x10 = 3
          · refine V_tabIn (off := 70) (tgt := 80) (sx_di dX11_rule 6 rfl) (by rw [hx10_3]; decide) (by rw [hx10_3]; decide) (by rw [hx10_3]; decide) (by decide) ?_
            rw [hx10_3] at ex10
            refine V_aload_n (i := 0) (sx_di dX11_rule 26 rfl) rfl rfl ?_
            refine V_getR (sx_di dX11_rule 27 rfl) fX11_60 (fun _ => rfl) (hB.k _ rfl) (hB.r _ _ rfl) ?_
            refine V_getI (sx_di dX11_rule 28 rfl) fX11_167 (fun _ => rfl) (hB.k _ rfl) ?_
            refine V_iv (y := a_r A 41) (hv.2.2.1) ?_
            refine V_iret (sx_di dX11_rule 29 rfl) rfl (Nat.le_refl _) (Nat.le_refl _) ?_
            rw [← ex10] at h
            rw [if_neg (by decide), if_neg (by decide), if_neg (by decide), if_pos rfl] at h
            exact h
          · skip
            refine V_tabOut (tgt := 88) (sx_di dX11_rule 6 rfl) (by have z0 := lv_neT (a := 0) hx10_0 (by decide); have z1 := lv_neT (a := 1) hx10_1 (by decide); have z2 := lv_neT (a := 2) hx10_2 (by decide); have z3 := lv_neT (a := 3) hx10_3 (by decide); omega) (by decide) ?_
            refine V_iconst (v := -1) (sx_di dX11_rule 30 rfl) (by decide) ?_
            refine V_iret (sx_di dX11_rule 31 rfl) rfl (Nat.le_refl _) (Nat.le_refl _) ?_
            rw [← ex10] at h
            rw [if_neg hx10_0, if_neg hx10_1, if_neg hx10_2, if_neg hx10_3] at h
            exact h
  · have h5 : a_n A = 0 := Classical.byContradiction (fun z => by rw [if_neg z] at h4; exact absurd h4 (by decide))
    rw [if_pos h5] at h
    refine V_iconst (v := -1) (sx_di dX11_rule 3 rfl) (by decide) ?_
    refine V_iret (sx_di dX11_rule 4 rfl) rfl (Nat.le_refl _) (Nat.le_refl _) ?_
    exact h
set_option maxHeartbeats 2000000 in
set_option maxRecDepth 20000 in
theorem oR_rule {E : sxE} {A : AS} {w : hpW} (VA : AV A) (H : RR A w) (x : Int32) : oR E mX12_rule 2 [.ref 381, .int x] w A (q_rule A x) A := by
  intro Q h
  replace h := h w H fC_rf
  obtain ⟨hB, h1, h2, h3, h4, h5, h6, ⟨h7, h8⟩, ⟨h9, h10⟩, h11, h12⟩ := id H
  have hn8 := VA.2.2.1.1
  have hm6 := VA.2.2.1.2.1
  have hn : hp_i w 381 25 = nI (a_n A) := h3.1
  have hr : ∀ j, hp_i w 398 j = a_r A j := fun j => congrFun h4 j
  unfold q_rule at h
  refine C_of (by decide +kernel) (Nat.le_of_ble_eq_true rfl) ?_
  refine V_aload_n (i := 0) (sx_di dX12_rule 0 rfl) rfl rfl ?_
  refine V_getI (sx_di dX12_rule 1 rfl) fX12_258 (fun _ => rfl) (hB.k _ rfl) ?_
  refine V_iv (y := nI (a_n A)) (hn) ?_
  refine V_ifN_eq (a := (a_n A)) (rfl) (by omega) (tgt := 16) (sx_di dX12_rule 2 rfl) (by decide) (fun h4_ => ?_) (fun h4_ => ?_)
  · rw [if_pos h4_] at h
    refine V_iconst (v := -1) (sx_di dX12_rule 8 rfl) (by decide) ?_
    refine V_iret (sx_di dX12_rule 9 rfl) rfl (Nat.le_refl _) (Nat.le_refl _) ?_
    exact h
  · rw [if_neg h4_] at h
    refine V_iload_n (i := 1) (sx_di dX12_rule 3 rfl) rfl rfl ?_
    refine V_iconst (v := 0) (sx_di dX12_rule 4 rfl) (by decide) ?_
    refine V_iconst (v := 3) (sx_di dX12_rule 5 rfl) (by decide) ?_
    refine V_cS3 (mc' := 0) (ms' := 0) (M' := mX12_in) 1 (sx_di dX12_rule 6 rfl) lX12_214 vX12_in (Nat.le_of_ble_eq_true rfl) ⟨Nat.le_of_ble_eq_true rfl, Nat.le_of_ble_eq_true rfl⟩ ⟨Nat.le_refl _, Nat.le_refl _⟩ ?_
    refine c_X12_in ?_
    refine V_if_ne (tgt := 18) (sx_di dX12_rule 7 rfl) (by decide) (fun h13 => ?_) (fun h13 => ?_)
    · have h14 := in_ye h13
      refine V_iload_n (i := 1) (sx_di dX12_rule 10 rfl) rfl rfl ?_
      refine V_top (fun x19 ex19 => ?_)
      by_cases hx19_0 : x19 = 0
      · refine V_tabIn (off := 25) (tgt := 44) (sx_di dX12_rule 11 rfl) (by rw [hx19_0]; decide) (by rw [hx19_0]; decide) (by rw [hx19_0]; decide) (by decide) ?_
        rw [hx19_0] at ex19
        refine V_aload_n (i := 0) (sx_di dX12_rule 12 rfl) rfl rfl ?_
        refine V_getR (sx_di dX12_rule 13 rfl) fX12_49 (fun _ => rfl) (hB.k _ rfl) (hB.r _ _ rfl) ?_
        refine V_iconst (v := 0) (sx_di dX12_rule 14 rfl) (by decide) ?_
        refine V_ialdN (n := 4) (j := 0) (sx_di dX12_rule 15 rfl) (hB.k _ rfl) (rfl) (by omega) (by omega) ?_
        refine V_iv (y := a_s A 0) (h3.2.2.1 0 (by omega)) ?_
        refine V_iret (sx_di dX12_rule 16 rfl) rfl (Nat.le_refl _) (Nat.le_refl _) ?_
        rw [← ex19] at h
        rw [if_pos rfl] at h
        exact h
      · skip
        by_cases hx19_1 : x19 = 1
        · refine V_tabIn (off := 32) (tgt := 51) (sx_di dX12_rule 11 rfl) (by rw [hx19_1]; decide) (by rw [hx19_1]; decide) (by rw [hx19_1]; decide) (by decide) ?_
          rw [hx19_1] at ex19
          refine V_aload_n (i := 0) (sx_di dX12_rule 17 rfl) rfl rfl ?_
          refine V_getR (sx_di dX12_rule 18 rfl) fX12_58 (fun _ => rfl) (hB.k _ rfl) (hB.r _ _ rfl) ?_
          refine V_bipush (v := 42) (sx_di dX12_rule 19 rfl) (by decide) ?_
          refine V_ialdN (n := 226) (j := 42) (sx_di dX12_rule 20 rfl) (hB.k _ rfl) (rfl) (by omega) (by omega) ?_
          refine V_iv (y := a_r A 42) (hr 42) ?_
          refine V_iconst (v := -1) (sx_di dX12_rule 21 rfl) (by decide) ?_
          refine V_icmp_ne (tgt := 67) (sx_di dX12_rule 22 rfl) (by decide) (fun h59 => ?_) (fun h59 => ?_)
          · rw [← ex19] at h
            rw [if_neg (by decide), if_pos rfl] at h
            rw [if_neg h59] at h
            refine V_aload_n (i := 0) (sx_di dX12_rule 25 rfl) rfl rfl ?_
            refine V_getR (sx_di dX12_rule 26 rfl) fX12_58 (fun _ => rfl) (hB.k _ rfl) (hB.r _ _ rfl) ?_
            refine V_bipush (v := 42) (sx_di dX12_rule 27 rfl) (by decide) ?_
            refine V_ialdN (n := 226) (j := 42) (sx_di dX12_rule 28 rfl) (hB.k _ rfl) (rfl) (by omega) (by omega) ?_
            refine V_iv (y := a_r A 42) (hr 42) ?_
            refine V_iret (sx_di dX12_rule 29 rfl) rfl (Nat.le_refl _) (Nat.le_refl _) ?_
            exact h
          · rw [← ex19] at h
            rw [if_neg (by decide), if_pos rfl] at h
            rw [if_pos h59] at h
            refine V_bipush (v := 8) (sx_di dX12_rule 23 rfl) (by decide) ?_
            refine V_goto (tgt := 74) (sx_di dX12_rule 24 rfl) (by decide) ?_
            refine V_iret (sx_di dX12_rule 29 rfl) rfl (Nat.le_refl _) (Nat.le_refl _) ?_
            exact h
        · skip
          by_cases hx19_2 : x19 = 2
          · refine V_tabIn (off := 56) (tgt := 75) (sx_di dX12_rule 11 rfl) (by rw [hx19_2]; decide) (by rw [hx19_2]; decide) (by rw [hx19_2]; decide) (by decide) ?_
            rw [hx19_2] at ex19
            refine V_aload_n (i := 0) (sx_di dX12_rule 30 rfl) rfl rfl ?_
            refine V_getR (sx_di dX12_rule 31 rfl) fX12_58 (fun _ => rfl) (hB.k _ rfl) (hB.r _ _ rfl) ?_
            refine V_bipush (v := 43) (sx_di dX12_rule 32 rfl) (by decide) ?_
            refine V_ialdN (n := 226) (j := 43) (sx_di dX12_rule 33 rfl) (hB.k _ rfl) (rfl) (by omega) (by omega) ?_
            refine V_iv (y := a_r A 43) (hr 43) ?_
            refine V_iret (sx_di dX12_rule 34 rfl) rfl (Nat.le_refl _) (Nat.le_refl _) ?_
            rw [← ex19] at h
            rw [if_neg (by decide), if_neg (by decide), if_pos rfl] at h
            exact h
          · skip
            refine V_tabOut (tgt := 83) (sx_di dX12_rule 11 rfl) (by have z0 := lv_neT (a := 0) hx19_0 (by decide); have z1 := lv_neT (a := 1) hx19_1 (by decide); have z2 := lv_neT (a := 2) hx19_2 (by decide); omega) (by decide) ?_
            refine V_aload_n (i := 0) (sx_di dX12_rule 35 rfl) rfl rfl ?_
            refine V_getR (sx_di dX12_rule 36 rfl) fX12_58 (fun _ => rfl) (hB.k _ rfl) (hB.r _ _ rfl) ?_
            refine V_bipush (v := 41) (sx_di dX12_rule 37 rfl) (by decide) ?_
            refine V_ialdN (n := 226) (j := 41) (sx_di dX12_rule 38 rfl) (hB.k _ rfl) (rfl) (by omega) (by omega) ?_
            refine V_iv (y := a_r A 41) (hr 41) ?_
            refine V_iret (sx_di dX12_rule 39 rfl) rfl (Nat.le_refl _) (Nat.le_refl _) ?_
            have e3 : x19 = 3 := by
              rw [← ex19] at h14
              obtain ⟨k, hk, e⟩ := nb_ (v := x19) (k := 3) (by decide) (fun z => h14 (Or.inl z)) (fun z => h14 (Or.inr z))
              rw [e] at hx19_0 hx19_1 hx19_2 ⊢
              have a0 : ¬ k = 0 := fun z => hx19_0 (by rw [z]; rfl)
              have a1 : ¬ k = 1 := fun z => hx19_1 (by rw [z]; rfl)
              have a2 : ¬ k = 2 := fun z => hx19_2 (by rw [z]; rfl)
              have a3 : k = 3 := by omega
              rw [a3]; rfl
            rw [← ex19] at h
            rw [if_neg hx19_0, if_neg hx19_1, if_neg hx19_2, if_pos e3] at h
            exact h
    · have h14 := in_no h13
      have n0 : ¬ x = 0 := fun z => by rw [z] at h14; exact absurd h14 (by decide)
      have n1 : ¬ x = 1 := fun z => by rw [z] at h14; exact absurd h14 (by decide)
      have n2 : ¬ x = 2 := fun z => by rw [z] at h14; exact absurd h14 (by decide)
      have n3 : ¬ x = 3 := fun z => by rw [z] at h14; exact absurd h14 (by decide)
      rw [if_neg n0, if_neg n1, if_neg n2, if_neg n3] at h
      refine V_iconst (v := -1) (sx_di dX12_rule 8 rfl) (by decide) ?_
      refine V_iret (sx_di dX12_rule 9 rfl) rfl (Nat.le_refl _) (Nat.le_refl _) ?_
      exact h
def q_form (A : AS) (x y : Int32) : Int32 := if ih_ (a_m A) x = 0 ∨ y < 0 ∨ 1 < y then -1 else if y = 0 then z_s (a_s A) x else z_f (a_s A) x
set_option maxHeartbeats 2000000 in
set_option maxRecDepth 20000 in
theorem oC_form {E : sxE} {A : AS} {w : hpW} (VA : AV A) (H : CR A w) (x : Int32) (y : Int32) : oC E mX11_form 3 [.ref 16, .int x, .int y] w A (q_form A x y) A := by
  intro Q h
  replace h := h w H fR_rf
  obtain ⟨t, p, C, c3'⟩ := CN_of VA H
  have hB := H.1
  have hn8 := VA.2.2.1.1
  have ht := C.2.1
  have hst := C.2.2.1
  have hn := C.2.2.2.1
  unfold q_form at h
  have hm6 := VA.2.2.1.2.1
  have hm := c3'.2.2.2.2.1
  refine C_of (by decide +kernel) (Nat.le_of_ble_eq_true rfl) ?_
  refine V_aload_n (i := 0) (sx_di dX11_form 0 rfl) rfl rfl ?_
  refine V_iload_n (i := 1) (sx_di dX11_form 1 rfl) rfl rfl ?_
  refine V_cV1 (mc' := 0) (ms' := 0) (M' := mX11_isForm) 1 (sx_di dX11_form 2 rfl) lX11_202 vX11_isForm (hB.k _ rfl) (by decide) rfl (Nat.le_of_ble_eq_true rfl) ⟨Nat.le_of_ble_eq_true rfl, Nat.le_of_ble_eq_true rfl⟩ ⟨Nat.le_refl _, Nat.le_refl _⟩ ?_
  refine c_X11_isForm hB ht hst hm hm6 ?_
  refine V_if_eq (tgt := 17) (sx_di dX11_form 3 rfl) (by decide) (fun h5 => ?_) (fun h5 => ?_)
  · rw [if_pos (Or.inl h5)] at h
    refine V_iconst (v := -1) (sx_di dX11_form 9 rfl) (by decide) ?_
    refine V_iret (sx_di dX11_form 10 rfl) rfl (Nat.le_refl _) (Nat.le_refl _) ?_
    exact h
  · refine V_iload_n (i := 2) (sx_di dX11_form 4 rfl) rfl rfl ?_
    refine V_if_lt (tgt := 17) (sx_di dX11_form 5 rfl) (by decide) (fun h9 => ?_) (fun h9 => ?_)
    · rw [if_pos (Or.inr (Or.inl h9))] at h
      refine V_iconst (v := -1) (sx_di dX11_form 9 rfl) (by decide) ?_
      refine V_iret (sx_di dX11_form 10 rfl) rfl (Nat.le_refl _) (Nat.le_refl _) ?_
      exact h
    · refine V_iload_n (i := 2) (sx_di dX11_form 6 rfl) rfl rfl ?_
      refine V_iconst (v := 1) (sx_di dX11_form 7 rfl) (by decide) ?_
      refine V_icmp_le (tgt := 19) (sx_di dX11_form 8 rfl) (by decide) (fun h14 => ?_) (fun h14 => ?_)
      · have h20 : ¬ (ih_ (a_m A) x = 0 ∨ y < 0 ∨ 1 < y) := fun z => z.elim h5 (fun z => z.elim h9 (Int32.not_lt.mpr h14))
        rw [if_neg h20] at h
        obtain ⟨k, hk, ex⟩ := ih_ye (by omega) h5
        refine V_iload_n (i := 2) (sx_di dX11_form 11 rfl) rfl rfl ?_
        refine V_if_ne (tgt := 34) (sx_di dX11_form 12 rfl) (by decide) (fun h20_ => ?_) (fun h20_ => ?_)
        · rw [if_neg h20_] at h
          refine V_aload_n (i := 0) (sx_di dX11_form 18 rfl) rfl rfl ?_
          refine V_getR (sx_di dX11_form 19 rfl) fX11_48 (fun _ => rfl) (hB.k _ rfl) (ht) ?_
          refine V_iload_n (i := 1) (sx_di dX11_form 20 rfl) rfl rfl ?_
          refine V_cV1 (mc' := 0) (ms' := 0) (M' := mX8_following) 2 (sx_di dX11_form 21 rfl) lX11_208 vX8_following (hst.1) (by decide) rfl (Nat.le_of_ble_eq_true rfl) ⟨Nat.le_of_ble_eq_true rfl, Nat.le_of_ble_eq_true rfl⟩ ⟨Nat.le_refl _, Nat.le_refl _⟩ ?_
          refine c_X8_following hst ?_
          refine V_iv (y := z_f (a_s A) x) (by rw [ex]; exact fo_n c3' hm6 hk) ?_
          refine V_iret (sx_di dX11_form 22 rfl) rfl (Nat.le_refl _) (Nat.le_refl _) ?_
          exact h
        · rw [if_pos h20_] at h
          refine V_aload_n (i := 0) (sx_di dX11_form 13 rfl) rfl rfl ?_
          refine V_getR (sx_di dX11_form 14 rfl) fX11_48 (fun _ => rfl) (hB.k _ rfl) (ht) ?_
          refine V_iload_n (i := 1) (sx_di dX11_form 15 rfl) rfl rfl ?_
          refine V_cV1 (mc' := 0) (ms' := 0) (M' := mX8_sizeOf) 2 (sx_di dX11_form 16 rfl) lX11_205 vX8_sizeOf (hst.1) (by decide) rfl (Nat.le_of_ble_eq_true rfl) ⟨Nat.le_of_ble_eq_true rfl, Nat.le_of_ble_eq_true rfl⟩ ⟨Nat.le_refl _, Nat.le_refl _⟩ ?_
          refine c_X8_sizeOf hst ?_
          refine V_iv (y := z_s (a_s A) x) (by rw [ex]; exact fs_n c3' hm6 hk) ?_
          refine V_goto (tgt := 42) (sx_di dX11_form 17 rfl) (by decide) ?_
          refine V_iret (sx_di dX11_form 22 rfl) rfl (Nat.le_refl _) (Nat.le_refl _) ?_
          exact h
      · rw [if_pos (Or.inr (Or.inr (Int32.not_le.mp h14)))] at h
        refine V_iconst (v := -1) (sx_di dX11_form 9 rfl) (by decide) ?_
        refine V_iret (sx_di dX11_form 10 rfl) rfl (Nat.le_refl _) (Nat.le_refl _) ?_
        exact h
set_option maxHeartbeats 2000000 in
set_option maxRecDepth 20000 in
theorem oR_form {E : sxE} {A : AS} {w : hpW} (VA : AV A) (H : RR A w) (x : Int32) (y : Int32) : oR E mX12_form 3 [.ref 381, .int x, .int y] w A (q_form A x y) A := by
  intro Q h
  replace h := h w H fC_rf
  obtain ⟨hB, h1, h2, h3, h4, h5, h6, ⟨h7, h8⟩, ⟨h9, h10⟩, h11, h12⟩ := id H
  have hn8 := VA.2.2.1.1
  have hm6 := VA.2.2.1.2.1
  have hn : hp_i w 381 25 = nI (a_n A) := h3.1
  have hr : ∀ j, hp_i w 398 j = a_r A j := fun j => congrFun h4 j
  unfold q_form at h
  have hm : hp_i w 381 26 = nI (a_m A) := h3.2.1
  refine C_of (by decide +kernel) (Nat.le_of_ble_eq_true rfl) ?_
  refine V_aload_n (i := 0) (sx_di dX12_form 0 rfl) rfl rfl ?_
  refine V_iload_n (i := 1) (sx_di dX12_form 1 rfl) rfl rfl ?_
  refine V_cV1 (mc' := 0) (ms' := 0) (M' := mX12_isForm) 2 (sx_di dX12_form 2 rfl) lX12_314 vX12_isForm (hB.k _ rfl) (by decide) rfl (Nat.le_of_ble_eq_true rfl) ⟨Nat.le_of_ble_eq_true rfl, Nat.le_of_ble_eq_true rfl⟩ ⟨Nat.le_refl _, Nat.le_refl _⟩ ?_
  refine c_X12_isForm hB hm hm6 ?_
  refine V_if_eq (tgt := 30) (sx_di dX12_form 3 rfl) (by decide) (fun h5_ => ?_) (fun h5_ => ?_)
  · rw [if_pos (Or.inl h5_)] at h
    refine V_iconst (v := -1) (sx_di dX12_form 18 rfl) (by decide) ?_
    refine V_iret (sx_di dX12_form 19 rfl) rfl (Nat.le_refl _) (Nat.le_refl _) ?_
    exact h
  · refine V_iload_n (i := 2) (sx_di dX12_form 4 rfl) rfl rfl ?_
    refine V_iconst (v := 0) (sx_di dX12_form 5 rfl) (by decide) ?_
    refine V_iconst (v := 1) (sx_di dX12_form 6 rfl) (by decide) ?_
    refine V_cS3 (mc' := 0) (ms' := 0) (M' := mX12_in) 1 (sx_di dX12_form 7 rfl) lX12_214 vX12_in (Nat.le_of_ble_eq_true rfl) ⟨Nat.le_of_ble_eq_true rfl, Nat.le_of_ble_eq_true rfl⟩ ⟨Nat.le_refl _, Nat.le_refl _⟩ ?_
    refine c_X12_in ?_
    refine V_if_eq (tgt := 30) (sx_di dX12_form 8 rfl) (by decide) (fun h14 => ?_) (fun h14 => ?_)
    · rw [if_pos (Or.inr (in_no h14))] at h
      refine V_iconst (v := -1) (sx_di dX12_form 18 rfl) (by decide) ?_
      refine V_iret (sx_di dX12_form 19 rfl) rfl (Nat.le_refl _) (Nat.le_refl _) ?_
      exact h
    · have h15 := in_ye h14
      have h20 : ¬ (ih_ (a_m A) x = 0 ∨ y < 0 ∨ 1 < y) := fun z => z.elim h5_ h15
      rw [if_neg h20] at h
      obtain ⟨k, hk, rfl⟩ := ih_ye (by omega) h5_
      obtain ⟨j, hj, rfl⟩ := nb_ (v := y) (k := 1) (by decide) (fun z => h15 (Or.inl z)) (fun z => h15 (Or.inr z))
      refine V_aload_n (i := 0) (sx_di dX12_form 9 rfl) rfl rfl ?_
      refine V_getR (sx_di dX12_form 10 rfl) fX12_55 (fun _ => rfl) (hB.k _ rfl) (hB.r _ _ rfl) ?_
      refine V_iconst (v := 2) (sx_di dX12_form 11 rfl) (by decide) ?_
      refine V_iload_n (i := 1) (sx_di dX12_form 12 rfl) rfl rfl ?_
      refine V_imul (sx_di dX12_form 13 rfl) ?_
      refine V_iload_n (i := 2) (sx_di dX12_form 14 rfl) rfl rfl ?_
      refine V_iadd (sx_di dX12_form 15 rfl) ?_
      refine V_ialdN (n := 12) (j := ((2 * k) + j)) (sx_di dX12_form 16 rfl) (hB.k _ rfl) (nx_add (nx_mul (rfl) (rfl)) (rfl)) (by omega) (by omega) ?_
      refine V_iv (y := (if nI j = 0 then z_s (a_s A) (nI k) else z_f (a_s A) (nI k))) (by rw [h3.2.2.2.2 _ (by omega), z_s_n _ (by omega), z_f_n _ (by omega)]; rcases Nat.lt_or_ge j 1 with z | z; (rw [show j = 0 by omega]; rfl); (rw [show j = 1 by omega]; rfl)) ?_
      refine V_goto (tgt := 31) (sx_di dX12_form 17 rfl) (by decide) ?_
      refine V_iret (sx_di dX12_form 19 rfl) rfl (Nat.le_refl _) (Nat.le_refl _) ?_
      exact h
noncomputable def q_count (A : AS) (x : Int32) : Int32 := if x = 0 then nI (a_n A) else if x = 1 then nI (a_m A) else if x = 2 then nI (a_W A).length else if x = 3 then nI (a_T A).length else if x = 4 then a_h A else if x = 5 then a_r A 44 else if x = 6 then a_d A else if x = 7 then nI (a_S A).length else if x = 8 then nI (a_Q A).length else if x = 9 then a_r A 40 else if x = 10 then a_r A 45 else if x = 11 then nI (a_K A).length else -1000000
set_option maxHeartbeats 2000000 in
set_option maxRecDepth 20000 in
theorem oC_count {E : sxE} {A : AS} {w : hpW} (VA : AV A) (H : CR A w) (x : Int32) : oC E mX11_count 3 [.ref 16, .int x] w A (q_count A x) A := by
  intro Q h
  replace h := h w H fR_rf
  obtain ⟨t, p, C, c3'⟩ := CN_of VA H
  have hB := H.1
  have hn8 := VA.2.2.1.1
  have ht := C.2.1
  have hst := C.2.2.1
  have hn := C.2.2.2.1
  unfold q_count at h
  obtain ⟨_, c1, c2, t, g, c3, c4, c5, c6, ⟨c7, c8⟩, ⟨c9, c10⟩, c11, c12⟩ := id H
  obtain ⟨p', hp', p1, p2, _⟩ := c5
  have hs2 : is_St w t := by
    rcases c3.2.2.1 with rfl | rfl
    · exact st_53 hB
    · exact st_55 hB
  obtain ⟨_, _, _, _, e45, _⟩ := CR_lg VA H
  refine C_of (by decide +kernel) (Nat.le_of_ble_eq_true rfl) ?_
  refine V_iload_n (i := 1) (sx_di dX11_count 0 rfl) rfl rfl ?_
  refine V_top (fun x1 ex1 => ?_)
  by_cases hx1_0 : x1 = 0
  · refine V_tabIn (off := 63) (tgt := 64) (sx_di dX11_count 1 rfl) (by rw [hx1_0]; decide) (by rw [hx1_0]; decide) (by rw [hx1_0]; decide) (by decide) ?_
    rw [hx1_0] at ex1
    refine V_aload_n (i := 0) (sx_di dX11_count 2 rfl) rfl rfl ?_
    refine V_getR (sx_di dX11_count 3 rfl) fX11_48 (fun _ => rfl) (hB.k _ rfl) (c3.1) ?_
    refine V_getI (sx_di dX11_count 4 rfl) fX11_151 (fun _ => rfl) (hs2.1) ?_
    refine V_iv (y := nI (a_n A)) (c3.2.2.2.1) ?_
    refine V_iret (sx_di dX11_count 5 rfl) rfl (Nat.le_refl _) (Nat.le_refl _) ?_
    rw [← ex1] at h
    rw [if_pos rfl] at h
    exact h
  · skip
    by_cases hx1_1 : x1 = 1
    · refine V_tabIn (off := 71) (tgt := 72) (sx_di dX11_count 1 rfl) (by rw [hx1_1]; decide) (by rw [hx1_1]; decide) (by rw [hx1_1]; decide) (by decide) ?_
      rw [hx1_1] at ex1
      refine V_aload_n (i := 0) (sx_di dX11_count 6 rfl) rfl rfl ?_
      refine V_getR (sx_di dX11_count 7 rfl) fX11_48 (fun _ => rfl) (hB.k _ rfl) (c3.1) ?_
      refine V_getI (sx_di dX11_count 8 rfl) fX11_230 (fun _ => rfl) (hs2.1) ?_
      refine V_iv (y := nI (a_m A)) (c3.2.2.2.2.1) ?_
      refine V_iret (sx_di dX11_count 9 rfl) rfl (Nat.le_refl _) (Nat.le_refl _) ?_
      rw [← ex1] at h
      rw [if_neg (by decide), if_pos rfl] at h
      exact h
    · skip
      by_cases hx1_2 : x1 = 2
      · refine V_tabIn (off := 79) (tgt := 80) (sx_di dX11_count 1 rfl) (by rw [hx1_2]; decide) (by rw [hx1_2]; decide) (by rw [hx1_2]; decide) (by decide) ?_
        rw [hx1_2] at ex1
        refine V_aload_n (i := 0) (sx_di dX11_count 10 rfl) rfl rfl ?_
        refine V_getR (sx_di dX11_count 11 rfl) fX11_28 (fun _ => rfl) (hB.k _ rfl) (hB.r _ _ rfl) ?_
        refine V_getI (sx_di dX11_count 12 rfl) fX11_134 (fun _ => rfl) (hB.k _ rfl) ?_
        refine V_iv (y := nI (a_W A).length) (c2.1) ?_
        refine V_iret (sx_di dX11_count 13 rfl) rfl (Nat.le_refl _) (Nat.le_refl _) ?_
        rw [← ex1] at h
        rw [if_neg (by decide), if_neg (by decide), if_pos rfl] at h
        exact h
      · skip
        by_cases hx1_3 : x1 = 3
        · refine V_tabIn (off := 87) (tgt := 88) (sx_di dX11_count 1 rfl) (by rw [hx1_3]; decide) (by rw [hx1_3]; decide) (by rw [hx1_3]; decide) (by decide) ?_
          rw [hx1_3] at ex1
          refine V_aload_n (i := 0) (sx_di dX11_count 14 rfl) rfl rfl ?_
          refine V_getR (sx_di dX11_count 15 rfl) fX11_12 (fun _ => rfl) (hB.k _ rfl) (hB.r _ _ rfl) ?_
          refine V_getI (sx_di dX11_count 16 rfl) fX11_115 (fun _ => rfl) (hB.k _ rfl) ?_
          refine V_iv (y := nI (a_T A).length) (c1.2.1) ?_
          refine V_iret (sx_di dX11_count 17 rfl) rfl (Nat.le_refl _) (Nat.le_refl _) ?_
          rw [← ex1] at h
          rw [if_neg (by decide), if_neg (by decide), if_neg (by decide), if_pos rfl] at h
          exact h
        · skip
          by_cases hx1_4 : x1 = 4
          · refine V_tabIn (off := 95) (tgt := 96) (sx_di dX11_count 1 rfl) (by rw [hx1_4]; decide) (by rw [hx1_4]; decide) (by rw [hx1_4]; decide) (by decide) ?_
            rw [hx1_4] at ex1
            refine V_aload_n (i := 0) (sx_di dX11_count 18 rfl) rfl rfl ?_
            refine V_getR (sx_di dX11_count 19 rfl) fX11_28 (fun _ => rfl) (hB.k _ rfl) (hB.r _ _ rfl) ?_
            refine V_getI (sx_di dX11_count 20 rfl) fX11_211 (fun _ => rfl) (hB.k _ rfl) ?_
            refine V_iv (y := a_h A) (c2.2.1) ?_
            refine V_iret (sx_di dX11_count 21 rfl) rfl (Nat.le_refl _) (Nat.le_refl _) ?_
            rw [← ex1] at h
            rw [if_neg (by decide), if_neg (by decide), if_neg (by decide), if_neg (by decide), if_pos rfl] at h
            exact h
          · skip
            by_cases hx1_5 : x1 = 5
            · refine V_tabIn (off := 103) (tgt := 104) (sx_di dX11_count 1 rfl) (by rw [hx1_5]; decide) (by rw [hx1_5]; decide) (by rw [hx1_5]; decide) (by decide) ?_
              rw [hx1_5] at ex1
              refine V_aload_n (i := 0) (sx_di dX11_count 22 rfl) rfl rfl ?_
              refine V_getR (sx_di dX11_count 23 rfl) fX11_60 (fun _ => rfl) (hB.k _ rfl) (hB.r _ _ rfl) ?_
              refine V_getI (sx_di dX11_count 24 rfl) fX11_233 (fun _ => rfl) (hB.k _ rfl) ?_
              refine V_iv (y := a_r A 44) (c4.2.2.1) ?_
              refine V_iret (sx_di dX11_count 25 rfl) rfl (Nat.le_refl _) (Nat.le_refl _) ?_
              rw [← ex1] at h
              rw [if_neg (by decide), if_neg (by decide), if_neg (by decide), if_neg (by decide), if_neg (by decide), if_pos rfl] at h
              exact h
            · skip
              by_cases hx1_6 : x1 = 6
              · refine V_tabIn (off := 111) (tgt := 112) (sx_di dX11_count 1 rfl) (by rw [hx1_6]; decide) (by rw [hx1_6]; decide) (by rw [hx1_6]; decide) (by decide) ?_
                rw [hx1_6] at ex1
                refine V_aload_n (i := 0) (sx_di dX11_count 26 rfl) rfl rfl ?_
                refine V_getI (sx_di dX11_count 27 rfl) fX11_236 (fun _ => rfl) (hB.k _ rfl) ?_
                refine V_iv (y := a_d A) (c12) ?_
                refine V_iret (sx_di dX11_count 28 rfl) rfl (Nat.le_refl _) (Nat.le_refl _) ?_
                rw [← ex1] at h
                rw [if_neg (by decide), if_neg (by decide), if_neg (by decide), if_neg (by decide), if_neg (by decide), if_neg (by decide), if_pos rfl] at h
                exact h
              · skip
                by_cases hx1_7 : x1 = 7
                · refine V_tabIn (off := 116) (tgt := 117) (sx_di dX11_count 1 rfl) (by rw [hx1_7]; decide) (by rw [hx1_7]; decide) (by rw [hx1_7]; decide) (by decide) ?_
                  rw [hx1_7] at ex1
                  refine V_aload_n (i := 0) (sx_di dX11_count 29 rfl) rfl rfl ?_
                  refine V_getR (sx_di dX11_count 30 rfl) fX11_91 (fun _ => rfl) (hB.k _ rfl) (hB.r _ _ rfl) ?_
                  refine V_getI (sx_di dX11_count 31 rfl) fX11_150 (fun _ => rfl) (hB.k _ rfl) ?_
                  refine V_iv (y := nI (a_S A).length) (c7) ?_
                  refine V_iret (sx_di dX11_count 32 rfl) rfl (Nat.le_refl _) (Nat.le_refl _) ?_
                  rw [← ex1] at h
                  rw [if_neg (by decide), if_neg (by decide), if_neg (by decide), if_neg (by decide), if_neg (by decide), if_neg (by decide), if_neg (by decide), if_pos rfl] at h
                  exact h
                · skip
                  by_cases hx1_8 : x1 = 8
                  · refine V_tabIn (off := 124) (tgt := 125) (sx_di dX11_count 1 rfl) (by rw [hx1_8]; decide) (by rw [hx1_8]; decide) (by rw [hx1_8]; decide) (by decide) ?_
                    rw [hx1_8] at ex1
                    refine V_aload_n (i := 0) (sx_di dX11_count 33 rfl) rfl rfl ?_
                    refine V_getR (sx_di dX11_count 34 rfl) fX11_95 (fun _ => rfl) (hB.k _ rfl) (hB.r _ _ rfl) ?_
                    refine V_getI (sx_di dX11_count 35 rfl) fX11_150 (fun _ => rfl) (hB.k _ rfl) ?_
                    refine V_iv (y := nI (a_Q A).length) (c9) ?_
                    refine V_iret (sx_di dX11_count 36 rfl) rfl (Nat.le_refl _) (Nat.le_refl _) ?_
                    rw [← ex1] at h
                    rw [if_neg (by decide), if_neg (by decide), if_neg (by decide), if_neg (by decide), if_neg (by decide), if_neg (by decide), if_neg (by decide), if_neg (by decide), if_pos rfl] at h
                    exact h
                  · skip
                    by_cases hx1_9 : x1 = 9
                    · refine V_tabIn (off := 132) (tgt := 133) (sx_di dX11_count 1 rfl) (by rw [hx1_9]; decide) (by rw [hx1_9]; decide) (by rw [hx1_9]; decide) (by decide) ?_
                      rw [hx1_9] at ex1
                      refine V_aload_n (i := 0) (sx_di dX11_count 37 rfl) rfl rfl ?_
                      refine V_getR (sx_di dX11_count 38 rfl) fX11_60 (fun _ => rfl) (hB.k _ rfl) (hB.r _ _ rfl) ?_
                      refine V_getI (sx_di dX11_count 39 rfl) fX11_239 (fun _ => rfl) (hB.k _ rfl) ?_
                      refine V_iv (y := a_r A 40) (c4.2.1) ?_
                      refine V_iret (sx_di dX11_count 40 rfl) rfl (Nat.le_refl _) (Nat.le_refl _) ?_
                      rw [← ex1] at h
                      rw [if_neg (by decide), if_neg (by decide), if_neg (by decide), if_neg (by decide), if_neg (by decide), if_neg (by decide), if_neg (by decide), if_neg (by decide), if_neg (by decide), if_pos rfl] at h
                      exact h
                    · skip
                      by_cases hx1_10 : x1 = 10
                      · refine V_tabIn (off := 140) (tgt := 141) (sx_di dX11_count 1 rfl) (by rw [hx1_10]; decide) (by rw [hx1_10]; decide) (by rw [hx1_10]; decide) (by decide) ?_
                        rw [hx1_10] at ex1
                        refine V_aload_n (i := 0) (sx_di dX11_count 41 rfl) rfl rfl ?_
                        refine V_cV0 (mc' := 0) (ms' := 0) (M' := mX11_shownLog) 2 (sx_di dX11_count 42 rfl) lX11_214 vX11_shownLog (hB.k _ rfl) (by decide) rfl (Nat.le_of_ble_eq_true rfl) ⟨Nat.le_of_ble_eq_true rfl, Nat.le_of_ble_eq_true rfl⟩ ⟨Nat.le_refl _, Nat.le_refl _⟩ ?_
                        refine c_X11_shownLog hB ?_
                        refine V_iv (y := a_r A 45) e45 ?_
                        refine V_iret (sx_di dX11_count 43 rfl) rfl (Nat.le_refl _) (Nat.le_refl _) ?_
                        rw [← ex1] at h
                        rw [if_neg (by decide), if_neg (by decide), if_neg (by decide), if_neg (by decide), if_neg (by decide), if_neg (by decide), if_neg (by decide), if_neg (by decide), if_neg (by decide), if_neg (by decide), if_pos rfl] at h
                        exact h
                      · skip
                        by_cases hx1_11 : x1 = 11
                        · refine V_tabIn (off := 145) (tgt := 146) (sx_di dX11_count 1 rfl) (by rw [hx1_11]; decide) (by rw [hx1_11]; decide) (by rw [hx1_11]; decide) (by decide) ?_
                          rw [hx1_11] at ex1
                          refine V_aload_n (i := 0) (sx_di dX11_count 44 rfl) rfl rfl ?_
                          refine V_getR (sx_di dX11_count 45 rfl) fX11_77 (fun _ => rfl) (hB.k _ rfl) (hB.r _ _ rfl) ?_
                          refine V_getI (sx_di dX11_count 46 rfl) fX11_242 (fun _ => rfl) (hB.k _ rfl) ?_
                          refine V_iv (y := nI (a_K A).length) (p2) ?_
                          refine V_iret (sx_di dX11_count 47 rfl) rfl (Nat.le_refl _) (Nat.le_refl _) ?_
                          rw [← ex1] at h
                          rw [if_neg (by decide), if_neg (by decide), if_neg (by decide), if_neg (by decide), if_neg (by decide), if_neg (by decide), if_neg (by decide), if_neg (by decide), if_neg (by decide), if_neg (by decide), if_neg (by decide), if_pos rfl] at h
                          exact h
                        · skip
                          refine V_tabOut (tgt := 154) (sx_di dX11_count 1 rfl) (by have z0 := lv_neT (a := 0) hx1_0 (by decide); have z1 := lv_neT (a := 1) hx1_1 (by decide); have z2 := lv_neT (a := 2) hx1_2 (by decide); have z3 := lv_neT (a := 3) hx1_3 (by decide); have z4 := lv_neT (a := 4) hx1_4 (by decide); have z5 := lv_neT (a := 5) hx1_5 (by decide); have z6 := lv_neT (a := 6) hx1_6 (by decide); have z7 := lv_neT (a := 7) hx1_7 (by decide); have z8 := lv_neT (a := 8) hx1_8 (by decide); have z9 := lv_neT (a := 9) hx1_9 (by decide); have z10 := lv_neT (a := 10) hx1_10 (by decide); have z11 := lv_neT (a := 11) hx1_11 (by decide); omega) (by decide) ?_
                          refine V_ldc (sx_di dX11_count 48 rfl) kX11_217 ?_
                          refine V_iret (sx_di dX11_count 49 rfl) rfl (Nat.le_refl _) (Nat.le_refl _) ?_
                          rw [← ex1] at h
                          rw [if_neg hx1_0, if_neg hx1_1, if_neg hx1_2, if_neg hx1_3, if_neg hx1_4, if_neg hx1_5, if_neg hx1_6, if_neg hx1_7, if_neg hx1_8, if_neg hx1_9, if_neg hx1_10, if_neg hx1_11] at h
                          exact h
set_option maxHeartbeats 2000000 in
set_option maxRecDepth 20000 in
theorem oR_count {E : sxE} {A : AS} {w : hpW} (VA : AV A) (H : RR A w) (x : Int32) : oR E mX12_count 1 [.ref 381, .int x] w A (q_count A x) A := by
  intro Q h
  replace h := h w H fC_rf
  obtain ⟨hB, h1, h2, h3, h4, h5, h6, ⟨h7, h8⟩, ⟨h9, h10⟩, h11, h12⟩ := id H
  have hn8 := VA.2.2.1.1
  have hm6 := VA.2.2.1.2.1
  have hn : hp_i w 381 25 = nI (a_n A) := h3.1
  have hr : ∀ j, hp_i w 398 j = a_r A j := fun j => congrFun h4 j
  unfold q_count at h
  refine C_of (by decide +kernel) (Nat.le_of_ble_eq_true rfl) ?_
  refine V_iload_n (i := 1) (sx_di dX12_count 0 rfl) rfl rfl ?_
  refine V_top (fun x1 ex1 => ?_)
  by_cases hx1_0 : x1 = 0
  · refine V_tabIn (off := 63) (tgt := 64) (sx_di dX12_count 1 rfl) (by rw [hx1_0]; decide) (by rw [hx1_0]; decide) (by rw [hx1_0]; decide) (by decide) ?_
    rw [hx1_0] at ex1
    refine V_aload_n (i := 0) (sx_di dX12_count 2 rfl) rfl rfl ?_
    refine V_getI (sx_di dX12_count 3 rfl) fX12_258 (fun _ => rfl) (hB.k _ rfl) ?_
    refine V_iv (y := nI (a_n A)) (h3.1) ?_
    refine V_iret (sx_di dX12_count 4 rfl) rfl (Nat.le_refl _) (Nat.le_refl _) ?_
    rw [← ex1] at h
    rw [if_pos rfl] at h
    exact h
  · skip
    by_cases hx1_1 : x1 = 1
    · refine V_tabIn (off := 68) (tgt := 69) (sx_di dX12_count 1 rfl) (by rw [hx1_1]; decide) (by rw [hx1_1]; decide) (by rw [hx1_1]; decide) (by decide) ?_
      rw [hx1_1] at ex1
      refine V_aload_n (i := 0) (sx_di dX12_count 5 rfl) rfl rfl ?_
      refine V_getI (sx_di dX12_count 6 rfl) fX12_264 (fun _ => rfl) (hB.k _ rfl) ?_
      refine V_iv (y := nI (a_m A)) (h3.2.1) ?_
      refine V_iret (sx_di dX12_count 7 rfl) rfl (Nat.le_refl _) (Nat.le_refl _) ?_
      rw [← ex1] at h
      rw [if_neg (by decide), if_pos rfl] at h
      exact h
    · skip
      by_cases hx1_2 : x1 = 2
      · refine V_tabIn (off := 73) (tgt := 74) (sx_di dX12_count 1 rfl) (by rw [hx1_2]; decide) (by rw [hx1_2]; decide) (by rw [hx1_2]; decide) (by decide) ?_
        rw [hx1_2] at ex1
        refine V_aload_n (i := 0) (sx_di dX12_count 8 rfl) rfl rfl ?_
        refine V_getI (sx_di dX12_count 9 rfl) fX12_286 (fun _ => rfl) (hB.k _ rfl) ?_
        refine V_iv (y := nI (a_W A).length) (h2.1) ?_
        refine V_iret (sx_di dX12_count 10 rfl) rfl (Nat.le_refl _) (Nat.le_refl _) ?_
        rw [← ex1] at h
        rw [if_neg (by decide), if_neg (by decide), if_pos rfl] at h
        exact h
      · skip
        by_cases hx1_3 : x1 = 3
        · refine V_tabIn (off := 78) (tgt := 79) (sx_di dX12_count 1 rfl) (by rw [hx1_3]; decide) (by rw [hx1_3]; decide) (by rw [hx1_3]; decide) (by decide) ?_
          rw [hx1_3] at ex1
          refine V_aload_n (i := 0) (sx_di dX12_count 11 rfl) rfl rfl ?_
          refine V_getI (sx_di dX12_count 12 rfl) fX12_106 (fun _ => rfl) (hB.k _ rfl) ?_
          refine V_iv (y := nI (a_T A).length) (h1.2.1) ?_
          refine V_iret (sx_di dX12_count 13 rfl) rfl (Nat.le_refl _) (Nat.le_refl _) ?_
          rw [← ex1] at h
          rw [if_neg (by decide), if_neg (by decide), if_neg (by decide), if_pos rfl] at h
          exact h
        · skip
          by_cases hx1_4 : x1 = 4
          · refine V_tabIn (off := 83) (tgt := 84) (sx_di dX12_count 1 rfl) (by rw [hx1_4]; decide) (by rw [hx1_4]; decide) (by rw [hx1_4]; decide) (by decide) ?_
            rw [hx1_4] at ex1
            refine V_aload_n (i := 0) (sx_di dX12_count 14 rfl) rfl rfl ?_
            refine V_getI (sx_di dX12_count 15 rfl) fX12_64 (fun _ => rfl) (hB.k _ rfl) ?_
            refine V_iv (y := a_h A) (h2.2.1) ?_
            refine V_iret (sx_di dX12_count 16 rfl) rfl (Nat.le_refl _) (Nat.le_refl _) ?_
            rw [← ex1] at h
            rw [if_neg (by decide), if_neg (by decide), if_neg (by decide), if_neg (by decide), if_pos rfl] at h
            exact h
          · skip
            by_cases hx1_5 : x1 = 5
            · refine V_tabIn (off := 88) (tgt := 89) (sx_di dX12_count 1 rfl) (by rw [hx1_5]; decide) (by rw [hx1_5]; decide) (by rw [hx1_5]; decide) (by decide) ?_
              rw [hx1_5] at ex1
              refine V_aload_n (i := 0) (sx_di dX12_count 17 rfl) rfl rfl ?_
              refine V_getR (sx_di dX12_count 18 rfl) fX12_58 (fun _ => rfl) (hB.k _ rfl) (hB.r _ _ rfl) ?_
              refine V_bipush (v := 44) (sx_di dX12_count 19 rfl) (by decide) ?_
              refine V_ialdN (n := 226) (j := 44) (sx_di dX12_count 20 rfl) (hB.k _ rfl) (rfl) (by omega) (by omega) ?_
              refine V_iv (y := a_r A 44) (hr 44) ?_
              refine V_iret (sx_di dX12_count 21 rfl) rfl (Nat.le_refl _) (Nat.le_refl _) ?_
              rw [← ex1] at h
              rw [if_neg (by decide), if_neg (by decide), if_neg (by decide), if_neg (by decide), if_neg (by decide), if_pos rfl] at h
              exact h
            · skip
              by_cases hx1_6 : x1 = 6
              · refine V_tabIn (off := 96) (tgt := 97) (sx_di dX12_count 1 rfl) (by rw [hx1_6]; decide) (by rw [hx1_6]; decide) (by rw [hx1_6]; decide) (by decide) ?_
                rw [hx1_6] at ex1
                refine V_aload_n (i := 0) (sx_di dX12_count 22 rfl) rfl rfl ?_
                refine V_getI (sx_di dX12_count 23 rfl) fX12_333 (fun _ => rfl) (hB.k _ rfl) ?_
                refine V_iv (y := a_d A) (h12) ?_
                refine V_iret (sx_di dX12_count 24 rfl) rfl (Nat.le_refl _) (Nat.le_refl _) ?_
                rw [← ex1] at h
                rw [if_neg (by decide), if_neg (by decide), if_neg (by decide), if_neg (by decide), if_neg (by decide), if_neg (by decide), if_pos rfl] at h
                exact h
              · skip
                by_cases hx1_7 : x1 = 7
                · refine V_tabIn (off := 101) (tgt := 102) (sx_di dX12_count 1 rfl) (by rw [hx1_7]; decide) (by rw [hx1_7]; decide) (by rw [hx1_7]; decide) (by decide) ?_
                  rw [hx1_7] at ex1
                  refine V_aload_n (i := 0) (sx_di dX12_count 25 rfl) rfl rfl ?_
                  refine V_getI (sx_di dX12_count 26 rfl) fX12_270 (fun _ => rfl) (hB.k _ rfl) ?_
                  refine V_iv (y := nI (a_S A).length) (h7) ?_
                  refine V_iret (sx_di dX12_count 27 rfl) rfl (Nat.le_refl _) (Nat.le_refl _) ?_
                  rw [← ex1] at h
                  rw [if_neg (by decide), if_neg (by decide), if_neg (by decide), if_neg (by decide), if_neg (by decide), if_neg (by decide), if_neg (by decide), if_pos rfl] at h
                  exact h
                · skip
                  by_cases hx1_8 : x1 = 8
                  · refine V_tabIn (off := 106) (tgt := 107) (sx_di dX12_count 1 rfl) (by rw [hx1_8]; decide) (by rw [hx1_8]; decide) (by rw [hx1_8]; decide) (by decide) ?_
                    rw [hx1_8] at ex1
                    refine V_aload_n (i := 0) (sx_di dX12_count 28 rfl) rfl rfl ?_
                    refine V_getI (sx_di dX12_count 29 rfl) fX12_273 (fun _ => rfl) (hB.k _ rfl) ?_
                    refine V_iv (y := nI (a_Q A).length) (h9) ?_
                    refine V_iret (sx_di dX12_count 30 rfl) rfl (Nat.le_refl _) (Nat.le_refl _) ?_
                    rw [← ex1] at h
                    rw [if_neg (by decide), if_neg (by decide), if_neg (by decide), if_neg (by decide), if_neg (by decide), if_neg (by decide), if_neg (by decide), if_neg (by decide), if_pos rfl] at h
                    exact h
                  · skip
                    by_cases hx1_9 : x1 = 9
                    · refine V_tabIn (off := 111) (tgt := 112) (sx_di dX12_count 1 rfl) (by rw [hx1_9]; decide) (by rw [hx1_9]; decide) (by rw [hx1_9]; decide) (by decide) ?_
                      rw [hx1_9] at ex1
                      refine V_aload_n (i := 0) (sx_di dX12_count 31 rfl) rfl rfl ?_
                      refine V_getR (sx_di dX12_count 32 rfl) fX12_58 (fun _ => rfl) (hB.k _ rfl) (hB.r _ _ rfl) ?_
                      refine V_bipush (v := 40) (sx_di dX12_count 33 rfl) (by decide) ?_
                      refine V_ialdN (n := 226) (j := 40) (sx_di dX12_count 34 rfl) (hB.k _ rfl) (rfl) (by omega) (by omega) ?_
                      refine V_iv (y := a_r A 40) (hr 40) ?_
                      refine V_iret (sx_di dX12_count 35 rfl) rfl (Nat.le_refl _) (Nat.le_refl _) ?_
                      rw [← ex1] at h
                      rw [if_neg (by decide), if_neg (by decide), if_neg (by decide), if_neg (by decide), if_neg (by decide), if_neg (by decide), if_neg (by decide), if_neg (by decide), if_neg (by decide), if_pos rfl] at h
                      exact h
                    · skip
                      by_cases hx1_10 : x1 = 10
                      · refine V_tabIn (off := 119) (tgt := 120) (sx_di dX12_count 1 rfl) (by rw [hx1_10]; decide) (by rw [hx1_10]; decide) (by rw [hx1_10]; decide) (by decide) ?_
                        rw [hx1_10] at ex1
                        refine V_aload_n (i := 0) (sx_di dX12_count 36 rfl) rfl rfl ?_
                        refine V_getR (sx_di dX12_count 37 rfl) fX12_58 (fun _ => rfl) (hB.k _ rfl) (hB.r _ _ rfl) ?_
                        refine V_bipush (v := 45) (sx_di dX12_count 38 rfl) (by decide) ?_
                        refine V_ialdN (n := 226) (j := 45) (sx_di dX12_count 39 rfl) (hB.k _ rfl) (rfl) (by omega) (by omega) ?_
                        refine V_iv (y := a_r A 45) (hr 45) ?_
                        refine V_iret (sx_di dX12_count 40 rfl) rfl (Nat.le_refl _) (Nat.le_refl _) ?_
                        rw [← ex1] at h
                        rw [if_neg (by decide), if_neg (by decide), if_neg (by decide), if_neg (by decide), if_neg (by decide), if_neg (by decide), if_neg (by decide), if_neg (by decide), if_neg (by decide), if_neg (by decide), if_pos rfl] at h
                        exact h
                      · skip
                        by_cases hx1_11 : x1 = 11
                        · refine V_tabIn (off := 127) (tgt := 128) (sx_di dX12_count 1 rfl) (by rw [hx1_11]; decide) (by rw [hx1_11]; decide) (by rw [hx1_11]; decide) (by decide) ?_
                          rw [hx1_11] at ex1
                          refine V_aload_n (i := 0) (sx_di dX12_count 41 rfl) rfl rfl ?_
                          refine V_getI (sx_di dX12_count 42 rfl) fX12_276 (fun _ => rfl) (hB.k _ rfl) ?_
                          refine V_iv (y := nI (a_K A).length) (h5.1) ?_
                          refine V_iret (sx_di dX12_count 43 rfl) rfl (Nat.le_refl _) (Nat.le_refl _) ?_
                          rw [← ex1] at h
                          rw [if_neg (by decide), if_neg (by decide), if_neg (by decide), if_neg (by decide), if_neg (by decide), if_neg (by decide), if_neg (by decide), if_neg (by decide), if_neg (by decide), if_neg (by decide), if_neg (by decide), if_pos rfl] at h
                          exact h
                        · skip
                          refine V_tabOut (tgt := 133) (sx_di dX12_count 1 rfl) (by have z0 := lv_neT (a := 0) hx1_0 (by decide); have z1 := lv_neT (a := 1) hx1_1 (by decide); have z2 := lv_neT (a := 2) hx1_2 (by decide); have z3 := lv_neT (a := 3) hx1_3 (by decide); have z4 := lv_neT (a := 4) hx1_4 (by decide); have z5 := lv_neT (a := 5) hx1_5 (by decide); have z6 := lv_neT (a := 6) hx1_6 (by decide); have z7 := lv_neT (a := 7) hx1_7 (by decide); have z8 := lv_neT (a := 8) hx1_8 (by decide); have z9 := lv_neT (a := 9) hx1_9 (by decide); have z10 := lv_neT (a := 10) hx1_10 (by decide); have z11 := lv_neT (a := 11) hx1_11 (by decide); omega) (by decide) ?_
                          refine V_ldcw (sx_di dX12_count 44 rfl) kX12_320 ?_
                          refine V_iret (sx_di dX12_count 45 rfl) rfl (Nat.le_refl _) (Nat.le_refl _) ?_
                          rw [← ex1] at h
                          rw [if_neg hx1_0, if_neg hx1_1, if_neg hx1_2, if_neg hx1_3, if_neg hx1_4, if_neg hx1_5, if_neg hx1_6, if_neg hx1_7, if_neg hx1_8, if_neg hx1_9, if_neg hx1_10, if_neg hx1_11] at h
                          exact h
noncomputable def q_used (A : AS) (x : Int32) : Int32 := if ih_ (a_n A) x = 0 then -1 else a_r A x.toNatClampNeg
set_option maxHeartbeats 2000000 in
set_option maxRecDepth 20000 in
theorem oC_used {E : sxE} {A : AS} {w : hpW} (VA : AV A) (H : CR A w) (x : Int32) : oC E mX11_used 2 [.ref 16, .int x] w A (q_used A x) A := by
  intro Q h
  replace h := h w H fR_rf
  obtain ⟨t, p, C, c3'⟩ := CN_of VA H
  have hB := H.1
  have hn8 := VA.2.2.1.1
  have ht := C.2.1
  have hst := C.2.2.1
  have hn := C.2.2.2.1
  unfold q_used at h
  refine C_of (by decide +kernel) (Nat.le_of_ble_eq_true rfl) ?_
  refine V_aload_n (i := 0) (sx_di dX11_used 0 rfl) rfl rfl ?_
  refine V_iload_n (i := 1) (sx_di dX11_used 1 rfl) rfl rfl ?_
  refine V_cV1 (mc' := 0) (ms' := 0) (M' := mX11_isHouse) 1 (sx_di dX11_used 2 rfl) lX11_170 vX11_isHouse (hB.k _ rfl) (by decide) rfl (Nat.le_of_ble_eq_true rfl) ⟨Nat.le_of_ble_eq_true rfl, Nat.le_of_ble_eq_true rfl⟩ ⟨Nat.le_refl _, Nat.le_refl _⟩ ?_
  refine c_X11_isHouse hB ht hst hn hn8 ?_
  refine V_if_eq (tgt := 20) (sx_di dX11_used 3 rfl) (by decide) (fun h5 => ?_) (fun h5 => ?_)
  · rw [if_pos h5] at h
    refine V_iconst (v := -1) (sx_di dX11_used 10 rfl) (by decide) ?_
    refine V_iret (sx_di dX11_used 11 rfl) rfl (Nat.le_refl _) (Nat.le_refl _) ?_
    exact h
  · rw [if_neg h5] at h
    obtain ⟨k, hk, rfl⟩ := ih_ye (by omega) h5
    rw [nI_clamp (by omega)] at h
    have hv := CR_vw H (by omega)
    refine V_aload_n (i := 0) (sx_di dX11_used 4 rfl) rfl rfl ?_
    refine V_getR (sx_di dX11_used 5 rfl) fX11_60 (fun _ => rfl) (hB.k _ rfl) (hB.r _ _ rfl) ?_
    refine V_getR (sx_di dX11_used 6 rfl) fX11_177 (fun _ => rfl) (hB.k _ rfl) (hB.r _ _ rfl) ?_
    refine V_iload_n (i := 1) (sx_di dX11_used 7 rfl) rfl rfl ?_
    refine V_ialdN (n := 8) (j := k) (sx_di dX11_used 8 rfl) (hB.k _ rfl) (rfl) (by omega) (by omega) ?_
    refine V_iv (y := a_r A k) ((hv.1 k hk).1) ?_
    refine V_goto (tgt := 21) (sx_di dX11_used 9 rfl) (by decide) ?_
    refine V_iret (sx_di dX11_used 11 rfl) rfl (Nat.le_refl _) (Nat.le_refl _) ?_
    exact h
set_option maxHeartbeats 2000000 in
set_option maxRecDepth 20000 in
theorem oR_used {E : sxE} {A : AS} {w : hpW} (VA : AV A) (H : RR A w) (x : Int32) : oR E mX12_used 3 [.ref 381, .int x] w A (q_used A x) A := by
  intro Q h
  replace h := h w H fC_rf
  obtain ⟨hB, h1, h2, h3, h4, h5, h6, ⟨h7, h8⟩, ⟨h9, h10⟩, h11, h12⟩ := id H
  have hn8 := VA.2.2.1.1
  have hm6 := VA.2.2.1.2.1
  have hn : hp_i w 381 25 = nI (a_n A) := h3.1
  have hr : ∀ j, hp_i w 398 j = a_r A j := fun j => congrFun h4 j
  unfold q_used at h
  refine C_of (by decide +kernel) (Nat.le_of_ble_eq_true rfl) ?_
  refine V_aload_n (i := 0) (sx_di dX12_used 0 rfl) rfl rfl ?_
  refine V_iload_n (i := 1) (sx_di dX12_used 1 rfl) rfl rfl ?_
  refine V_cV1 (mc' := 0) (ms' := 0) (M' := mX12_isHouse) 2 (sx_di dX12_used 2 rfl) lX12_311 vX12_isHouse (hB.k _ rfl) (by decide) rfl (Nat.le_of_ble_eq_true rfl) ⟨Nat.le_of_ble_eq_true rfl, Nat.le_of_ble_eq_true rfl⟩ ⟨Nat.le_refl _, Nat.le_refl _⟩ ?_
  refine c_X12_isHouse hB hn hn8 ?_
  refine V_if_eq (tgt := 19) (sx_di dX12_used 3 rfl) (by decide) (fun h5_ => ?_) (fun h5_ => ?_)
  · rw [if_pos h5_] at h
    refine V_iconst (v := -1) (sx_di dX12_used 11 rfl) (by decide) ?_
    refine V_iret (sx_di dX12_used 12 rfl) rfl (Nat.le_refl _) (Nat.le_refl _) ?_
    exact h
  · rw [if_neg h5_] at h
    obtain ⟨k, hk, rfl⟩ := ih_ye (by omega) h5_
    rw [nI_clamp (by omega)] at h
    refine V_aload_n (i := 0) (sx_di dX12_used 4 rfl) rfl rfl ?_
    refine V_getR (sx_di dX12_used 5 rfl) fX12_58 (fun _ => rfl) (hB.k _ rfl) (hB.r _ _ rfl) ?_
    refine V_iconst (v := 0) (sx_di dX12_used 6 rfl) (by decide) ?_
    refine V_iload_n (i := 1) (sx_di dX12_used 7 rfl) rfl rfl ?_
    refine V_iadd (sx_di dX12_used 8 rfl) ?_
    refine V_ialdN (n := 226) (j := k) (sx_di dX12_used 9 rfl) (hB.k _ rfl) (nx_z0 (rfl)) (by omega) (by omega) ?_
    refine V_iv (y := a_r A k) (hr k) ?_
    refine V_goto (tgt := 20) (sx_di dX12_used 10 rfl) (by decide) ?_
    refine V_iret (sx_di dX12_used 12 rfl) rfl (Nat.le_refl _) (Nat.le_refl _) ?_
    exact h

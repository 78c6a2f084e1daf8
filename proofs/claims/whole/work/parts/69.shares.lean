/-! minded, by what both sides hold -/
noncomputable def M_ (A : AS) (h : Nat) : Int32 := mv_ (F_ A) (z_s (a_s A)) (a_r A) h
theorem mv_cg {F : wF} {sz sz2 : Int32 → Int32} {s : Nat → Int32} (h : sz (s 43) = sz2 (s 43)) (k : Nat) : mv_ F sz s k = mv_ F sz2 s k := by
  unfold mv_
  rw [h]
theorem e_minded {E : sxE} {Q : Option Value → hpW → Prop} {A : AS} {w : hpW} {lv : Value} (V : AV A) (H : CR A w) {h : Nat} (hh : h < a_n A) (hl : lw_ok w lv (F_ A)) (hq : ∀ w', CR A w' → fR w w' → Q (some (.int (M_ A h))) w') : sx_C E mX7_minded 4 0 0 [.ref 57, .int (nI h), lv] w Q := by
  obtain ⟨t, s2, C, e0, c3⟩ := CQ_of V H
  have h0 : 0 < a_n A := by omega
  have e1 := e0 h0
  subst e1
  obtain ⟨f, hf, ef⟩ := V.2.2.2.1.1.1.2.1 h0
  have hn8 := V.2.2.1.1
  refine c_X7_minded (ss_57 H.1) C.2.2.2.2.2.1 C.2.2.1 hl (by omega) (fun I fI => ?_)
  rw [mC_v C.2.2.2.2.2.2.2.2.1 _ hh, mv_cg (sz2 := z_s (a_s A)) (by rw [ef]; exact fs_n c3 V.2.2.1.2.1 hf)]
  exact hq _ (CR_q0 V (sc_QT fI) H) (fR_q0 (sc_QT fI))
theorem e_holding {E : sxE} {Q : Option Value → hpW → Prop} {A : AS} {w : hpW} (V : AV A) (H : CR A w) (h : ∀ lv, lw_ok w lv (F_ A) → Q (some lv) w) : sx_C E mX2_holding 1 0 0 [.ref 20] w Q := e_hold H.1 (hd_of V H.2.2.1) h
theorem e_mindedOf {E : sxE} {Q : Option Value → hpW → Prop} {A : AS} {w : hpW} (V : AV A) (H : RR A w) {h : Nat} (hh : h < a_n A) (hq : ∀ w', RR A w' → fC w w' → Q (some (.int (M_ A h))) w') : sx_C E mX12_mindedOf 6 0 0 [.ref 381, .int (nI h)] w Q := c_X12_mindedOf (RQ_of V H) hh (fun I f => hq _ (RR_q (RX_FQ f) H) (fC_q (RX_FQ f)))
theorem CRn {A : AS} {w : hpW} (V : AV A) (H : CR A w) : ∃ t, ly_B w ∧ hp_r w 16 4 = some t ∧ is_St w t ∧ hp_i w t 0 = nI (a_n A) ∧ hp_i w t 1 = nI (a_m A) ∧ Cstr w t (a_n A) (a_m A) (a_s A) := by
  obtain ⟨t, p, C, c3⟩ := CN_of V H
  exact ⟨t, H.1, C.2.1, C.2.2.1, C.2.2.2.1, c3.2.2.2.2.1, c3⟩
def sm_ (f : Nat → Int32) : Nat → Int32
  | 0 => 0
  | k + 1 => sm_ f k + f k
noncomputable def q_shares (A : AS) (x y : Int32) : Int32 := if ih_ (a_n A) x = 0 ∨ y < 0 ∨ 999 < y then -1 else if sm_ (M_ A) (a_n A) = 0 then 0 else y * M_ A x.toNatClampNeg / sm_ (M_ A) (a_n A)
set_option maxHeartbeats 2000000 in
set_option maxRecDepth 20000 in
theorem sC_lp {E : sxE} {A : AS} {w : hpW} {Q : Option Value → hpW → Prop} (VA : AV A) {x : Nat} {y : Int32} (hx : x < a_n A) (h : ∀ w', CR A w' → fR w w' → Q (some (.int (if sm_ (M_ A) (a_n A) = 0 then 0 else y * M_ A x / sm_ (M_ A) (a_n A)))) w') : ∀ d k w1, k + d = a_n A → CR A w1 → fR w w1 → V E mX11_shares (sx_rm 5 0 0) 0 0 0 0 26 [(4, .int (nI k)), (3, .int (sm_ (M_ A) k)), (2, .int y), (1, .int (nI x)), (0, .ref 16)] [] w1 Q := by
  intro d
  have hn8 := VA.2.2.1.1
  induction d with
  | zero =>
    intro k w1 hk H1 f1
    have e3 : k = a_n A := by omega
    subst e3
    obtain ⟨t, hB, ht, hst, hn, _, _⟩ := CRn VA H1
    refine V_iload (sx_di dX11_shares 15 rfl) rfl ?_
    refine V_aload_n (i := 0) (sx_di dX11_shares 16 rfl) rfl rfl ?_
    refine V_getR (sx_di dX11_shares 17 rfl) fX11_48 (fun _ => rfl) (hB.k _ rfl) (ht) ?_
    refine V_cV0 (mc' := 0) (ms' := 0) (M' := mX8_houseCount) 2 (sx_di dX11_shares 18 rfl) lX11_308 vX8_houseCount (hst.1) (by decide) rfl (Nat.le_of_ble_eq_true rfl) ⟨Nat.le_of_ble_eq_true rfl, Nat.le_of_ble_eq_true rfl⟩ ⟨Nat.le_refl _, Nat.le_refl _⟩ ?_
    refine c_X8_houseCount (hst.1) (hc8 hn hn8) ?_
    refine V_iv (y := nI (a_n A)) (hn) ?_
    refine V_icN_ge (a := (a_n A)) (b := (a_n A)) (rfl) (rfl) (by omega) (by omega) (tgt := 63) (sx_di dX11_shares 19 rfl) (by decide) (fun _ => ?_) (fun h35 => absurd h35 (by omega))
    refine V_iload_n (i := 3) (sx_di dX11_shares 32 rfl) rfl rfl ?_
    refine V_if_ne (tgt := 71) (sx_di dX11_shares 33 rfl) (by decide) (fun h64 => ?_) (fun h64 => ?_)
    · refine V_iload_n (i := 2) (sx_di dX11_shares 36 rfl) rfl rfl ?_
      refine V_aload_n (i := 0) (sx_di dX11_shares 37 rfl) rfl rfl ?_
      refine V_getR (sx_di dX11_shares 38 rfl) fX11_60 (fun _ => rfl) (hB.k _ rfl) (hB.r _ _ rfl) ?_
      refine V_iload_n (i := 1) (sx_di dX11_shares 39 rfl) rfl rfl ?_
      refine V_aload_n (i := 0) (sx_di dX11_shares 40 rfl) rfl rfl ?_
      refine V_getR (sx_di dX11_shares 41 rfl) fX11_28 (fun _ => rfl) (hB.k _ rfl) (hB.r _ _ rfl) ?_
      refine V_cV0 (mc' := 0) (ms' := 0) (M' := mX2_holding) 1 (sx_di dX11_shares 42 rfl) lX11_195 vX2_holding (hB.k _ rfl) (by decide) rfl (Nat.le_of_ble_eq_true rfl) ⟨Nat.le_of_ble_eq_true rfl, Nat.le_of_ble_eq_true rfl⟩ ⟨Nat.le_refl _, Nat.le_refl _⟩ ?_
      refine e_holding VA H1 (fun lv hl => ?_)
      refine V_cV2 (mc' := 0) (ms' := 0) (M' := mX7_minded) 4 (sx_di dX11_shares 43 rfl) lX11_198 vX7_minded (hB.k _ rfl) (by decide) rfl (Nat.le_of_ble_eq_true rfl) ⟨Nat.le_of_ble_eq_true rfl, Nat.le_of_ble_eq_true rfl⟩ ⟨Nat.le_refl _, Nat.le_refl _⟩ ?_
      refine e_minded VA H1 hx hl (fun w2 H2 f2 => ?_)
      refine V_imul (sx_di dX11_shares 44 rfl) ?_
      refine V_iload_n (i := 3) (sx_di dX11_shares 45 rfl) rfl rfl ?_
      refine V_idiv (sx_di dX11_shares 46 rfl) (h64) ?_
      refine V_iret (sx_di dX11_shares 47 rfl) rfl (Nat.le_refl _) (Nat.le_refl _) ?_
      rw [if_neg h64] at h
      exact h w2 H2 (fR_tr f1 f2)
    · rw [if_pos h64] at h
      refine V_iconst (v := 0) (sx_di dX11_shares 34 rfl) (by decide) ?_
      refine V_goto (tgt := 90) (sx_di dX11_shares 35 rfl) (by decide) ?_
      refine V_iret (sx_di dX11_shares 47 rfl) rfl (Nat.le_refl _) (Nat.le_refl _) ?_
      exact h w1 H1 f1
  | succ d ih =>
    intro k w1 hk H1 f1
    obtain ⟨t, hB, ht, hst, hn, _, _⟩ := CRn VA H1
    refine V_iload (sx_di dX11_shares 15 rfl) rfl ?_
    refine V_aload_n (i := 0) (sx_di dX11_shares 16 rfl) rfl rfl ?_
    refine V_getR (sx_di dX11_shares 17 rfl) fX11_48 (fun _ => rfl) (hB.k _ rfl) (ht) ?_
    refine V_cV0 (mc' := 0) (ms' := 0) (M' := mX8_houseCount) 2 (sx_di dX11_shares 18 rfl) lX11_308 vX8_houseCount (hst.1) (by decide) rfl (Nat.le_of_ble_eq_true rfl) ⟨Nat.le_of_ble_eq_true rfl, Nat.le_of_ble_eq_true rfl⟩ ⟨Nat.le_refl _, Nat.le_refl _⟩ ?_
    refine c_X8_houseCount (hst.1) (hc8 hn hn8) ?_
    refine V_iv (y := nI (a_n A)) (hn) ?_
    refine V_icN_ge (a := k) (b := (a_n A)) (rfl) (rfl) (by omega) (by omega) (tgt := 63) (sx_di dX11_shares 19 rfl) (by decide) (fun h35 => absurd h35 (by omega)) (fun _ => ?_)
    refine V_iload_n (i := 3) (sx_di dX11_shares 20 rfl) rfl rfl ?_
    refine V_aload_n (i := 0) (sx_di dX11_shares 21 rfl) rfl rfl ?_
    refine V_getR (sx_di dX11_shares 22 rfl) fX11_60 (fun _ => rfl) (hB.k _ rfl) (hB.r _ _ rfl) ?_
    refine V_iload (sx_di dX11_shares 23 rfl) rfl ?_
    refine V_aload_n (i := 0) (sx_di dX11_shares 24 rfl) rfl rfl ?_
    refine V_getR (sx_di dX11_shares 25 rfl) fX11_28 (fun _ => rfl) (hB.k _ rfl) (hB.r _ _ rfl) ?_
    refine V_cV0 (mc' := 0) (ms' := 0) (M' := mX2_holding) 1 (sx_di dX11_shares 26 rfl) lX11_195 vX2_holding (hB.k _ rfl) (by decide) rfl (Nat.le_of_ble_eq_true rfl) ⟨Nat.le_of_ble_eq_true rfl, Nat.le_of_ble_eq_true rfl⟩ ⟨Nat.le_refl _, Nat.le_refl _⟩ ?_
    refine e_holding VA H1 (fun lv hl => ?_)
    refine V_cV2 (mc' := 0) (ms' := 0) (M' := mX7_minded) 4 (sx_di dX11_shares 27 rfl) lX11_198 vX7_minded (hB.k _ rfl) (by decide) rfl (Nat.le_of_ble_eq_true rfl) ⟨Nat.le_of_ble_eq_true rfl, Nat.le_of_ble_eq_true rfl⟩ ⟨Nat.le_refl _, Nat.le_refl _⟩ ?_
    refine e_minded VA H1 (h := k) (by omega) hl (fun w2 H2 f2 => ?_)
    have q1 := ih (k + 1) w2 (by omega) H2 (fR_tr f1 f2)
    rw [← nI_1] at q1
    refine V_iadd (sx_di dX11_shares 28 rfl) ?_
    refine V_istore_n (i := 3) (sx_di dX11_shares 29 rfl) rfl (by decide) (rfl) ?_
    refine V_inc (c := 1) (sx_di dX11_shares 30 rfl) (by decide) rfl (by decide) (rfl) ?_
    refine V_goto (tgt := 26) (sx_di dX11_shares 31 rfl) (by decide) ?_
    exact V_subk q1 ⟨rfl, rfl, rfl, rfl, rfl, trivial⟩
set_option maxHeartbeats 2000000 in
set_option maxRecDepth 20000 in
theorem oC_shares {E : sxE} {A : AS} {w : hpW} (VA : AV A) (H : CR A w) (x y : Int32) : oC E mX11_shares 5 [.ref 16, .int x, .int y] w A (q_shares A x y) A := by
  intro Q h
  unfold q_shares at h
  obtain ⟨t, hB, ht, hst, hn, _, _⟩ := CRn VA H
  have hn8 := VA.2.2.1.1
  refine C_of (by decide +kernel) (Nat.le_of_ble_eq_true rfl) ?_
  refine V_aload_n (i := 0) (sx_di dX11_shares 0 rfl) rfl rfl ?_
  refine V_iload_n (i := 1) (sx_di dX11_shares 1 rfl) rfl rfl ?_
  refine V_cV1 (mc' := 0) (ms' := 0) (M' := mX11_isHouse) 1 (sx_di dX11_shares 2 rfl) lX11_170 vX11_isHouse (hB.k _ rfl) (by decide) rfl (Nat.le_of_ble_eq_true rfl) ⟨Nat.le_of_ble_eq_true rfl, Nat.le_of_ble_eq_true rfl⟩ ⟨Nat.le_refl _, Nat.le_refl _⟩ ?_
  refine c_X11_isHouse hB ht hst hn hn8 ?_
  refine V_if_eq (tgt := 19) (sx_di dX11_shares 3 rfl) (by decide) (fun h5 => ?_) (fun h5 => ?_)
  · rw [if_pos (Or.inl h5)] at h
    refine V_iconst (v := -1) (sx_di dX11_shares 9 rfl) (by decide) ?_
    refine V_iret (sx_di dX11_shares 10 rfl) rfl (Nat.le_refl _) (Nat.le_refl _) ?_
    exact h w H fR_rf
  · refine V_iload_n (i := 2) (sx_di dX11_shares 4 rfl) rfl rfl ?_
    refine V_if_lt (tgt := 19) (sx_di dX11_shares 5 rfl) (by decide) (fun h9 => ?_) (fun h9 => ?_)
    · rw [if_pos (Or.inr (Or.inl h9))] at h
      refine V_iconst (v := -1) (sx_di dX11_shares 9 rfl) (by decide) ?_
      refine V_iret (sx_di dX11_shares 10 rfl) rfl (Nat.le_refl _) (Nat.le_refl _) ?_
      exact h w H fR_rf
    · refine V_iload_n (i := 2) (sx_di dX11_shares 6 rfl) rfl rfl ?_
      refine V_sipush (v := 999) (sx_di dX11_shares 7 rfl) (by decide) ?_
      refine V_icmp_le (tgt := 21) (sx_di dX11_shares 8 rfl) (by decide) (fun h16 => ?_) (fun h16 => ?_)
      · have h20 : ¬ (ih_ (a_n A) x = 0 ∨ y < 0 ∨ 999 < y) := fun z => z.elim h5 (fun z => z.elim h9 (Int32.not_lt.mpr h16))
        rw [if_neg h20] at h
        obtain ⟨k, hk, rfl⟩ := ih_ye (by omega) h5
        rw [nI_clamp (by omega)] at h
        refine V_iconst (v := 0) (sx_di dX11_shares 11 rfl) (by decide) ?_
        refine V_istore_n (i := 3) (sx_di dX11_shares 12 rfl) rfl (by decide) (rfl) ?_
        refine V_iconst (v := 0) (sx_di dX11_shares 13 rfl) (by decide) ?_
        refine V_istore (sx_di dX11_shares 14 rfl) (by decide) (rfl) ?_
        refine V_sub (ls' := [(4, .int (nI 0)), (3, .int (sm_ (M_ A) 0)), (2, .int y), (1, .int (nI k)), (0, .ref 16)]) ⟨rfl, rfl, rfl, rfl, rfl, trivial⟩ ?_
        exact sC_lp VA hk h (a_n A) 0 w (by omega) H fR_rf
      · rw [if_pos (Or.inr (Or.inr (Int32.not_le.mp h16)))] at h
        refine V_iconst (v := -1) (sx_di dX11_shares 9 rfl) (by decide) ?_
        refine V_iret (sx_di dX11_shares 10 rfl) rfl (Nat.le_refl _) (Nat.le_refl _) ?_
        exact h w H fR_rf
set_option maxHeartbeats 2000000 in
set_option maxRecDepth 20000 in
theorem sR_lp {E : sxE} {A : AS} {w : hpW} {Q : Option Value → hpW → Prop} (VA : AV A) {x : Nat} {y : Int32} (hx : x < a_n A) (h : ∀ w', RR A w' → fC w w' → Q (some (.int (if sm_ (M_ A) (a_n A) = 0 then 0 else y * M_ A x / sm_ (M_ A) (a_n A)))) w') : ∀ d k w1, k + d = a_n A → RR A w1 → fC w w1 → V E mX12_shares (sx_rm 7 0 0) 0 0 0 0 26 [(4, .int (nI k)), (3, .int (sm_ (M_ A) k)), (2, .int y), (1, .int (nI x)), (0, .ref 381)] [] w1 Q := by
  intro d
  have hn8 := VA.2.2.1.1
  induction d with
  | zero =>
    intro k w1 hk H1 f1
    have e3 : k = a_n A := by omega
    subst e3
    have hB := H1.1
    have hn := H1.2.2.2.1.1
    refine V_iload (sx_di dX12_shares 15 rfl) rfl ?_
    refine V_aload_n (i := 0) (sx_di dX12_shares 16 rfl) rfl rfl ?_
    refine V_getI (sx_di dX12_shares 17 rfl) fX12_258 (fun _ => rfl) (hB.k _ rfl) ?_
    refine V_iv (y := nI (a_n A)) (hn) ?_
    refine V_icN_ge (a := (a_n A)) (b := (a_n A)) (rfl) (rfl) (by omega) (by omega) (tgt := 50) (sx_di dX12_shares 18 rfl) (by decide) (fun _ => ?_) (fun h32 => absurd h32 (by omega))
    refine V_iload_n (i := 3) (sx_di dX12_shares 27 rfl) rfl rfl ?_
    refine V_if_ne (tgt := 58) (sx_di dX12_shares 28 rfl) (by decide) (fun h51 => ?_) (fun h51 => ?_)
    · refine V_iload_n (i := 2) (sx_di dX12_shares 31 rfl) rfl rfl ?_
      refine V_aload_n (i := 0) (sx_di dX12_shares 32 rfl) rfl rfl ?_
      refine V_iload_n (i := 1) (sx_di dX12_shares 33 rfl) rfl rfl ?_
      refine V_cV1 (mc' := 0) (ms' := 0) (M' := mX12_mindedOf) 6 (sx_di dX12_shares 34 rfl) lX12_299 vX12_mindedOf (hB.k _ rfl) (by decide) rfl (Nat.le_of_ble_eq_true rfl) ⟨Nat.le_of_ble_eq_true rfl, Nat.le_of_ble_eq_true rfl⟩ ⟨Nat.le_refl _, Nat.le_refl _⟩ ?_
      refine e_mindedOf VA H1 hx (fun w2 H2 f2 => ?_)
      refine V_imul (sx_di dX12_shares 35 rfl) ?_
      refine V_iload_n (i := 3) (sx_di dX12_shares 36 rfl) rfl rfl ?_
      refine V_idiv (sx_di dX12_shares 37 rfl) (h51) ?_
      refine V_iret (sx_di dX12_shares 38 rfl) rfl (Nat.le_refl _) (Nat.le_refl _) ?_
      rw [if_neg h51] at h
      exact h w2 H2 (fC_tr f1 f2)
    · rw [if_pos h51] at h
      refine V_iconst (v := 0) (sx_di dX12_shares 29 rfl) (by decide) ?_
      refine V_goto (tgt := 67) (sx_di dX12_shares 30 rfl) (by decide) ?_
      refine V_iret (sx_di dX12_shares 38 rfl) rfl (Nat.le_refl _) (Nat.le_refl _) ?_
      exact h w1 H1 f1
  | succ d ih =>
    intro k w1 hk H1 f1
    have hB := H1.1
    have hn := H1.2.2.2.1.1
    refine V_iload (sx_di dX12_shares 15 rfl) rfl ?_
    refine V_aload_n (i := 0) (sx_di dX12_shares 16 rfl) rfl rfl ?_
    refine V_getI (sx_di dX12_shares 17 rfl) fX12_258 (fun _ => rfl) (hB.k _ rfl) ?_
    refine V_iv (y := nI (a_n A)) (hn) ?_
    refine V_icN_ge (a := k) (b := (a_n A)) (rfl) (rfl) (by omega) (by omega) (tgt := 50) (sx_di dX12_shares 18 rfl) (by decide) (fun h32 => absurd h32 (by omega)) (fun _ => ?_)
    refine V_iload_n (i := 3) (sx_di dX12_shares 19 rfl) rfl rfl ?_
    refine V_aload_n (i := 0) (sx_di dX12_shares 20 rfl) rfl rfl ?_
    refine V_iload (sx_di dX12_shares 21 rfl) rfl ?_
    refine V_cV1 (mc' := 0) (ms' := 0) (M' := mX12_mindedOf) 6 (sx_di dX12_shares 22 rfl) lX12_299 vX12_mindedOf (hB.k _ rfl) (by decide) rfl (Nat.le_of_ble_eq_true rfl) ⟨Nat.le_of_ble_eq_true rfl, Nat.le_of_ble_eq_true rfl⟩ ⟨Nat.le_refl _, Nat.le_refl _⟩ ?_
    refine e_mindedOf VA H1 (h := k) (by omega) (fun w2 H2 f2 => ?_)
    have q1 := ih (k + 1) w2 (by omega) H2 (fC_tr f1 f2)
    rw [← nI_1] at q1
    refine V_iadd (sx_di dX12_shares 23 rfl) ?_
    refine V_istore_n (i := 3) (sx_di dX12_shares 24 rfl) rfl (by decide) (rfl) ?_
    refine V_inc (c := 1) (sx_di dX12_shares 25 rfl) (by decide) rfl (by decide) (rfl) ?_
    refine V_goto (tgt := 26) (sx_di dX12_shares 26 rfl) (by decide) ?_
    exact V_subk q1 ⟨rfl, rfl, rfl, rfl, rfl, trivial⟩
set_option maxHeartbeats 2000000 in
set_option maxRecDepth 20000 in
theorem oR_shares {E : sxE} {A : AS} {w : hpW} (VA : AV A) (H : RR A w) (x y : Int32) : oR E mX12_shares 7 [.ref 381, .int x, .int y] w A (q_shares A x y) A := by
  intro Q h
  unfold q_shares at h
  have hB := H.1
  have hn := H.2.2.2.1.1
  have hn8 := VA.2.2.1.1
  refine C_of (by decide +kernel) (Nat.le_of_ble_eq_true rfl) ?_
  refine V_aload_n (i := 0) (sx_di dX12_shares 0 rfl) rfl rfl ?_
  refine V_iload_n (i := 1) (sx_di dX12_shares 1 rfl) rfl rfl ?_
  refine V_cV1 (mc' := 0) (ms' := 0) (M' := mX12_isHouse) 2 (sx_di dX12_shares 2 rfl) lX12_311 vX12_isHouse (hB.k _ rfl) (by decide) rfl (Nat.le_of_ble_eq_true rfl) ⟨Nat.le_of_ble_eq_true rfl, Nat.le_of_ble_eq_true rfl⟩ ⟨Nat.le_refl _, Nat.le_refl _⟩ ?_
  refine c_X12_isHouse hB hn hn8 ?_
  refine V_if_eq (tgt := 19) (sx_di dX12_shares 3 rfl) (by decide) (fun h5 => ?_) (fun h5 => ?_)
  · rw [if_pos (Or.inl h5)] at h
    refine V_iconst (v := -1) (sx_di dX12_shares 9 rfl) (by decide) ?_
    refine V_iret (sx_di dX12_shares 10 rfl) rfl (Nat.le_refl _) (Nat.le_refl _) ?_
    exact h w H fC_rf
  · refine V_iload_n (i := 2) (sx_di dX12_shares 4 rfl) rfl rfl ?_
    refine V_iconst (v := 0) (sx_di dX12_shares 5 rfl) (by decide) ?_
    refine V_sipush (v := 999) (sx_di dX12_shares 6 rfl) (by decide) ?_
    refine V_cS3 (mc' := 0) (ms' := 0) (M' := mX12_in) 1 (sx_di dX12_shares 7 rfl) lX12_214 vX12_in (Nat.le_of_ble_eq_true rfl) ⟨Nat.le_of_ble_eq_true rfl, Nat.le_of_ble_eq_true rfl⟩ ⟨Nat.le_refl _, Nat.le_refl _⟩ ?_
    refine c_X12_in ?_
    refine V_if_ne (tgt := 21) (sx_di dX12_shares 8 rfl) (by decide) (fun h16 => ?_) (fun h16 => ?_)
    · have h15 := in_ye h16
      have h20 : ¬ (ih_ (a_n A) x = 0 ∨ y < 0 ∨ 999 < y) := fun z => z.elim h5 h15
      rw [if_neg h20] at h
      obtain ⟨k, hk, rfl⟩ := ih_ye (by omega) h5
      rw [nI_clamp (by omega)] at h
      refine V_iconst (v := 0) (sx_di dX12_shares 11 rfl) (by decide) ?_
      refine V_istore_n (i := 3) (sx_di dX12_shares 12 rfl) rfl (by decide) (rfl) ?_
      refine V_iconst (v := 0) (sx_di dX12_shares 13 rfl) (by decide) ?_
      refine V_istore (sx_di dX12_shares 14 rfl) (by decide) (rfl) ?_
      refine V_sub (ls' := [(4, .int (nI 0)), (3, .int (sm_ (M_ A) 0)), (2, .int y), (1, .int (nI k)), (0, .ref 381)]) ⟨rfl, rfl, rfl, rfl, rfl, trivial⟩ ?_
      exact sR_lp VA hk h (a_n A) 0 w (by omega) H fC_rf
    · rw [if_pos (Or.inr (in_no h16))] at h
      refine V_iconst (v := -1) (sx_di dX12_shares 9 rfl) (by decide) ?_
      refine V_iret (sx_di dX12_shares 10 rfl) rfl (Nat.le_refl _) (Nat.le_refl _) ?_
      exact h w H fC_rf
/-! forms that fit -/
def fit1 (s : Nat → Int32) (f : Nat) (q : n3T) : Bool := decide ((if fw_ s (nI f) q.1.toNatClampNeg = q.2.1 then (1 : Int32) else 0) = q.2.2)
def fit_ (A : AS) (f : Nat) : Bool := (a_Q A).all (fit1 (a_s A) f)
def sb_ (p : Nat → Bool) : Nat → Int32
  | 0 => 0
  | k + 1 => if p k then sb_ p k ||| 1 <<< (nI k &&& 31) else sb_ p k
def q_forms (A : AS) : Int32 := if a_n A = 0 then -1 else sb_ (fit_ A) (a_m A)
theorem at_len {α : Type} {L : List α} {k : Nat} (h : k < L.length) : ∃ q, L[k]? = some q ∧ L.drop k = q :: L.drop (k + 1) ∧ q ∈ L := ⟨L[k], List.getElem?_eq_getElem h, List.drop_eq_getElem_cons h, List.getElem_mem h⟩
set_option maxHeartbeats 2000000 in
set_option maxRecDepth 20000 in
theorem fC_lp2 {E : sxE} {A : AS} {w : hpW} {Q : Option Value → hpW → Prop} (VA : AV A) (H : CR A w) {f : Nat} (hf : f < a_m A) (h : Q (some (.int (if fit_ A f then 1 else 0))) w) : ∀ d k, k + d = (a_Q A).length → (a_Q A).all (fit1 (a_s A) f) = ((a_Q A).drop k).all (fit1 (a_s A) f) → V E mX11_fitsWas (sx_rm 4 0 0) 0 0 0 0 2 [(2, .int (nI k)), (1, .int (nI f)), (0, .ref 16)] [] w Q := by
  intro d
  obtain ⟨t, hB, ht, hst, hn, hm, c3'⟩ := CRn VA H
  have hnt : is_Nt w 373 := nt_373 hB
  obtain ⟨_, _, _, _, _, _, _, _, _, _, ⟨c9, c10⟩, _⟩ := id H
  have hl : (a_Q A).length ≤ 10 := VA.2.2.2.2.1.2.2.1
  induction d with
  | zero =>
    intro k hk he
    rw [List.drop_eq_nil_of_le (by omega)] at he
    have e1 : fit_ A f = true := he
    rw [if_pos e1] at h
    refine V_iload_n (i := 2) (sx_di dX11_fitsWas 2 rfl) rfl rfl ?_
    refine V_aload_n (i := 0) (sx_di dX11_fitsWas 3 rfl) rfl rfl ?_
    refine V_getR (sx_di dX11_fitsWas 4 rfl) fX11_95 (fun _ => rfl) (hB.k _ rfl) (hB.r _ _ rfl) ?_
    refine V_getI (sx_di dX11_fitsWas 5 rfl) fX11_150 (fun _ => rfl) (hB.k _ rfl) ?_
    refine V_iv (y := nI (a_Q A).length) (c9) ?_
    refine V_icN_ge (a := k) (b := (a_Q A).length) (rfl) (rfl) (by omega) (by omega) (tgt := 75) (sx_di dX11_fitsWas 6 rfl) (by decide) (fun _ => ?_) (fun h10 => absurd h10 (by omega))
    refine V_iconst (v := 1) (sx_di dX11_fitsWas 40 rfl) (by decide) ?_
    refine V_zret (sx_di dX11_fitsWas 41 rfl) rfl (by first | rfl | decide) (Nat.le_refl _) (Nat.le_refl _) ?_
    exact h
  | succ d ih =>
    intro k hk he
    obtain ⟨q, eq, ed, hq⟩ := at_len (L := a_Q A) (k := k) (by omega)
    obtain ⟨⟨j, hj, ej⟩, _, hb⟩ := VA.2.2.2.2.1.2.2.2 q hq
    obtain ⟨n1, n2, n3⟩ := c10 k q eq
    have q1 := ih (k + 1) (by omega)
    rw [ed, List.all_cons] at he
    have ef : fit1 (a_s A) f q = decide ((if fw_ (a_s A) (nI f) j = q.2.1 then (1 : Int32) else 0) = q.2.2) := by unfold fit1; rw [ej, nI_clamp (by omega)]
    rw [ef] at he
    rw [← nI_1] at q1
    have hno : ¬ (if fw_ (a_s A) (nI f) j = q.2.1 then (1 : Int32) else 0) = q.2.2 → Q (some (.int 0)) w := fun z => by
      rw [decide_eq_false z, Bool.false_and] at he
      rw [if_neg (by unfold fit_; rw [he]; decide)] at h
      exact h
    have hye : (if fw_ (a_s A) (nI f) j = q.2.1 then (1 : Int32) else 0) = q.2.2 → V E mX11_fitsWas (sx_rm 4 0 0) 0 0 0 0 2 [(2, .int (nI k + nI 1)), (1, .int (nI f)), (0, .ref 16)] [] w Q := fun z => by
      rw [decide_eq_true z, Bool.true_and] at he
      exact q1 he
    refine V_iload_n (i := 2) (sx_di dX11_fitsWas 2 rfl) rfl rfl ?_
    refine V_aload_n (i := 0) (sx_di dX11_fitsWas 3 rfl) rfl rfl ?_
    refine V_getR (sx_di dX11_fitsWas 4 rfl) fX11_95 (fun _ => rfl) (by first | exact hnt.1 | exact hnt.2.1 | exact hnt.2.2.1 | exact hnt.2.2.2.1 | exact hB.k _ rfl) (by first | exact hnt.2.2.2.2.1 | exact hnt.2.2.2.2.2.1 | exact hnt.2.2.2.2.2.2 | exact hB.r _ _ rfl) ?_
    refine V_getI (sx_di dX11_fitsWas 5 rfl) fX11_150 (fun _ => rfl) (by first | exact hnt.1 | exact hnt.2.1 | exact hnt.2.2.1 | exact hnt.2.2.2.1 | exact hB.k _ rfl) ?_
    refine V_iv (y := nI (a_Q A).length) (c9) ?_
    refine V_icN_ge (a := k) (b := (a_Q A).length) (rfl) (rfl) (by omega) (by omega) (tgt := 75) (sx_di dX11_fitsWas 6 rfl) (by decide) (fun h10 => absurd h10 (by omega)) (fun _ => ?_)
    refine V_iload_n (i := 2) (sx_di dX11_fitsWas 7 rfl) rfl rfl ?_
    refine V_bipush (v := 10) (sx_di dX11_fitsWas 8 rfl) (by decide) ?_
    refine V_icN_ge (a := k) (b := 10) (rfl) (rfl) (by omega) (by omega) (tgt := 75) (sx_di dX11_fitsWas 9 rfl) (by decide) (fun h16 => absurd h16 (by omega)) (fun _ => ?_)
    refine V_aload_n (i := 0) (sx_di dX11_fitsWas 10 rfl) rfl rfl ?_
    refine V_getR (sx_di dX11_fitsWas 11 rfl) fX11_48 (fun _ => rfl) (by first | exact hnt.1 | exact hnt.2.1 | exact hnt.2.2.1 | exact hnt.2.2.2.1 | exact hB.k _ rfl) (ht) ?_
    refine V_iload_n (i := 1) (sx_di dX11_fitsWas 12 rfl) rfl rfl ?_
    refine V_aload_n (i := 0) (sx_di dX11_fitsWas 13 rfl) rfl rfl ?_
    refine V_getR (sx_di dX11_fitsWas 14 rfl) fX11_95 (fun _ => rfl) (by first | exact hnt.1 | exact hnt.2.1 | exact hnt.2.2.1 | exact hnt.2.2.2.1 | exact hB.k _ rfl) (by first | exact hnt.2.2.2.2.1 | exact hnt.2.2.2.2.2.1 | exact hnt.2.2.2.2.2.2 | exact hB.r _ _ rfl) ?_
    refine V_getR (sx_di dX11_fitsWas 15 rfl) fX11_371 (fun _ => rfl) (by first | exact hnt.1 | exact hnt.2.1 | exact hnt.2.2.1 | exact hnt.2.2.2.1 | exact hB.k _ rfl) (by first | exact hnt.2.2.2.2.1 | exact hnt.2.2.2.2.2.1 | exact hnt.2.2.2.2.2.2 | exact hB.r _ _ rfl) ?_
    refine V_iload_n (i := 2) (sx_di dX11_fitsWas 16 rfl) rfl rfl ?_
    refine V_ialdN (n := 10) (j := k) (sx_di dX11_fitsWas 17 rfl) (by first | exact hnt.1 | exact hnt.2.1 | exact hnt.2.2.1 | exact hnt.2.2.2.1 | exact hB.k _ rfl) (rfl) (by omega) (by omega) ?_
    refine V_iv (y := nI j) (n1.trans ej) ?_
    refine V_cV2 (mc' := 0) (ms' := 0) (M' := mX8_changed) 3 (sx_di dX11_fitsWas 18 rfl) lX11_381 vX8_changed (hst.1) (by decide) rfl (Nat.le_of_ble_eq_true rfl) ⟨Nat.le_of_ble_eq_true rfl, Nat.le_of_ble_eq_true rfl⟩ ⟨Nat.le_refl _, Nat.le_refl _⟩ ?_
    refine c_X8_changed hst (by omega) ?_
    refine V_iv (y := fw_ (a_s A) (nI f) j) (ch_fw VA c3' hf _) ?_
    refine V_aload_n (i := 0) (sx_di dX11_fitsWas 19 rfl) rfl rfl ?_
    refine V_getR (sx_di dX11_fitsWas 20 rfl) fX11_95 (fun _ => rfl) (by first | exact hnt.1 | exact hnt.2.1 | exact hnt.2.2.1 | exact hnt.2.2.2.1 | exact hB.k _ rfl) (by first | exact hnt.2.2.2.2.1 | exact hnt.2.2.2.2.2.1 | exact hnt.2.2.2.2.2.2 | exact hB.r _ _ rfl) ?_
    refine V_getR (sx_di dX11_fitsWas 21 rfl) fX11_374 (fun _ => rfl) (by first | exact hnt.1 | exact hnt.2.1 | exact hnt.2.2.1 | exact hnt.2.2.2.1 | exact hB.k _ rfl) (by first | exact hnt.2.2.2.2.1 | exact hnt.2.2.2.2.2.1 | exact hnt.2.2.2.2.2.2 | exact hB.r _ _ rfl) ?_
    refine V_iload_n (i := 2) (sx_di dX11_fitsWas 22 rfl) rfl rfl ?_
    refine V_ialdN (n := 10) (j := k) (sx_di dX11_fitsWas 23 rfl) (by first | exact hnt.1 | exact hnt.2.1 | exact hnt.2.2.1 | exact hnt.2.2.2.1 | exact hB.k _ rfl) (rfl) (by omega) (by omega) ?_
    refine V_iv (y := q.2.1) (n2) ?_
    refine V_icmp_ne (tgt := 52) (sx_di dX11_fitsWas 24 rfl) (by decide) (fun h45 => ?_) (fun h45 => ?_)
    · have hc0 : (nI k).toNatClampNeg = k := nI_clamp (by omega)
      rw [if_neg h45] at hno hye
      refine V_iconst (v := 0) (sx_di dX11_fitsWas 27 rfl) (by decide) ?_
      refine V_istore_n (i := 3) (sx_di dX11_fitsWas 28 rfl) rfl (by decide) (rfl) ?_
      refine V_iload_n (i := 3) (sx_di dX11_fitsWas 29 rfl) rfl rfl ?_
      refine V_aload_n (i := 0) (sx_di dX11_fitsWas 30 rfl) rfl rfl ?_
      refine V_getR (sx_di dX11_fitsWas 31 rfl) fX11_95 (fun _ => rfl) (by first | exact hnt.1 | exact hnt.2.1 | exact hnt.2.2.1 | exact hnt.2.2.2.1 | exact hB.k _ rfl) (by first | exact hnt.2.2.2.2.1 | exact hnt.2.2.2.2.2.1 | exact hnt.2.2.2.2.2.2 | exact hB.r _ _ rfl) ?_
      refine V_getR (sx_di dX11_fitsWas 32 rfl) fX11_377 (fun _ => rfl) (by first | exact hnt.1 | exact hnt.2.1 | exact hnt.2.2.1 | exact hnt.2.2.2.1 | exact hB.k _ rfl) (by first | exact hnt.2.2.2.2.1 | exact hnt.2.2.2.2.2.1 | exact hnt.2.2.2.2.2.2 | exact hB.r _ _ rfl) ?_
      refine V_iload_n (i := 2) (sx_di dX11_fitsWas 33 rfl) rfl rfl ?_
      refine V_zald (sx_di dX11_fitsWas 34 rfl) (by first | exact hnt.1 | exact hnt.2.1 | exact hnt.2.2.1 | exact hnt.2.2.2.1 | exact hB.k _ rfl) (by exact vp_in_nI (show k < 10 by omega) (by decide)) ?_
      refine V_icmp_eq (tgt := 69) (sx_di dX11_fitsWas 35 rfl) (by decide) (fun h64 => ?_) (fun h64 => ?_)
      · rw [hc0, n3] at h64
        refine V_inc (c := 1) (sx_di dX11_fitsWas 38 rfl) (by decide) rfl (by decide) (rfl) ?_
        refine V_goto (tgt := 2) (sx_di dX11_fitsWas 39 rfl) (by decide) ?_
        exact V_subk (hye h64) ⟨rfl, rfl, rfl, trivial⟩
      · rw [hc0, n3] at h64
        refine V_iconst (v := 0) (sx_di dX11_fitsWas 36 rfl) (by decide) ?_
        refine V_zret (sx_di dX11_fitsWas 37 rfl) rfl (by first | rfl | decide) (Nat.le_refl _) (Nat.le_refl _) ?_
        exact hno h64
    · have hc0 : (nI k).toNatClampNeg = k := nI_clamp (by omega)
      rw [if_pos h45] at hno hye
      refine V_iconst (v := 1) (sx_di dX11_fitsWas 25 rfl) (by decide) ?_
      refine V_goto (tgt := 53) (sx_di dX11_fitsWas 26 rfl) (by decide) ?_
      refine V_istore_n (i := 3) (sx_di dX11_fitsWas 28 rfl) rfl (by decide) (rfl) ?_
      refine V_iload_n (i := 3) (sx_di dX11_fitsWas 29 rfl) rfl rfl ?_
      refine V_aload_n (i := 0) (sx_di dX11_fitsWas 30 rfl) rfl rfl ?_
      refine V_getR (sx_di dX11_fitsWas 31 rfl) fX11_95 (fun _ => rfl) (by first | exact hnt.1 | exact hnt.2.1 | exact hnt.2.2.1 | exact hnt.2.2.2.1 | exact hB.k _ rfl) (by first | exact hnt.2.2.2.2.1 | exact hnt.2.2.2.2.2.1 | exact hnt.2.2.2.2.2.2 | exact hB.r _ _ rfl) ?_
      refine V_getR (sx_di dX11_fitsWas 32 rfl) fX11_377 (fun _ => rfl) (by first | exact hnt.1 | exact hnt.2.1 | exact hnt.2.2.1 | exact hnt.2.2.2.1 | exact hB.k _ rfl) (by first | exact hnt.2.2.2.2.1 | exact hnt.2.2.2.2.2.1 | exact hnt.2.2.2.2.2.2 | exact hB.r _ _ rfl) ?_
      refine V_iload_n (i := 2) (sx_di dX11_fitsWas 33 rfl) rfl rfl ?_
      refine V_zald (sx_di dX11_fitsWas 34 rfl) (by first | exact hnt.1 | exact hnt.2.1 | exact hnt.2.2.1 | exact hnt.2.2.2.1 | exact hB.k _ rfl) (by exact vp_in_nI (show k < 10 by omega) (by decide)) ?_
      refine V_icmp_eq (tgt := 69) (sx_di dX11_fitsWas 35 rfl) (by decide) (fun h64 => ?_) (fun h64 => ?_)
      · rw [hc0, n3] at h64
        refine V_inc (c := 1) (sx_di dX11_fitsWas 38 rfl) (by decide) rfl (by decide) (rfl) ?_
        refine V_goto (tgt := 2) (sx_di dX11_fitsWas 39 rfl) (by decide) ?_
        exact V_subk (hye h64) ⟨rfl, rfl, rfl, trivial⟩
      · rw [hc0, n3] at h64
        refine V_iconst (v := 0) (sx_di dX11_fitsWas 36 rfl) (by decide) ?_
        refine V_zret (sx_di dX11_fitsWas 37 rfl) rfl (by first | rfl | decide) (Nat.le_refl _) (Nat.le_refl _) ?_
        exact hno h64
theorem e_fitsWas {E : sxE} {A : AS} {w : hpW} {Q : Option Value → hpW → Prop} (VA : AV A) (H : CR A w) {f : Nat} (hf : f < a_m A) (h : Q (some (.int (if fit_ A f then 1 else 0))) w) : sx_C E mX11_fitsWas 4 0 0 [.ref 16, .int (nI f)] w Q := by
  refine C_of (by decide +kernel) (Nat.le_of_ble_eq_true rfl) ?_
  refine V_iconst (v := 0) (sx_di dX11_fitsWas 0 rfl) (by decide) ?_
  refine V_istore_n (i := 2) (sx_di dX11_fitsWas 1 rfl) rfl (by decide) (rfl) ?_
  refine V_sub (ls' := [(2, .int (nI 0)), (1, .int (nI f)), (0, .ref 16)]) ⟨rfl, rfl, rfl, trivial⟩ ?_
  exact fC_lp2 VA H hf h (a_Q A).length 0 (by omega) rfl
set_option maxHeartbeats 2000000 in
set_option maxRecDepth 20000 in
theorem gC_lp {E : sxE} {A : AS} {w : hpW} {Q : Option Value → hpW → Prop} (VA : AV A) (H : CR A w) (h : Q (some (.int (sb_ (fit_ A) (a_m A)))) w) : ∀ d k, k + d = a_m A → V E mX11_forms (sx_rm 5 0 0) 0 0 0 0 13 [(2, .int (nI k)), (1, .int (sb_ (fit_ A) k)), (0, .ref 16)] [] w Q := by
  intro d
  obtain ⟨t, hB, ht, hst, hn, hm, c3'⟩ := CRn VA H
  have hm6 := VA.2.2.1.2.1
  induction d with
  | zero =>
    intro k hk
    have e3 : k = a_m A := by omega
    subst e3
    refine V_iload_n (i := 2) (sx_di dX11_forms 9 rfl) rfl rfl ?_
    refine V_aload_n (i := 0) (sx_di dX11_forms 10 rfl) rfl rfl ?_
    refine V_getR (sx_di dX11_forms 11 rfl) fX11_48 (fun _ => rfl) (hB.k _ rfl) (ht) ?_
    refine V_getI (sx_di dX11_forms 12 rfl) fX11_230 (fun _ => rfl) (hst.1) ?_
    refine V_iv (y := nI (a_m A)) (hm) ?_
    refine V_icN_ge (a := (a_m A)) (b := (a_m A)) (rfl) (rfl) (by omega) (by omega) (tgt := 44) (sx_di dX11_forms 13 rfl) (by decide) (fun _ => ?_) (fun h21 => absurd h21 (by omega))
    refine V_iload_n (i := 1) (sx_di dX11_forms 26 rfl) rfl rfl ?_
    refine V_iret (sx_di dX11_forms 27 rfl) rfl (Nat.le_refl _) (Nat.le_refl _) ?_
    exact h
  | succ d ih =>
    intro k hk
    have q1 := ih (k + 1) (by omega)
    have e1 : sb_ (fit_ A) (k + 1) = if fit_ A k then sb_ (fit_ A) k ||| 1 <<< (nI k &&& 31) else sb_ (fit_ A) k := rfl
    rw [e1, ← nI_1] at q1
    refine V_iload_n (i := 2) (sx_di dX11_forms 9 rfl) rfl rfl ?_
    refine V_aload_n (i := 0) (sx_di dX11_forms 10 rfl) rfl rfl ?_
    refine V_getR (sx_di dX11_forms 11 rfl) fX11_48 (fun _ => rfl) (hB.k _ rfl) (ht) ?_
    refine V_getI (sx_di dX11_forms 12 rfl) fX11_230 (fun _ => rfl) (hst.1) ?_
    refine V_iv (y := nI (a_m A)) (hm) ?_
    refine V_icN_ge (a := k) (b := (a_m A)) (rfl) (rfl) (by omega) (by omega) (tgt := 44) (sx_di dX11_forms 13 rfl) (by decide) (fun h21 => absurd h21 (by omega)) (fun _ => ?_)
    refine V_aload_n (i := 0) (sx_di dX11_forms 14 rfl) rfl rfl ?_
    refine V_iload_n (i := 2) (sx_di dX11_forms 15 rfl) rfl rfl ?_
    refine V_cV1 (mc' := 0) (ms' := 0) (M' := mX11_fitsWas) 4 (sx_di dX11_forms 16 rfl) lX11_384 vX11_fitsWas (hB.k _ rfl) (by decide) rfl (Nat.le_of_ble_eq_true rfl) ⟨Nat.le_of_ble_eq_true rfl, Nat.le_of_ble_eq_true rfl⟩ ⟨Nat.le_refl _, Nat.le_refl _⟩ ?_
    refine e_fitsWas VA H (f := k) (by omega) ?_
    refine V_if_eq (tgt := 38) (sx_di dX11_forms 17 rfl) (by decide) (fun h29 => ?_) (fun h29 => ?_)
    · have hb : ¬ fit_ A k = true := fun z => by rw [if_pos z] at h29; exact absurd h29 (by decide)
      rw [if_neg hb] at q1
      refine V_inc (c := 1) (sx_di dX11_forms 24 rfl) (by decide) rfl (by decide) (rfl) ?_
      refine V_goto (tgt := 13) (sx_di dX11_forms 25 rfl) (by decide) ?_
      exact V_subk q1 ⟨rfl, rfl, rfl, trivial⟩
    · have hb : fit_ A k = true := Classical.byContradiction (fun z => h29 (if_neg z))
      rw [if_pos hb] at q1
      refine V_iload_n (i := 1) (sx_di dX11_forms 18 rfl) rfl rfl ?_
      refine V_iconst (v := 1) (sx_di dX11_forms 19 rfl) (by decide) ?_
      refine V_iload_n (i := 2) (sx_di dX11_forms 20 rfl) rfl rfl ?_
      refine V_ishl (sx_di dX11_forms 21 rfl) ?_
      refine V_ior (sx_di dX11_forms 22 rfl) ?_
      refine V_istore_n (i := 1) (sx_di dX11_forms 23 rfl) rfl (by decide) (rfl) ?_
      refine V_inc (c := 1) (sx_di dX11_forms 24 rfl) (by decide) rfl (by decide) (rfl) ?_
      refine V_goto (tgt := 13) (sx_di dX11_forms 25 rfl) (by decide) ?_
      exact V_subk q1 ⟨rfl, rfl, rfl, trivial⟩
set_option maxHeartbeats 2000000 in
set_option maxRecDepth 20000 in
theorem oC_forms {E : sxE} {A : AS} {w : hpW} (VA : AV A) (H : CR A w) : oC E mX11_forms 5 [.ref 16] w A (q_forms A) A := by
  intro Q h
  replace h := h w H fR_rf
  unfold q_forms at h
  obtain ⟨t, hB, ht, hst, hn, _, _⟩ := CRn VA H
  have hn8 := VA.2.2.1.1
  refine C_of (by decide +kernel) (Nat.le_of_ble_eq_true rfl) ?_
  refine V_aload_n (i := 0) (sx_di dX11_forms 0 rfl) rfl rfl ?_
  refine V_cV0 (mc' := 0) (ms' := 0) (M' := mX11_isStreet) 1 (sx_di dX11_forms 1 rfl) lX11_154 vX11_isStreet (hB.k _ rfl) (by decide) rfl (Nat.le_of_ble_eq_true rfl) ⟨Nat.le_of_ble_eq_true rfl, Nat.le_of_ble_eq_true rfl⟩ ⟨Nat.le_refl _, Nat.le_refl _⟩ ?_
  refine c_X11_isStreet hB ht hst hn hn8 ?_
  refine V_if_ne (tgt := 9) (sx_di dX11_forms 2 rfl) (by decide) (fun h4 => ?_) (fun h4 => ?_)
  · have h5 : ¬ a_n A = 0 := fun z => h4 (if_pos z)
    rw [if_neg h5] at h
    refine V_iconst (v := 0) (sx_di dX11_forms 5 rfl) (by decide) ?_
    refine V_istore_n (i := 1) (sx_di dX11_forms 6 rfl) rfl (by decide) (rfl) ?_
    refine V_iconst (v := 0) (sx_di dX11_forms 7 rfl) (by decide) ?_
    refine V_istore_n (i := 2) (sx_di dX11_forms 8 rfl) rfl (by decide) (rfl) ?_
    refine V_sub (ls' := [(2, .int (nI 0)), (1, .int (sb_ (fit_ A) 0)), (0, .ref 16)]) ⟨rfl, rfl, rfl, trivial⟩ ?_
    exact gC_lp VA H h (a_m A) 0 (by omega)
  · have h5 : a_n A = 0 := Classical.byContradiction (fun z => by rw [if_neg z] at h4; exact absurd h4 (by decide))
    rw [if_pos h5] at h
    refine V_iconst (v := -1) (sx_di dX11_forms 3 rfl) (by decide) ?_
    refine V_iret (sx_di dX11_forms 4 rfl) rfl (Nat.le_refl _) (Nat.le_refl _) ?_
    exact h
set_option maxHeartbeats 2000000 in
set_option maxRecDepth 20000 in
theorem fR_lp2 {E : sxE} {A : AS} {w : hpW} {Q : Option Value → hpW → Prop} (VA : AV A) (H : RR A w) {f : Nat} {s0 : Int32} (hf : f < a_m A) (h : V E mX12_forms (sx_rm 2 0 0) 0 0 0 0 88 [(3, .int (if fit_ A f then 1 else 0)), (2, .int (nI f)), (1, .int s0), (0, .ref 381)] [] w Q) : ∀ d k b, k + d = (a_Q A).length → (b = 0 ∨ b = 1) → fit_ A f = (decide (b = 1) && ((a_Q A).drop k).all (fit1 (a_s A) f)) → V E mX12_forms (sx_rm 2 0 0) 0 0 0 0 26 [(4, .int (nI k)), (3, .int (nI b)), (2, .int (nI f)), (1, .int s0), (0, .ref 381)] [] w Q := by
  intro d
  obtain ⟨hB, h1, h2, h3, h4, h5, h6, ⟨h7, h8⟩, ⟨h9, h10⟩, h11, h12⟩ := id H
  have hl : (a_Q A).length ≤ 10 := VA.2.2.2.2.1.2.2.1
  induction d with
  | zero =>
    intro k b hk hb he
    rw [List.drop_eq_nil_of_le (by omega), List.all_nil, Bool.and_true] at he
    have e1 : (if fit_ A f then (1 : Int32) else 0) = nI b := by
      rw [he]
      rcases hb with rfl | rfl <;> rfl
    rw [e1] at h
    refine V_iload (sx_di dX12_forms 17 rfl) rfl ?_
    refine V_aload_n (i := 0) (sx_di dX12_forms 18 rfl) rfl rfl ?_
    refine V_getI (sx_di dX12_forms 19 rfl) fX12_273 (fun _ => rfl) (hB.k _ rfl) ?_
    refine V_iv (y := nI (a_Q A).length) (h9) ?_
    refine V_icN_ge (a := k) (b := (a_Q A).length) (rfl) (rfl) (by omega) (by omega) (tgt := 88) (sx_di dX12_forms 20 rfl) (by decide) (fun _ => ?_) (fun h32 => absurd h32 (by omega))
    exact V_subk h ⟨rfl, rfl, rfl, rfl, trivial⟩
  | succ d ih =>
    intro k b hk hb he
    obtain ⟨q, eq, ed, hq⟩ := at_len (L := a_Q A) (k := k) (by omega)
    obtain ⟨⟨j, hj, ej⟩, _, hbq⟩ := VA.2.2.2.2.1.2.2.2 q hq
    obtain ⟨n1, n2, n3⟩ := h10 k q eq
    have hc0 : (nI k).toNatClampNeg = k := nI_clamp (by omega)
    rw [ed, List.all_cons] at he
    have ef : fit1 (a_s A) f q = decide ((if fw_ (a_s A) (nI f) j = q.2.1 then (1 : Int32) else 0) = q.2.2) := by unfold fit1; rw [ej, nI_clamp (by omega)]
    rw [ef] at he
    have q0 := ih (k + 1) 0 (by omega) (Or.inl rfl)
    have q1 := ih (k + 1) 1 (by omega) (Or.inr rfl)
    rw [← nI_1] at q0 q1
    have hno : (b = 0 ∨ ¬ (if fw_ (a_s A) (nI f) j = q.2.1 then (1 : Int32) else 0) = q.2.2) → V E mX12_forms (sx_rm 2 0 0) 0 0 0 0 26 [(4, .int (nI k + nI 1)), (3, .int (nI 0)), (2, .int (nI f)), (1, .int s0), (0, .ref 381)] [] w Q := fun z => q0 (by
      rw [he]
      rcases z with rfl | z
      · rfl
      · rw [decide_eq_false z, Bool.false_and, Bool.and_false]; rfl)
    have hye : ¬ b = 0 → (if fw_ (a_s A) (nI f) j = q.2.1 then (1 : Int32) else 0) = q.2.2 → V E mX12_forms (sx_rm 2 0 0) 0 0 0 0 26 [(4, .int (nI k + nI 1)), (3, .int (nI 1)), (2, .int (nI f)), (1, .int s0), (0, .ref 381)] [] w Q := fun y z => q1 (by
      rw [he, decide_eq_true z, Bool.true_and, show b = 1 by omega])
    refine V_iload (sx_di dX12_forms 17 rfl) rfl ?_
    refine V_aload_n (i := 0) (sx_di dX12_forms 18 rfl) rfl rfl ?_
    refine V_getI (sx_di dX12_forms 19 rfl) fX12_273 (fun _ => rfl) (hB.k _ rfl) ?_
    refine V_iv (y := nI (a_Q A).length) (h9) ?_
    refine V_icN_ge (a := k) (b := (a_Q A).length) (rfl) (rfl) (by omega) (by omega) (tgt := 88) (sx_di dX12_forms 20 rfl) (by decide) (fun h32 => absurd h32 (by omega)) (fun _ => ?_)
    refine V_iload_n (i := 3) (sx_di dX12_forms 21 rfl) rfl rfl ?_
    refine V_ifN_eq (a := b) (rfl) (by omega) (tgt := 80) (sx_di dX12_forms 22 rfl) (by decide) (fun h36 => ?_) (fun h36 => ?_)
    · refine V_iconst (v := 0) (sx_di dX12_forms 45 rfl) (by decide) ?_
      refine V_istore_n (i := 3) (sx_di dX12_forms 46 rfl) rfl (by decide) (rfl) ?_
      refine V_inc (c := 1) (sx_di dX12_forms 47 rfl) (by decide) rfl (by decide) (rfl) ?_
      refine V_goto (tgt := 26) (sx_di dX12_forms 48 rfl) (by decide) ?_
      exact V_subk (hno (Or.inl h36)) ⟨rfl, rfl, rfl, rfl, rfl, trivial⟩
    · refine V_aload_n (i := 0) (sx_di dX12_forms 23 rfl) rfl rfl ?_
      refine V_iload_n (i := 2) (sx_di dX12_forms 24 rfl) rfl rfl ?_
      refine V_aload_n (i := 0) (sx_di dX12_forms 25 rfl) rfl rfl ?_
      refine V_getR (sx_di dX12_forms 26 rfl) fX12_87 (fun _ => rfl) (hB.k _ rfl) (hB.r _ _ rfl) ?_
      refine V_iload (sx_di dX12_forms 27 rfl) rfl ?_
      refine V_ialdN (n := 10) (j := k) (sx_di dX12_forms 28 rfl) (hB.k _ rfl) (rfl) (by omega) (by omega) ?_
      refine V_iv (y := nI j) (n1.trans ej) ?_
      refine V_cV2 (mc' := 0) (ms' := 0) (M' := mX12_followsBy) 1 (sx_di dX12_forms 29 rfl) lX12_420 vX12_followsBy (hB.k _ rfl) (by decide) rfl (Nat.le_of_ble_eq_true rfl) ⟨Nat.le_of_ble_eq_true rfl, Nat.le_of_ble_eq_true rfl⟩ ⟨Nat.le_refl _, Nat.le_refl _⟩ ?_
      refine e_followsBy VA H hf (by omega) ?_
      refine V_iv (y := fw_ (a_s A) (nI f) j) (rfl) ?_
      refine V_aload_n (i := 0) (sx_di dX12_forms 30 rfl) rfl rfl ?_
      refine V_getR (sx_di dX12_forms 31 rfl) fX12_90 (fun _ => rfl) (hB.k _ rfl) (hB.r _ _ rfl) ?_
      refine V_iload (sx_di dX12_forms 32 rfl) rfl ?_
      refine V_ialdN (n := 10) (j := k) (sx_di dX12_forms 33 rfl) (hB.k _ rfl) (rfl) (by omega) (by omega) ?_
      refine V_iv (y := q.2.1) (n2) ?_
      refine V_icmp_ne (tgt := 65) (sx_di dX12_forms 34 rfl) (by decide) (fun h58 => ?_) (fun h58 => ?_)
      · rw [if_neg h58] at hno hye
        refine V_iconst (v := 0) (sx_di dX12_forms 37 rfl) (by decide) ?_
        refine V_aload_n (i := 0) (sx_di dX12_forms 38 rfl) rfl rfl ?_
        refine V_getR (sx_di dX12_forms 39 rfl) fX12_93 (fun _ => rfl) (hB.k _ rfl) (hB.r _ _ rfl) ?_
        refine V_iload (sx_di dX12_forms 40 rfl) rfl ?_
        refine V_zald (sx_di dX12_forms 41 rfl) (hB.k _ rfl) (vp_in_nI (show k < 10 by omega) (by decide)) ?_
        refine V_icmp_ne (tgt := 80) (sx_di dX12_forms 42 rfl) (by decide) (fun h73 => ?_) (fun h73 => ?_)
        · rw [hc0, n3] at h73
          refine V_iconst (v := 0) (sx_di dX12_forms 45 rfl) (by decide) ?_
          refine V_istore_n (i := 3) (sx_di dX12_forms 46 rfl) rfl (by decide) (rfl) ?_
          refine V_inc (c := 1) (sx_di dX12_forms 47 rfl) (by decide) rfl (by decide) (rfl) ?_
          refine V_goto (tgt := 26) (sx_di dX12_forms 48 rfl) (by decide) ?_
          exact V_subk (hno (Or.inr h73)) ⟨rfl, rfl, rfl, rfl, rfl, trivial⟩
        · rw [hc0, n3] at h73
          refine V_iconst (v := 1) (sx_di dX12_forms 43 rfl) (by decide) ?_
          refine V_goto (tgt := 81) (sx_di dX12_forms 44 rfl) (by decide) ?_
          refine V_istore_n (i := 3) (sx_di dX12_forms 46 rfl) rfl (by decide) (rfl) ?_
          refine V_inc (c := 1) (sx_di dX12_forms 47 rfl) (by decide) rfl (by decide) (rfl) ?_
          refine V_goto (tgt := 26) (sx_di dX12_forms 48 rfl) (by decide) ?_
          exact V_subk (hye h36 h73) ⟨rfl, rfl, rfl, rfl, rfl, trivial⟩
      · rw [if_pos h58] at hno hye
        refine V_iconst (v := 1) (sx_di dX12_forms 35 rfl) (by decide) ?_
        refine V_goto (tgt := 66) (sx_di dX12_forms 36 rfl) (by decide) ?_
        refine V_aload_n (i := 0) (sx_di dX12_forms 38 rfl) rfl rfl ?_
        refine V_getR (sx_di dX12_forms 39 rfl) fX12_93 (fun _ => rfl) (hB.k _ rfl) (hB.r _ _ rfl) ?_
        refine V_iload (sx_di dX12_forms 40 rfl) rfl ?_
        refine V_zald (sx_di dX12_forms 41 rfl) (hB.k _ rfl) (vp_in_nI (show k < 10 by omega) (by decide)) ?_
        refine V_icmp_ne (tgt := 80) (sx_di dX12_forms 42 rfl) (by decide) (fun h73 => ?_) (fun h73 => ?_)
        · rw [hc0, n3] at h73
          refine V_iconst (v := 0) (sx_di dX12_forms 45 rfl) (by decide) ?_
          refine V_istore_n (i := 3) (sx_di dX12_forms 46 rfl) rfl (by decide) (rfl) ?_
          refine V_inc (c := 1) (sx_di dX12_forms 47 rfl) (by decide) rfl (by decide) (rfl) ?_
          refine V_goto (tgt := 26) (sx_di dX12_forms 48 rfl) (by decide) ?_
          exact V_subk (hno (Or.inr h73)) ⟨rfl, rfl, rfl, rfl, rfl, trivial⟩
        · rw [hc0, n3] at h73
          refine V_iconst (v := 1) (sx_di dX12_forms 43 rfl) (by decide) ?_
          refine V_goto (tgt := 81) (sx_di dX12_forms 44 rfl) (by decide) ?_
          refine V_istore_n (i := 3) (sx_di dX12_forms 46 rfl) rfl (by decide) (rfl) ?_
          refine V_inc (c := 1) (sx_di dX12_forms 47 rfl) (by decide) rfl (by decide) (rfl) ?_
          refine V_goto (tgt := 26) (sx_di dX12_forms 48 rfl) (by decide) ?_
          exact V_subk (hye h36 h73) ⟨rfl, rfl, rfl, rfl, rfl, trivial⟩
set_option maxHeartbeats 2000000 in
set_option maxRecDepth 20000 in
theorem gR_lp {E : sxE} {A : AS} {w : hpW} {Q : Option Value → hpW → Prop} (VA : AV A) (H : RR A w) (h : Q (some (.int (sb_ (fit_ A) (a_m A)))) w) : ∀ d k, k + d = a_m A → V E mX12_forms (sx_rm 2 0 0) 0 0 0 0 13 [(2, .int (nI k)), (1, .int (sb_ (fit_ A) k)), (0, .ref 381)] [] w Q := by
  intro d
  obtain ⟨hB, h1, h2, h3, h4, h5, h6, ⟨h7, h8⟩, ⟨h9, h10⟩, h11, h12⟩ := id H
  have hm6 := VA.2.2.1.2.1
  induction d with
  | zero =>
    intro k hk
    have e3 : k = a_m A := by omega
    subst e3
    refine V_iload_n (i := 2) (sx_di dX12_forms 9 rfl) rfl rfl ?_
    refine V_aload_n (i := 0) (sx_di dX12_forms 10 rfl) rfl rfl ?_
    refine V_getI (sx_di dX12_forms 11 rfl) fX12_264 (fun _ => rfl) (hB.k _ rfl) ?_
    refine V_iv (y := nI (a_m A)) (h3.2.1) ?_
    refine V_icN_ge (a := (a_m A)) (b := (a_m A)) (rfl) (rfl) (by omega) (by omega) (tgt := 108) (sx_di dX12_forms 12 rfl) (by decide) (fun _ => ?_) (fun h18 => absurd h18 (by omega))
    refine V_iload_n (i := 1) (sx_di dX12_forms 61 rfl) rfl rfl ?_
    refine V_iret (sx_di dX12_forms 62 rfl) rfl (Nat.le_refl _) (Nat.le_refl _) ?_
    exact h
  | succ d ih =>
    intro k hk
    have q1 := ih (k + 1) (by omega)
    have e1 : sb_ (fit_ A) (k + 1) = if fit_ A k then sb_ (fit_ A) k ||| 1 <<< (nI k &&& 31) else sb_ (fit_ A) k := rfl
    rw [e1, ← nI_1] at q1
    have hin : V E mX12_forms (sx_rm 2 0 0) 0 0 0 0 88 [(3, .int (if fit_ A k then 1 else 0)), (2, .int (nI k)), (1, .int (sb_ (fit_ A) k)), (0, .ref 381)] [] w Q := by
      refine V_iload_n (i := 1) (sx_di dX12_forms 49 rfl) rfl rfl ?_
      refine V_iload_n (i := 3) (sx_di dX12_forms 50 rfl) rfl rfl ?_
      refine V_if_eq (tgt := 99) (sx_di dX12_forms 51 rfl) (by decide) (fun h90 => ?_) (fun h90 => ?_)
      · have hb : ¬ fit_ A k = true := fun z => by rw [if_pos z] at h90; exact absurd h90 (by decide)
        rw [if_neg hb] at q1
        refine V_iconst (v := 0) (sx_di dX12_forms 56 rfl) (by decide) ?_
        refine V_ior (sx_di dX12_forms 57 rfl) ?_
        refine V_istore_n (i := 1) (sx_di dX12_forms 58 rfl) rfl (by decide) (rfl) ?_
        refine V_inc (c := 1) (sx_di dX12_forms 59 rfl) (by decide) rfl (by decide) (rfl) ?_
        refine V_goto (tgt := 13) (sx_di dX12_forms 60 rfl) (by decide) ?_
        first | exact V_subk q1 ⟨rfl, rfl, rfl, trivial⟩ | (rw [Int32.or_zero]; exact V_subk q1 ⟨rfl, rfl, rfl, trivial⟩)
      · have hb : fit_ A k = true := Classical.byContradiction (fun z => h90 (if_neg z))
        rw [if_pos hb] at q1
        refine V_iconst (v := 1) (sx_di dX12_forms 52 rfl) (by decide) ?_
        refine V_iload_n (i := 2) (sx_di dX12_forms 53 rfl) rfl rfl ?_
        refine V_ishl (sx_di dX12_forms 54 rfl) ?_
        refine V_goto (tgt := 100) (sx_di dX12_forms 55 rfl) (by decide) ?_
        refine V_ior (sx_di dX12_forms 57 rfl) ?_
        refine V_istore_n (i := 1) (sx_di dX12_forms 58 rfl) rfl (by decide) (rfl) ?_
        refine V_inc (c := 1) (sx_di dX12_forms 59 rfl) (by decide) rfl (by decide) (rfl) ?_
        refine V_goto (tgt := 13) (sx_di dX12_forms 60 rfl) (by decide) ?_
        first | exact V_subk q1 ⟨rfl, rfl, rfl, trivial⟩ | (rw [Int32.or_zero]; exact V_subk q1 ⟨rfl, rfl, rfl, trivial⟩)
    refine V_iload_n (i := 2) (sx_di dX12_forms 9 rfl) rfl rfl ?_
    refine V_aload_n (i := 0) (sx_di dX12_forms 10 rfl) rfl rfl ?_
    refine V_getI (sx_di dX12_forms 11 rfl) fX12_264 (fun _ => rfl) (hB.k _ rfl) ?_
    refine V_iv (y := nI (a_m A)) (h3.2.1) ?_
    refine V_icN_ge (a := k) (b := (a_m A)) (rfl) (rfl) (by omega) (by omega) (tgt := 108) (sx_di dX12_forms 12 rfl) (by decide) (fun h18 => absurd h18 (by omega)) (fun _ => ?_)
    refine V_iconst (v := 1) (sx_di dX12_forms 13 rfl) (by decide) ?_
    refine V_istore_n (i := 3) (sx_di dX12_forms 14 rfl) rfl (by decide) (rfl) ?_
    refine V_iconst (v := 0) (sx_di dX12_forms 15 rfl) (by decide) ?_
    refine V_istore (sx_di dX12_forms 16 rfl) (by decide) (rfl) ?_
    refine V_sub (ls' := [(4, .int (nI 0)), (3, .int (nI 1)), (2, .int (nI k)), (1, .int (sb_ (fit_ A) k)), (0, .ref 381)]) ⟨rfl, rfl, rfl, rfl, rfl, trivial⟩ ?_
    exact fR_lp2 VA H (by omega) hin (a_Q A).length 0 1 (by omega) (Or.inr rfl) (by rw [decide_eq_true rfl, Bool.true_and, List.drop_zero]; rfl)
set_option maxHeartbeats 2000000 in
set_option maxRecDepth 20000 in
theorem oR_forms {E : sxE} {A : AS} {w : hpW} (VA : AV A) (H : RR A w) : oR E mX12_forms 2 [.ref 381] w A (q_forms A) A := by
  intro Q h
  replace h := h w H fC_rf
  unfold q_forms at h
  have hB := H.1
  have hn := H.2.2.2.1.1
  have hn8 := VA.2.2.1.1
  refine C_of (by decide +kernel) (Nat.le_of_ble_eq_true rfl) ?_
  refine V_aload_n (i := 0) (sx_di dX12_forms 0 rfl) rfl rfl ?_
  refine V_getI (sx_di dX12_forms 1 rfl) fX12_258 (fun _ => rfl) (hB.k _ rfl) ?_
  refine V_iv (y := nI (a_n A)) (hn) ?_
  refine V_ifN_ne (a := (a_n A)) (rfl) (by omega) (tgt := 9) (sx_di dX12_forms 2 rfl) (by decide) (fun h4 => ?_) (fun h4 => ?_)
  · rw [if_neg h4] at h
    refine V_iconst (v := 0) (sx_di dX12_forms 5 rfl) (by decide) ?_
    refine V_istore_n (i := 1) (sx_di dX12_forms 6 rfl) rfl (by decide) (rfl) ?_
    refine V_iconst (v := 0) (sx_di dX12_forms 7 rfl) (by decide) ?_
    refine V_istore_n (i := 2) (sx_di dX12_forms 8 rfl) rfl (by decide) (rfl) ?_
    refine V_sub (ls' := [(2, .int (nI 0)), (1, .int (sb_ (fit_ A) 0)), (0, .ref 381)]) ⟨rfl, rfl, rfl, trivial⟩ ?_
    exact gR_lp VA H h (a_m A) 0 (by omega)
  · rw [if_pos h4] at h
    refine V_iconst (v := -1) (sx_di dX12_forms 3 rfl) (by decide) ?_
    refine V_iret (sx_di dX12_forms 4 rfl) rfl (Nat.le_refl _) (Nat.le_refl _) ?_
    exact h

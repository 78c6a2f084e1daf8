/-! the least shamming: the class -/
def TS_ (A : AS) (w : hpW) (z : Nat) : Prop := ∀ h i, h < a_n A → i < 19 → 19 * h + i < z → hp_i w 380 (h * 19 + i) = ms_ A h i
set_option maxHeartbeats 2000000 in
set_option maxRecDepth 20000 in
theorem fs_x {E : sxE} {A : AS} {w : hpW} {Q : Option Value → hpW → Prop} (VA : AV A) (H : CR A w) {k : Nat} (hk : k < a_n A) (h1 : k + 1 < a_n A → V E mX11_fillShamTable (sx_rm 5 0 0) 0 0 0 0 26 [(2, .int (nI 0)), (1, .int (nI (k + 1))), (0, .ref 16)] [] w Q) (h2 : k + 1 = a_n A → Q none w) : V E mX11_fillShamTable (sx_rm 5 0 0) 0 0 0 0 26 [(2, .int (nI 19)), (1, .int (nI k)), (0, .ref 16)] [] w Q := by
  have hn8 := VA.2.2.1.1
  obtain ⟨t, hB, ht, hst, hn, _, _⟩ := CRn VA H
  rw [← nI_1] at h1
  refine V_iload_n (i := 2) (sx_di dX11_fillShamTable 14 rfl) rfl rfl ?_
  refine V_bipush (v := 19) (sx_di dX11_fillShamTable 15 rfl) (by decide) ?_
  refine V_icN_ge (a := 19) (b := 19) (rfl) (rfl) (by omega) (by omega) (tgt := 76) (sx_di dX11_fillShamTable 16 rfl) (by decide) (fun _ => ?_) (fun h29 => absurd h29 (by omega))
  refine V_inc (c := 1) (sx_di dX11_fillShamTable 41 rfl) (by decide) rfl (by decide) (rfl) ?_
  refine V_goto (tgt := 13) (sx_di dX11_fillShamTable 42 rfl) (by decide) ?_
  refine V_iload_n (i := 1) (sx_di dX11_fillShamTable 7 rfl) rfl rfl ?_
  refine V_aload_n (i := 0) (sx_di dX11_fillShamTable 8 rfl) rfl rfl ?_
  refine V_getR (sx_di dX11_fillShamTable 9 rfl) fX11_48 (fun _ => rfl) (hB.k _ rfl) (ht) ?_
  refine V_cV0 (mc' := 0) (ms' := 0) (M' := mX8_houseCount) 2 (sx_di dX11_fillShamTable 10 rfl) lX11_308 vX8_houseCount (hst.1) (by decide) rfl (Nat.le_of_ble_eq_true rfl) ⟨Nat.le_of_ble_eq_true rfl, Nat.le_of_ble_eq_true rfl⟩ ⟨Nat.le_refl _, Nat.le_refl _⟩ ?_
  refine c_X8_houseCount (hst.1) (hc8 hn hn8) ?_
  refine V_iv (y := nI (a_n A)) (hn) ?_
  refine V_icN_ge (a := (k + 1)) (b := (a_n A)) (nx_add (rfl) rfl) (rfl) (by omega) (by omega) (tgt := 82) (sx_di dX11_fillShamTable 11 rfl) (by decide) (fun h21 => ?_) (fun h21 => ?_)
  · refine V_vret (sx_di dX11_fillShamTable 43 rfl) rfl (Nat.le_refl _) (Nat.le_refl _) ?_
    exact h2 (by omega)
  · refine V_iconst (v := 0) (sx_di dX11_fillShamTable 12 rfl) (by decide) ?_
    refine V_istore_n (i := 2) (sx_di dX11_fillShamTable 13 rfl) rfl (by decide) (rfl) ?_
    exact V_subk (h1 (by omega)) ⟨rfl, rfl, rfl, trivial⟩
set_option maxHeartbeats 2000000 in
set_option maxRecDepth 20000 in
theorem fs_lp {E : sxE} {A : AS} {w : hpW} {Q : Option Value → hpW → Prop} (VA : AV A) {m0 : Nat → Int32} (h : ∀ w', CR A w' → fR w w' → TS_ A w' (19 * a_n A) → Q none w') : ∀ d k i w1 r1, 19 * k + i + d = 19 * a_n A → k < a_n A → i < 19 → CR A w1 → fR w w1 → AW A w1 m0 r1 → OKF (a_n A) (a_m A) r1 → (∀ j, j < 8 ∨ 16 ≤ j → r1 j = a_r A j) → TS_ A w1 (19 * k + i) → V E mX11_fillShamTable (sx_rm 5 0 0) 0 0 0 0 26 [(2, .int (nI i)), (1, .int (nI k)), (0, .ref 16)] [] w1 Q := by
  intro d
  have hn8 := VA.2.2.1.1
  induction d with
  | zero =>
    intro k i w1 r1 e hk hi
    omega
  | succ d ih =>
    intro k i w1 r1 e hk hi H1 f1 hA hO hj hT
    have hB := H1.1
    obtain ⟨H2, f2, t2, hA2⟩ := AW_sham (x := sv_ i) VA H1 hA hk
    have hO2 := OKF_sv (i := i) hn8 hk (by omega) hO
    have em : mv2 A (up_ r1 (8 + k) (sv_ i)) k = ms_ A k i := mv2_cg (fun j hj2 => by
      unfold up_
      by_cases e2 : j = 8 + k
      · rw [if_pos e2, if_pos e2]
      · rw [if_neg e2, if_neg e2]; exact hj j (by omega))
    refine V_iload_n (i := 2) (sx_di dX11_fillShamTable 14 rfl) rfl rfl ?_
    refine V_bipush (v := 19) (sx_di dX11_fillShamTable 15 rfl) (by decide) ?_
    refine V_icN_ge (a := i) (b := 19) (rfl) (rfl) (by omega) (by omega) (tgt := 76) (sx_di dX11_fillShamTable 16 rfl) (by decide) (fun h29 => absurd h29 (by omega)) (fun _ => ?_)
    refine V_aload_n (i := 0) (sx_di dX11_fillShamTable 17 rfl) rfl rfl ?_
    refine V_getR (sx_di dX11_fillShamTable 18 rfl) fX11_64 (fun _ => rfl) (by first | exact hB.k _ rfl | exact hB3.k _ rfl) (by first | exact hB.r _ _ rfl | exact hB3.r _ _ rfl) ?_
    refine V_getR (sx_di dX11_fillShamTable 19 rfl) fX11_189 (fun _ => rfl) (by first | exact hB.k _ rfl | exact hB3.k _ rfl) (by first | exact hB.r _ _ rfl | exact hB3.r _ _ rfl) ?_
    refine V_iload_n (i := 1) (sx_di dX11_fillShamTable 20 rfl) rfl rfl ?_
    refine V_iload_n (i := 2) (sx_di dX11_fillShamTable 21 rfl) rfl rfl ?_
    refine V_bipush (v := 9) (sx_di dX11_fillShamTable 22 rfl) (by decide) ?_
    refine V_isub (sx_di dX11_fillShamTable 23 rfl) ?_
    refine V_iastN (n := 8) (j := k) (sx_di dX11_fillShamTable 24 rfl) (by first | exact hB.k _ rfl | exact hB3.k _ rfl) (rfl) (by omega) (by omega) ?_
    refine V_aload_n (i := 0) (sx_di dX11_fillShamTable 25 rfl) rfl rfl ?_
    refine V_iload_n (i := 1) (sx_di dX11_fillShamTable 26 rfl) rfl rfl ?_
    refine V_bipush (v := 19) (sx_di dX11_fillShamTable 27 rfl) (by decide) ?_
    refine V_imul (sx_di dX11_fillShamTable 28 rfl) ?_
    refine V_iload_n (i := 2) (sx_di dX11_fillShamTable 29 rfl) rfl rfl ?_
    refine V_iadd (sx_di dX11_fillShamTable 30 rfl) ?_
    refine V_aload_n (i := 0) (sx_di dX11_fillShamTable 31 rfl) rfl rfl ?_
    refine V_getR (sx_di dX11_fillShamTable 32 rfl) fX11_64 (fun _ => rfl) (by first | exact hB.k _ rfl | exact hB3.k _ rfl) (by first | exact hB.r _ _ rfl | exact hB3.r _ _ rfl) ?_
    refine V_iload_n (i := 1) (sx_di dX11_fillShamTable 33 rfl) rfl rfl ?_
    refine V_aload_n (i := 0) (sx_di dX11_fillShamTable 34 rfl) rfl rfl ?_
    refine V_getR (sx_di dX11_fillShamTable 35 rfl) fX11_28 (fun _ => rfl) (by first | exact hB.k _ rfl | exact hB3.k _ rfl) (by first | exact hB.r _ _ rfl | exact hB3.r _ _ rfl) ?_
    refine V_cV0 (mc' := 0) (ms' := 0) (M' := mX2_holding) 1 (sx_di dX11_fillShamTable 36 rfl) lX11_195 vX2_holding (by first | exact hB.k _ rfl | exact hB3.k _ rfl) (by decide) rfl (Nat.le_of_ble_eq_true rfl) ⟨Nat.le_of_ble_eq_true rfl, Nat.le_of_ble_eq_true rfl⟩ ⟨Nat.le_refl _, Nat.le_refl _⟩ ?_
    refine e_holding VA H2 (fun lv hl => ?_)
    refine V_cV2 (mc' := 0) (ms' := 0) (M' := mX7_minded) 4 (sx_di dX11_fillShamTable 37 rfl) lX11_198 vX7_minded (by first | exact hB.k _ rfl | exact hB3.k _ rfl) (by decide) rfl (Nat.le_of_ble_eq_true rfl) ⟨Nat.le_of_ble_eq_true rfl, Nat.le_of_ble_eq_true rfl⟩ ⟨Nat.le_refl _, Nat.le_refl _⟩ ?_
    refine k_mindedA VA H2 hk hA2 hO2.1 hl (fun w3 H3 f3 t3 hA3 => ?_)
    rw [em]
    have hB3 := H3.1
    obtain ⟨H4, f4⟩ := CR_380 (b := 380) (k := k * 19 + i) (x := ms_ A k i) (m0 := m0) (r := m0) VA (by omega) (by omega) H3
    have hA4 := AW_380 (b := 380) (k := k * 19 + i) (x := ms_ A k i) (by omega) hA3
    have hT4 : TS_ A (hp_si w3 380 (k * 19 + i) (ms_ A k i)) (19 * k + i + 1) := fun k2 i2 hk2 hi2 hz => by
      rw [hp_i_si]
      by_cases hc : k2 * 19 + i2 = k * 19 + i
      · rw [if_pos ⟨rfl, hc⟩, show k2 = k by omega, show i2 = i by omega]
      · rw [if_neg (fun q => hc q.2), t3 380 (by omega) (by omega), t2 380 (by omega) (by omega)]; exact hT k2 i2 hk2 hi2 (by omega)
    have hj4 : ∀ j, j < 8 ∨ 16 ≤ j → up_ r1 (8 + k) (sv_ i) j = a_r A j := fun j hj2 => (up_ne (by omega)).trans (hj j hj2)
    have ff := fR_tr f1 (fR_tr f2 (fR_tr f3 f4))
    have q1 : V E mX11_fillShamTable (sx_rm 5 0 0) 0 0 0 0 26 [(2, .int (nI (i + 1))), (1, .int (nI k)), (0, .ref 16)] [] (hp_si w3 380 (k * 19 + i) (ms_ A k i)) Q := by
      rcases Nat.lt_or_ge (i + 1) 19 with hi9 | hi9
      · exact ih k (i + 1) _ _ (by omega) hk hi9 H4 ff hA4 hO2 hj4 hT4
      · rw [show i + 1 = 19 by omega]
        refine fs_x VA H4 hk (fun hk7 => ?_) (fun hk7 => ?_)
        · exact ih (k + 1) 0 _ _ (by omega) hk7 (by omega) H4 ff hA4 hO2 hj4 (by rw [show 19 * (k + 1) + 0 = 19 * k + i + 1 by omega]; exact hT4)
        · exact h _ H4 ff (by rw [show 19 * a_n A = 19 * k + i + 1 by omega]; exact hT4)
    rw [← nI_1] at q1
    refine V_cV2 (mc' := 0) (ms' := 0) (M' := mX11_enter) 1 (sx_di dX11_fillShamTable 38 rfl) lX11_311 vX11_enter (by first | exact hB.k _ rfl | exact hB3.k _ rfl) (by decide) rfl (Nat.le_of_ble_eq_true rfl) ⟨Nat.le_of_ble_eq_true rfl, Nat.le_of_ble_eq_true rfl⟩ ⟨Nat.le_refl _, Nat.le_refl _⟩ ?_
    refine c_X11_enterN (j := ((k * 19) + i)) (by first | exact hB.k _ rfl | exact hB3.k _ rfl) (by first | exact hB.r _ _ rfl | exact hB3.r _ _ rfl) (by first | exact hB.k _ rfl | exact hB3.k _ rfl) (nx_add (nx_mul (rfl) (rfl)) (rfl)) (by omega) ?_
    refine V_inc (c := 1) (sx_di dX11_fillShamTable 39 rfl) (by decide) rfl (by decide) (rfl) ?_
    refine V_goto (tgt := 26) (sx_di dX11_fillShamTable 40 rfl) (by decide) ?_
    exact V_subk q1 ⟨rfl, rfl, rfl, trivial⟩
set_option maxHeartbeats 2000000 in
set_option maxRecDepth 20000 in
theorem e_fillSham {E : sxE} {A : AS} {w : hpW} {Q : Option Value → hpW → Prop} (VA : AV A) (H : CR A w) (h0 : 0 < a_n A) (h : ∀ w', CR A w' → fR w w' → TS_ A w' (19 * a_n A) → Q none w') : sx_C E mX11_fillShamTable 5 0 0 [.ref 16] w Q := by
  have hB := H.1
  refine C_of (by decide +kernel) (Nat.le_of_ble_eq_true rfl) ?_
  refine V_aload_n (i := 0) (sx_di dX11_fillShamTable 0 rfl) rfl rfl ?_
  refine V_getR (sx_di dX11_fillShamTable 1 rfl) fX11_64 (fun _ => rfl) (hB.k _ rfl) (hB.r _ _ rfl) ?_
  refine V_aload_n (i := 0) (sx_di dX11_fillShamTable 2 rfl) rfl rfl ?_
  refine V_getR (sx_di dX11_fillShamTable 3 rfl) fX11_60 (fun _ => rfl) (hB.k _ rfl) (hB.r _ _ rfl) ?_
  refine V_cV1 (mc' := 0) (ms' := 0) (M' := mX7_copyFrom) 2 (sx_di dX11_fillShamTable 4 rfl) lX11_293 vX7_copyFrom (hB.k _ rfl) (by decide) rfl (Nat.le_of_ble_eq_true rfl) ⟨Nat.le_of_ble_eq_true rfl, Nat.le_of_ble_eq_true rfl⟩ ⟨Nat.le_refl _, Nat.le_refl _⟩ ?_
  refine k_copyFrom VA H h0 (fun w2 H2 f2 _ hA2 => ?_)
  obtain ⟨t, hB2, ht, hst, hn, _, _⟩ := CRn VA H2
  have hn8 := VA.2.2.1.1
  refine V_iconst (v := 0) (sx_di dX11_fillShamTable 5 rfl) (by decide) ?_
  refine V_istore_n (i := 1) (sx_di dX11_fillShamTable 6 rfl) rfl (by decide) (rfl) ?_
  refine V_iload_n (i := 1) (sx_di dX11_fillShamTable 7 rfl) rfl rfl ?_
  refine V_aload_n (i := 0) (sx_di dX11_fillShamTable 8 rfl) rfl rfl ?_
  refine V_getR (sx_di dX11_fillShamTable 9 rfl) fX11_48 (fun _ => rfl) (hB2.k _ rfl) (ht) ?_
  refine V_cV0 (mc' := 0) (ms' := 0) (M' := mX8_houseCount) 2 (sx_di dX11_fillShamTable 10 rfl) lX11_308 vX8_houseCount (hst.1) (by decide) rfl (Nat.le_of_ble_eq_true rfl) ⟨Nat.le_of_ble_eq_true rfl, Nat.le_of_ble_eq_true rfl⟩ ⟨Nat.le_refl _, Nat.le_refl _⟩ ?_
  refine c_X8_houseCount (hst.1) (hc8 hn hn8) ?_
  refine V_iv (y := nI (a_n A)) (hn) ?_
  refine V_icN_ge (a := 0) (b := (a_n A)) (rfl) (rfl) (by omega) (by omega) (tgt := 82) (sx_di dX11_fillShamTable 11 rfl) (by decide) (fun h21 => absurd h21 (by omega)) (fun _ => ?_)
  refine V_iconst (v := 0) (sx_di dX11_fillShamTable 12 rfl) (by decide) ?_
  refine V_istore_n (i := 2) (sx_di dX11_fillShamTable 13 rfl) rfl (by decide) (rfl) ?_
  refine V_sub (ls' := [(2, .int (nI 0)), (1, .int (nI 0)), (0, .ref 16)]) ⟨rfl, rfl, rfl, trivial⟩ ?_
  exact fs_lp VA h (19 * a_n A) 0 0 w2 (a_r A) (by omega) h0 (by omega) H2 f2 hA2 VA.2.2.2.1.1 (fun _ _ => rfl) (fun _ _ _ _ hz => absurd hz (by omega))
set_option maxHeartbeats 2000000 in
set_option maxRecDepth 20000 in
theorem st_lp {E : sxE} {Q : Option Value → hpW → Prop} {A : AS} {w : hpW} (VA : AV A) (H : CR A w) (hT : TS_ A w (19 * a_n A)) {h : Nat} {mo : Int32} (hh : h < a_n A) (hq : Q (some (.int (lb_s A h mo 19))) w) : ∀ d i, i + d = 19 → V E mX11_stepsToAtMost (sx_rm 2 0 0) 0 0 0 0 5 [(4, .int (nI i)), (3, .int (lb_s A h mo i)), (2, .int mo), (1, .int (nI h)), (0, .ref 16)] [] w Q := by
  intro d
  have hn8 := VA.2.2.1.1
  have hB := H.1
  have hv := (CR_vw H (by omega)).1 h hh
  induction d with
  | zero =>
    intro i hi
    have e : i = 19 := by omega
    subst e
    refine V_iload (sx_di dX11_stepsToAtMost 4 rfl) rfl ?_
    refine V_bipush (v := 19) (sx_di dX11_stepsToAtMost 5 rfl) (by decide) ?_
    refine V_icN_ge (a := 19) (b := 19) (rfl) (rfl) (by omega) (by omega) (tgt := 67) (sx_di dX11_stepsToAtMost 6 rfl) (by decide) (fun _ => ?_) (fun h9 => absurd h9 (by omega))
    refine V_iload_n (i := 3) (sx_di dX11_stepsToAtMost 37 rfl) rfl rfl ?_
    refine V_iret (sx_di dX11_stepsToAtMost 38 rfl) rfl (Nat.le_refl _) (Nat.le_refl _) ?_
    exact hq
  | succ d ih =>
    intro i hi
    have e1 : lb_s A h mo (i + 1) = if ms_ A h i ≤ mo ∧ (lb_s A h mo i = -1 ∨ ac_ A h i < lb_s A h mo i) then ac_ A h i else lb_s A h mo i := rfl
    have q1 := ih (i + 1) (by omega)
    rw [e1, ← nI_1] at q1
    have et := hT h i hh (by omega) (by omega)
    refine V_iload (sx_di dX11_stepsToAtMost 4 rfl) rfl ?_
    refine V_bipush (v := 19) (sx_di dX11_stepsToAtMost 5 rfl) (by decide) ?_
    refine V_icN_ge (a := i) (b := 19) (rfl) (rfl) (by omega) (by omega) (tgt := 67) (sx_di dX11_stepsToAtMost 6 rfl) (by decide) (fun h9 => absurd h9 (by omega)) (fun _ => ?_)
    refine V_iload (sx_di dX11_stepsToAtMost 7 rfl) rfl ?_
    refine V_bipush (v := 9) (sx_di dX11_stepsToAtMost 8 rfl) (by decide) ?_
    refine V_isub (sx_di dX11_stepsToAtMost 9 rfl) ?_
    refine V_iv (y := sv_ i) (rfl) ?_
    refine V_aload_n (i := 0) (sx_di dX11_stepsToAtMost 10 rfl) rfl rfl ?_
    refine V_getR (sx_di dX11_stepsToAtMost 11 rfl) fX11_60 (fun _ => rfl) (hB.k _ rfl) (hB.r _ _ rfl) ?_
    refine V_getR (sx_di dX11_stepsToAtMost 12 rfl) fX11_189 (fun _ => rfl) (hB.k _ rfl) (hB.r _ _ rfl) ?_
    refine V_iload_n (i := 1) (sx_di dX11_stepsToAtMost 13 rfl) rfl rfl ?_
    refine V_ialdN (n := 8) (j := h) (sx_di dX11_stepsToAtMost 14 rfl) (hB.k _ rfl) (rfl) (by omega) (by omega) ?_
    refine V_iv (y := a_r A (8 + h)) (hv.2.1) ?_
    refine V_isub (sx_di dX11_stepsToAtMost 15 rfl) ?_
    refine V_mabs (sx_di dX11_stepsToAtMost 16 rfl) (sx_a4 121 rfl rfl) (sx_a4 0 rfl rfl) (sx_a1 22 rfl rfl) (sx_a4 1 rfl rfl) ⟨Nat.le_of_ble_eq_true rfl, Nat.le_of_ble_eq_true rfl, Nat.le_refl _, Nat.le_refl _⟩ ?_
    refine V_iv (y := ac_ A h i) (rfl) ?_
    refine V_istore (sx_di dX11_stepsToAtMost 17 rfl) (by decide) (rfl) ?_
    refine V_aload_n (i := 0) (sx_di dX11_stepsToAtMost 18 rfl) rfl rfl ?_
    refine V_iload_n (i := 1) (sx_di dX11_stepsToAtMost 19 rfl) rfl rfl ?_
    refine V_bipush (v := 19) (sx_di dX11_stepsToAtMost 20 rfl) (by decide) ?_
    refine V_imul (sx_di dX11_stepsToAtMost 21 rfl) ?_
    refine V_iload (sx_di dX11_stepsToAtMost 22 rfl) rfl ?_
    refine V_iadd (sx_di dX11_stepsToAtMost 23 rfl) ?_
    refine V_cV1 (mc' := 0) (ms' := 0) (M' := mX11_entry) 1 (sx_di dX11_stepsToAtMost 24 rfl) lX11_315 vX11_entry (hB.k _ rfl) (by decide) rfl (Nat.le_of_ble_eq_true rfl) ⟨Nat.le_of_ble_eq_true rfl, Nat.le_of_ble_eq_true rfl⟩ ⟨Nat.le_refl _, Nat.le_refl _⟩ ?_
    refine c_X11_entryN (j := ((h * 19) + i)) (hB.k _ rfl) (hB.r _ _ rfl) (hB.k _ rfl) (nx_add (nx_mul (rfl) (rfl)) (rfl)) (by omega) ?_
    refine V_iv (y := ms_ A h i) (et) ?_
    refine V_iload_n (i := 2) (sx_di dX11_stepsToAtMost 25 rfl) rfl rfl ?_
    refine V_icmp_gt (tgt := 61) (sx_di dX11_stepsToAtMost 26 rfl) (by decide) (fun h44 => ?_) (fun h44 => ?_)
    · rw [if_neg (fun z => absurd z.1 (Int32.not_le.mpr h44))] at q1
      refine V_inc (c := 1) (sx_di dX11_stepsToAtMost 35 rfl) (by decide) rfl (by decide) (rfl) ?_
      refine V_goto (tgt := 5) (sx_di dX11_stepsToAtMost 36 rfl) (by decide) ?_
      exact V_subk q1 ⟨rfl, rfl, rfl, rfl, rfl, trivial⟩
    · have h46 := Int32.not_lt.mp h44
      refine V_iload_n (i := 3) (sx_di dX11_stepsToAtMost 27 rfl) rfl rfl ?_
      refine V_iconst (v := -1) (sx_di dX11_stepsToAtMost 28 rfl) (by decide) ?_
      refine V_icmp_eq (tgt := 58) (sx_di dX11_stepsToAtMost 29 rfl) (by decide) (fun h49 => ?_) (fun h49 => ?_)
      · rw [if_pos ⟨h46, Or.inl h49⟩] at q1
        refine V_iload (sx_di dX11_stepsToAtMost 33 rfl) rfl ?_
        refine V_istore_n (i := 3) (sx_di dX11_stepsToAtMost 34 rfl) rfl (by decide) (rfl) ?_
        refine V_inc (c := 1) (sx_di dX11_stepsToAtMost 35 rfl) (by decide) rfl (by decide) (rfl) ?_
        refine V_goto (tgt := 5) (sx_di dX11_stepsToAtMost 36 rfl) (by decide) ?_
        exact V_subk q1 ⟨rfl, rfl, rfl, rfl, rfl, trivial⟩
      · refine V_iload (sx_di dX11_stepsToAtMost 30 rfl) rfl ?_
        refine V_iload_n (i := 3) (sx_di dX11_stepsToAtMost 31 rfl) rfl rfl ?_
        refine V_icmp_ge (tgt := 61) (sx_di dX11_stepsToAtMost 32 rfl) (by decide) (fun h55 => ?_) (fun h55 => ?_)
        · rw [if_neg (fun z => z.2.elim h49 (Int32.not_lt.mpr h55))] at q1
          refine V_inc (c := 1) (sx_di dX11_stepsToAtMost 35 rfl) (by decide) rfl (by decide) (rfl) ?_
          refine V_goto (tgt := 5) (sx_di dX11_stepsToAtMost 36 rfl) (by decide) ?_
          exact V_subk q1 ⟨rfl, rfl, rfl, rfl, rfl, trivial⟩
        · rw [if_pos ⟨h46, Or.inr (Int32.not_le.mp h55)⟩] at q1
          refine V_iload (sx_di dX11_stepsToAtMost 33 rfl) rfl ?_
          refine V_istore_n (i := 3) (sx_di dX11_stepsToAtMost 34 rfl) rfl (by decide) (rfl) ?_
          refine V_inc (c := 1) (sx_di dX11_stepsToAtMost 35 rfl) (by decide) rfl (by decide) (rfl) ?_
          refine V_goto (tgt := 5) (sx_di dX11_stepsToAtMost 36 rfl) (by decide) ?_
          exact V_subk q1 ⟨rfl, rfl, rfl, rfl, rfl, trivial⟩
set_option maxHeartbeats 2000000 in
set_option maxRecDepth 20000 in
theorem e_steps {E : sxE} {Q : Option Value → hpW → Prop} {A : AS} {w : hpW} (VA : AV A) (H : CR A w) (hT : TS_ A w (19 * a_n A)) {h : Nat} {mo : Int32} (hh : h < a_n A) (hq : Q (some (.int (lb_s A h mo 19))) w) : sx_C E mX11_stepsToAtMost 2 0 0 [.ref 16, .int (nI h), .int mo] w Q := by
  refine C_of (by decide +kernel) (Nat.le_of_ble_eq_true rfl) ?_
  refine V_iconst (v := -1) (sx_di dX11_stepsToAtMost 0 rfl) (by decide) ?_
  refine V_istore_n (i := 3) (sx_di dX11_stepsToAtMost 1 rfl) rfl (by decide) (rfl) ?_
  refine V_iconst (v := 0) (sx_di dX11_stepsToAtMost 2 rfl) (by decide) ?_
  refine V_istore (sx_di dX11_stepsToAtMost 3 rfl) (by decide) (rfl) ?_
  refine V_sub (ls' := [(4, .int (nI 0)), (3, .int (lb_s A h mo 0)), (2, .int mo), (1, .int (nI h)), (0, .ref 16)]) ⟨rfl, rfl, rfl, rfl, rfl, trivial⟩ ?_
  exact st_lp VA H hT hh hq 19 0 (by omega)
set_option maxHeartbeats 2000000 in
set_option maxRecDepth 20000 in
theorem sh_lp {E : sxE} {Q : Option Value → hpW → Prop} {A : AS} {w : hpW} (VA : AV A) (H : CR A w) (hT : TS_ A w (19 * a_n A)) {h : Nat} {md a0 : Int32} (hh : h < a_n A) (h1 : ob_ A h md (a_n A) = none → Q (some (.int (-1))) w) (h2 : ∀ s, ob_ A h md (a_n A) = some s → Q (some (.int (a0 + s))) w) : ∀ d k s, k + d = a_n A → ob_ A h md k = some s → V E mX11_shammingFor (sx_rm 3 0 0) 0 0 0 0 39 [(5, .int (nI k)), (4, .int (a0 + s)), (3, .int md), (1, .int (nI h)), (0, .ref 16)] [] w Q := by
  intro d
  have hn8 := VA.2.2.1.1
  obtain ⟨t, hB, ht, hst, hn, _, _⟩ := CRn VA H
  induction d with
  | zero =>
    intro k s hk hs
    have e : k = a_n A := by omega
    subst e
    refine V_iload (sx_di dX11_shammingFor 25 rfl) rfl ?_
    refine V_aload_n (i := 0) (sx_di dX11_shammingFor 26 rfl) rfl rfl ?_
    refine V_getR (sx_di dX11_shammingFor 27 rfl) fX11_48 (fun _ => rfl) (hB.k _ rfl) (ht) ?_
    refine V_cV0 (mc' := 0) (ms' := 0) (M' := mX8_houseCount) 2 (sx_di dX11_shammingFor 28 rfl) lX11_308 vX8_houseCount (hst.1) (by decide) rfl (Nat.le_of_ble_eq_true rfl) ⟨Nat.le_of_ble_eq_true rfl, Nat.le_of_ble_eq_true rfl⟩ ⟨Nat.le_refl _, Nat.le_refl _⟩ ?_
    refine c_X8_houseCount (hst.1) (hc8 hn hn8) ?_
    refine V_iv (y := nI (a_n A)) (hn) ?_
    refine V_icN_ge (a := (a_n A)) (b := (a_n A)) (rfl) (rfl) (by omega) (by omega) (tgt := 99) (sx_di dX11_shammingFor 29 rfl) (by decide) (fun _ => ?_) (fun h48 => absurd h48 (by omega))
    refine V_iload (sx_di dX11_shammingFor 56 rfl) rfl ?_
    refine V_iret (sx_di dX11_shammingFor 57 rfl) rfl (Nat.le_refl _) (Nat.le_refl _) ?_
    exact h2 s hs
  | succ d ih =>
    intro k s hk hs
    have hno : oc_ A h md k = -1 → Q (some (.int (-1))) w := fun hc => h1 (by
      have z := ob_no (ob_x hs hc) d
      rw [show k + 1 + d = a_n A by omega] at z
      exact z)
    have hye : ¬ oc_ A h md k = -1 → V E mX11_shammingFor (sx_rm 3 0 0) 0 0 0 0 39 [(5, .int (nI k + 1)), (4, .int (a0 + s + oc_ A h md k)), (3, .int md), (1, .int (nI h)), (0, .ref 16)] [] w Q := fun hc => by
      rw [nI_1, Int32.add_assoc]
      exact ih (k + 1) _ (by omega) (ob_y hs hc)
    refine V_iload (sx_di dX11_shammingFor 25 rfl) rfl ?_
    refine V_aload_n (i := 0) (sx_di dX11_shammingFor 26 rfl) rfl rfl ?_
    refine V_getR (sx_di dX11_shammingFor 27 rfl) fX11_48 (fun _ => rfl) (hB.k _ rfl) (ht) ?_
    refine V_cV0 (mc' := 0) (ms' := 0) (M' := mX8_houseCount) 2 (sx_di dX11_shammingFor 28 rfl) lX11_308 vX8_houseCount (hst.1) (by decide) rfl (Nat.le_of_ble_eq_true rfl) ⟨Nat.le_of_ble_eq_true rfl, Nat.le_of_ble_eq_true rfl⟩ ⟨Nat.le_refl _, Nat.le_refl _⟩ ?_
    refine c_X8_houseCount (hst.1) (hc8 hn hn8) ?_
    refine V_iv (y := nI (a_n A)) (hn) ?_
    refine V_icN_ge (a := k) (b := (a_n A)) (rfl) (rfl) (by omega) (by omega) (tgt := 99) (sx_di dX11_shammingFor 29 rfl) (by decide) (fun h48 => absurd h48 (by omega)) (fun _ => ?_)
    refine V_iload (sx_di dX11_shammingFor 30 rfl) rfl ?_
    refine V_iload_n (i := 1) (sx_di dX11_shammingFor 31 rfl) rfl rfl ?_
    refine V_icN_eq (a := k) (b := h) (rfl) (rfl) (by omega) (by omega) (tgt := 93) (sx_di dX11_shammingFor 32 rfl) (by decide) (fun h54 => ?_) (fun h54 => ?_)
    · have e0 : oc_ A h md k = 0 := if_pos h54
      rw [e0, Int32.add_zero] at hye
      refine V_inc (c := 1) (sx_di dX11_shammingFor 54 rfl) (by decide) rfl (by decide) (rfl) ?_
      refine V_goto (tgt := 39) (sx_di dX11_shammingFor 55 rfl) (by decide) ?_
      exact V_subk (hye (by decide)) ⟨rfl, rfl, rfl, rfl, rfl, trivial⟩
    · refine V_aload_n (i := 0) (sx_di dX11_shammingFor 33 rfl) rfl rfl ?_
      refine V_iload (sx_di dX11_shammingFor 34 rfl) rfl ?_
      refine V_iload (sx_di dX11_shammingFor 35 rfl) rfl ?_
      refine V_iload_n (i := 1) (sx_di dX11_shammingFor 36 rfl) rfl rfl ?_
      refine V_icN_ge (a := k) (b := h) (rfl) (rfl) (by omega) (by omega) (tgt := 72) (sx_di dX11_shammingFor 37 rfl) (by decide) (fun h63 => ?_) (fun h63 => ?_)
      · have e0 : oc_ A h md k = lb_s A k md 19 := by unfold oc_; rw [if_neg h54, if_neg (by omega)]
        rw [e0] at hno hye
        refine V_iload_n (i := 3) (sx_di dX11_shammingFor 42 rfl) rfl rfl ?_
        refine V_cV2 (mc' := 0) (ms' := 0) (M' := mX11_stepsToAtMost) 2 (sx_di dX11_shammingFor 43 rfl) lX11_321 vX11_stepsToAtMost (hB.k _ rfl) (by decide) rfl (Nat.le_of_ble_eq_true rfl) ⟨Nat.le_of_ble_eq_true rfl, Nat.le_of_ble_eq_true rfl⟩ ⟨Nat.le_refl _, Nat.le_refl _⟩ ?_
        refine e_steps VA H hT (by omega) ?_
        refine V_istore (sx_di dX11_shammingFor 44 rfl) (by decide) (rfl) ?_
        refine V_iload (sx_di dX11_shammingFor 45 rfl) rfl ?_
        refine V_iconst (v := -1) (sx_di dX11_shammingFor 46 rfl) (by decide) ?_
        refine V_icmp_ne (tgt := 86) (sx_di dX11_shammingFor 47 rfl) (by decide) (fun h81 => ?_) (fun h81 => ?_)
        · refine V_iload (sx_di dX11_shammingFor 50 rfl) rfl ?_
          refine V_iload (sx_di dX11_shammingFor 51 rfl) rfl ?_
          refine V_iadd (sx_di dX11_shammingFor 52 rfl) ?_
          refine V_istore (sx_di dX11_shammingFor 53 rfl) (by decide) (rfl) ?_
          refine V_inc (c := 1) (sx_di dX11_shammingFor 54 rfl) (by decide) rfl (by decide) (rfl) ?_
          refine V_goto (tgt := 39) (sx_di dX11_shammingFor 55 rfl) (by decide) ?_
          exact V_subk (hye h81) ⟨rfl, rfl, rfl, rfl, rfl, trivial⟩
        · refine V_iconst (v := -1) (sx_di dX11_shammingFor 48 rfl) (by decide) ?_
          refine V_iret (sx_di dX11_shammingFor 49 rfl) rfl (Nat.le_refl _) (Nat.le_refl _) ?_
          exact hno h81
      · have e0 : oc_ A h md k = lb_s A k (md - 1) 19 := by unfold oc_; rw [if_neg h54, if_pos (by omega)]
        rw [e0] at hno hye
        refine V_iload_n (i := 3) (sx_di dX11_shammingFor 38 rfl) rfl rfl ?_
        refine V_iconst (v := 1) (sx_di dX11_shammingFor 39 rfl) (by decide) ?_
        refine V_isub (sx_di dX11_shammingFor 40 rfl) ?_
        refine V_goto (tgt := 73) (sx_di dX11_shammingFor 41 rfl) (by decide) ?_
        refine V_cV2 (mc' := 0) (ms' := 0) (M' := mX11_stepsToAtMost) 2 (sx_di dX11_shammingFor 43 rfl) lX11_321 vX11_stepsToAtMost (hB.k _ rfl) (by decide) rfl (Nat.le_of_ble_eq_true rfl) ⟨Nat.le_of_ble_eq_true rfl, Nat.le_of_ble_eq_true rfl⟩ ⟨Nat.le_refl _, Nat.le_refl _⟩ ?_
        refine e_steps VA H hT (by omega) ?_
        refine V_istore (sx_di dX11_shammingFor 44 rfl) (by decide) (rfl) ?_
        refine V_iload (sx_di dX11_shammingFor 45 rfl) rfl ?_
        refine V_iconst (v := -1) (sx_di dX11_shammingFor 46 rfl) (by decide) ?_
        refine V_icmp_ne (tgt := 86) (sx_di dX11_shammingFor 47 rfl) (by decide) (fun h81 => ?_) (fun h81 => ?_)
        · refine V_iload (sx_di dX11_shammingFor 50 rfl) rfl ?_
          refine V_iload (sx_di dX11_shammingFor 51 rfl) rfl ?_
          refine V_iadd (sx_di dX11_shammingFor 52 rfl) ?_
          refine V_istore (sx_di dX11_shammingFor 53 rfl) (by decide) (rfl) ?_
          refine V_inc (c := 1) (sx_di dX11_shammingFor 54 rfl) (by decide) rfl (by decide) (rfl) ?_
          refine V_goto (tgt := 39) (sx_di dX11_shammingFor 55 rfl) (by decide) ?_
          exact V_subk (hye h81) ⟨rfl, rfl, rfl, rfl, rfl, trivial⟩
        · refine V_iconst (v := -1) (sx_di dX11_shammingFor 48 rfl) (by decide) ?_
          refine V_iret (sx_di dX11_shammingFor 49 rfl) rfl (Nat.le_refl _) (Nat.le_refl _) ?_
          exact hno h81
set_option maxHeartbeats 2000000 in
set_option maxRecDepth 20000 in
theorem e_shamming {E : sxE} {Q : Option Value → hpW → Prop} {A : AS} {w : hpW} (VA : AV A) (H : CR A w) (hT : TS_ A w (19 * a_n A)) {h i : Nat} (hh : h < a_n A) (hi : i < 19) (hq : Q (some (.int (om_ (sf1 A h i)))) w) : sx_C E mX11_shammingFor 3 0 0 [.ref 16, .int (nI h), .int (sv_ i)] w Q := by
  have hn8 := VA.2.2.1.1
  have hB := H.1
  have hv := (CR_vw H (by omega)).1 h hh
  have et := hT h i hh hi (by omega)
  have ei : nI (h * 19) + sv_ i + 9 = nI (h * 19 + i) := by
    unfold sv_
    rw [Int32.add_assoc, Int32.sub_add_cancel, nI_add]
  unfold sf1 at hq
  refine C_of (by decide +kernel) (Nat.le_of_ble_eq_true rfl) ?_
  refine V_aload_n (i := 0) (sx_di dX11_shammingFor 0 rfl) rfl rfl ?_
  refine V_iload_n (i := 1) (sx_di dX11_shammingFor 1 rfl) rfl rfl ?_
  refine V_bipush (v := 19) (sx_di dX11_shammingFor 2 rfl) (by decide) ?_
  refine V_imul (sx_di dX11_shammingFor 3 rfl) ?_
  refine V_iv (y := nI (h * 19)) (pk_mul h 19) ?_
  refine V_iload_n (i := 2) (sx_di dX11_shammingFor 4 rfl) rfl rfl ?_
  refine V_iadd (sx_di dX11_shammingFor 5 rfl) ?_
  refine V_bipush (v := 9) (sx_di dX11_shammingFor 6 rfl) (by decide) ?_
  refine V_iadd (sx_di dX11_shammingFor 7 rfl) ?_
  refine V_iv (y := nI (h * 19 + i)) (ei) ?_
  refine V_cV1 (mc' := 0) (ms' := 0) (M' := mX11_entry) 1 (sx_di dX11_shammingFor 8 rfl) lX11_315 vX11_entry (hB.k _ rfl) (by decide) rfl (Nat.le_of_ble_eq_true rfl) ⟨Nat.le_of_ble_eq_true rfl, Nat.le_of_ble_eq_true rfl⟩ ⟨Nat.le_refl _, Nat.le_refl _⟩ ?_
  refine c_X11_entryN (j := (h * 19 + i)) (hB.k _ rfl) (hB.r _ _ rfl) (hB.k _ rfl) (rfl) (by omega) ?_
  refine V_iv (y := ms_ A h i) (et) ?_
  refine V_istore_n (i := 3) (sx_di dX11_shammingFor 9 rfl) rfl (by decide) (rfl) ?_
  refine V_iload_n (i := 3) (sx_di dX11_shammingFor 10 rfl) rfl rfl ?_
  refine V_if_ne (tgt := 20) (sx_di dX11_shammingFor 11 rfl) (by decide) (fun h15 => ?_) (fun h15 => ?_)
  · rw [if_neg h15] at hq
    refine V_iload_n (i := 2) (sx_di dX11_shammingFor 14 rfl) rfl rfl ?_
    refine V_aload_n (i := 0) (sx_di dX11_shammingFor 15 rfl) rfl rfl ?_
    refine V_getR (sx_di dX11_shammingFor 16 rfl) fX11_60 (fun _ => rfl) (hB.k _ rfl) (hB.r _ _ rfl) ?_
    refine V_getR (sx_di dX11_shammingFor 17 rfl) fX11_189 (fun _ => rfl) (hB.k _ rfl) (hB.r _ _ rfl) ?_
    refine V_iload_n (i := 1) (sx_di dX11_shammingFor 18 rfl) rfl rfl ?_
    refine V_ialdN (n := 8) (j := h) (sx_di dX11_shammingFor 19 rfl) (hB.k _ rfl) (rfl) (by omega) (by omega) ?_
    refine V_iv (y := a_r A (8 + h)) (hv.2.1) ?_
    refine V_isub (sx_di dX11_shammingFor 20 rfl) ?_
    refine V_mabs (sx_di dX11_shammingFor 21 rfl) (sx_a4 121 rfl rfl) (sx_a4 0 rfl rfl) (sx_a1 22 rfl rfl) (sx_a4 1 rfl rfl) ⟨Nat.le_of_ble_eq_true rfl, Nat.le_of_ble_eq_true rfl, Nat.le_refl _, Nat.le_refl _⟩ ?_
    refine V_iv (y := ac_ A h i) (rfl) ?_
    refine V_istore (sx_di dX11_shammingFor 22 rfl) (by decide) (rfl) ?_
    refine V_iconst (v := 0) (sx_di dX11_shammingFor 23 rfl) (by decide) ?_
    refine V_istore (sx_di dX11_shammingFor 24 rfl) (by decide) (rfl) ?_
    refine V_sub (ls' := [(5, .int (nI 0)), (4, .int (ac_ A h i)), (3, .int (ms_ A h i)), (1, .int (nI h)), (0, .ref 16)]) ⟨rfl, rfl, rfl, rfl, rfl, trivial⟩ ?_
    have z := sh_lp (E := E) (Q := Q) VA H hT (md := ms_ A h i) (a0 := ac_ A h i) hh (fun e => by rw [e] at hq; exact hq) (fun s e => by rw [e] at hq; exact hq) (a_n A) 0 0 (by omega) rfl
    rw [Int32.add_zero] at z
    exact z
  · rw [if_pos h15] at hq
    refine V_iconst (v := -1) (sx_di dX11_shammingFor 12 rfl) (by decide) ?_
    refine V_iret (sx_di dX11_shammingFor 13 rfl) rfl (Nat.le_refl _) (Nat.le_refl _) ?_
    exact hq
set_option maxHeartbeats 2000000 in
set_option maxRecDepth 20000 in
theorem lsC_lp {E : sxE} {Q : Option Value → hpW → Prop} {A : AS} {w : hpW} (VA : AV A) (H : CR A w) (hT : TS_ A w (19 * a_n A)) {h : Nat} {y : Int32} (hh : h < a_n A) (h1 : lst_ A h 19 = none → Q (some (.int (-1000000))) w) (h2 : ∀ p, lst_ A h 19 = some p → Q (some (.int (if y = 0 then p.1 else p.2))) w) : ∀ d i, i + d = 19 → V E mX11_least (sx_rm 6 0 0) 0 0 0 0 33 [(5, .int (sv_ i)), (4, .int (l2_ (lst_ A h i) 0)), (3, .int (l1_ (lst_ A h i) (-1))), (2, .int y), (1, .int (nI h)), (0, .ref 16)] [] w Q := by
  intro d
  have hn8 := VA.2.2.1.1
  have hB := H.1
  induction d with
  | zero =>
    intro i hi
    have e : i = 19 := by omega
    subst e
    have hz : l1_ (lst_ A h 19) (-1) = -1 → lst_ A h 19 = none := fun z => by
      cases hl : lst_ A h 19 with
      | none => rfl
      | some p =>
        obtain ⟨⟨q, hq, e⟩, _⟩ := lst_n VA hh 19 (by omega) p hl
        rw [hl] at z
        have z : p.1 = -1 := z
        rw [e] at z
        exact absurd z (nI_m1 (by omega))
    have hy : ¬ l1_ (lst_ A h 19) (-1) = -1 → Q (some (.int (if y = 0 then l1_ (lst_ A h 19) (-1) else l2_ (lst_ A h 19) 0))) w := fun z => by
      cases hl : lst_ A h 19 with
      | none => rw [hl] at z; exact absurd rfl z
      | some p => exact h2 p hl
    refine V_iload (sx_di dX11_least 19 rfl) rfl ?_
    refine V_bipush (v := 9) (sx_di dX11_least 20 rfl) (by decide) ?_
    refine V_icmp_gt (tgt := 79) (sx_di dX11_least 21 rfl) (by decide) (fun _ => ?_) (fun h37 => absurd ((sv_9 (by omega)).mpr (by omega)) h37)
    refine V_iload_n (i := 3) (sx_di dX11_least 42 rfl) rfl rfl ?_
    refine V_iconst (v := -1) (sx_di dX11_least 43 rfl) (by decide) ?_
    refine V_icmp_ne (tgt := 87) (sx_di dX11_least 44 rfl) (by decide) (fun h81 => ?_) (fun h81 => ?_)
    · have z := hy h81
      refine V_iload_n (i := 2) (sx_di dX11_least 47 rfl) rfl rfl ?_
      refine V_if_ne (tgt := 95) (sx_di dX11_least 48 rfl) (by decide) (fun h88 => ?_) (fun h88 => ?_)
      · rw [if_neg h88] at z
        refine V_iload (sx_di dX11_least 51 rfl) rfl ?_
        refine V_iret (sx_di dX11_least 52 rfl) rfl (Nat.le_refl _) (Nat.le_refl _) ?_
        exact z
      · rw [if_pos h88] at z
        refine V_iload_n (i := 3) (sx_di dX11_least 49 rfl) rfl rfl ?_
        refine V_goto (tgt := 97) (sx_di dX11_least 50 rfl) (by decide) ?_
        refine V_iret (sx_di dX11_least 52 rfl) rfl (Nat.le_refl _) (Nat.le_refl _) ?_
        exact z
    · refine V_ldc (sx_di dX11_least 45 rfl) kX11_217 ?_
      refine V_iret (sx_di dX11_least 46 rfl) rfl (Nat.le_refl _) (Nat.le_refl _) ?_
      exact h1 (hz h81)
  | succ d ih =>
    intro i hi
    have es := sv_s (i := i) (by omega)
    have e1 := lst_s A h i
    have q0 := ih (i + 1) (by omega)
    rw [← es] at q0
    have hsame : sf1 A h i = none → lst_ A h (i + 1) = lst_ A h i := fun z => by rw [e1, z]
    have hst : ∀ c, sf1 A h i = some c → (l1_ (lst_ A h i) (-1) = -1 ∨ c < l1_ (lst_ A h i) (-1)) → lst_ A h (i + 1) = some (c, sv_ i) := fun c z hx => by
      rw [e1, z]
      cases hl : lst_ A h i with
      | none => rfl
      | some p =>
        rw [hl] at hx
        have hx := hx.resolve_left (by
          obtain ⟨⟨q, hq, e⟩, _⟩ := lst_n VA hh i (by omega) p hl
          show ¬ p.1 = -1
          rw [e]
          exact nI_m1 (by omega))
        exact if_pos hx
    have hkeep : ∀ c, sf1 A h i = some c → ¬ (l1_ (lst_ A h i) (-1) = -1 ∨ c < l1_ (lst_ A h i) (-1)) → lst_ A h (i + 1) = lst_ A h i := fun c z hx => by
      rw [e1, z]
      cases hl : lst_ A h i with
      | none => rw [hl] at hx; exact absurd (Or.inl rfl) hx
      | some p =>
        rw [hl] at hx
        exact if_neg (fun q => hx (Or.inr q))
    have hom : om_ (sf1 A h i) = -1 → sf1 A h i = none := fun z => by
      cases hl : sf1 A h i with
      | none => rfl
      | some c =>
        obtain ⟨q, hq, e⟩ := sf1_n VA hh (by omega) hl
        rw [hl] at z
        have z : c = -1 := z
        rw [e] at z
        exact absurd z (nI_m1 (by omega))
    have hos : ¬ om_ (sf1 A h i) = -1 → sf1 A h i = some (om_ (sf1 A h i)) := fun z => by
      cases hl : sf1 A h i with
      | none => rw [hl] at z; exact absurd rfl z
      | some c => rfl
    clear e1
    refine V_iload (sx_di dX11_least 19 rfl) rfl ?_
    refine V_bipush (v := 9) (sx_di dX11_least 20 rfl) (by decide) ?_
    refine V_icmp_gt (tgt := 79) (sx_di dX11_least 21 rfl) (by decide) (fun h37 => absurd h37 (fun z => absurd ((sv_9 (by omega)).mp z) (by omega))) (fun _ => ?_)
    refine V_aload_n (i := 0) (sx_di dX11_least 22 rfl) rfl rfl ?_
    refine V_iload_n (i := 1) (sx_di dX11_least 23 rfl) rfl rfl ?_
    refine V_iload (sx_di dX11_least 24 rfl) rfl ?_
    refine V_cV2 (mc' := 0) (ms' := 0) (M' := mX11_shammingFor) 3 (sx_di dX11_least 25 rfl) lX11_305 vX11_shammingFor (hB.k _ rfl) (by decide) rfl (Nat.le_of_ble_eq_true rfl) ⟨Nat.le_of_ble_eq_true rfl, Nat.le_of_ble_eq_true rfl⟩ ⟨Nat.le_refl _, Nat.le_refl _⟩ ?_
    refine e_shamming VA H hT hh (by omega) ?_
    refine V_istore (sx_di dX11_least 26 rfl) (by decide) (rfl) ?_
    refine V_iload (sx_di dX11_least 27 rfl) rfl ?_
    refine V_iconst (v := -1) (sx_di dX11_least 28 rfl) (by decide) ?_
    refine V_icmp_eq (tgt := 73) (sx_di dX11_least 29 rfl) (by decide) (fun h52 => ?_) (fun h52 => ?_)
    · have e9 := hsame (hom h52)
      rw [e9] at q0
      refine V_inc (c := 1) (sx_di dX11_least 40 rfl) (by decide) rfl (by decide) (rfl) ?_
      refine V_goto (tgt := 33) (sx_di dX11_least 41 rfl) (by decide) ?_
      exact V_subk q0 ⟨rfl, rfl, rfl, rfl, rfl, rfl, trivial⟩
    · have hs := hos h52
      refine V_iload_n (i := 3) (sx_di dX11_least 30 rfl) rfl rfl ?_
      refine V_iconst (v := -1) (sx_di dX11_least 31 rfl) (by decide) ?_
      refine V_icmp_eq (tgt := 66) (sx_di dX11_least 32 rfl) (by decide) (fun h57 => ?_) (fun h57 => ?_)
      · have e9 := hst _ hs (Or.inl h57)
        rw [e9] at q0
        refine V_iload (sx_di dX11_least 36 rfl) rfl ?_
        refine V_istore_n (i := 3) (sx_di dX11_least 37 rfl) rfl (by decide) (rfl) ?_
        refine V_iload (sx_di dX11_least 38 rfl) rfl ?_
        refine V_istore (sx_di dX11_least 39 rfl) (by decide) (rfl) ?_
        refine V_inc (c := 1) (sx_di dX11_least 40 rfl) (by decide) rfl (by decide) (rfl) ?_
        refine V_goto (tgt := 33) (sx_di dX11_least 41 rfl) (by decide) ?_
        exact V_subk q0 ⟨rfl, rfl, rfl, rfl, rfl, rfl, trivial⟩
      · refine V_iload (sx_di dX11_least 33 rfl) rfl ?_
        refine V_iload_n (i := 3) (sx_di dX11_least 34 rfl) rfl rfl ?_
        refine V_icmp_ge (tgt := 73) (sx_di dX11_least 35 rfl) (by decide) (fun h63 => ?_) (fun h63 => ?_)
        · have e9 := hkeep _ hs (fun z => z.elim h57 (Int32.not_lt.mpr h63))
          rw [e9] at q0
          refine V_inc (c := 1) (sx_di dX11_least 40 rfl) (by decide) rfl (by decide) (rfl) ?_
          refine V_goto (tgt := 33) (sx_di dX11_least 41 rfl) (by decide) ?_
          exact V_subk q0 ⟨rfl, rfl, rfl, rfl, rfl, rfl, trivial⟩
        · have e9 := hst _ hs (Or.inr (Int32.not_le.mp h63))
          rw [e9] at q0
          refine V_iload (sx_di dX11_least 36 rfl) rfl ?_
          refine V_istore_n (i := 3) (sx_di dX11_least 37 rfl) rfl (by decide) (rfl) ?_
          refine V_iload (sx_di dX11_least 38 rfl) rfl ?_
          refine V_istore (sx_di dX11_least 39 rfl) (by decide) (rfl) ?_
          refine V_inc (c := 1) (sx_di dX11_least 40 rfl) (by decide) rfl (by decide) (rfl) ?_
          refine V_goto (tgt := 33) (sx_di dX11_least 41 rfl) (by decide) ?_
          exact V_subk q0 ⟨rfl, rfl, rfl, rfl, rfl, rfl, trivial⟩
set_option maxHeartbeats 2000000 in
set_option maxRecDepth 20000 in
theorem oC_least {E : sxE} {A : AS} {w : hpW} (VA : AV A) (H : CR A w) (x y : Int32) : oC E mX11_least 6 [.ref 16, .int x, .int y] w A (q_least A x y) A := by
  intro Q h
  obtain ⟨t, hB, ht, hst, hn, _, _⟩ := CRn VA H
  have hn8 := VA.2.2.1.1
  unfold q_least at h
  refine C_of (by decide +kernel) (Nat.le_of_ble_eq_true rfl) ?_
  refine V_aload_n (i := 0) (sx_di dX11_least 0 rfl) rfl rfl ?_
  refine V_iload_n (i := 1) (sx_di dX11_least 1 rfl) rfl rfl ?_
  refine V_cV1 (mc' := 0) (ms' := 0) (M' := mX11_isHouse) 1 (sx_di dX11_least 2 rfl) lX11_170 vX11_isHouse (hB.k _ rfl) (by decide) rfl (Nat.le_of_ble_eq_true rfl) ⟨Nat.le_of_ble_eq_true rfl, Nat.le_of_ble_eq_true rfl⟩ ⟨Nat.le_refl _, Nat.le_refl _⟩ ?_
  refine c_X11_isHouse hB ht hst hn hn8 ?_
  refine V_if_eq (tgt := 17) (sx_di dX11_least 3 rfl) (by decide) (fun h5 => ?_) (fun h5 => ?_)
  · rw [if_pos (Or.inl h5)] at h
    refine V_ldc (sx_di dX11_least 9 rfl) kX11_217 ?_
    refine V_iret (sx_di dX11_least 10 rfl) rfl (Nat.le_refl _) (Nat.le_refl _) ?_
    exact h w H fR_rf
  · refine V_iload_n (i := 2) (sx_di dX11_least 4 rfl) rfl rfl ?_
    refine V_if_lt (tgt := 17) (sx_di dX11_least 5 rfl) (by decide) (fun h9 => ?_) (fun h9 => ?_)
    · rw [if_pos (Or.inr (Or.inl h9))] at h
      refine V_ldc (sx_di dX11_least 9 rfl) kX11_217 ?_
      refine V_iret (sx_di dX11_least 10 rfl) rfl (Nat.le_refl _) (Nat.le_refl _) ?_
      exact h w H fR_rf
    · refine V_iload_n (i := 2) (sx_di dX11_least 6 rfl) rfl rfl ?_
      refine V_iconst (v := 1) (sx_di dX11_least 7 rfl) (by decide) ?_
      refine V_icmp_le (tgt := 20) (sx_di dX11_least 8 rfl) (by decide) (fun h14 => ?_) (fun h14 => ?_)
      · rw [if_neg (fun z => z.elim h5 (fun z => z.elim h9 (Int32.not_lt.mpr h14)))] at h
        obtain ⟨k, hk, rfl⟩ := ih_ye (by omega) h5
        rw [nI_clamp (by omega)] at h
        refine V_aload_n (i := 0) (sx_di dX11_least 11 rfl) rfl rfl ?_
        refine V_cV0 (mc' := 0) (ms' := 0) (M' := mX11_fillShamTable) 5 (sx_di dX11_least 12 rfl) lX11_302 vX11_fillShamTable (hB.k _ rfl) (by decide) rfl (Nat.le_of_ble_eq_true rfl) ⟨Nat.le_of_ble_eq_true rfl, Nat.le_of_ble_eq_true rfl⟩ ⟨Nat.le_refl _, Nat.le_refl _⟩ ?_
        refine e_fillSham VA H (by omega) (fun w2 H2 f2 hT => ?_)
        refine V_iconst (v := -1) (sx_di dX11_least 13 rfl) (by decide) ?_
        refine V_istore_n (i := 3) (sx_di dX11_least 14 rfl) rfl (by decide) (rfl) ?_
        refine V_iconst (v := 0) (sx_di dX11_least 15 rfl) (by decide) ?_
        refine V_istore (sx_di dX11_least 16 rfl) (by decide) (rfl) ?_
        refine V_bipush (v := -9) (sx_di dX11_least 17 rfl) (by decide) ?_
        refine V_istore (sx_di dX11_least 18 rfl) (by decide) (rfl) ?_
        refine V_sub (ls' := [(5, .int (sv_ 0)), (4, .int 0), (3, .int (-1)), (2, .int y), (1, .int (nI k)), (0, .ref 16)]) ⟨rfl, rfl, rfl, rfl, rfl, rfl, trivial⟩ ?_
        exact lsC_lp VA H2 hT hk (fun e => by have z := h w2 H2 f2; rw [e] at z; exact z) (fun p e => by have z := h w2 H2 f2; rw [e] at z; exact z) 19 0 (by omega)
      · rw [if_pos (Or.inr (Or.inr (Int32.not_le.mp h14)))] at h
        refine V_ldc (sx_di dX11_least 9 rfl) kX11_217 ?_
        refine V_iret (sx_di dX11_least 10 rfl) rfl (Nat.le_refl _) (Nat.le_refl _) ?_
        exact h w H fR_rf

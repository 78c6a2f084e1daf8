/-! odds: the class -/
def mi9 (r : Nat → Int32) (k : Nat) : Nat → Int32 := fun j => if j < k then mn_ 9 (r j + 1) else r j
theorem mi9_0 (r : Nat → Int32) : mi9 r 0 = r := by funext j; unfold mi9; rw [if_neg (by omega)]
theorem mi9_s (r : Nat → Int32) (k : Nat) : up_ (mi9 r k) k (mn_ 9 (r k + 1)) = mi9 r (k + 1) := by
  funext j
  unfold up_ mi9
  by_cases h : j = k
  · rw [if_pos h, if_pos (by omega), h]
  · rw [if_neg h]
    by_cases h2 : j < k
    · rw [if_pos h2, if_pos (by omega)]
    · rw [if_neg h2, if_neg (by omega)]
theorem OKF_m9 {n m : Nat} {r : Nat → Int32} (hn : n ≤ 8) (H : OKF n m r) : ∀ k, k ≤ n → OKF n m (mi9 r k)
  | 0, _ => by rw [mi9_0]; exact H
  | k + 1, hk => by
    rw [← mi9_s]
    obtain ⟨⟨q, hq, eq⟩, _⟩ := H.1.1 k (by omega)
    obtain ⟨p, hp, ep⟩ := mn9 hq
    rw [eq, ep]
    exact OKF_mi hn (by omega) (OKF_m9 hn H k (by omega)) hp
theorem fo1_e {A : AS} {h k : Nat} (hh : h < k) (hk : k ≤ 8) : mv2 A (mi9 (a_r A) k) h = fo1 A h := mv2_cg (fun j hj => by
  unfold mi9 up_
  by_cases e : j = h
  · rw [if_pos (by omega), if_pos e, e]
  · rw [if_neg (by omega), if_neg e])
set_option maxHeartbeats 2000000 in
set_option maxRecDepth 20000 in
theorem ow_lp {E : sxE} {A : AS} {w : hpW} {Q : Option Value → hpW → Prop} (VA : AV A) {m0 : Nat → Int32} (h : ∀ w', CR A w' → fR w w' → TW (mv2 A (a_r A)) (fo1 A) w' (a_n A) → Q none w') : ∀ d k w1, k + d = a_n A → CR A w1 → fR w w1 → AW A w1 m0 (mi9 (a_r A) k) → TW (mv2 A (a_r A)) (fo1 A) w1 k → V E mX11_fillOddsWorths (sx_rm 5 0 0) 0 0 0 0 13 [(1, .int (nI k)), (0, .ref 16)] [] w1 Q := by
  intro d
  have hn8 := VA.2.2.1.1
  induction d with
  | zero =>
    intro k w1 hk H1 f1 hA hT
    obtain ⟨t, hB, ht, hst, hn, _, _⟩ := CRn VA H1
    have e : k = a_n A := by omega
    subst e
    refine V_iload_n (i := 1) (sx_di dX11_fillOddsWorths 7 rfl) rfl rfl ?_
    refine V_aload_n (i := 0) (sx_di dX11_fillOddsWorths 8 rfl) rfl rfl ?_
    refine V_getR (sx_di dX11_fillOddsWorths 9 rfl) fX11_48 (fun _ => rfl) (hB.k _ rfl) (ht) ?_
    refine V_cV0 (mc' := 0) (ms' := 0) (M' := mX8_houseCount) 2 (sx_di dX11_fillOddsWorths 10 rfl) lX11_308 vX8_houseCount (hst.1) (by decide) rfl (Nat.le_of_ble_eq_true rfl) ⟨Nat.le_of_ble_eq_true rfl, Nat.le_of_ble_eq_true rfl⟩ ⟨Nat.le_refl _, Nat.le_refl _⟩ ?_
    refine c_X8_houseCount (hst.1) (hc8 hn hn8) ?_
    refine V_iv (y := nI (a_n A)) (hn) ?_
    refine V_icN_ge (a := (a_n A)) (b := (a_n A)) (rfl) (rfl) (by omega) (by omega) (tgt := 97) (sx_di dX11_fillOddsWorths 11 rfl) (by decide) (fun _ => ?_) (fun h21 => absurd h21 (by omega))
    refine V_vret (sx_di dX11_fillOddsWorths 50 rfl) rfl (Nat.le_refl _) (Nat.le_refl _) ?_
    exact h w1 H1 f1 hT
  | succ d ih =>
    intro k w1 hk H1 f1 hA hT
    obtain ⟨t, hB, ht, hst, hn, _, _⟩ := CRn VA H1
    have hv := (CR_vw H1 (by omega)).1 k (by omega)
    obtain ⟨H2, f2, t2, hA2⟩ := AW_mind (x := mn_ 9 (a_r A k + 1)) (h := k) VA H1 hA (by omega)
    rw [mi9_s] at hA2
    have hO := (OKF_m9 hn8 VA.2.2.2.1.1 (k + 1) (by omega)).1
    refine V_iload_n (i := 1) (sx_di dX11_fillOddsWorths 7 rfl) rfl rfl ?_
    refine V_aload_n (i := 0) (sx_di dX11_fillOddsWorths 8 rfl) rfl rfl ?_
    refine V_getR (sx_di dX11_fillOddsWorths 9 rfl) fX11_48 (fun _ => rfl) (by first | exact hB.k _ rfl | exact hB3.k _ rfl | exact hB5.k _ rfl) (ht) ?_
    refine V_cV0 (mc' := 0) (ms' := 0) (M' := mX8_houseCount) 2 (sx_di dX11_fillOddsWorths 10 rfl) lX11_308 vX8_houseCount (hst.1) (by decide) rfl (Nat.le_of_ble_eq_true rfl) ⟨Nat.le_of_ble_eq_true rfl, Nat.le_of_ble_eq_true rfl⟩ ⟨Nat.le_refl _, Nat.le_refl _⟩ ?_
    refine c_X8_houseCount (hst.1) (hc8 hn hn8) ?_
    refine V_iv (y := nI (a_n A)) (hn) ?_
    refine V_icN_ge (a := k) (b := (a_n A)) (rfl) (rfl) (by omega) (by omega) (tgt := 97) (sx_di dX11_fillOddsWorths 11 rfl) (by decide) (fun h21 => absurd h21 (by omega)) (fun _ => ?_)
    refine V_aload_n (i := 0) (sx_di dX11_fillOddsWorths 12 rfl) rfl rfl ?_
    refine V_getR (sx_di dX11_fillOddsWorths 13 rfl) fX11_64 (fun _ => rfl) (by first | exact hB.k _ rfl | exact hB3.k _ rfl | exact hB5.k _ rfl) (by first | exact hB.r _ _ rfl | exact hB3.r _ _ rfl | exact hB5.r _ _ rfl) ?_
    refine V_getR (sx_di dX11_fillOddsWorths 14 rfl) fX11_177 (fun _ => rfl) (by first | exact hB.k _ rfl | exact hB3.k _ rfl | exact hB5.k _ rfl) (by first | exact hB.r _ _ rfl | exact hB3.r _ _ rfl | exact hB5.r _ _ rfl) ?_
    refine V_iload_n (i := 1) (sx_di dX11_fillOddsWorths 15 rfl) rfl rfl ?_
    refine V_bipush (v := 9) (sx_di dX11_fillOddsWorths 16 rfl) (by decide) ?_
    refine V_aload_n (i := 0) (sx_di dX11_fillOddsWorths 17 rfl) rfl rfl ?_
    refine V_getR (sx_di dX11_fillOddsWorths 18 rfl) fX11_60 (fun _ => rfl) (by first | exact hB.k _ rfl | exact hB3.k _ rfl | exact hB5.k _ rfl) (by first | exact hB.r _ _ rfl | exact hB3.r _ _ rfl | exact hB5.r _ _ rfl) ?_
    refine V_getR (sx_di dX11_fillOddsWorths 19 rfl) fX11_177 (fun _ => rfl) (by first | exact hB.k _ rfl | exact hB3.k _ rfl | exact hB5.k _ rfl) (by first | exact hB.r _ _ rfl | exact hB3.r _ _ rfl | exact hB5.r _ _ rfl) ?_
    refine V_iload_n (i := 1) (sx_di dX11_fillOddsWorths 20 rfl) rfl rfl ?_
    refine V_ialdN (n := 8) (j := k) (sx_di dX11_fillOddsWorths 21 rfl) (by first | exact hB.k _ rfl | exact hB3.k _ rfl | exact hB5.k _ rfl) (rfl) (by omega) (by omega) ?_
    refine V_iv (y := a_r A k) (hv.1) ?_
    refine V_iconst (v := 1) (sx_di dX11_fillOddsWorths 22 rfl) (by decide) ?_
    refine V_iadd (sx_di dX11_fillOddsWorths 23 rfl) ?_
    refine V_mmin (sx_di dX11_fillOddsWorths 24 rfl) (sx_a3 134 rfl rfl) (sx_a3 135 rfl rfl) (sx_a1 22 rfl rfl) (sx_a3 136 rfl rfl) ⟨Nat.le_of_ble_eq_true rfl, Nat.le_of_ble_eq_true rfl, Nat.le_refl _, Nat.le_refl _⟩ ?_
    refine V_iv (y := mn_ 9 (a_r A k + 1)) (rfl) ?_
    refine V_iastN (n := 8) (j := k) (sx_di dX11_fillOddsWorths 25 rfl) (by first | exact hB.k _ rfl | exact hB3.k _ rfl | exact hB5.k _ rfl) (rfl) (by omega) (by omega) ?_
    refine V_aload_n (i := 0) (sx_di dX11_fillOddsWorths 26 rfl) rfl rfl ?_
    refine V_getR (sx_di dX11_fillOddsWorths 27 rfl) fX11_102 (fun _ => rfl) (by first | exact hB.k _ rfl | exact hB3.k _ rfl | exact hB5.k _ rfl) (by first | exact hB.r _ _ rfl | exact hB3.r _ _ rfl | exact hB5.r _ _ rfl) ?_
    refine V_iload_n (i := 1) (sx_di dX11_fillOddsWorths 28 rfl) rfl rfl ?_
    refine V_aload_n (i := 0) (sx_di dX11_fillOddsWorths 29 rfl) rfl rfl ?_
    refine V_getR (sx_di dX11_fillOddsWorths 30 rfl) fX11_60 (fun _ => rfl) (by first | exact hB.k _ rfl | exact hB3.k _ rfl | exact hB5.k _ rfl) (by first | exact hB.r _ _ rfl | exact hB3.r _ _ rfl | exact hB5.r _ _ rfl) ?_
    refine V_iload_n (i := 1) (sx_di dX11_fillOddsWorths 31 rfl) rfl rfl ?_
    refine V_aload_n (i := 0) (sx_di dX11_fillOddsWorths 32 rfl) rfl rfl ?_
    refine V_getR (sx_di dX11_fillOddsWorths 33 rfl) fX11_28 (fun _ => rfl) (by first | exact hB.k _ rfl | exact hB3.k _ rfl | exact hB5.k _ rfl) (by first | exact hB.r _ _ rfl | exact hB3.r _ _ rfl | exact hB5.r _ _ rfl) ?_
    refine V_cV0 (mc' := 0) (ms' := 0) (M' := mX2_holding) 1 (sx_di dX11_fillOddsWorths 34 rfl) lX11_195 vX2_holding (by first | exact hB.k _ rfl | exact hB3.k _ rfl | exact hB5.k _ rfl) (by decide) rfl (Nat.le_of_ble_eq_true rfl) ⟨Nat.le_of_ble_eq_true rfl, Nat.le_of_ble_eq_true rfl⟩ ⟨Nat.le_refl _, Nat.le_refl _⟩ ?_
    refine e_holding VA H2 (fun lv hl => ?_)
    refine V_cV2 (mc' := 0) (ms' := 0) (M' := mX7_minded) 4 (sx_di dX11_fillOddsWorths 35 rfl) lX11_198 vX7_minded (by first | exact hB.k _ rfl | exact hB3.k _ rfl | exact hB5.k _ rfl) (by decide) rfl (Nat.le_of_ble_eq_true rfl) ⟨Nat.le_of_ble_eq_true rfl, Nat.le_of_ble_eq_true rfl⟩ ⟨Nat.le_refl _, Nat.le_refl _⟩ ?_
    refine k_minded VA H2 (h := k) (by omega) hA2 hl (fun w3 H3 f3 t3 hA3 => ?_)
    have hB3 := H3.1
    obtain ⟨H4, f4⟩ := CR_380 (b := 378) (k := k) (x := mv2 A (a_r A) k) (m0 := m0) (r := m0) VA (by omega) (by omega) H3
    have hA4 := AW_380 (b := 378) (k := k) (x := mv2 A (a_r A) k) (by omega) hA3
    refine V_iastN (n := 8) (j := k) (sx_di dX11_fillOddsWorths 36 rfl) (by first | exact hB.k _ rfl | exact hB3.k _ rfl | exact hB5.k _ rfl) (rfl) (by omega) (by omega) ?_
    refine V_aload_n (i := 0) (sx_di dX11_fillOddsWorths 37 rfl) rfl rfl ?_
    refine V_getR (sx_di dX11_fillOddsWorths 38 rfl) fX11_105 (fun _ => rfl) (by first | exact hB.k _ rfl | exact hB3.k _ rfl | exact hB5.k _ rfl) (by first | exact hB.r _ _ rfl | exact hB3.r _ _ rfl | exact hB5.r _ _ rfl) ?_
    refine V_iload_n (i := 1) (sx_di dX11_fillOddsWorths 39 rfl) rfl rfl ?_
    refine V_aload_n (i := 0) (sx_di dX11_fillOddsWorths 40 rfl) rfl rfl ?_
    refine V_getR (sx_di dX11_fillOddsWorths 41 rfl) fX11_64 (fun _ => rfl) (by first | exact hB.k _ rfl | exact hB3.k _ rfl | exact hB5.k _ rfl) (by first | exact hB.r _ _ rfl | exact hB3.r _ _ rfl | exact hB5.r _ _ rfl) ?_
    refine V_iload_n (i := 1) (sx_di dX11_fillOddsWorths 42 rfl) rfl rfl ?_
    refine V_aload_n (i := 0) (sx_di dX11_fillOddsWorths 43 rfl) rfl rfl ?_
    refine V_getR (sx_di dX11_fillOddsWorths 44 rfl) fX11_28 (fun _ => rfl) (by first | exact hB.k _ rfl | exact hB3.k _ rfl | exact hB5.k _ rfl) (by first | exact hB.r _ _ rfl | exact hB3.r _ _ rfl | exact hB5.r _ _ rfl) ?_
    refine V_cV0 (mc' := 0) (ms' := 0) (M' := mX2_holding) 1 (sx_di dX11_fillOddsWorths 45 rfl) lX11_195 vX2_holding (by first | exact hB.k _ rfl | exact hB3.k _ rfl | exact hB5.k _ rfl) (by decide) rfl (Nat.le_of_ble_eq_true rfl) ⟨Nat.le_of_ble_eq_true rfl, Nat.le_of_ble_eq_true rfl⟩ ⟨Nat.le_refl _, Nat.le_refl _⟩ ?_
    refine e_holding VA H4 (fun lv2 hl2 => ?_)
    refine V_cV2 (mc' := 0) (ms' := 0) (M' := mX7_minded) 4 (sx_di dX11_fillOddsWorths 46 rfl) lX11_198 vX7_minded (by first | exact hB.k _ rfl | exact hB3.k _ rfl | exact hB5.k _ rfl) (by decide) rfl (Nat.le_of_ble_eq_true rfl) ⟨Nat.le_of_ble_eq_true rfl, Nat.le_of_ble_eq_true rfl⟩ ⟨Nat.le_refl _, Nat.le_refl _⟩ ?_
    refine k_mindedA VA H4 (h := k) (by omega) hA4 hO hl2 (fun w5 H5 f5 t5 hA5 => ?_)
    rw [fo1_e (h := k) (k := k + 1) (by omega) (by omega)]
    have hB5 := H5.1
    obtain ⟨H6, f6⟩ := CR_380 (b := 379) (k := k) (x := fo1 A k) (m0 := m0) (r := m0) VA (by omega) (by omega) H5
    have hA6 := AW_380 (b := 379) (k := k) (x := fo1 A k) (by omega) hA5
    have hT6 : TW (mv2 A (a_r A)) (fo1 A) (hp_si w5 379 k (fo1 A k)) (k + 1) := fun q hq => by
      rw [hp_i_si, if_neg (by omega), hp_i_si, t5 378 (by omega) (by omega), t5 379 (by omega) (by omega), hp_i_si, hp_i_si, if_neg (show ¬ (379 = 378 ∧ q = k) by omega), t3 378 (by omega) (by omega), t3 379 (by omega) (by omega), t2 378 (by omega) (by omega), t2 379 (by omega) (by omega)]
      by_cases e : q = k
      · rw [if_pos ⟨rfl, e⟩, if_pos ⟨rfl, e⟩, e]; exact ⟨rfl, rfl⟩
      · rw [if_neg (fun z => e z.2), if_neg (fun z => e z.2)]; exact hT q (by omega)
    have q1 := ih (k + 1) _ (by omega) H6 (fR_tr f1 (fR_tr f2 (fR_tr f3 (fR_tr f4 (fR_tr f5 f6))))) hA6 hT6
    rw [← nI_1] at q1
    refine V_iastN (n := 8) (j := k) (sx_di dX11_fillOddsWorths 47 rfl) (by first | exact hB.k _ rfl | exact hB3.k _ rfl | exact hB5.k _ rfl) (rfl) (by omega) (by omega) ?_
    refine V_inc (c := 1) (sx_di dX11_fillOddsWorths 48 rfl) (by decide) rfl (by decide) (rfl) ?_
    refine V_goto (tgt := 13) (sx_di dX11_fillOddsWorths 49 rfl) (by decide) ?_
    exact V_subk q1 ⟨rfl, rfl, trivial⟩
set_option maxHeartbeats 2000000 in
set_option maxRecDepth 20000 in
theorem e_fillOdds {E : sxE} {A : AS} {w : hpW} {Q : Option Value → hpW → Prop} (VA : AV A) (H : CR A w) (h0 : 0 < a_n A) (h : ∀ w', CR A w' → fR w w' → TW (mv2 A (a_r A)) (fo1 A) w' (a_n A) → Q none w') : sx_C E mX11_fillOddsWorths 5 0 0 [.ref 16] w Q := by
  have hB := H.1
  refine C_of (by decide +kernel) (Nat.le_of_ble_eq_true rfl) ?_
  refine V_aload_n (i := 0) (sx_di dX11_fillOddsWorths 0 rfl) rfl rfl ?_
  refine V_getR (sx_di dX11_fillOddsWorths 1 rfl) fX11_64 (fun _ => rfl) (hB.k _ rfl) (hB.r _ _ rfl) ?_
  refine V_aload_n (i := 0) (sx_di dX11_fillOddsWorths 2 rfl) rfl rfl ?_
  refine V_getR (sx_di dX11_fillOddsWorths 3 rfl) fX11_60 (fun _ => rfl) (hB.k _ rfl) (hB.r _ _ rfl) ?_
  refine V_cV1 (mc' := 0) (ms' := 0) (M' := mX7_copyFrom) 2 (sx_di dX11_fillOddsWorths 4 rfl) lX11_293 vX7_copyFrom (hB.k _ rfl) (by decide) rfl (Nat.le_of_ble_eq_true rfl) ⟨Nat.le_of_ble_eq_true rfl, Nat.le_of_ble_eq_true rfl⟩ ⟨Nat.le_refl _, Nat.le_refl _⟩ ?_
  refine k_copyFrom VA H h0 (fun w2 H2 f2 _ hA2 => ?_)
  refine V_iconst (v := 0) (sx_di dX11_fillOddsWorths 5 rfl) (by decide) ?_
  refine V_istore_n (i := 1) (sx_di dX11_fillOddsWorths 6 rfl) rfl (by decide) (rfl) ?_
  refine V_sub (ls' := [(1, .int (nI 0)), (0, .ref 16)]) ⟨rfl, rfl, trivial⟩ ?_
  exact ow_lp VA h (a_n A) 0 w2 (by omega) H2 f2 (by rw [mi9_0]; exact hA2) (fun q hq => absurd hq (by omega))
def TP_ (w : hpW) (ch : Int32) (h k : Nat) : Prop := (∀ s, s < 2 ^ h → hp_i w 380 s = if s < k then pr_ ch (h + 1) s else pr_ ch h s) ∧ ∀ s, s < k → hp_i w 380 (s + 2 ^ h) = pr_ ch (h + 1) (s + 2 ^ h)
def f78 (w w' : hpW) : Prop := hp_i w' 378 = hp_i w 378 ∧ hp_i w' 379 = hp_i w 379
theorem p128 {h : Nat} (hh : h < 8) : 2 ^ h ≤ 128 := by
  have : 2 ^ h ≤ 2 ^ 7 := Nat.pow_le_pow_right (by decide) (by omega)
  omega
theorem or_sum {h k : Nat} (hk : k < 2 ^ h) : nI k ||| nI (2 ^ h) = nI (k + 2 ^ h) := by
  have z := fa_or_sum (a := k) (k := h) 1 hk
  rw [Nat.mul_one] at z
  rw [Int32.or_comm, z, Nat.add_comm]
theorem TP_nx {w : hpW} {ch : Int32} {h : Nat} (H : TP_ w ch h (2 ^ h)) : TP_ w ch (h + 1) 0 := by
  refine ⟨fun s hs => ?_, fun s hs => absurd hs (by omega)⟩
  rw [if_neg (by omega)]
  rw [Nat.pow_succ] at hs
  rcases Nat.lt_or_ge s (2 ^ h) with z | z
  · rw [H.1 s z, if_pos z]
  · have q := H.2 (s - 2 ^ h) (by omega)
    rw [Nat.sub_add_cancel z] at q
    exact q
set_option maxHeartbeats 2000000 in
set_option maxRecDepth 20000 in
theorem fp_in {E : sxE} {A : AS} {w : hpW} {Q : Option Value → hpW → Prop} (VA : AV A) {h : Nat} {ch : Int32} (hh : h < a_n A) (hq : ∀ w1, CR A w1 → fR w w1 → f78 w w1 → TP_ w1 ch h (2 ^ h) → V E mX11_fillParts (sx_rm 3 0 0) 0 0 0 0 77 [(2, .int (nI h)), (1, .int ch), (0, .ref 16)] [] w1 Q) : ∀ d k w1, k + d = 2 ^ h → CR A w1 → fR w w1 → f78 w w1 → TP_ w1 ch h k → V E mX11_fillParts (sx_rm 3 0 0) 0 0 0 0 23 [(3, .int (nI k)), (2, .int (nI h)), (1, .int ch), (0, .ref 16)] [] w1 Q := by
  intro d
  have hn8 := VA.2.2.1.1
  have hP := p128 (h := h) (by omega)
  have hsh := sh_n h (by omega)
  induction d with
  | zero =>
    intro k w1 hk H1 f1 f2 hT
    have hB := H1.1
    have e : k = 2 ^ h := by omega
    subst e
    refine V_iload_n (i := 3) (sx_di dX11_fillParts 13 rfl) rfl rfl ?_
    refine V_iconst (v := 1) (sx_di dX11_fillParts 14 rfl) (by decide) ?_
    refine V_iload_n (i := 2) (sx_di dX11_fillParts 15 rfl) rfl rfl ?_
    refine V_ishl (sx_di dX11_fillParts 16 rfl) ?_
    refine V_iv (y := nI (2 ^ h)) (hsh) ?_
    refine V_icN_ge (a := (2 ^ h)) (b := (2 ^ h)) (rfl) (rfl) (by omega) (by omega) (tgt := 77) (sx_di dX11_fillParts 17 rfl) (by decide) (fun _ => ?_) (fun h27 => absurd h27 (by omega))
    refine V_sub (ls' := [(2, .int (nI h)), (1, .int ch), (0, .ref 16)]) ⟨rfl, rfl, rfl, trivial⟩ ?_
    exact hq w1 H1 f1 f2 hT
  | succ d ih =>
    intro k w1 hk H1 f1 f2 hT
    have hB := H1.1
    have ek : hp_i w1 380 k = pr_ ch h k := by rw [hT.1 k (by omega), if_neg (by omega)]
    obtain ⟨H2, g2⟩ := CR_380 (b := 380) (k := k + 2 ^ h) (x := mo_ (pr_ ch h k) ch) (m0 := fun _ => 0) (r := fun _ => 0) VA (by omega) (by omega) H1
    obtain ⟨H3, g3⟩ := CR_380 (b := 380) (k := k) (x := pr_ ch h k - mo_ (pr_ ch h k) ch) (m0 := fun _ => 0) (r := fun _ => 0) VA (by omega) (by omega) H2
    have p1 : pr_ ch (h + 1) k = pr_ ch h k - mo_ (pr_ ch h k) ch := if_neg (by omega)
    have p2 : pr_ ch (h + 1) (k + 2 ^ h) = mo_ (pr_ ch h k) ch := by
      show (if 2 ^ h ≤ k + 2 ^ h then mo_ (pr_ ch h (k + 2 ^ h - 2 ^ h)) ch else _) = _
      rw [if_pos (by omega), Nat.add_sub_cancel]
    have hT3 : TP_ (hp_si (hp_si w1 380 (k + 2 ^ h) (mo_ (pr_ ch h k) ch)) 380 k (pr_ ch h k - mo_ (pr_ ch h k) ch)) ch h (k + 1) := by
      refine ⟨fun s hs => ?_, fun s hs => ?_⟩
      · rw [hp_i_si]
        by_cases e : s = k
        · rw [if_pos ⟨rfl, e⟩, if_pos (by omega), e, p1]
        · rw [if_neg (fun z => e z.2), hp_i_si, if_neg (by omega), hT.1 s hs]
          by_cases h2 : s < k
          · rw [if_pos h2, if_pos (by omega)]
          · rw [if_neg h2, if_neg (by omega)]
      · rw [hp_i_si, if_neg (by omega), hp_i_si]
        by_cases e : s = k
        · rw [if_pos ⟨rfl, by omega⟩, e, p2]
        · rw [if_neg (by omega)]
          exact hT.2 s (by omega)
    have q1 := ih (k + 1) _ (by omega) H3 (fR_tr f1 (fR_tr g2 g3)) ⟨by rw [← f2.1]; funext j; rw [hp_i_si, if_neg (by omega), hp_i_si, if_neg (by omega)], by rw [← f2.2]; funext j; rw [hp_i_si, if_neg (by omega), hp_i_si, if_neg (by omega)]⟩ hT3
    rw [← nI_1] at q1
    have hor := or_sum (h := h) (k := k) (by omega)
    refine V_iload_n (i := 3) (sx_di dX11_fillParts 13 rfl) rfl rfl ?_
    refine V_iconst (v := 1) (sx_di dX11_fillParts 14 rfl) (by decide) ?_
    refine V_iload_n (i := 2) (sx_di dX11_fillParts 15 rfl) rfl rfl ?_
    refine V_ishl (sx_di dX11_fillParts 16 rfl) ?_
    refine V_iv (y := nI (2 ^ h)) (hsh) ?_
    refine V_icN_ge (a := k) (b := (2 ^ h)) (rfl) (rfl) (by omega) (by omega) (tgt := 77) (sx_di dX11_fillParts 17 rfl) (by decide) (fun h27 => absurd h27 (by omega)) (fun _ => ?_)
    refine V_aload_n (i := 0) (sx_di dX11_fillParts 18 rfl) rfl rfl ?_
    refine V_iload_n (i := 3) (sx_di dX11_fillParts 19 rfl) rfl rfl ?_
    refine V_cV1 (mc' := 0) (ms' := 0) (M' := mX11_entry) 1 (sx_di dX11_fillParts 20 rfl) lX11_315 vX11_entry (hB.k _ rfl) (by decide) rfl (Nat.le_of_ble_eq_true rfl) ⟨Nat.le_of_ble_eq_true rfl, Nat.le_of_ble_eq_true rfl⟩ ⟨Nat.le_refl _, Nat.le_refl _⟩ ?_
    refine c_X11_entryN (j := k) (hB.k _ rfl) (hB.r _ _ rfl) (hB.k _ rfl) (rfl) (by omega) ?_
    refine V_iv (y := pr_ ch h k) (ek) ?_
    refine V_istore (sx_di dX11_fillParts 21 rfl) (by decide) (rfl) ?_
    refine V_iload (sx_di dX11_fillParts 22 rfl) rfl ?_
    refine V_i2l (sx_di dX11_fillParts 23 rfl) ?_
    refine V_iload_n (i := 1) (sx_di dX11_fillParts 24 rfl) rfl rfl ?_
    refine V_i2l (sx_di dX11_fillParts 25 rfl) ?_
    refine V_lmul (sx_di dX11_fillParts 26 rfl) ?_
    refine V_ldc2 (sx_di dX11_fillParts 27 rfl) kX11_394 ?_
    refine V_ldiv (sx_di dX11_fillParts 28 rfl) (by decide) ?_
    refine V_l2i (sx_di dX11_fillParts 29 rfl) ?_
    refine V_iv (y := mo_ (pr_ ch h k) ch) (rfl) ?_
    refine V_istore (sx_di dX11_fillParts 30 rfl) (by decide) (rfl) ?_
    refine V_aload_n (i := 0) (sx_di dX11_fillParts 31 rfl) rfl rfl ?_
    refine V_iload_n (i := 3) (sx_di dX11_fillParts 32 rfl) rfl rfl ?_
    refine V_iconst (v := 1) (sx_di dX11_fillParts 33 rfl) (by decide) ?_
    refine V_iload_n (i := 2) (sx_di dX11_fillParts 34 rfl) rfl rfl ?_
    refine V_ishl (sx_di dX11_fillParts 35 rfl) ?_
    refine V_iv (y := nI (2 ^ h)) (hsh) ?_
    refine V_ior (sx_di dX11_fillParts 36 rfl) ?_
    refine V_iv (y := nI (k + 2 ^ h)) (hor) ?_
    refine V_iload (sx_di dX11_fillParts 37 rfl) rfl ?_
    refine V_cV2 (mc' := 0) (ms' := 0) (M' := mX11_enter) 1 (sx_di dX11_fillParts 38 rfl) lX11_311 vX11_enter (hB.k _ rfl) (by decide) rfl (Nat.le_of_ble_eq_true rfl) ⟨Nat.le_of_ble_eq_true rfl, Nat.le_of_ble_eq_true rfl⟩ ⟨Nat.le_refl _, Nat.le_refl _⟩ ?_
    refine c_X11_enterN (j := (k + 2 ^ h)) (hB.k _ rfl) (hB.r _ _ rfl) (hB.k _ rfl) (rfl) (by omega) ?_
    refine V_aload_n (i := 0) (sx_di dX11_fillParts 39 rfl) rfl rfl ?_
    refine V_iload_n (i := 3) (sx_di dX11_fillParts 40 rfl) rfl rfl ?_
    refine V_iload (sx_di dX11_fillParts 41 rfl) rfl ?_
    refine V_iload (sx_di dX11_fillParts 42 rfl) rfl ?_
    refine V_isub (sx_di dX11_fillParts 43 rfl) ?_
    refine V_cV2 (mc' := 0) (ms' := 0) (M' := mX11_enter) 1 (sx_di dX11_fillParts 44 rfl) lX11_311 vX11_enter (hB.k _ rfl) (by decide) rfl (Nat.le_of_ble_eq_true rfl) ⟨Nat.le_of_ble_eq_true rfl, Nat.le_of_ble_eq_true rfl⟩ ⟨Nat.le_refl _, Nat.le_refl _⟩ ?_
    refine c_X11_enterN (j := k) (hB.k _ rfl) (hB.r _ _ rfl) (hB.k _ rfl) (rfl) (by omega) ?_
    refine V_inc (c := 1) (sx_di dX11_fillParts 45 rfl) (by decide) rfl (by decide) (rfl) ?_
    refine V_goto (tgt := 23) (sx_di dX11_fillParts 46 rfl) (by decide) ?_
    exact V_subk q1 ⟨rfl, rfl, rfl, rfl, trivial⟩
set_option maxHeartbeats 2000000 in
set_option maxRecDepth 20000 in
theorem fp_out {E : sxE} {A : AS} {w : hpW} {Q : Option Value → hpW → Prop} (VA : AV A) {ch : Int32} (hq : ∀ w1, CR A w1 → fR w w1 → f78 w w1 → (∀ s, s < 2 ^ a_n A → hp_i w1 380 s = pr_ ch (a_n A) s) → Q none w1) : ∀ d h w1, h + d = a_n A → CR A w1 → fR w w1 → f78 w w1 → TP_ w1 ch h 0 → V E mX11_fillParts (sx_rm 3 0 0) 0 0 0 0 10 [(2, .int (nI h)), (1, .int ch), (0, .ref 16)] [] w1 Q := by
  intro d
  have hn8 := VA.2.2.1.1
  induction d with
  | zero =>
    intro h w1 hh H1 f1 f2 hT
    obtain ⟨t, hB, ht, hst, hn, _, _⟩ := CRn VA H1
    have e : h = a_n A := by omega
    subst e
    refine V_iload_n (i := 2) (sx_di dX11_fillParts 6 rfl) rfl rfl ?_
    refine V_aload_n (i := 0) (sx_di dX11_fillParts 7 rfl) rfl rfl ?_
    refine V_getR (sx_di dX11_fillParts 8 rfl) fX11_48 (fun _ => rfl) (hB.k _ rfl) (ht) ?_
    refine V_cV0 (mc' := 0) (ms' := 0) (M' := mX8_houseCount) 2 (sx_di dX11_fillParts 9 rfl) lX11_308 vX8_houseCount (hst.1) (by decide) rfl (Nat.le_of_ble_eq_true rfl) ⟨Nat.le_of_ble_eq_true rfl, Nat.le_of_ble_eq_true rfl⟩ ⟨Nat.le_refl _, Nat.le_refl _⟩ ?_
    refine c_X8_houseCount (hst.1) (hc8 hn hn8) ?_
    refine V_iv (y := nI (a_n A)) (hn) ?_
    refine V_icN_ge (a := (a_n A)) (b := (a_n A)) (rfl) (rfl) (by omega) (by omega) (tgt := 83) (sx_di dX11_fillParts 10 rfl) (by decide) (fun _ => ?_) (fun h18 => absurd h18 (by omega))
    refine V_vret (sx_di dX11_fillParts 49 rfl) rfl (Nat.le_refl _) (Nat.le_refl _) ?_
    exact hq w1 H1 f1 f2 (fun s hs => by rw [hT.1 s hs, if_neg (by omega)])
  | succ d ih =>
    intro h w1 hh H1 f1 f2 hT
    obtain ⟨t, hB, ht, hst, hn, _, _⟩ := CRn VA H1
    have nx : ∀ w2, CR A w2 → fR w1 w2 → f78 w1 w2 → TP_ w2 ch h (2 ^ h) → V E mX11_fillParts (sx_rm 3 0 0) 0 0 0 0 77 [(2, .int (nI h)), (1, .int ch), (0, .ref 16)] [] w2 Q := fun w2 H2 g1 g2 hT2 => by
      have hB2 := H2.1
      have q1 := ih (h + 1) w2 (by omega) H2 (fR_tr f1 g1) ⟨g2.1.trans f2.1, g2.2.trans f2.2⟩ (TP_nx hT2)
      rw [← nI_1] at q1
      refine V_inc (c := 1) (sx_di dX11_fillParts 47 rfl) (by decide) rfl (by decide) (rfl) ?_
      refine V_goto (tgt := 10) (sx_di dX11_fillParts 48 rfl) (by decide) ?_
      exact V_subk q1 ⟨rfl, rfl, rfl, trivial⟩
    refine V_iload_n (i := 2) (sx_di dX11_fillParts 6 rfl) rfl rfl ?_
    refine V_aload_n (i := 0) (sx_di dX11_fillParts 7 rfl) rfl rfl ?_
    refine V_getR (sx_di dX11_fillParts 8 rfl) fX11_48 (fun _ => rfl) (hB.k _ rfl) (ht) ?_
    refine V_cV0 (mc' := 0) (ms' := 0) (M' := mX8_houseCount) 2 (sx_di dX11_fillParts 9 rfl) lX11_308 vX8_houseCount (hst.1) (by decide) rfl (Nat.le_of_ble_eq_true rfl) ⟨Nat.le_of_ble_eq_true rfl, Nat.le_of_ble_eq_true rfl⟩ ⟨Nat.le_refl _, Nat.le_refl _⟩ ?_
    refine c_X8_houseCount (hst.1) (hc8 hn hn8) ?_
    refine V_iv (y := nI (a_n A)) (hn) ?_
    refine V_icN_ge (a := h) (b := (a_n A)) (rfl) (rfl) (by omega) (by omega) (tgt := 83) (sx_di dX11_fillParts 10 rfl) (by decide) (fun h18 => absurd h18 (by omega)) (fun _ => ?_)
    refine V_iconst (v := 0) (sx_di dX11_fillParts 11 rfl) (by decide) ?_
    refine V_istore_n (i := 3) (sx_di dX11_fillParts 12 rfl) rfl (by decide) (rfl) ?_
    refine V_sub (ls' := [(3, .int (nI 0)), (2, .int (nI h)), (1, .int ch), (0, .ref 16)]) ⟨rfl, rfl, rfl, rfl, trivial⟩ ?_
    exact fp_in VA (by omega) nx (2 ^ h) 0 w1 (by omega) H1 fR_rf ⟨rfl, rfl⟩ hT
set_option maxHeartbeats 2000000 in
set_option maxRecDepth 20000 in
theorem e_fillParts {E : sxE} {A : AS} {w : hpW} {Q : Option Value → hpW → Prop} (VA : AV A) (H : CR A w) {ch : Int32} (hq : ∀ w1, CR A w1 → fR w w1 → f78 w w1 → (∀ s, s < 2 ^ a_n A → hp_i w1 380 s = pr_ ch (a_n A) s) → Q none w1) : sx_C E mX11_fillParts 3 0 0 [.ref 16, .int ch] w Q := by
  have hB := H.1
  obtain ⟨H2, g2⟩ := CR_380 (b := 380) (k := 0) (x := 1000000000) (m0 := fun _ => 0) (r := fun _ => 0) VA (by omega) (by omega) H
  refine C_of (by decide +kernel) (Nat.le_of_ble_eq_true rfl) ?_
  refine V_aload_n (i := 0) (sx_di dX11_fillParts 0 rfl) rfl rfl ?_
  refine V_iconst (v := 0) (sx_di dX11_fillParts 1 rfl) (by decide) ?_
  refine V_ldcw (sx_di dX11_fillParts 2 rfl) kX11_393 ?_
  refine V_cV2 (mc' := 0) (ms' := 0) (M' := mX11_enter) 1 (sx_di dX11_fillParts 3 rfl) lX11_311 vX11_enter (hB.k _ rfl) (by decide) rfl (Nat.le_of_ble_eq_true rfl) ⟨Nat.le_of_ble_eq_true rfl, Nat.le_of_ble_eq_true rfl⟩ ⟨Nat.le_refl _, Nat.le_refl _⟩ ?_
  refine c_X11_enterN (j := 0) (hB.k _ rfl) (hB.r _ _ rfl) (hB.k _ rfl) (rfl) (by omega) ?_
  refine V_iconst (v := 0) (sx_di dX11_fillParts 4 rfl) (by decide) ?_
  refine V_istore_n (i := 2) (sx_di dX11_fillParts 5 rfl) rfl (by decide) (rfl) ?_
  refine V_sub (ls' := [(2, .int (nI 0)), (1, .int ch), (0, .ref 16)]) ⟨rfl, rfl, rfl, trivial⟩ ?_
  exact fp_out VA hq (a_n A) 0 _ (by omega) H2 g2 ⟨by funext j; rw [hp_i_si, if_neg (by omega)], by funext j; rw [hp_i_si, if_neg (by omega)]⟩ ⟨fun s hs => by rw [Nat.pow_zero] at hs; rw [hp_i_si, if_pos ⟨rfl, by omega⟩, if_neg (by omega)]; rfl, fun s hs => absurd hs (by omega)⟩
set_option maxHeartbeats 2000000 in
set_option maxRecDepth 20000 in
theorem oc_lp {E : sxE} {A : AS} {w : hpW} {Q : Option Value → hpW → Prop} (VA : AV A) (H : CR A w) (hT : TW (mv2 A (a_r A)) (fo1 A) w (a_n A)) {x y : Int32} (hP : ∀ s, s < 2 ^ a_n A → hp_i w 380 s = pr_ y (a_n A) s) (h : Q (some (.int (sm_ (oF_ A x y) (2 ^ a_n A)))) w) : ∀ d s, s + d = 2 ^ a_n A → V E mX11_odds (sx_rm 6 0 0) 0 0 0 0 46 [(4, .int (nI s)), (3, .int (sm_ (oF_ A x y) s)), (2, .int y), (1, .int x), (0, .ref 16)] [] w Q := by
  intro d
  have hn8 := VA.2.2.1.1
  have hp := p2_le hn8
  have hsh := sh_n (a_n A) (by omega)
  obtain ⟨t, hB, ht, hst, hn, _, _⟩ := CRn VA H
  induction d with
  | zero =>
    intro s hs
    have e : s = 2 ^ a_n A := by omega
    subst e
    refine V_iload (sx_di dX11_odds 26 rfl) rfl ?_
    refine V_iconst (v := 1) (sx_di dX11_odds 27 rfl) (by decide) ?_
    refine V_aload_n (i := 0) (sx_di dX11_odds 28 rfl) rfl rfl ?_
    refine V_getR (sx_di dX11_odds 29 rfl) fX11_48 (fun _ => rfl) (hB.k _ rfl) (ht) ?_
    refine V_cV0 (mc' := 0) (ms' := 0) (M' := mX8_houseCount) 2 (sx_di dX11_odds 30 rfl) lX11_308 vX8_houseCount (hst.1) (by decide) rfl (Nat.le_of_ble_eq_true rfl) ⟨Nat.le_of_ble_eq_true rfl, Nat.le_of_ble_eq_true rfl⟩ ⟨Nat.le_refl _, Nat.le_refl _⟩ ?_
    refine c_X8_houseCount (hst.1) (hc8 hn hn8) ?_
    refine V_iv (y := nI (a_n A)) (hn) ?_
    refine V_ishl (sx_di dX11_odds 31 rfl) ?_
    refine V_iv (y := nI (2 ^ a_n A)) (hsh) ?_
    refine V_icN_ge (a := (2 ^ a_n A)) (b := (2 ^ a_n A)) (rfl) (rfl) (by omega) (by omega) (tgt := 85) (sx_di dX11_odds 32 rfl) (by decide) (fun _ => ?_) (fun h57 => absurd h57 (by omega))
    refine V_iload_n (i := 3) (sx_di dX11_odds 46 rfl) rfl rfl ?_
    refine V_iret (sx_di dX11_odds 47 rfl) rfl (Nat.le_refl _) (Nat.le_refl _) ?_
    exact h
  | succ d ih =>
    intro s hs
    have q1 := ih (s + 1) (by omega)
    have e1 : sm_ (oF_ A x y) (s + 1) = sm_ (oF_ A x y) s + (if og_ A s = x then pr_ y (a_n A) s else 0) := rfl
    rw [e1, ← nI_1] at q1
    refine V_iload (sx_di dX11_odds 26 rfl) rfl ?_
    refine V_iconst (v := 1) (sx_di dX11_odds 27 rfl) (by decide) ?_
    refine V_aload_n (i := 0) (sx_di dX11_odds 28 rfl) rfl rfl ?_
    refine V_getR (sx_di dX11_odds 29 rfl) fX11_48 (fun _ => rfl) (hB.k _ rfl) (ht) ?_
    refine V_cV0 (mc' := 0) (ms' := 0) (M' := mX8_houseCount) 2 (sx_di dX11_odds 30 rfl) lX11_308 vX8_houseCount (hst.1) (by decide) rfl (Nat.le_of_ble_eq_true rfl) ⟨Nat.le_of_ble_eq_true rfl, Nat.le_of_ble_eq_true rfl⟩ ⟨Nat.le_refl _, Nat.le_refl _⟩ ?_
    refine c_X8_houseCount (hst.1) (hc8 hn hn8) ?_
    refine V_iv (y := nI (a_n A)) (hn) ?_
    refine V_ishl (sx_di dX11_odds 31 rfl) ?_
    refine V_iv (y := nI (2 ^ a_n A)) (hsh) ?_
    refine V_icN_ge (a := s) (b := (2 ^ a_n A)) (rfl) (rfl) (by omega) (by omega) (tgt := 85) (sx_di dX11_odds 32 rfl) (by decide) (fun h57 => absurd h57 (by omega)) (fun _ => ?_)
    refine V_aload_n (i := 0) (sx_di dX11_odds 33 rfl) rfl rfl ?_
    refine V_iload (sx_di dX11_odds 34 rfl) rfl ?_
    refine V_cV1 (mc' := 0) (ms' := 0) (M' := mX11_goalOfMixed) 3 (sx_di dX11_odds 35 rfl) lX11_332 vX11_goalOfMixed (hB.k _ rfl) (by decide) rfl (Nat.le_of_ble_eq_true rfl) ⟨Nat.le_of_ble_eq_true rfl, Nat.le_of_ble_eq_true rfl⟩ ⟨Nat.le_refl _, Nat.le_refl _⟩ ?_
    refine e_goalOfMixed VA H hT ?_
    refine V_iload_n (i := 1) (sx_di dX11_odds 36 rfl) rfl rfl ?_
    refine V_icmp_ne (tgt := 79) (sx_di dX11_odds 37 rfl) (by decide) (fun h67 => ?_) (fun h67 => ?_)
    · rw [if_neg (show ¬ og_ A s = x from h67), Int32.add_zero] at q1
      refine V_inc (c := 1) (sx_di dX11_odds 44 rfl) (by decide) rfl (by decide) (rfl) ?_
      refine V_goto (tgt := 46) (sx_di dX11_odds 45 rfl) (by decide) ?_
      exact V_subk q1 ⟨rfl, rfl, rfl, rfl, rfl, trivial⟩
    · rw [if_pos (show og_ A s = x from h67)] at q1
      refine V_iload_n (i := 3) (sx_di dX11_odds 38 rfl) rfl rfl ?_
      refine V_aload_n (i := 0) (sx_di dX11_odds 39 rfl) rfl rfl ?_
      refine V_iload (sx_di dX11_odds 40 rfl) rfl ?_
      refine V_cV1 (mc' := 0) (ms' := 0) (M' := mX11_entry) 1 (sx_di dX11_odds 41 rfl) lX11_315 vX11_entry (hB.k _ rfl) (by decide) rfl (Nat.le_of_ble_eq_true rfl) ⟨Nat.le_of_ble_eq_true rfl, Nat.le_of_ble_eq_true rfl⟩ ⟨Nat.le_refl _, Nat.le_refl _⟩ ?_
      refine c_X11_entryN (j := s) (hB.k _ rfl) (hB.r _ _ rfl) (hB.k _ rfl) (rfl) (by omega) ?_
      refine V_iv (y := pr_ y (a_n A) s) (hP s (by omega)) ?_
      refine V_iadd (sx_di dX11_odds 42 rfl) ?_
      refine V_istore_n (i := 3) (sx_di dX11_odds 43 rfl) rfl (by decide) (rfl) ?_
      refine V_inc (c := 1) (sx_di dX11_odds 44 rfl) (by decide) rfl (by decide) (rfl) ?_
      refine V_goto (tgt := 46) (sx_di dX11_odds 45 rfl) (by decide) ?_
      exact V_subk q1 ⟨rfl, rfl, rfl, rfl, rfl, trivial⟩
set_option maxHeartbeats 2000000 in
set_option maxRecDepth 20000 in
theorem oC_odds {E : sxE} {A : AS} {w : hpW} (VA : AV A) (H : CR A w) (x y : Int32) : oC E mX11_odds 6 [.ref 16, .int x, .int y] w A (q_odds A x y) A := by
  intro Q h
  obtain ⟨t, hB, ht, hst, hn, _, _⟩ := CRn VA H
  have hn8 := VA.2.2.1.1
  have hno : (a_n A = 0 ∨ (¬ x = -1 ∧ ih_ (a_n A) x = 0) ∨ y < 0 ∨ 100 < y) → Q (some (.int (-1))) w := fun e => by
    rw [q_odds, if_pos e] at h
    exact h w H fR_rf
  have hye : ¬ (a_n A = 0 ∨ (¬ x = -1 ∧ ih_ (a_n A) x = 0) ∨ y < 0 ∨ 100 < y) → V E mX11_odds (sx_rm 6 0 0) 0 0 0 0 32 [(2, .int y), (1, .int x), (0, .ref 16)] [] w Q := fun e => by
    rw [q_odds, if_neg e] at h
    refine V_aload_n (i := 0) (sx_di dX11_odds 17 rfl) rfl rfl ?_
    refine V_cV0 (mc' := 0) (ms' := 0) (M' := mX11_fillOddsWorths) 5 (sx_di dX11_odds 18 rfl) lX11_387 vX11_fillOddsWorths (hB.k _ rfl) (by decide) rfl (Nat.le_of_ble_eq_true rfl) ⟨Nat.le_of_ble_eq_true rfl, Nat.le_of_ble_eq_true rfl⟩ ⟨Nat.le_refl _, Nat.le_refl _⟩ ?_
    refine e_fillOdds VA H (by omega) (fun w2 H2 f2 hT => ?_)
    have hB2 := H2.1
    refine V_aload_n (i := 0) (sx_di dX11_odds 19 rfl) rfl rfl ?_
    refine V_iload_n (i := 2) (sx_di dX11_odds 20 rfl) rfl rfl ?_
    refine V_cV1 (mc' := 0) (ms' := 0) (M' := mX11_fillParts) 3 (sx_di dX11_odds 21 rfl) lX11_390 vX11_fillParts (hB2.k _ rfl) (by decide) rfl (Nat.le_of_ble_eq_true rfl) ⟨Nat.le_of_ble_eq_true rfl, Nat.le_of_ble_eq_true rfl⟩ ⟨Nat.le_refl _, Nat.le_refl _⟩ ?_
    refine e_fillParts VA H2 (fun w3 H3 f3 g3 hP => ?_)
    have hT3 : TW (mv2 A (a_r A)) (fo1 A) w3 (a_n A) := fun k hk => by rw [g3.1, g3.2]; exact hT k hk
    refine V_iconst (v := 0) (sx_di dX11_odds 22 rfl) (by decide) ?_
    refine V_istore_n (i := 3) (sx_di dX11_odds 23 rfl) rfl (by decide) (rfl) ?_
    refine V_iconst (v := 0) (sx_di dX11_odds 24 rfl) (by decide) ?_
    refine V_istore (sx_di dX11_odds 25 rfl) (by decide) (rfl) ?_
    refine V_sub (ls' := [(4, .int (nI 0)), (3, .int (sm_ (oF_ A x y) 0)), (2, .int y), (1, .int x), (0, .ref 16)]) ⟨rfl, rfl, rfl, rfl, rfl, trivial⟩ ?_
    exact oc_lp VA H3 hT3 hP (h w3 H3 (fR_tr f2 f3)) (2 ^ a_n A) 0 (by omega)
  refine C_of (by decide +kernel) (Nat.le_of_ble_eq_true rfl) ?_
  refine V_aload_n (i := 0) (sx_di dX11_odds 0 rfl) rfl rfl ?_
  refine V_cV0 (mc' := 0) (ms' := 0) (M' := mX11_isStreet) 1 (sx_di dX11_odds 1 rfl) lX11_154 vX11_isStreet (hB.k _ rfl) (by decide) rfl (Nat.le_of_ble_eq_true rfl) ⟨Nat.le_of_ble_eq_true rfl, Nat.le_of_ble_eq_true rfl⟩ ⟨Nat.le_refl _, Nat.le_refl _⟩ ?_
  refine c_X11_isStreet hB ht hst hn hn8 ?_
  refine V_if_eq (tgt := 30) (sx_di dX11_odds 2 rfl) (by decide) (fun h4 => ?_) (fun h4 => ?_)
  · have h5 : a_n A = 0 := Classical.byContradiction (fun z => by rw [if_neg z] at h4; exact absurd h4 (by decide))
    refine V_iconst (v := -1) (sx_di dX11_odds 15 rfl) (by decide) ?_
    refine V_iret (sx_di dX11_odds 16 rfl) rfl (Nat.le_refl _) (Nat.le_refl _) ?_
    exact hno (Or.inl h5)
  · have h5 : ¬ a_n A = 0 := fun z => h4 (if_pos z)
    refine V_iload_n (i := 1) (sx_di dX11_odds 3 rfl) rfl rfl ?_
    refine V_iconst (v := -1) (sx_di dX11_odds 4 rfl) (by decide) ?_
    refine V_icmp_eq (tgt := 20) (sx_di dX11_odds 5 rfl) (by decide) (fun h9 => ?_) (fun h9 => ?_)
    · have hx2 : ¬ (¬ x = -1 ∧ ih_ (a_n A) x = 0) := fun z => z.1 h9
      refine V_iload_n (i := 2) (sx_di dX11_odds 10 rfl) rfl rfl ?_
      refine V_if_lt (tgt := 30) (sx_di dX11_odds 11 rfl) (by decide) (fun h21 => ?_) (fun h21 => ?_)
      · refine V_iconst (v := -1) (sx_di dX11_odds 15 rfl) (by decide) ?_
        refine V_iret (sx_di dX11_odds 16 rfl) rfl (Nat.le_refl _) (Nat.le_refl _) ?_
        exact hno (Or.inr (Or.inr (Or.inl h21)))
      · refine V_iload_n (i := 2) (sx_di dX11_odds 12 rfl) rfl rfl ?_
        refine V_bipush (v := 100) (sx_di dX11_odds 13 rfl) (by decide) ?_
        refine V_icmp_le (tgt := 32) (sx_di dX11_odds 14 rfl) (by decide) (fun h27 => ?_) (fun h27 => ?_)
        · refine V_sub (ls' := [(2, .int y), (1, .int x), (0, .ref 16)]) ⟨rfl, rfl, rfl, trivial⟩ ?_
          exact hye (fun z => z.elim h5 (fun z => z.elim (fun z => hx2 z) (fun z => z.elim h21 (Int32.not_lt.mpr h27))))
        · refine V_iconst (v := -1) (sx_di dX11_odds 15 rfl) (by decide) ?_
          refine V_iret (sx_di dX11_odds 16 rfl) rfl (Nat.le_refl _) (Nat.le_refl _) ?_
          exact hno (Or.inr (Or.inr (Or.inr (Int32.not_le.mp h27))))
    · refine V_aload_n (i := 0) (sx_di dX11_odds 6 rfl) rfl rfl ?_
      refine V_iload_n (i := 1) (sx_di dX11_odds 7 rfl) rfl rfl ?_
      refine V_cV1 (mc' := 0) (ms' := 0) (M' := mX11_isHouse) 1 (sx_di dX11_odds 8 rfl) lX11_170 vX11_isHouse (hB.k _ rfl) (by decide) rfl (Nat.le_of_ble_eq_true rfl) ⟨Nat.le_of_ble_eq_true rfl, Nat.le_of_ble_eq_true rfl⟩ ⟨Nat.le_refl _, Nat.le_refl _⟩ ?_
      refine c_X11_isHouse hB ht hst hn hn8 ?_
      refine V_if_eq (tgt := 30) (sx_di dX11_odds 9 rfl) (by decide) (fun h17 => ?_) (fun h17 => ?_)
      · refine V_iconst (v := -1) (sx_di dX11_odds 15 rfl) (by decide) ?_
        refine V_iret (sx_di dX11_odds 16 rfl) rfl (Nat.le_refl _) (Nat.le_refl _) ?_
        exact hno (Or.inr (Or.inl ⟨h9, h17⟩))
      · have hx2 : ¬ (¬ x = -1 ∧ ih_ (a_n A) x = 0) := fun z => h17 z.2
        refine V_iload_n (i := 2) (sx_di dX11_odds 10 rfl) rfl rfl ?_
        refine V_if_lt (tgt := 30) (sx_di dX11_odds 11 rfl) (by decide) (fun h21 => ?_) (fun h21 => ?_)
        · refine V_iconst (v := -1) (sx_di dX11_odds 15 rfl) (by decide) ?_
          refine V_iret (sx_di dX11_odds 16 rfl) rfl (Nat.le_refl _) (Nat.le_refl _) ?_
          exact hno (Or.inr (Or.inr (Or.inl h21)))
        · refine V_iload_n (i := 2) (sx_di dX11_odds 12 rfl) rfl rfl ?_
          refine V_bipush (v := 100) (sx_di dX11_odds 13 rfl) (by decide) ?_
          refine V_icmp_le (tgt := 32) (sx_di dX11_odds 14 rfl) (by decide) (fun h27 => ?_) (fun h27 => ?_)
          · refine V_sub (ls' := [(2, .int y), (1, .int x), (0, .ref 16)]) ⟨rfl, rfl, rfl, trivial⟩ ?_
            exact hye (fun z => z.elim h5 (fun z => z.elim (fun z => hx2 z) (fun z => z.elim h21 (Int32.not_lt.mpr h27))))
          · refine V_iconst (v := -1) (sx_di dX11_odds 15 rfl) (by decide) ?_
            refine V_iret (sx_di dX11_odds 16 rfl) rfl (Nat.le_refl _) (Nat.le_refl _) ?_
            exact hno (Or.inr (Or.inr (Or.inr (Int32.not_le.mp h27))))

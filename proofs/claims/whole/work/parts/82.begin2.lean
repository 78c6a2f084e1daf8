/-! a street's first state: the class -/
def bgw_ (w : hpW) (a t : Nat) (J : Nat → Nat → Int32) : hpW := hp_wr w (hp_u (hp_r w) a 0 (some t)) J
theorem bgw_S {w : hpW} {a t : Nat} (hs : is_Ss w a) (J : Nat → Nat → Int32) : is_Ss (bgw_ w a t J) a := by
  have e : ∀ j, j ≠ 0 → hp_u (hp_r w) a 0 (some t) a j = hp_r w a j := fun j hj => hp_u_nk _ _ (by omega)
  obtain ⟨k0, k1, k2, k3, k4, k5, k6, r1, r2, r3, r4, r5, r6⟩ := hs
  exact ⟨k0, k1, k2, k3, k4, k5, k6, (e 1 (by omega)).trans r1, (e 2 (by omega)).trans r2, (e 3 (by omega)).trans r3, (e 4 (by omega)).trans r4, (e 5 (by omega)).trans r5, (e 6 (by omega)).trans r6⟩
theorem bgw_T {w : hpW} {a t : Nat} (hs : is_St w t) (h : t ≠ a) (J : Nat → Nat → Int32) : is_St (bgw_ w a t J) t := ⟨hs.1, hs.2.1, (hp_u_nk _ _ (by omega)).trans hs.2.2⟩
theorem of_v {J : Nat → Nat → Int32} {t h i : Nat} (hh : h < 8) (hi : i < 4) : sl_ J t (4 + 4 * nI h + nI i) = J (t + 1) (4 + 4 * h + i) := by
  have e : (4 : Int32) + 4 * nI h + nI i = nI (4 + 4 * h + i) := by rw [← nI_add, ← nI_add, ← pk_mul]; rfl
  rw [e, sl_n (by omega)]
set_option maxHeartbeats 2000000 in
set_option maxRecDepth 20000 in
theorem bC_l1 {E : sxE} {w : hpW} {Q : Option Value → hpW → Prop} {a t : Nat} (hs : is_Ss w a) (hst : is_St w t) (ha : 57 ≤ a) (ht5 : t = 53 ∨ t = 55) (h : ∀ J, bcK (hp_i w) J a t 8 → V E mX7_begin (sx_rm 3 0 0) 0 0 0 0 86 [(1, .ref t), (0, .ref a)] [] (bgw_ w a t J) Q) : ∀ d k J, k + d = 8 → bcK (hp_i w) J a t k → V E mX7_begin (sx_rm 3 0 0) 0 0 0 0 7 [(2, .int (nI k)), (1, .ref t), (0, .ref a)] [] (bgw_ w a t J) Q := by
  intro d
  induction d with
  | zero =>
    intro k J hk hJ
    have e : k = 8 := by omega
    subst e
    refine V_iload_n (i := 2) (sx_di dX7_begin 5 rfl) rfl rfl ?_
    refine V_bipush (v := 8) (sx_di dX7_begin 6 rfl) (by decide) ?_
    refine V_icN_ge (a := 8) (b := 8) (rfl) (rfl) (by omega) (by omega) (tgt := 86) (sx_di dX7_begin 7 rfl) (by decide) (fun _ => ?_) (fun h10 => absurd h10 (by omega))
    refine V_sub (ls' := [(1, .ref t), (0, .ref a)]) ⟨rfl, rfl, trivial⟩ ?_
    exact h J hJ
  | succ d ih =>
    intro k J hk hJ
    have hs2 := bgw_S (t := t) hs J
    have ht2 := bgw_T (a := a) hst (by omega) J
    have ev : ∀ J2 : Nat → Nat → Int32, ∀ i, i < 4 → J2 (t + 1) = hp_i w (t + 1) → sl_ J2 t (4 + 4 * nI k + nI i) = hp_i w (t + 1) (4 + 4 * k + i) := fun J2 i hi e2 => by rw [of_v (by omega) hi, e2]
    have e0 : J (t + 1) = hp_i w (t + 1) := hJ.1 _ (by omega)
    have hu : ∀ (J2 : Nat → Nat → Int32) b x, a < b → hp_u J2 b k x (t + 1) = J2 (t + 1) := fun J2 b x hb => by
      funext j
      exact hp_u_nk _ _ (by omega)
    have q1 := ih (k + 1) _ (by omega) (bcK_s hJ)
    rw [← nI_1] at q1
    refine V_iload_n (i := 2) (sx_di dX7_begin 5 rfl) rfl rfl ?_
    refine V_bipush (v := 8) (sx_di dX7_begin 6 rfl) (by decide) ?_
    refine V_icN_ge (a := k) (b := 8) (rfl) (rfl) (by omega) (by omega) (tgt := 86) (sx_di dX7_begin 7 rfl) (by decide) (fun h10 => absurd h10 (by omega)) (fun _ => ?_)
    refine V_aload_n (i := 0) (sx_di dX7_begin 8 rfl) rfl rfl ?_
    refine V_getR (sx_di dX7_begin 9 rfl) fX7_9 (fun _ => rfl) (by first | exact hs2.1 | exact hs2.2.1 | exact hs2.2.2.1 | exact hs2.2.2.2.1 | exact hs2.2.2.2.2.1 | exact hs2.2.2.2.2.2.1 | exact hs2.2.2.2.2.2.2.1 | exact ht2.1) (by first | exact hs2.2.2.2.2.2.2.2.1 | exact hs2.2.2.2.2.2.2.2.2.1 | exact hs2.2.2.2.2.2.2.2.2.2.1 | exact hs2.2.2.2.2.2.2.2.2.2.2.1 | exact hs2.2.2.2.2.2.2.2.2.2.2.2.1 | exact hs2.2.2.2.2.2.2.2.2.2.2.2.2) ?_
    refine V_iload_n (i := 2) (sx_di dX7_begin 10 rfl) rfl rfl ?_
    refine V_aload_n (i := 1) (sx_di dX7_begin 11 rfl) rfl rfl ?_
    refine V_iload_n (i := 2) (sx_di dX7_begin 12 rfl) rfl rfl ?_
    refine V_iconst (v := 0) (sx_di dX7_begin 13 rfl) (by decide) ?_
    refine V_cV2 (mc' := 0) (ms' := 0) (M' := mX8_ofHouse) 2 (sx_di dX7_begin 14 rfl) lX7_38 vX8_ofHouse (by first | exact hs2.1 | exact hs2.2.1 | exact hs2.2.2.1 | exact hs2.2.2.2.1 | exact hs2.2.2.2.2.1 | exact hs2.2.2.2.2.2.1 | exact hs2.2.2.2.2.2.2.1 | exact ht2.1) (by decide) rfl (Nat.le_of_ble_eq_true rfl) ⟨Nat.le_of_ble_eq_true rfl, Nat.le_of_ble_eq_true rfl⟩ ⟨Nat.le_refl _, Nat.le_refl _⟩ ?_
    refine c_X8_ofHouse (bgw_T hst (by omega) _) ?_
    refine V_iv (y := hp_i w (t + 1) (4 + 4 * k)) (ev J 0 (by omega) e0) ?_
    refine V_iastN (n := 8) (j := k) (sx_di dX7_begin 15 rfl) (by first | exact hs2.1 | exact hs2.2.1 | exact hs2.2.2.1 | exact hs2.2.2.2.1 | exact hs2.2.2.2.2.1 | exact hs2.2.2.2.2.2.1 | exact hs2.2.2.2.2.2.2.1 | exact ht2.1) (rfl) (by omega) (by omega) ?_
    refine V_ww (w2 := bgw_ w a t (hp_u J (a + 1) k (hp_i w (t + 1) (4 + 4 * k)))) (rfl) ?_
    refine V_aload_n (i := 0) (sx_di dX7_begin 16 rfl) rfl rfl ?_
    refine V_getR (sx_di dX7_begin 17 rfl) fX7_15 (fun _ => rfl) (by first | exact hs2.1 | exact hs2.2.1 | exact hs2.2.2.1 | exact hs2.2.2.2.1 | exact hs2.2.2.2.2.1 | exact hs2.2.2.2.2.2.1 | exact hs2.2.2.2.2.2.2.1 | exact ht2.1) (by first | exact hs2.2.2.2.2.2.2.2.1 | exact hs2.2.2.2.2.2.2.2.2.1 | exact hs2.2.2.2.2.2.2.2.2.2.1 | exact hs2.2.2.2.2.2.2.2.2.2.2.1 | exact hs2.2.2.2.2.2.2.2.2.2.2.2.1 | exact hs2.2.2.2.2.2.2.2.2.2.2.2.2) ?_
    refine V_iload_n (i := 2) (sx_di dX7_begin 18 rfl) rfl rfl ?_
    refine V_aload_n (i := 0) (sx_di dX7_begin 19 rfl) rfl rfl ?_
    refine V_getR (sx_di dX7_begin 20 rfl) fX7_9 (fun _ => rfl) (by first | exact hs2.1 | exact hs2.2.1 | exact hs2.2.2.1 | exact hs2.2.2.2.1 | exact hs2.2.2.2.2.1 | exact hs2.2.2.2.2.2.1 | exact hs2.2.2.2.2.2.2.1 | exact ht2.1) (by first | exact hs2.2.2.2.2.2.2.2.1 | exact hs2.2.2.2.2.2.2.2.2.1 | exact hs2.2.2.2.2.2.2.2.2.2.1 | exact hs2.2.2.2.2.2.2.2.2.2.2.1 | exact hs2.2.2.2.2.2.2.2.2.2.2.2.1 | exact hs2.2.2.2.2.2.2.2.2.2.2.2.2) ?_
    refine V_iload_n (i := 2) (sx_di dX7_begin 21 rfl) rfl rfl ?_
    refine V_ialdN (n := 8) (j := k) (sx_di dX7_begin 22 rfl) (by first | exact hs2.1 | exact hs2.2.1 | exact hs2.2.2.1 | exact hs2.2.2.2.1 | exact hs2.2.2.2.2.1 | exact hs2.2.2.2.2.2.1 | exact hs2.2.2.2.2.2.2.1 | exact ht2.1) (rfl) (by omega) (by omega) ?_
    refine V_iv (y := hp_i w (t + 1) (4 + 4 * k)) (hp_u_at J (a + 1) k _) ?_
    refine V_iastN (n := 8) (j := k) (sx_di dX7_begin 23 rfl) (by first | exact hs2.1 | exact hs2.2.1 | exact hs2.2.2.1 | exact hs2.2.2.2.1 | exact hs2.2.2.2.2.1 | exact hs2.2.2.2.2.2.1 | exact hs2.2.2.2.2.2.2.1 | exact ht2.1) (rfl) (by omega) (by omega) ?_
    refine V_ww (w2 := bgw_ w a t (hp_u (hp_u J (a + 1) k (hp_i w (t + 1) (4 + 4 * k))) (a + 2) k (hp_i w (t + 1) (4 + 4 * k)))) (rfl) ?_
    refine V_aload_n (i := 0) (sx_di dX7_begin 24 rfl) rfl rfl ?_
    refine V_getR (sx_di dX7_begin 25 rfl) fX7_18 (fun _ => rfl) (by first | exact hs2.1 | exact hs2.2.1 | exact hs2.2.2.1 | exact hs2.2.2.2.1 | exact hs2.2.2.2.2.1 | exact hs2.2.2.2.2.2.1 | exact hs2.2.2.2.2.2.2.1 | exact ht2.1) (by first | exact hs2.2.2.2.2.2.2.2.1 | exact hs2.2.2.2.2.2.2.2.2.1 | exact hs2.2.2.2.2.2.2.2.2.2.1 | exact hs2.2.2.2.2.2.2.2.2.2.2.1 | exact hs2.2.2.2.2.2.2.2.2.2.2.2.1 | exact hs2.2.2.2.2.2.2.2.2.2.2.2.2) ?_
    refine V_iload_n (i := 2) (sx_di dX7_begin 26 rfl) rfl rfl ?_
    refine V_iconst (v := 0) (sx_di dX7_begin 27 rfl) (by decide) ?_
    refine V_iastN (n := 8) (j := k) (sx_di dX7_begin 28 rfl) (by first | exact hs2.1 | exact hs2.2.1 | exact hs2.2.2.1 | exact hs2.2.2.2.1 | exact hs2.2.2.2.2.1 | exact hs2.2.2.2.2.2.1 | exact hs2.2.2.2.2.2.2.1 | exact ht2.1) (rfl) (by omega) (by omega) ?_
    refine V_ww (w2 := bgw_ w a t (hp_u (hp_u (hp_u J (a + 1) k (hp_i w (t + 1) (4 + 4 * k))) (a + 2) k (hp_i w (t + 1) (4 + 4 * k))) (a + 3) k 0)) (rfl) ?_
    refine V_aload_n (i := 0) (sx_di dX7_begin 29 rfl) rfl rfl ?_
    refine V_getR (sx_di dX7_begin 30 rfl) fX7_21 (fun _ => rfl) (by first | exact hs2.1 | exact hs2.2.1 | exact hs2.2.2.1 | exact hs2.2.2.2.1 | exact hs2.2.2.2.2.1 | exact hs2.2.2.2.2.2.1 | exact hs2.2.2.2.2.2.2.1 | exact ht2.1) (by first | exact hs2.2.2.2.2.2.2.2.1 | exact hs2.2.2.2.2.2.2.2.2.1 | exact hs2.2.2.2.2.2.2.2.2.2.1 | exact hs2.2.2.2.2.2.2.2.2.2.2.1 | exact hs2.2.2.2.2.2.2.2.2.2.2.2.1 | exact hs2.2.2.2.2.2.2.2.2.2.2.2.2) ?_
    refine V_iload_n (i := 2) (sx_di dX7_begin 31 rfl) rfl rfl ?_
    refine V_aload_n (i := 1) (sx_di dX7_begin 32 rfl) rfl rfl ?_
    refine V_iload_n (i := 2) (sx_di dX7_begin 33 rfl) rfl rfl ?_
    refine V_iconst (v := 1) (sx_di dX7_begin 34 rfl) (by decide) ?_
    refine V_cV2 (mc' := 0) (ms' := 0) (M' := mX8_ofHouse) 2 (sx_di dX7_begin 35 rfl) lX7_38 vX8_ofHouse (by first | exact hs2.1 | exact hs2.2.1 | exact hs2.2.2.1 | exact hs2.2.2.2.1 | exact hs2.2.2.2.2.1 | exact hs2.2.2.2.2.2.1 | exact hs2.2.2.2.2.2.2.1 | exact ht2.1) (by decide) rfl (Nat.le_of_ble_eq_true rfl) ⟨Nat.le_of_ble_eq_true rfl, Nat.le_of_ble_eq_true rfl⟩ ⟨Nat.le_refl _, Nat.le_refl _⟩ ?_
    refine c_X8_ofHouse (bgw_T hst (by omega) _) ?_
    refine V_iv (y := hp_i w (t + 1) (4 + 4 * k + 1)) (ev (hp_u (hp_u (hp_u J (a + 1) k (hp_i w (t + 1) (4 + 4 * k))) (a + 2) k (hp_i w (t + 1) (4 + 4 * k))) (a + 3) k 0) 1 (by omega) ((hu _ _ _ (by omega)).trans ((hu _ _ _ (by omega)).trans ((hu _ _ _ (by omega)).trans (e0))))) ?_
    refine V_iastN (n := 8) (j := k) (sx_di dX7_begin 36 rfl) (by first | exact hs2.1 | exact hs2.2.1 | exact hs2.2.2.1 | exact hs2.2.2.2.1 | exact hs2.2.2.2.2.1 | exact hs2.2.2.2.2.2.1 | exact hs2.2.2.2.2.2.2.1 | exact ht2.1) (rfl) (by omega) (by omega) ?_
    refine V_ww (w2 := bgw_ w a t (hp_u (hp_u (hp_u (hp_u J (a + 1) k (hp_i w (t + 1) (4 + 4 * k))) (a + 2) k (hp_i w (t + 1) (4 + 4 * k))) (a + 3) k 0) (a + 4) k (hp_i w (t + 1) (4 + 4 * k + 1)))) (rfl) ?_
    refine V_aload_n (i := 0) (sx_di dX7_begin 37 rfl) rfl rfl ?_
    refine V_getR (sx_di dX7_begin 38 rfl) fX7_24 (fun _ => rfl) (by first | exact hs2.1 | exact hs2.2.1 | exact hs2.2.2.1 | exact hs2.2.2.2.1 | exact hs2.2.2.2.2.1 | exact hs2.2.2.2.2.2.1 | exact hs2.2.2.2.2.2.2.1 | exact ht2.1) (by first | exact hs2.2.2.2.2.2.2.2.1 | exact hs2.2.2.2.2.2.2.2.2.1 | exact hs2.2.2.2.2.2.2.2.2.2.1 | exact hs2.2.2.2.2.2.2.2.2.2.2.1 | exact hs2.2.2.2.2.2.2.2.2.2.2.2.1 | exact hs2.2.2.2.2.2.2.2.2.2.2.2.2) ?_
    refine V_iload_n (i := 2) (sx_di dX7_begin 39 rfl) rfl rfl ?_
    refine V_aload_n (i := 1) (sx_di dX7_begin 40 rfl) rfl rfl ?_
    refine V_iload_n (i := 2) (sx_di dX7_begin 41 rfl) rfl rfl ?_
    refine V_iconst (v := 2) (sx_di dX7_begin 42 rfl) (by decide) ?_
    refine V_cV2 (mc' := 0) (ms' := 0) (M' := mX8_ofHouse) 2 (sx_di dX7_begin 43 rfl) lX7_38 vX8_ofHouse (by first | exact hs2.1 | exact hs2.2.1 | exact hs2.2.2.1 | exact hs2.2.2.2.1 | exact hs2.2.2.2.2.1 | exact hs2.2.2.2.2.2.1 | exact hs2.2.2.2.2.2.2.1 | exact ht2.1) (by decide) rfl (Nat.le_of_ble_eq_true rfl) ⟨Nat.le_of_ble_eq_true rfl, Nat.le_of_ble_eq_true rfl⟩ ⟨Nat.le_refl _, Nat.le_refl _⟩ ?_
    refine c_X8_ofHouse (bgw_T hst (by omega) _) ?_
    refine V_iv (y := hp_i w (t + 1) (4 + 4 * k + 2)) (ev (hp_u (hp_u (hp_u (hp_u J (a + 1) k (hp_i w (t + 1) (4 + 4 * k))) (a + 2) k (hp_i w (t + 1) (4 + 4 * k))) (a + 3) k 0) (a + 4) k (hp_i w (t + 1) (4 + 4 * k + 1))) 2 (by omega) ((hu _ _ _ (by omega)).trans ((hu _ _ _ (by omega)).trans ((hu _ _ _ (by omega)).trans ((hu _ _ _ (by omega)).trans (e0)))))) ?_
    refine V_iastN (n := 8) (j := k) (sx_di dX7_begin 44 rfl) (by first | exact hs2.1 | exact hs2.2.1 | exact hs2.2.2.1 | exact hs2.2.2.2.1 | exact hs2.2.2.2.2.1 | exact hs2.2.2.2.2.2.1 | exact hs2.2.2.2.2.2.2.1 | exact ht2.1) (rfl) (by omega) (by omega) ?_
    refine V_ww (w2 := bgw_ w a t (hp_u (hp_u (hp_u (hp_u (hp_u J (a + 1) k (hp_i w (t + 1) (4 + 4 * k))) (a + 2) k (hp_i w (t + 1) (4 + 4 * k))) (a + 3) k 0) (a + 4) k (hp_i w (t + 1) (4 + 4 * k + 1))) (a + 5) k (hp_i w (t + 1) (4 + 4 * k + 2)))) (rfl) ?_
    refine V_aload_n (i := 0) (sx_di dX7_begin 45 rfl) rfl rfl ?_
    refine V_getR (sx_di dX7_begin 46 rfl) fX7_27 (fun _ => rfl) (by first | exact hs2.1 | exact hs2.2.1 | exact hs2.2.2.1 | exact hs2.2.2.2.1 | exact hs2.2.2.2.2.1 | exact hs2.2.2.2.2.2.1 | exact hs2.2.2.2.2.2.2.1 | exact ht2.1) (by first | exact hs2.2.2.2.2.2.2.2.1 | exact hs2.2.2.2.2.2.2.2.2.1 | exact hs2.2.2.2.2.2.2.2.2.2.1 | exact hs2.2.2.2.2.2.2.2.2.2.2.1 | exact hs2.2.2.2.2.2.2.2.2.2.2.2.1 | exact hs2.2.2.2.2.2.2.2.2.2.2.2.2) ?_
    refine V_iload_n (i := 2) (sx_di dX7_begin 47 rfl) rfl rfl ?_
    refine V_aload_n (i := 1) (sx_di dX7_begin 48 rfl) rfl rfl ?_
    refine V_iload_n (i := 2) (sx_di dX7_begin 49 rfl) rfl rfl ?_
    refine V_iconst (v := 3) (sx_di dX7_begin 50 rfl) (by decide) ?_
    refine V_cV2 (mc' := 0) (ms' := 0) (M' := mX8_ofHouse) 2 (sx_di dX7_begin 51 rfl) lX7_38 vX8_ofHouse (by first | exact hs2.1 | exact hs2.2.1 | exact hs2.2.2.1 | exact hs2.2.2.2.1 | exact hs2.2.2.2.2.1 | exact hs2.2.2.2.2.2.1 | exact hs2.2.2.2.2.2.2.1 | exact ht2.1) (by decide) rfl (Nat.le_of_ble_eq_true rfl) ⟨Nat.le_of_ble_eq_true rfl, Nat.le_of_ble_eq_true rfl⟩ ⟨Nat.le_refl _, Nat.le_refl _⟩ ?_
    refine c_X8_ofHouse (bgw_T hst (by omega) _) ?_
    refine V_iv (y := hp_i w (t + 1) (4 + 4 * k + 3)) (ev (hp_u (hp_u (hp_u (hp_u (hp_u J (a + 1) k (hp_i w (t + 1) (4 + 4 * k))) (a + 2) k (hp_i w (t + 1) (4 + 4 * k))) (a + 3) k 0) (a + 4) k (hp_i w (t + 1) (4 + 4 * k + 1))) (a + 5) k (hp_i w (t + 1) (4 + 4 * k + 2))) 3 (by omega) ((hu _ _ _ (by omega)).trans ((hu _ _ _ (by omega)).trans ((hu _ _ _ (by omega)).trans ((hu _ _ _ (by omega)).trans ((hu _ _ _ (by omega)).trans (e0))))))) ?_
    refine V_iastN (n := 8) (j := k) (sx_di dX7_begin 52 rfl) (by first | exact hs2.1 | exact hs2.2.1 | exact hs2.2.2.1 | exact hs2.2.2.2.1 | exact hs2.2.2.2.2.1 | exact hs2.2.2.2.2.2.1 | exact hs2.2.2.2.2.2.2.1 | exact ht2.1) (rfl) (by omega) (by omega) ?_
    refine V_ww (w2 := bgw_ w a t (hp_u (hp_u (hp_u (hp_u (hp_u (hp_u J (a + 1) k (hp_i w (t + 1) (4 + 4 * k))) (a + 2) k (hp_i w (t + 1) (4 + 4 * k))) (a + 3) k 0) (a + 4) k (hp_i w (t + 1) (4 + 4 * k + 1))) (a + 5) k (hp_i w (t + 1) (4 + 4 * k + 2))) (a + 6) k (hp_i w (t + 1) (4 + 4 * k + 3)))) (rfl) ?_
    refine V_inc (c := 1) (sx_di dX7_begin 53 rfl) (by decide) rfl (by decide) (rfl) ?_
    refine V_goto (tgt := 7) (sx_di dX7_begin 54 rfl) (by decide) ?_
    exact V_subk q1 ⟨rfl, rfl, rfl, trivial⟩
def bf_ (J : Nat → Nat → Int32) (a : Nat) (x y z : Int32) : Nat → Nat → Int32 := hp_u (hp_u (hp_u (hp_u (hp_u (hp_u J a 7 0) a 8 x) a 9 y) a 10 z) a 11 0) a 12 0
theorem bf_o {J : Nat → Nat → Int32} {a b : Nat} {x y z : Int32} (h : b ≠ a) : bf_ J a x y z b = J b := by
  funext j
  unfold bf_
  rw [hp_u_nk _ _ (by omega), hp_u_nk _ _ (by omega), hp_u_nk _ _ (by omega), hp_u_nk _ _ (by omega), hp_u_nk _ _ (by omega), hp_u_nk _ _ (by omega)]
theorem bg_lo {s r : Nat → Int32} {n j : Nat} (h : j < 41) : bg_ s n r j = bpr_ s n r j := by
  unfold bg_
  rw [up_ne (by omega), up_ne (by omega), up_ne (by omega)]
theorem bpr_z {s r : Nat → Int32} {n j : Nat} (hn : n ≤ 8) (h1 : 40 ≤ j) (h2 : j < 45) : bpr_ s n r j = 0 := by
  unfold bpr_ zr_
  rw [if_neg (by omega), if_neg (by omega), if_neg (by omega), if_neg (by omega), if_pos (by omega)]
theorem bg_v {I J : Nat → Nat → Int32} {a t n : Nat} {s : Nat → Int32} (hn8 : n ≤ 8) (h6 : ∀ j, j < 4 * n → I (t + 1) (4 + j) = s (4 + j)) (H : bcK I J a t 8) (r : Nat → Int32) : vw_ n (bf_ J a (s 3) (if s 1 = 8 then -1 else s 1) (s 2)) a (bg_ s n r) ∧ tm_ n (bf_ J a (s 3) (if s 1 = 8 then -1 else s 1) (s 2)) a (z_m s) := by
  refine ⟨⟨fun h hh => ?_, ?_, ?_, ?_, ?_, ?_⟩, fun h hh => ?_⟩
  · obtain ⟨a1, a2, a3, a4, a5, a6⟩ := H.2.2 h (by omega)
    rw [bf_o (by omega), bf_o (by omega), bf_o (by omega), bf_o (by omega), bf_o (by omega), a2, a3, a4, a5, a6, bg_lo (by omega), bg_lo (by omega), bg_lo (by omega), bg_lo (by omega), bg_lo (by omega)]
    unfold bpr_
    refine ⟨?_, ?_, ?_, ?_, ?_⟩
    · rw [if_pos hh]; exact h6 (4 * h) (by omega)
    · rw [if_neg (by omega), if_neg (by omega), if_neg (by omega), if_neg (by omega)]; unfold zr_; rw [if_pos (by omega)]
    · rw [if_neg (by omega), if_pos (by omega), Nat.add_sub_cancel_left]; exact h6 (4 * h + 1) (by omega)
    · rw [if_neg (by omega), if_neg (by omega), if_pos (by omega), Nat.add_sub_cancel_left]; exact h6 (4 * h + 2) (by omega)
    · rw [if_neg (by omega), if_neg (by omega), if_neg (by omega), if_pos (by omega), Nat.add_sub_cancel_left]; exact h6 (4 * h + 3) (by omega)
  · rw [bg_lo (by omega), bpr_z hn8 (by omega) (by omega)]
    unfold bf_
    rw [hp_u_nk _ _ (by omega), hp_u_nk _ _ (by omega), hp_u_nk _ _ (by omega), hp_u_nk _ _ (by omega), hp_u_nk _ _ (by omega), hp_u_at]
  · unfold bg_ bf_
    rw [up_ne (by omega), up_ne (by omega), up_at, hp_u_nk _ _ (by omega), hp_u_nk _ _ (by omega), hp_u_nk _ _ (by omega), hp_u_nk _ _ (by omega), hp_u_at]
  · unfold bg_ bf_
    rw [up_ne (by omega), up_at, hp_u_nk _ _ (by omega), hp_u_nk _ _ (by omega), hp_u_nk _ _ (by omega), hp_u_at]
  · unfold bg_ bf_
    rw [up_at, hp_u_nk _ _ (by omega), hp_u_nk _ _ (by omega), hp_u_at]
  · unfold bg_
    rw [up_ne (by omega), up_ne (by omega), up_ne (by omega), bpr_z hn8 (by omega) (by omega)]
    unfold bf_
    rw [hp_u_nk _ _ (by omega), hp_u_at]
  · rw [bf_o (by omega), (H.2.2 h (by omega)).1]
    exact h6 (4 * h) (by omega)
set_option maxHeartbeats 2000000 in
set_option maxRecDepth 20000 in
theorem e_begin {E : sxE} {w : hpW} {Q : Option Value → hpW → Prop} {a t : Nat} (hs : is_Ss w a) (hst : is_St w t) (ha : 57 ≤ a) (ht5 : t = 53 ∨ t = 55) {n : Nat} (hn8 : n ≤ 8) {s : Nat → Int32} (h5 : ∀ j, j < 4 → hp_i w (t + 1) j = s j) (h6 : ∀ j, j < 4 * n → hp_i w (t + 1) (4 + j) = s (4 + j)) (h : ∀ J, (∀ b, b < a ∨ a + 6 < b → J b = hp_i w b) → (∀ r, vw_ n J a (bg_ s n r)) → tm_ n J a (z_m s) → J a 12 = 0 → Q none (bgw_ w a t J)) : sx_C E mX7_begin 3 0 0 [.ref a, .ref t] w Q := by
  have hs2 := hs
  have ht2 := hst
  have key : ∀ J, bcK (hp_i w) J a t 8 → V E mX7_begin (sx_rm 3 0 0) 0 0 0 0 86 [(1, .ref t), (0, .ref a)] [] (bgw_ w a t J) Q := fun J hJ => by
    have hs2 := bgw_S (t := t) hs J
    have ht2 := bgw_T (a := a) hst (by omega) J
    have e0 : J (t + 1) = hp_i w (t + 1) := hJ.1 _ (by omega)
    have hu : ∀ (J2 : Nat → Nat → Int32) i x, hp_u J2 a i x (t + 1) = J2 (t + 1) := fun J2 i x => by
      funext j
      exact hp_u_nk _ _ (by omega)
    have ev : ∀ J2 : Nat → Nat → Int32, ∀ i, i < 4 → J2 (t + 1) = hp_i w (t + 1) → sl_ J2 t (nI i) = s i := fun J2 i hi e2 => by rw [sl_n (by omega), e2, h5 i hi]
    have z := bg_v (a := a) (t := t) (J := J) hn8 h6 hJ
    have hz := h (bf_ J a (s 3) (if s 1 = 8 then -1 else s 1) (s 2)) (fun b hb => (bf_o (by omega)).trans (hJ.1 b hb)) (fun r => (z r).1) (z (fun _ => 0)).2 (by unfold bf_; rw [hp_u_at])
    unfold bf_ at hz
    refine V_aload_n (i := 0) (sx_di dX7_begin 55 rfl) rfl rfl ?_
    refine V_iconst (v := 0) (sx_di dX7_begin 56 rfl) (by decide) ?_
    refine V_putI (sx_di dX7_begin 57 rfl) fX7_44 (fun _ => rfl) rfl (by first | exact hs2.1 | exact hs2.2.1 | exact hs2.2.2.1 | exact hs2.2.2.2.1 | exact hs2.2.2.2.2.1 | exact hs2.2.2.2.2.2.1 | exact hs2.2.2.2.2.2.2.1 | exact ht2.1) (rfl) (rfl) ?_
    refine V_ww (w2 := bgw_ w a t (hp_u J a 7 0)) (rfl) ?_
    refine V_aload_n (i := 0) (sx_di dX7_begin 58 rfl) rfl rfl ?_
    refine V_aload_n (i := 1) (sx_di dX7_begin 59 rfl) rfl rfl ?_
    refine V_cV0 (mc' := 0) (ms' := 0) (M' := mX8_firstCoins) 2 (sx_di dX7_begin 60 rfl) lX7_47 vX8_firstCoins (by first | exact hs2.1 | exact hs2.2.1 | exact hs2.2.2.1 | exact hs2.2.2.2.1 | exact hs2.2.2.2.2.1 | exact hs2.2.2.2.2.2.1 | exact hs2.2.2.2.2.2.2.1 | exact ht2.1) (by decide) rfl (Nat.le_of_ble_eq_true rfl) ⟨Nat.le_of_ble_eq_true rfl, Nat.le_of_ble_eq_true rfl⟩ ⟨Nat.le_refl _, Nat.le_refl _⟩ ?_
    refine c_X8_firstCoins (bgw_T hst (by omega) _) ?_
    refine V_iv (y := s 3) (ev (hp_u J a 7 0) 3 (by omega) ((hu _ _ _).trans (e0))) ?_
    refine V_putI (sx_di dX7_begin 61 rfl) fX7_51 (fun _ => rfl) rfl (by first | exact hs2.1 | exact hs2.2.1 | exact hs2.2.2.1 | exact hs2.2.2.2.1 | exact hs2.2.2.2.2.1 | exact hs2.2.2.2.2.2.1 | exact hs2.2.2.2.2.2.2.1 | exact ht2.1) (rfl) (rfl) ?_
    refine V_ww (w2 := bgw_ w a t (hp_u (hp_u J a 7 0) a 8 (s 3))) (rfl) ?_
    refine V_aload_n (i := 0) (sx_di dX7_begin 62 rfl) rfl rfl ?_
    refine V_aload_n (i := 1) (sx_di dX7_begin 63 rfl) rfl rfl ?_
    refine V_cV0 (mc' := 0) (ms' := 0) (M' := mX8_firstHouse) 2 (sx_di dX7_begin 64 rfl) lX7_54 vX8_firstHouse (by first | exact hs2.1 | exact hs2.2.1 | exact hs2.2.2.1 | exact hs2.2.2.2.1 | exact hs2.2.2.2.2.1 | exact hs2.2.2.2.2.2.1 | exact hs2.2.2.2.2.2.2.1 | exact ht2.1) (by decide) rfl (Nat.le_of_ble_eq_true rfl) ⟨Nat.le_of_ble_eq_true rfl, Nat.le_of_ble_eq_true rfl⟩ ⟨Nat.le_refl _, Nat.le_refl _⟩ ?_
    refine c_X8_firstHouse (bgw_T hst (by omega) _) ?_
    refine V_iv (y := s 1) (ev (hp_u (hp_u J a 7 0) a 8 (s 3)) 1 (by omega) ((hu _ _ _).trans ((hu _ _ _).trans (e0)))) ?_
    refine V_bipush (v := 8) (sx_di dX7_begin 65 rfl) (by decide) ?_
    refine V_icmp_ne (tgt := 113) (sx_di dX7_begin 66 rfl) (by decide) (fun h106 => ?_) (fun h106 => ?_)
    · rw [if_neg h106] at hz
      refine V_aload_n (i := 1) (sx_di dX7_begin 69 rfl) rfl rfl ?_
      refine V_cV0 (mc' := 0) (ms' := 0) (M' := mX8_firstHouse) 2 (sx_di dX7_begin 70 rfl) lX7_54 vX8_firstHouse (by first | exact hs2.1 | exact hs2.2.1 | exact hs2.2.2.1 | exact hs2.2.2.2.1 | exact hs2.2.2.2.2.1 | exact hs2.2.2.2.2.2.1 | exact hs2.2.2.2.2.2.2.1 | exact ht2.1) (by decide) rfl (Nat.le_of_ble_eq_true rfl) ⟨Nat.le_of_ble_eq_true rfl, Nat.le_of_ble_eq_true rfl⟩ ⟨Nat.le_refl _, Nat.le_refl _⟩ ?_
      refine c_X8_firstHouse (bgw_T hst (by omega) _) ?_
      refine V_iv (y := s 1) (ev (hp_u (hp_u J a 7 0) a 8 (s 3)) 1 (by omega) ((hu _ _ _).trans ((hu _ _ _).trans (e0)))) ?_
      refine V_putI (sx_di dX7_begin 71 rfl) fX7_30 (fun _ => rfl) rfl (by first | exact hs2.1 | exact hs2.2.1 | exact hs2.2.2.1 | exact hs2.2.2.2.1 | exact hs2.2.2.2.2.1 | exact hs2.2.2.2.2.2.1 | exact hs2.2.2.2.2.2.2.1 | exact ht2.1) (rfl) (rfl) ?_
      refine V_ww (w2 := bgw_ w a t (hp_u (hp_u (hp_u J a 7 0) a 8 (s 3)) a 9 (s 1))) (rfl) ?_
      refine V_aload_n (i := 0) (sx_di dX7_begin 72 rfl) rfl rfl ?_
      refine V_aload_n (i := 1) (sx_di dX7_begin 73 rfl) rfl rfl ?_
      refine V_cV0 (mc' := 0) (ms' := 0) (M' := mX8_firstForm) 2 (sx_di dX7_begin 74 rfl) lX7_57 vX8_firstForm (by first | exact hs2.1 | exact hs2.2.1 | exact hs2.2.2.1 | exact hs2.2.2.2.1 | exact hs2.2.2.2.2.1 | exact hs2.2.2.2.2.2.1 | exact hs2.2.2.2.2.2.2.1 | exact ht2.1) (by decide) rfl (Nat.le_of_ble_eq_true rfl) ⟨Nat.le_of_ble_eq_true rfl, Nat.le_of_ble_eq_true rfl⟩ ⟨Nat.le_refl _, Nat.le_refl _⟩ ?_
      refine c_X8_firstForm (bgw_T hst (by omega) _) ?_
      refine V_iv (y := s 2) (ev (hp_u (hp_u (hp_u J a 7 0) a 8 (s 3)) a 9 (s 1)) 2 (by omega) ((hu _ _ _).trans ((hu _ _ _).trans ((hu _ _ _).trans (e0))))) ?_
      refine V_putI (sx_di dX7_begin 75 rfl) fX7_60 (fun _ => rfl) rfl (by first | exact hs2.1 | exact hs2.2.1 | exact hs2.2.2.1 | exact hs2.2.2.2.1 | exact hs2.2.2.2.2.1 | exact hs2.2.2.2.2.2.1 | exact hs2.2.2.2.2.2.2.1 | exact ht2.1) (rfl) (rfl) ?_
      refine V_ww (w2 := bgw_ w a t (hp_u (hp_u (hp_u (hp_u J a 7 0) a 8 (s 3)) a 9 (s 1)) a 10 (s 2))) (rfl) ?_
      refine V_aload_n (i := 0) (sx_di dX7_begin 76 rfl) rfl rfl ?_
      refine V_iconst (v := 0) (sx_di dX7_begin 77 rfl) (by decide) ?_
      refine V_putI (sx_di dX7_begin 78 rfl) fX7_63 (fun _ => rfl) rfl (by first | exact hs2.1 | exact hs2.2.1 | exact hs2.2.2.1 | exact hs2.2.2.2.1 | exact hs2.2.2.2.2.1 | exact hs2.2.2.2.2.2.1 | exact hs2.2.2.2.2.2.2.1 | exact ht2.1) (rfl) (rfl) ?_
      refine V_aload_n (i := 0) (sx_di dX7_begin 79 rfl) rfl rfl ?_
      refine V_iconst (v := 0) (sx_di dX7_begin 80 rfl) (by decide) ?_
      refine V_putI (sx_di dX7_begin 81 rfl) fX7_66 (fun _ => rfl) rfl (by first | exact hs2.1 | exact hs2.2.1 | exact hs2.2.2.1 | exact hs2.2.2.2.1 | exact hs2.2.2.2.2.1 | exact hs2.2.2.2.2.2.1 | exact hs2.2.2.2.2.2.2.1 | exact ht2.1) (rfl) (rfl) ?_
      refine V_vret (sx_di dX7_begin 82 rfl) rfl (Nat.le_refl _) (Nat.le_refl _) ?_
      exact hz
    · rw [if_pos h106] at hz
      refine V_iconst (v := -1) (sx_di dX7_begin 67 rfl) (by decide) ?_
      refine V_goto (tgt := 117) (sx_di dX7_begin 68 rfl) (by decide) ?_
      refine V_putI (sx_di dX7_begin 71 rfl) fX7_30 (fun _ => rfl) rfl (by first | exact hs2.1 | exact hs2.2.1 | exact hs2.2.2.1 | exact hs2.2.2.2.1 | exact hs2.2.2.2.2.1 | exact hs2.2.2.2.2.2.1 | exact hs2.2.2.2.2.2.2.1 | exact ht2.1) (rfl) (rfl) ?_
      refine V_ww (w2 := bgw_ w a t (hp_u (hp_u (hp_u J a 7 0) a 8 (s 3)) a 9 (-1))) (rfl) ?_
      refine V_aload_n (i := 0) (sx_di dX7_begin 72 rfl) rfl rfl ?_
      refine V_aload_n (i := 1) (sx_di dX7_begin 73 rfl) rfl rfl ?_
      refine V_cV0 (mc' := 0) (ms' := 0) (M' := mX8_firstForm) 2 (sx_di dX7_begin 74 rfl) lX7_57 vX8_firstForm (by first | exact hs2.1 | exact hs2.2.1 | exact hs2.2.2.1 | exact hs2.2.2.2.1 | exact hs2.2.2.2.2.1 | exact hs2.2.2.2.2.2.1 | exact hs2.2.2.2.2.2.2.1 | exact ht2.1) (by decide) rfl (Nat.le_of_ble_eq_true rfl) ⟨Nat.le_of_ble_eq_true rfl, Nat.le_of_ble_eq_true rfl⟩ ⟨Nat.le_refl _, Nat.le_refl _⟩ ?_
      refine c_X8_firstForm (bgw_T hst (by omega) _) ?_
      refine V_iv (y := s 2) (ev (hp_u (hp_u (hp_u J a 7 0) a 8 (s 3)) a 9 (-1)) 2 (by omega) ((hu _ _ _).trans ((hu _ _ _).trans ((hu _ _ _).trans (e0))))) ?_
      refine V_putI (sx_di dX7_begin 75 rfl) fX7_60 (fun _ => rfl) rfl (by first | exact hs2.1 | exact hs2.2.1 | exact hs2.2.2.1 | exact hs2.2.2.2.1 | exact hs2.2.2.2.2.1 | exact hs2.2.2.2.2.2.1 | exact hs2.2.2.2.2.2.2.1 | exact ht2.1) (rfl) (rfl) ?_
      refine V_ww (w2 := bgw_ w a t (hp_u (hp_u (hp_u (hp_u J a 7 0) a 8 (s 3)) a 9 (-1)) a 10 (s 2))) (rfl) ?_
      refine V_aload_n (i := 0) (sx_di dX7_begin 76 rfl) rfl rfl ?_
      refine V_iconst (v := 0) (sx_di dX7_begin 77 rfl) (by decide) ?_
      refine V_putI (sx_di dX7_begin 78 rfl) fX7_63 (fun _ => rfl) rfl (by first | exact hs2.1 | exact hs2.2.1 | exact hs2.2.2.1 | exact hs2.2.2.2.1 | exact hs2.2.2.2.2.1 | exact hs2.2.2.2.2.2.1 | exact hs2.2.2.2.2.2.2.1 | exact ht2.1) (rfl) (rfl) ?_
      refine V_aload_n (i := 0) (sx_di dX7_begin 79 rfl) rfl rfl ?_
      refine V_iconst (v := 0) (sx_di dX7_begin 80 rfl) (by decide) ?_
      refine V_putI (sx_di dX7_begin 81 rfl) fX7_66 (fun _ => rfl) rfl (by first | exact hs2.1 | exact hs2.2.1 | exact hs2.2.2.1 | exact hs2.2.2.2.1 | exact hs2.2.2.2.2.1 | exact hs2.2.2.2.2.2.1 | exact hs2.2.2.2.2.2.2.1 | exact ht2.1) (rfl) (rfl) ?_
      refine V_vret (sx_di dX7_begin 82 rfl) rfl (Nat.le_refl _) (Nat.le_refl _) ?_
      exact hz
  refine C_of (by decide +kernel) (Nat.le_of_ble_eq_true rfl) ?_
  refine V_aload_n (i := 0) (sx_di dX7_begin 0 rfl) rfl rfl ?_
  refine V_aload_n (i := 1) (sx_di dX7_begin 1 rfl) rfl rfl ?_
  refine V_putR (sx_di dX7_begin 2 rfl) fX7_34 (fun _ => rfl) rfl (by first | exact hs2.1 | exact hs2.2.1 | exact hs2.2.2.1 | exact hs2.2.2.2.1 | exact hs2.2.2.2.2.1 | exact hs2.2.2.2.2.2.1 | exact hs2.2.2.2.2.2.2.1 | exact ht2.1) (fun _ => rfl) (fun _ => rfl) ?_
  refine V_iconst (v := 0) (sx_di dX7_begin 3 rfl) (by decide) ?_
  refine V_istore_n (i := 2) (sx_di dX7_begin 4 rfl) rfl (by decide) (rfl) ?_
  refine V_ww (w2 := bgw_ w a t (hp_i w)) rfl ?_
  refine V_sub (ls' := [(2, .int (nI 0)), (1, .ref t), (0, .ref a)]) ⟨rfl, rfl, rfl, trivial⟩ ?_
  exact bC_l1 hs hst ha ht5 key 8 0 (hp_i w) (by omega) ⟨fun _ _ => rfl, fun _ => rfl, fun h hh => absurd hh (by omega)⟩

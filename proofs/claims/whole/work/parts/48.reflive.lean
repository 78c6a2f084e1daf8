/-! the reference: where it goes; a day -/
theorem gs_rng (f : Nat → Int32) : ∀ n, (gs_ f n).1 = -1 ∨ ∃ p, p < n ∧ (gs_ f n).1 = nI p
  | 0 => Or.inl rfl
  | n + 1 => by
    rw [gs_]
    split
    · rcases gs_rng f n with h | ⟨p, h1, h2⟩
      · exact Or.inl h
      · exact Or.inr ⟨p, by omega, h2⟩
    · exact Or.inr ⟨n, by omega, rfl⟩
set_option maxHeartbeats 2000000 in
set_option maxRecDepth 20000 in
theorem wg_lp {E : sxE} {w : hpW} {Q : Option Value → hpW → Prop} {n m : Nat} {F : wF} {sz fo : Int32 → Int32} {bt : Int32} {m0 s : Nat → Int32} (R : RQ w n m F sz fo bt m0 s) (hq : ∀ I, fr_ w I RX → Q (some (.int (go_ F sz n s))) (hp_wi w I)) : ∀ q k I, k + q = n → fr_ w I RX → V E mX12_wouldGo (sx_rm 7 0 0) 0 0 0 0 6 [(3, .int (nI k)), (2, .int (gs_ (mv_ F sz s) k).2), (1, .int (gs_ (mv_ F sz s) k).1), (0, .ref 381)] [] (hp_wi w I) Q := by
  have hB := R.1
  have hn8 : n ≤ 8 := R.2.1.2.1
  have hn2 : ∀ J, fr_ w J RX → hp_i (hp_wi w J) 381 25 = nI n := fun J hJ => (congrFun (hJ 381 (by unfold RX; omega)) 25).trans R.2.1.1
  intro q
  induction q with
  | zero =>
    intro k I hk hf
    have e : k = n := by omega
    subst e
    refine V_iload_n (i := 3) (sx_di dX12_wouldGo 6 rfl) rfl rfl ?_
    refine V_aload_n (i := 0) (sx_di dX12_wouldGo 7 rfl) rfl rfl ?_
    refine V_getI (sx_di dX12_wouldGo 8 rfl) fX12_258 (fun _ => rfl) (hB.k _ rfl) ?_
    refine V_icN_ge (a := k) (b := k) (rfl) (hn2 I hf) (by omega) (by omega) (tgt := 38) (sx_di dX12_wouldGo 9 rfl) (by decide) (fun _ => ?_) (fun h11 => absurd h11 (by omega))
    refine V_iload_n (i := 1) (sx_di dX12_wouldGo 23 rfl) rfl rfl ?_
    refine V_iret (sx_di dX12_wouldGo 24 rfl) rfl (Nat.le_refl _) (Nat.le_refl _) ?_
    exact hq I hf
  | succ q ih =>
    intro k I hk hf
    have q1 := ih (k + 1)
    rw [← nI_1] at q1
    refine V_iload_n (i := 3) (sx_di dX12_wouldGo 6 rfl) rfl rfl ?_
    refine V_aload_n (i := 0) (sx_di dX12_wouldGo 7 rfl) rfl rfl ?_
    refine V_getI (sx_di dX12_wouldGo 8 rfl) fX12_258 (fun _ => rfl) (hB.k _ rfl) ?_
    refine V_icN_ge (a := k) (b := n) (rfl) (hn2 I hf) (by omega) (by omega) (tgt := 38) (sx_di dX12_wouldGo 9 rfl) (by decide) (fun h11 => absurd h11 (by omega)) (fun _ => ?_)
    refine V_aload_n (i := 0) (sx_di dX12_wouldGo 10 rfl) rfl rfl ?_
    refine V_iload_n (i := 3) (sx_di dX12_wouldGo 11 rfl) rfl rfl ?_
    refine V_cV1 (mc' := 0) (ms' := 0) (M' := mX12_mindedOf) 6 (sx_di dX12_wouldGo 12 rfl) lX12_299 vX12_mindedOf (hB.k _ rfl) (by decide) rfl (Nat.le_of_ble_eq_true rfl) ⟨Nat.le_of_ble_eq_true rfl, Nat.le_of_ble_eq_true rfl⟩ ⟨Nat.le_refl _, Nat.le_refl _⟩ ?_
    refine c_X12_mindedOf (w := hp_wi w I) (RQ_x R hf) (h := k) (by omega) (fun I2 f2 => ?_)
    have g2 : fr_ w I2 RX := fr_tr hf f2 (fun b z => z)
    refine V_istore (sx_di dX12_wouldGo 13 rfl) (by decide) (rfl) ?_
    refine V_iload (sx_di dX12_wouldGo 14 rfl) rfl ?_
    refine V_iload_n (i := 2) (sx_di dX12_wouldGo 15 rfl) rfl rfl ?_
    refine V_icmp_le (tgt := 32) (sx_di dX12_wouldGo 16 rfl) (by decide) (fun h24 => ?_) (fun h24 => ?_)
    · have q2 := q1 I2 (by omega) g2
      rw [gs_, if_pos h24] at q2
      refine V_inc (c := 1) (sx_di dX12_wouldGo 21 rfl) (by decide) rfl (by decide) (rfl) ?_
      refine V_goto (tgt := 6) (sx_di dX12_wouldGo 22 rfl) (by decide) ?_
      exact V_subk q2 ⟨rfl, rfl, rfl, rfl, trivial⟩
    · have q2 := q1 I2 (by omega) g2
      rw [gs_, if_neg h24] at q2
      refine V_iload_n (i := 3) (sx_di dX12_wouldGo 17 rfl) rfl rfl ?_
      refine V_istore_n (i := 1) (sx_di dX12_wouldGo 18 rfl) rfl (by decide) (rfl) ?_
      refine V_iload (sx_di dX12_wouldGo 19 rfl) rfl ?_
      refine V_istore_n (i := 2) (sx_di dX12_wouldGo 20 rfl) rfl (by decide) (rfl) ?_
      refine V_inc (c := 1) (sx_di dX12_wouldGo 21 rfl) (by decide) rfl (by decide) (rfl) ?_
      refine V_goto (tgt := 6) (sx_di dX12_wouldGo 22 rfl) (by decide) ?_
      exact V_subk q2 ⟨rfl, rfl, rfl, rfl, trivial⟩
set_option maxHeartbeats 2000000 in
set_option maxRecDepth 20000 in
theorem c_X12_wouldGo {E : sxE} {w : hpW} {Q : Option Value → hpW → Prop} {n m : Nat} {F : wF} {sz fo : Int32 → Int32} {bt : Int32} {m0 s : Nat → Int32} (R : RQ w n m F sz fo bt m0 s) (hq : ∀ I, fr_ w I RX → Q (some (.int (go_ F sz n s))) (hp_wi w I)) : sx_C E mX12_wouldGo 7 0 0 [.ref 381] w Q := by
  refine C_of (by decide +kernel) (Nat.le_of_ble_eq_true rfl) ?_
  refine V_iconst (v := -1) (sx_di dX12_wouldGo 0 rfl) (by decide) ?_
  refine V_istore_n (i := 1) (sx_di dX12_wouldGo 1 rfl) rfl (by decide) (rfl) ?_
  refine V_iconst (v := 0) (sx_di dX12_wouldGo 2 rfl) (by decide) ?_
  refine V_istore_n (i := 2) (sx_di dX12_wouldGo 3 rfl) rfl (by decide) (rfl) ?_
  refine V_iconst (v := 0) (sx_di dX12_wouldGo 4 rfl) (by decide) ?_
  refine V_istore_n (i := 3) (sx_di dX12_wouldGo 5 rfl) rfl (by decide) (rfl) ?_
  refine V_sub (ls' := [(3, .int (nI 0)), (2, .int (gs_ (mv_ F sz s) 0).2), (1, .int (gs_ (mv_ F sz s) 0).1), (0, .ref 381)]) ⟨rfl, rfl, rfl, rfl, trivial⟩ ?_
  exact wg_lp (w := w) R hq n 0 (hp_i w) (by omega) fr_rf
set_option maxHeartbeats 2000000 in
set_option maxRecDepth 20000 in
theorem c_X12_of {E : sxE} {w : hpW} {Q : Option Value → hpW → Prop} (hB : ly_B w) {x y : Nat} (hx : x < 8) (hy : y < 4) (h : Q (some (.int (hp_i w 396 (4 * x + y)))) w) : sx_C E mX12_of 1 0 0 [.ref 381, .int (nI x), .int (nI y)] w Q := by
  refine C_of (by decide +kernel) (Nat.le_of_ble_eq_true rfl) ?_
  refine V_aload_n (i := 0) (sx_di dX12_of 0 rfl) rfl rfl ?_
  refine V_getR (sx_di dX12_of 1 rfl) fX12_52 (fun _ => rfl) (hB.k _ rfl) (hB.r _ _ rfl) ?_
  refine V_iconst (v := 4) (sx_di dX12_of 2 rfl) (by decide) ?_
  refine V_iload_n (i := 1) (sx_di dX12_of 3 rfl) rfl rfl ?_
  refine V_imul (sx_di dX12_of 4 rfl) ?_
  refine V_iload_n (i := 2) (sx_di dX12_of 5 rfl) rfl rfl ?_
  refine V_iadd (sx_di dX12_of 6 rfl) ?_
  refine V_ialdN (n := 32) (j := ((4 * x) + y)) (sx_di dX12_of 7 rfl) (hB.k _ rfl) (nx_add (nx_mul (rfl) (rfl)) (rfl)) (by omega) (by omega) ?_
  refine V_iret (sx_di dX12_of 8 rfl) rfl (Nat.le_refl _) (Nat.le_refl _) ?_
  exact h
theorem us_10 : ∀ k, k < 10 → mx_ 0 (nI k - 1) = (if nI k < 0 then nI k + 1 else if 0 < nI k then nI k - 1 else nI k) := by decide +kernel
theorem us_ok {k a : Nat} (hk : k ≤ 9) (ha : a ≤ 9) (pl x : Int32) : ∃ j, j ≤ 9 ∧ us_ (nI k) (nI a) pl x = nI j := by
  have key : ∀ b, b ≤ 9 → ∃ j, j ≤ 9 ∧ (if nI k < nI b then nI k + 1 else if nI b < nI k then nI k - 1 else nI k) = nI j := by
    intro b hb
    by_cases h1 : nI k < nI b
    · rw [if_pos h1]
      rw [nI_ltI (by omega) (by omega)] at h1
      exact ⟨k + 1, by omega, nI_1 k⟩
    · rw [if_neg h1]
      by_cases h2 : nI b < nI k
      · rw [if_pos h2]
        rw [nI_ltI (by omega) (by omega)] at h2
        exact ⟨k - 1, by omega, by rw [show nI k - 1 = nI (k - 1) from pk_sub (b := 1) (by omega)]⟩
      · rw [if_neg h2]; exact ⟨k, hk, rfl⟩
  unfold us_
  by_cases h : x = pl
  · rw [if_pos h]; exact key 0 (by omega)
  · rw [if_neg h]; exact key a ha
set_option maxHeartbeats 2000000 in
set_option maxRecDepth 20000 in
theorem c_X12_getUsed {E : sxE} {w : hpW} {Q : Option Value → hpW → Prop} (hB : ly_B w) {h k : Nat} (hh : h < 8) (hk : k ≤ 9) (e : hp_i w 398 h = nI k) (hq : Q none (hp_wi w (hp_u (hp_i w) 398 h (us_ (hp_i w 398 h) (hp_i w 396 (4 * h)) (hp_i w 398 42) (nI h))))) : sx_C E mX12_getUsed 2 0 0 [.ref 381, .int (nI h)] w Q := by
  refine C_of (by decide +kernel) (Nat.le_of_ble_eq_true rfl) ?_
  refine V_iload_n (i := 1) (sx_di dX12_getUsed 0 rfl) rfl rfl ?_
  refine V_aload_n (i := 0) (sx_di dX12_getUsed 1 rfl) rfl rfl ?_
  refine V_getR (sx_di dX12_getUsed 2 rfl) fX12_58 (fun _ => rfl) (hB.k _ rfl) (hB.r _ _ rfl) ?_
  refine V_bipush (v := 42) (sx_di dX12_getUsed 3 rfl) (by decide) ?_
  refine V_ialdN (n := 226) (j := 42) (sx_di dX12_getUsed 4 rfl) (hB.k _ rfl) (rfl) (by omega) (by omega) ?_
  refine V_icmp_ne (tgt := 36) (sx_di dX12_getUsed 5 rfl) (by decide) (fun h8 => ?_) (fun h8 => ?_)
  · have u : us_ (hp_i w 398 h) (hp_i w 396 (4 * h)) (hp_i w 398 42) (nI h) = (if hp_i w 398 h < hp_i w 396 (4 * h) then hp_i w 398 h + 1 else if hp_i w 396 (4 * h) < hp_i w 398 h then hp_i w 398 h - 1 else hp_i w 398 h) := by unfold us_; rw [if_neg h8]
    rw [u] at hq
    refine V_aload_n (i := 0) (sx_di dX12_getUsed 23 rfl) rfl rfl ?_
    refine V_iload_n (i := 1) (sx_di dX12_getUsed 24 rfl) rfl rfl ?_
    refine V_iconst (v := 0) (sx_di dX12_getUsed 25 rfl) (by decide) ?_
    refine V_cV2 (mc' := 0) (ms' := 0) (M' := mX12_of) 1 (sx_di dX12_getUsed 26 rfl) lX12_261 vX12_of (hB.k _ rfl) (by decide) rfl (Nat.le_of_ble_eq_true rfl) ⟨Nat.le_of_ble_eq_true rfl, Nat.le_of_ble_eq_true rfl⟩ ⟨Nat.le_refl _, Nat.le_refl _⟩ ?_
    refine c_X12_of (x := h) (y := 0) hB hh (by omega) ?_
    rw [Nat.add_zero (4 * h)]
    refine V_istore_n (i := 2) (sx_di dX12_getUsed 27 rfl) rfl (by decide) (rfl) ?_
    refine V_aload_n (i := 0) (sx_di dX12_getUsed 28 rfl) rfl rfl ?_
    refine V_getR (sx_di dX12_getUsed 29 rfl) fX12_58 (fun _ => rfl) (hB.k _ rfl) (hB.r _ _ rfl) ?_
    refine V_iconst (v := 0) (sx_di dX12_getUsed 30 rfl) (by decide) ?_
    refine V_iload_n (i := 1) (sx_di dX12_getUsed 31 rfl) rfl rfl ?_
    refine V_iadd (sx_di dX12_getUsed 32 rfl) ?_
    refine V_dup2 (sx_di dX12_getUsed 33 rfl) rfl rfl ?_
    refine V_ialdN (n := 226) (j := h) (sx_di dX12_getUsed 34 rfl) (hB.k _ rfl) (nx_z0 (rfl)) (by omega) (by omega) ?_
    refine V_aload_n (i := 0) (sx_di dX12_getUsed 35 rfl) rfl rfl ?_
    refine V_getR (sx_di dX12_getUsed 36 rfl) fX12_58 (fun _ => rfl) (hB.k _ rfl) (hB.r _ _ rfl) ?_
    refine V_iconst (v := 0) (sx_di dX12_getUsed 37 rfl) (by decide) ?_
    refine V_iload_n (i := 1) (sx_di dX12_getUsed 38 rfl) rfl rfl ?_
    refine V_iadd (sx_di dX12_getUsed 39 rfl) ?_
    refine V_ialdN (n := 226) (j := h) (sx_di dX12_getUsed 40 rfl) (hB.k _ rfl) (nx_z0 (rfl)) (by omega) (by omega) ?_
    refine V_iload_n (i := 2) (sx_di dX12_getUsed 41 rfl) rfl rfl ?_
    refine V_icmp_ge (tgt := 68) (sx_di dX12_getUsed 42 rfl) (by decide) (fun h61 => ?_) (fun h61 => ?_)
    · refine V_aload_n (i := 0) (sx_di dX12_getUsed 45 rfl) rfl rfl ?_
      refine V_getR (sx_di dX12_getUsed 46 rfl) fX12_58 (fun _ => rfl) (hB.k _ rfl) (hB.r _ _ rfl) ?_
      refine V_iconst (v := 0) (sx_di dX12_getUsed 47 rfl) (by decide) ?_
      refine V_iload_n (i := 1) (sx_di dX12_getUsed 48 rfl) rfl rfl ?_
      refine V_iadd (sx_di dX12_getUsed 49 rfl) ?_
      refine V_ialdN (n := 226) (j := h) (sx_di dX12_getUsed 50 rfl) (hB.k _ rfl) (nx_z0 (rfl)) (by omega) (by omega) ?_
      refine V_iload_n (i := 2) (sx_di dX12_getUsed 51 rfl) rfl rfl ?_
      refine V_icmp_le (tgt := 84) (sx_di dX12_getUsed 52 rfl) (by decide) (fun h77 => ?_) (fun h77 => ?_)
      · refine V_iconst (v := 0) (sx_di dX12_getUsed 55 rfl) (by decide) ?_
        refine V_iadd (sx_di dX12_getUsed 56 rfl) ?_
        refine V_iastN (n := 226) (j := h) (sx_di dX12_getUsed 57 rfl) (hB.k _ rfl) (nx_z0 (rfl)) (by omega) (by omega) ?_
        refine V_vret (sx_di dX12_getUsed 58 rfl) rfl (Nat.le_refl _) (Nat.le_refl _) ?_
        first | (rw [if_neg (Int32.not_lt.mpr h61), if_pos (Int32.not_le.mp h77), Int32.sub_eq_add_neg] at hq; exact hq) | (rw [if_neg (Int32.not_lt.mpr h61), if_neg (Int32.not_lt.mpr h77)] at hq; rw [Int32.add_zero]; exact hq) | (rw [if_pos (Int32.not_le.mp h61)] at hq; exact hq) | exact hq
      · refine V_iconst (v := -1) (sx_di dX12_getUsed 53 rfl) (by decide) ?_
        refine V_goto (tgt := 85) (sx_di dX12_getUsed 54 rfl) (by decide) ?_
        refine V_iadd (sx_di dX12_getUsed 56 rfl) ?_
        refine V_iastN (n := 226) (j := h) (sx_di dX12_getUsed 57 rfl) (hB.k _ rfl) (nx_z0 (rfl)) (by omega) (by omega) ?_
        refine V_vret (sx_di dX12_getUsed 58 rfl) rfl (Nat.le_refl _) (Nat.le_refl _) ?_
        first | (rw [if_neg (Int32.not_lt.mpr h61), if_pos (Int32.not_le.mp h77), Int32.sub_eq_add_neg] at hq; exact hq) | (rw [if_neg (Int32.not_lt.mpr h61), if_neg (Int32.not_lt.mpr h77)] at hq; rw [Int32.add_zero]; exact hq) | (rw [if_pos (Int32.not_le.mp h61)] at hq; exact hq) | exact hq
    · refine V_iconst (v := 1) (sx_di dX12_getUsed 43 rfl) (by decide) ?_
      refine V_goto (tgt := 85) (sx_di dX12_getUsed 44 rfl) (by decide) ?_
      refine V_iadd (sx_di dX12_getUsed 56 rfl) ?_
      refine V_iastN (n := 226) (j := h) (sx_di dX12_getUsed 57 rfl) (hB.k _ rfl) (nx_z0 (rfl)) (by omega) (by omega) ?_
      refine V_vret (sx_di dX12_getUsed 58 rfl) rfl (Nat.le_refl _) (Nat.le_refl _) ?_
      first | (rw [if_neg (Int32.not_lt.mpr h61), if_pos (Int32.not_le.mp h77), Int32.sub_eq_add_neg] at hq; exact hq) | (rw [if_neg (Int32.not_lt.mpr h61), if_neg (Int32.not_lt.mpr h77)] at hq; rw [Int32.add_zero]; exact hq) | (rw [if_pos (Int32.not_le.mp h61)] at hq; exact hq) | exact hq
  · have u : us_ (hp_i w 398 h) (hp_i w 396 (4 * h)) (hp_i w 398 42) (nI h) = mx_ 0 (hp_i w 398 h - 1) := by unfold us_; rw [if_pos h8, e]; exact (us_10 k (by omega)).symm
    rw [u] at hq
    refine V_aload_n (i := 0) (sx_di dX12_getUsed 6 rfl) rfl rfl ?_
    refine V_getR (sx_di dX12_getUsed 7 rfl) fX12_58 (fun _ => rfl) (hB.k _ rfl) (hB.r _ _ rfl) ?_
    refine V_iconst (v := 0) (sx_di dX12_getUsed 8 rfl) (by decide) ?_
    refine V_iload_n (i := 1) (sx_di dX12_getUsed 9 rfl) rfl rfl ?_
    refine V_iadd (sx_di dX12_getUsed 10 rfl) ?_
    refine V_iconst (v := 0) (sx_di dX12_getUsed 11 rfl) (by decide) ?_
    refine V_aload_n (i := 0) (sx_di dX12_getUsed 12 rfl) rfl rfl ?_
    refine V_getR (sx_di dX12_getUsed 13 rfl) fX12_58 (fun _ => rfl) (hB.k _ rfl) (hB.r _ _ rfl) ?_
    refine V_iconst (v := 0) (sx_di dX12_getUsed 14 rfl) (by decide) ?_
    refine V_iload_n (i := 1) (sx_di dX12_getUsed 15 rfl) rfl rfl ?_
    refine V_iadd (sx_di dX12_getUsed 16 rfl) ?_
    refine V_ialdN (n := 226) (j := h) (sx_di dX12_getUsed 17 rfl) (hB.k _ rfl) (nx_z0 (rfl)) (by omega) (by omega) ?_
    refine V_iconst (v := 1) (sx_di dX12_getUsed 18 rfl) (by decide) ?_
    refine V_isub (sx_di dX12_getUsed 19 rfl) ?_
    refine V_mmax (sx_di dX12_getUsed 20 rfl) (sx_a6 223 rfl rfl) (sx_a3 186 rfl rfl) (sx_a1 22 rfl rfl) (sx_a3 187 rfl rfl) ⟨Nat.le_of_ble_eq_true rfl, Nat.le_of_ble_eq_true rfl, Nat.le_refl _, Nat.le_refl _⟩ ?_
    refine V_iastN (n := 226) (j := h) (sx_di dX12_getUsed 21 rfl) (hB.k _ rfl) (nx_z0 (rfl)) (by omega) (by omega) ?_
    refine V_goto (tgt := 87) (sx_di dX12_getUsed 22 rfl) (by decide) ?_
    refine V_vret (sx_di dX12_getUsed 58 rfl) rfl (Nat.le_refl _) (Nat.le_refl _) ?_
    first | (rw [if_neg (Int32.not_lt.mpr h61), if_pos (Int32.not_le.mp h77), Int32.sub_eq_add_neg] at hq; exact hq) | (rw [if_neg (Int32.not_lt.mpr h61), if_neg (Int32.not_lt.mpr h77)] at hq; rw [Int32.add_zero]; exact hq) | (rw [if_pos (Int32.not_le.mp h61)] at hq; exact hq) | exact hq
theorem OKS_d1 {n m : Nat} {m0 s : Nat → Int32} (hn : n ≤ 8) (hO : OKS n m s) (hm : ∀ h, h < n → ∃ k, k ≤ 9 ∧ m0 h = nI k) : OKS n m (d1_ n m0 s) := by
  refine ⟨fun h hh => ?_, ?_, ?_⟩
  · obtain ⟨⟨k, a1, a2⟩, b, c, d, e⟩ := hO.1 h hh
    obtain ⟨k0, c1, c2⟩ := hm h hh
    have e0 : d1_ n m0 s h = us_ (s h) (m0 h) (s 42) (nI h) := by unfold d1_; rw [if_neg (by omega), if_pos hh]
    have e8 : ∀ j, 8 ≤ j → j ≠ 44 → d1_ n m0 s j = s j := fun j h1 h2 => by unfold d1_; rw [if_neg h2, if_neg (by omega)]
    rw [e0, e8 (8 + h) (by omega) (by omega), e8 (16 + h) (by omega) (by omega), e8 (24 + h) (by omega) (by omega), e8 (32 + h) (by omega) (by omega), a2, c2]
    exact ⟨us_ok a1 c1 _ _, b, c, d, e⟩
  · rw [show d1_ n m0 s 43 = s 43 by unfold d1_; rw [if_neg (by omega), if_neg (by omega)]]; exact hO.2.1
  · rw [show d1_ n m0 s 42 = s 42 by unfold d1_; rw [if_neg (by omega), if_neg (by omega)]]; exact hO.2.2
theorem OKS_d2 {n m : Nat} {F : wF} {sz fo : Int32 → Int32} {s : Nat → Int32} (hn : n ≤ 8) (hO : OKS n m s) (hf : ∀ f, f < m → ∃ g, g < m ∧ fo (nI f) = nI g) : OKS n m (d2_ F sz fo n s) := by
  have e8 : ∀ j, j < 40 → d2_ F sz fo n s j = s j := fun j h1 => by unfold d2_; rw [if_neg (by omega), if_neg (by omega), if_neg (by omega)]
  refine ⟨fun h hh => ?_, fun h0 => ?_, ?_⟩
  · rw [e8 h (by omega), e8 (8 + h) (by omega), e8 (16 + h) (by omega), e8 (24 + h) (by omega), e8 (32 + h) (by omega)]
    exact hO.1 h hh
  · obtain ⟨f, f1, f2⟩ := hO.2.1 h0
    show ∃ f, f < m ∧ (if go_ F sz n s = s 42 then s 43 else fo (s 43)) = nI f
    split
    · exact ⟨f, f1, f2⟩
    · rw [f2]; exact hf f f1
  · exact fun _ => gs_rng _ n
theorem OKS_dv {n m : Nat} {F : wF} {sz fo : Int32 → Int32} {bt : Int32} {m0 s : Nat → Int32} (hn : n ≤ 8) (hO : OKS n m s) (hm : ∀ h, h < n → ∃ k, k ≤ 9 ∧ m0 h = nI k) (hf : ∀ f, f < m → ∃ g, g < m ∧ fo (nI f) = nI g) : OKS n m (dv_ F sz fo bt n m0 s) := by
  unfold dv_
  split
  · exact OKS_d2 hn (OKS_d1 hn hO hm) hf
  · exact OKS_d1 hn hO hm
theorem d1_s (k : Nat) (m0 s : Nat → Int32) (I : Nat → Nat → Int32) (hk : k < 8) (e : I 398 = d1_ k m0 s) : hp_u I 398 k (us_ (I 398 k) (m0 k) (I 398 42) (nI k)) 398 = d1_ (k + 1) m0 s := by
  funext j
  show (if 398 = 398 ∧ j = k then us_ (I 398 k) (m0 k) (I 398 42) (nI k) else I 398 j) = _
  rw [e]
  have e1 : d1_ k m0 s k = s k := by unfold d1_; rw [if_neg (by omega), if_neg (by omega)]
  have e2 : d1_ k m0 s 42 = s 42 := by unfold d1_; rw [if_neg (by omega), if_neg (by omega)]
  rw [e1, e2]
  by_cases h : j = k
  · subst h
    rw [if_pos ⟨rfl, rfl⟩]
    unfold d1_
    rw [if_neg (by omega), if_pos (by omega)]
  · rw [if_neg (fun z => h z.2)]
    unfold d1_
    by_cases h2 : j = 44
    · rw [if_pos h2, if_pos h2]
    · rw [if_neg h2, if_neg h2]
      by_cases h3 : j < k
      · rw [if_pos h3, if_pos (by omega)]
      · rw [if_neg h3, if_neg (by omega)]
set_option maxHeartbeats 2000000 in
set_option maxRecDepth 20000 in
theorem li_lp {E : sxE} {w : hpW} {Q : Option Value → hpW → Prop} {n m : Nat} {F : wF} {sz fo : Int32 → Int32} {bt : Int32} {m0 s : Nat → Int32} (R : RQ w n m F sz fo bt m0 s) (h0 : 0 < n) (h : ∀ I r, fr_ w I RY → I 398 = dv_ F sz fo bt n m0 s → r = (if ¬ bt < 1 ∧ (s 44 + 1) - (s 44 + 1) / bt * bt = 0 then 1 else 0) → Q (some (.int r)) (hp_wi w I)) : ∀ q k I, k + q = n → fr_ w I (fun b => b = 398) → I 398 = d1_ k m0 s → V E mX12_live (sx_rm 8 0 0) 0 0 0 0 13 [(1, .int (nI k)), (0, .ref 381)] [] (hp_wi w I) Q := by
  obtain ⟨hB, hRS, hL, hO, hs⟩ := id R
  obtain ⟨hn, hn8, hm, hm6, hfo, hbt, hb, hm0⟩ := id hRS
  have hn2 : ∀ J, fr_ w J (fun b => b = 398) → hp_i (hp_wi w J) 381 25 = nI n := fun J hJ => (fr_w1 hJ (by decide) 25).trans hn
  have h5 : ∀ J, fr_ w J (fun b => b = 398) → hp_i (hp_wi w J) 395 0 = bt := fun J hJ => (fr_w1 hJ (by decide) 0).trans hbt
  obtain ⟨b, b1, b2, b3⟩ := hb h0
  have hlt : ¬ bt < 1 := by rw [b3]; exact fun z => absurd ((nI_ltI (a := b) (b := 1) (by omega) (by omega)).mp z) (by omega)
  have hne : ¬ bt = 0 := by rw [b3]; exact nI_ne0 b1 (by omega)
  intro q
  induction q with
  | zero =>
    intro k I hk hf hI
    have e : k = n := by omega
    subst e
    have e44 : hp_i (hp_wi w I) 398 44 = s 44 + 1 := by rw [hp_i_wi, hI]; rfl
    have hO1 := OKS_d1 hn8 hO (fun h hh => (hm0 h hh).2) (m := m)
    have fY : fr_ w I RY := fun b hb => hf b (fun z => hb (Or.inl z))
    have R1 : RQ (hp_wi w I) k m F sz fo bt m0 (d1_ k m0 s) := RQ_mv R fY hI hO1
    refine V_iload_n (i := 1) (sx_di dX12_live 10 rfl) rfl rfl ?_
    refine V_aload_n (i := 0) (sx_di dX12_live 11 rfl) rfl rfl ?_
    refine V_getI (sx_di dX12_live 12 rfl) fX12_258 (fun _ => rfl) (hB.k _ rfl) ?_
    refine V_icN_ge (a := k) (b := k) (rfl) (hn2 I hf) (by omega) (by omega) (tgt := 32) (sx_di dX12_live 13 rfl) (by decide) (fun _ => ?_) (fun h18 => absurd h18 (by omega))
    refine V_aload_n (i := 0) (sx_di dX12_live 19 rfl) rfl rfl ?_
    refine V_getR (sx_di dX12_live 20 rfl) fX12_58 (fun _ => rfl) (hB.k _ rfl) (hB.r _ _ rfl) ?_
    refine V_bipush (v := 44) (sx_di dX12_live 21 rfl) (by decide) ?_
    refine V_ialdN (n := 226) (j := 44) (sx_di dX12_live 22 rfl) (hB.k _ rfl) (rfl) (by omega) (by omega) ?_
    rw [e44]
    refine V_aload_n (i := 0) (sx_di dX12_live 23 rfl) rfl rfl ?_
    refine V_getR (sx_di dX12_live 24 rfl) fX12_49 (fun _ => rfl) (hB.k _ rfl) (hB.r _ _ rfl) ?_
    refine V_iconst (v := 0) (sx_di dX12_live 25 rfl) (by decide) ?_
    refine V_ialdN (n := 4) (j := 0) (sx_di dX12_live 26 rfl) (hB.k _ rfl) (rfl) (by omega) (by omega) ?_
    rw [h5 I hf]
    refine V_irem (sx_di dX12_live 27 rfl) (hne) ?_
    refine V_if_eq (tgt := 51) (sx_di dX12_live 28 rfl) (by decide) (fun h46 => ?_) (fun h46 => ?_)
    · have hc : (s 44 + 1) - (s 44 + 1) / bt * bt = 0 := h46
      refine V_aload_n (i := 0) (sx_di dX12_live 31 rfl) rfl rfl ?_
      refine V_cV0 (mc' := 0) (ms' := 0) (M' := mX12_wouldGo) 7 (sx_di dX12_live 32 rfl) lX12_305 vX12_wouldGo (hB.k _ rfl) (by decide) rfl (Nat.le_of_ble_eq_true rfl) ⟨Nat.le_of_ble_eq_true rfl, Nat.le_of_ble_eq_true rfl⟩ ⟨Nat.le_refl _, Nat.le_refl _⟩ ?_
      refine c_X12_wouldGo R1 (fun I2 f2 => ?_)
      refine V_eq rfl rfl rfl (hp_wi_wi w I I2) ?_
      refine V_istore_n (i := 1) (sx_di dX12_live 33 rfl) rfl (by decide) (rfl) ?_
      refine V_aload_n (i := 0) (sx_di dX12_live 34 rfl) rfl rfl ?_
      refine V_getR (sx_di dX12_live 35 rfl) fX12_58 (fun _ => rfl) (hB.k _ rfl) (hB.r _ _ rfl) ?_
      refine V_bipush (v := 43) (sx_di dX12_live 36 rfl) (by decide) ?_
      refine V_iload_n (i := 1) (sx_di dX12_live 37 rfl) rfl rfl ?_
      refine V_aload_n (i := 0) (sx_di dX12_live 38 rfl) rfl rfl ?_
      refine V_getR (sx_di dX12_live 39 rfl) fX12_58 (fun _ => rfl) (hB.k _ rfl) (hB.r _ _ rfl) ?_
      refine V_bipush (v := 42) (sx_di dX12_live 40 rfl) (by decide) ?_
      refine V_ialdN (n := 226) (j := 42) (sx_di dX12_live 41 rfl) (hB.k _ rfl) (rfl) (by omega) (by omega) ?_
      refine V_icmp_ne (tgt := 83) (sx_di dX12_live 42 rfl) (by decide) (fun h70 => ?_) (fun h70 => ?_)
      · have e42 : I2 398 42 = s 42 := by rw [f2 398 (by unfold RX; omega)]; show I 398 42 = _; rw [hI]; unfold d1_; rw [if_neg (by omega), if_neg (by omega)]
        have e43 : I2 398 43 = s 43 := by rw [f2 398 (by unfold RX; omega)]; show I 398 43 = _; rw [hI]; unfold d1_; rw [if_neg (by omega), if_neg (by omega)]
        obtain ⟨f, hf6, hf43⟩ := hO.2.1 h0
        have h43 : hp_i (hp_wi w I2) 398 43 = nI f := e43.trans hf43
        have h397 : hp_i (hp_wi w I2) 397 (2 * f + 1) = fo (s 43) := by rw [hf43, (hfo f hf6).2.1]; show I2 397 _ = _; rw [f2 397 (by unfold RX; omega)]; exact congrFun (hf 397 (by decide)) _
        rw [show hp_i (hp_wi w I2) 398 42 = _ from e42] at h70
        refine V_aload_n (i := 0) (sx_di dX12_live 48 rfl) rfl rfl ?_
        refine V_getR (sx_di dX12_live 49 rfl) fX12_55 (fun _ => rfl) (hB.k _ rfl) (hB.r _ _ rfl) ?_
        refine V_iconst (v := 2) (sx_di dX12_live 50 rfl) (by decide) ?_
        refine V_aload_n (i := 0) (sx_di dX12_live 51 rfl) rfl rfl ?_
        refine V_getR (sx_di dX12_live 52 rfl) fX12_58 (fun _ => rfl) (hB.k _ rfl) (hB.r _ _ rfl) ?_
        refine V_bipush (v := 43) (sx_di dX12_live 53 rfl) (by decide) ?_
        refine V_ialdN (n := 226) (j := 43) (sx_di dX12_live 54 rfl) (hB.k _ rfl) (rfl) (by omega) (by omega) ?_
        refine V_imul (sx_di dX12_live 55 rfl) ?_
        refine V_iconst (v := 1) (sx_di dX12_live 56 rfl) (by decide) ?_
        refine V_iadd (sx_di dX12_live 57 rfl) ?_
        refine V_ialdN (n := 12) (j := ((2 * f) + 1)) (sx_di dX12_live 58 rfl) (hB.k _ rfl) (nx_add (nx_mul (rfl) (h43)) (rfl)) (by omega) (by omega) ?_
        rw [h397]
        refine V_iastN (n := 226) (j := 43) (sx_di dX12_live 59 rfl) (hB.k _ rfl) (rfl) (by omega) (by omega) ?_
        refine V_aload_n (i := 0) (sx_di dX12_live 60 rfl) rfl rfl ?_
        refine V_getR (sx_di dX12_live 61 rfl) fX12_58 (fun _ => rfl) (hB.k _ rfl) (hB.r _ _ rfl) ?_
        refine V_bipush (v := 42) (sx_di dX12_live 62 rfl) (by decide) ?_
        refine V_iload_n (i := 1) (sx_di dX12_live 63 rfl) rfl rfl ?_
        refine V_iastN (n := 226) (j := 42) (sx_di dX12_live 64 rfl) (hB.k _ rfl) (rfl) (by omega) (by omega) ?_
        refine V_aload_n (i := 0) (sx_di dX12_live 65 rfl) rfl rfl ?_
        refine V_getR (sx_di dX12_live 66 rfl) fX12_58 (fun _ => rfl) (hB.k _ rfl) (hB.r _ _ rfl) ?_
        refine V_bipush (v := 40) (sx_di dX12_live 67 rfl) (by decide) ?_
        refine V_iconst (v := 0) (sx_di dX12_live 68 rfl) (by decide) ?_
        refine V_iastN (n := 226) (j := 40) (sx_di dX12_live 69 rfl) (hB.k _ rfl) (rfl) (by omega) (by omega) ?_
        refine V_iconst (v := 1) (sx_di dX12_live 70 rfl) (by decide) ?_
        refine V_zret (sx_di dX12_live 71 rfl) rfl (by first | rfl | decide) (Nat.le_refl _) (Nat.le_refl _) ?_
        have g2 : fr_ w I2 RY := fr_tr fY f2 (fun b z => RX_RY z)
        refine h _ 1 (fr_si (fr_si (fr_si g2 (Or.inl rfl)) (Or.inl rfl)) (Or.inl rfl)) ?_ (if_pos ⟨hlt, hc⟩).symm
        unfold dv_
        rw [if_pos ⟨hlt, hc⟩]
        have e3 : hp_u (hp_u (hp_u I2 398 43 (fo (s 43))) 398 42 (go_ F sz k (d1_ k m0 s))) 398 40 0 398 = d2_ F sz fo k (d1_ k m0 s) := by
          have e2 : I2 398 = d1_ k m0 s := (f2 398 (by unfold RX; omega)).trans hI
          funext j
          unfold d2_
          show (if 398 = 398 ∧ j = 40 then 0 else if 398 = 398 ∧ j = 42 then _ else if 398 = 398 ∧ j = 43 then _ else I2 398 j) = _
          rw [e2]
          simp only [true_and]
          rw [show d1_ k m0 s 42 = s 42 from by unfold d1_; rw [if_neg (by omega), if_neg (by omega)], if_neg h70, show d1_ k m0 s 43 = s 43 from by unfold d1_; rw [if_neg (by omega), if_neg (by omega)]]
        exact e3
      · have e42 : I2 398 42 = s 42 := by rw [f2 398 (by unfold RX; omega)]; show I 398 42 = _; rw [hI]; unfold d1_; rw [if_neg (by omega), if_neg (by omega)]
        have e43 : hp_i (hp_wi w I2) 398 43 = s 43 := by show I2 398 43 = _; rw [f2 398 (by unfold RX; omega)]; show I 398 43 = _; rw [hI]; unfold d1_; rw [if_neg (by omega), if_neg (by omega)]
        rw [show hp_i (hp_wi w I2) 398 42 = _ from e42] at h70
        refine V_aload_n (i := 0) (sx_di dX12_live 43 rfl) rfl rfl ?_
        refine V_getR (sx_di dX12_live 44 rfl) fX12_58 (fun _ => rfl) (hB.k _ rfl) (hB.r _ _ rfl) ?_
        refine V_bipush (v := 43) (sx_di dX12_live 45 rfl) (by decide) ?_
        refine V_ialdN (n := 226) (j := 43) (sx_di dX12_live 46 rfl) (hB.k _ rfl) (rfl) (by omega) (by omega) ?_
        rw [e43]
        refine V_goto (tgt := 99) (sx_di dX12_live 47 rfl) (by decide) ?_
        refine V_iastN (n := 226) (j := 43) (sx_di dX12_live 59 rfl) (hB.k _ rfl) (rfl) (by omega) (by omega) ?_
        refine V_aload_n (i := 0) (sx_di dX12_live 60 rfl) rfl rfl ?_
        refine V_getR (sx_di dX12_live 61 rfl) fX12_58 (fun _ => rfl) (hB.k _ rfl) (hB.r _ _ rfl) ?_
        refine V_bipush (v := 42) (sx_di dX12_live 62 rfl) (by decide) ?_
        refine V_iload_n (i := 1) (sx_di dX12_live 63 rfl) rfl rfl ?_
        refine V_iastN (n := 226) (j := 42) (sx_di dX12_live 64 rfl) (hB.k _ rfl) (rfl) (by omega) (by omega) ?_
        refine V_aload_n (i := 0) (sx_di dX12_live 65 rfl) rfl rfl ?_
        refine V_getR (sx_di dX12_live 66 rfl) fX12_58 (fun _ => rfl) (hB.k _ rfl) (hB.r _ _ rfl) ?_
        refine V_bipush (v := 40) (sx_di dX12_live 67 rfl) (by decide) ?_
        refine V_iconst (v := 0) (sx_di dX12_live 68 rfl) (by decide) ?_
        refine V_iastN (n := 226) (j := 40) (sx_di dX12_live 69 rfl) (hB.k _ rfl) (rfl) (by omega) (by omega) ?_
        refine V_iconst (v := 1) (sx_di dX12_live 70 rfl) (by decide) ?_
        refine V_zret (sx_di dX12_live 71 rfl) rfl (by first | rfl | decide) (Nat.le_refl _) (Nat.le_refl _) ?_
        have g2 : fr_ w I2 RY := fr_tr fY f2 (fun b z => RX_RY z)
        refine h _ 1 (fr_si (fr_si (fr_si g2 (Or.inl rfl)) (Or.inl rfl)) (Or.inl rfl)) ?_ (if_pos ⟨hlt, hc⟩).symm
        unfold dv_
        rw [if_pos ⟨hlt, hc⟩]
        have e3 : hp_u (hp_u (hp_u I2 398 43 (s 43)) 398 42 (go_ F sz k (d1_ k m0 s))) 398 40 0 398 = d2_ F sz fo k (d1_ k m0 s) := by
          have e2 : I2 398 = d1_ k m0 s := (f2 398 (by unfold RX; omega)).trans hI
          funext j
          unfold d2_
          show (if 398 = 398 ∧ j = 40 then 0 else if 398 = 398 ∧ j = 42 then _ else if 398 = 398 ∧ j = 43 then _ else I2 398 j) = _
          rw [e2]
          simp only [true_and]
          rw [show d1_ k m0 s 42 = s 42 from by unfold d1_; rw [if_neg (by omega), if_neg (by omega)], if_pos h70, show d1_ k m0 s 43 = s 43 from by unfold d1_; rw [if_neg (by omega), if_neg (by omega)]]
        exact e3
    · have hc : ¬ (s 44 + 1) - (s 44 + 1) / bt * bt = 0 := h46
      refine V_iconst (v := 0) (sx_di dX12_live 29 rfl) (by decide) ?_
      refine V_zret (sx_di dX12_live 30 rfl) rfl (by first | rfl | decide) (Nat.le_refl _) (Nat.le_refl _) ?_
      refine h I 0 fY ?_ (if_neg (fun z => hc z.2)).symm
      unfold dv_
      rw [if_neg (fun z => hc z.2)]
      exact hI
  | succ q ih =>
    intro k I hk hf hI
    have q1 := ih (k + 1)
    rw [← nI_1] at q1
    obtain ⟨⟨k9, a1, a2⟩, _⟩ := hO.1 k (by omega)
    have ek : hp_i (hp_wi w I) 398 k = nI k9 := by rw [hp_i_wi, hI, ← a2]; unfold d1_; rw [if_neg (by omega), if_neg (by omega)]
    have em : hp_i (hp_wi w I) 396 (4 * k) = m0 k := (fr_w1 hf (by decide) _).trans (hm0 k (by omega)).1
    refine V_iload_n (i := 1) (sx_di dX12_live 10 rfl) rfl rfl ?_
    refine V_aload_n (i := 0) (sx_di dX12_live 11 rfl) rfl rfl ?_
    refine V_getI (sx_di dX12_live 12 rfl) fX12_258 (fun _ => rfl) (hB.k _ rfl) ?_
    refine V_icN_ge (a := k) (b := n) (rfl) (hn2 I hf) (by omega) (by omega) (tgt := 32) (sx_di dX12_live 13 rfl) (by decide) (fun h18 => absurd h18 (by omega)) (fun _ => ?_)
    refine V_aload_n (i := 0) (sx_di dX12_live 14 rfl) rfl rfl ?_
    refine V_iload_n (i := 1) (sx_di dX12_live 15 rfl) rfl rfl ?_
    refine V_cV1 (mc' := 0) (ms' := 0) (M' := mX12_getUsed) 2 (sx_di dX12_live 16 rfl) lX12_302 vX12_getUsed (hB.k _ rfl) (by decide) rfl (Nat.le_of_ble_eq_true rfl) ⟨Nat.le_of_ble_eq_true rfl, Nat.le_of_ble_eq_true rfl⟩ ⟨Nat.le_refl _, Nat.le_refl _⟩ ?_
    refine c_X12_getUsed (w := hp_wi w I) (ly_wi hB I) (h := k) (by omega) a1 ek ?_
    rw [em]
    refine V_inc (c := 1) (sx_di dX12_live 17 rfl) (by decide) rfl (by decide) (rfl) ?_
    refine V_goto (tgt := 13) (sx_di dX12_live 18 rfl) (by decide) ?_
    exact V_subk (q1 _ (by omega) (fr_si hf rfl) (d1_s k m0 s I (by omega) hI)) ⟨rfl, rfl, trivial⟩
set_option maxHeartbeats 2000000 in
set_option maxRecDepth 20000 in
theorem c_X12_live {E : sxE} {w : hpW} {Q : Option Value → hpW → Prop} {n m : Nat} {F : wF} {sz fo : Int32 → Int32} {bt : Int32} {m0 s : Nat → Int32} (R : RQ w n m F sz fo bt m0 s) (h0 : 0 < n) (h : ∀ I r, fr_ w I RY → I 398 = dv_ F sz fo bt n m0 s → r = (if ¬ bt < 1 ∧ (s 44 + 1) - (s 44 + 1) / bt * bt = 0 then 1 else 0) → Q (some (.int r)) (hp_wi w I)) : sx_C E mX12_live 8 0 0 [.ref 381] w Q := by
  obtain ⟨hB, hRS, hL, hO, hs⟩ := id R
  have e0 : hp_u (hp_i w) 398 44 (hp_i w 398 44 + 1) 398 = d1_ 0 m0 s := by
    funext j
    unfold d1_
    rw [← hs]
    show (if 398 = 398 ∧ j = 44 then _ else hp_i w 398 j) = _
    simp
  refine C_of (by decide +kernel) (Nat.le_of_ble_eq_true rfl) ?_
  refine V_aload_n (i := 0) (sx_di dX12_live 0 rfl) rfl rfl ?_
  refine V_getR (sx_di dX12_live 1 rfl) fX12_58 (fun _ => rfl) (hB.k _ rfl) (hB.r _ _ rfl) ?_
  refine V_bipush (v := 44) (sx_di dX12_live 2 rfl) (by decide) ?_
  refine V_dup2 (sx_di dX12_live 3 rfl) rfl rfl ?_
  refine V_ialdN (n := 226) (j := 44) (sx_di dX12_live 4 rfl) (hB.k _ rfl) (rfl) (by omega) (by omega) ?_
  refine V_iconst (v := 1) (sx_di dX12_live 5 rfl) (by decide) ?_
  refine V_iadd (sx_di dX12_live 6 rfl) ?_
  refine V_iastN (n := 226) (j := 44) (sx_di dX12_live 7 rfl) (hB.k _ rfl) (rfl) (by omega) (by omega) ?_
  refine V_iconst (v := 0) (sx_di dX12_live 8 rfl) (by decide) ?_
  refine V_istore_n (i := 1) (sx_di dX12_live 9 rfl) rfl (by decide) (rfl) ?_
  refine V_sub (ls' := [(1, .int (nI 0)), (0, .ref 381)]) ⟨rfl, rfl, trivial⟩ ?_
  exact li_lp (w := w) R h0 h n 0 (hp_u (hp_i w) 398 44 (hp_i w 398 44 + 1)) (by omega) (fr_si fr_rf rfl) e0
set_option maxHeartbeats 2000000 in
set_option maxRecDepth 20000 in
theorem c_X12_goesTo {E : sxE} {w : hpW} {Q : Option Value → hpW → Prop} {n m : Nat} {F : wF} {sz fo : Int32 → Int32} {bt : Int32} {m0 s : Nat → Int32} (R : RQ w n m F sz fo bt m0 s) (h0 : n = 0 → Q (some (.int (-1000000))) w) (h1 : ¬ n = 0 → ∀ I, fr_ w I RX → Q (some (.int (go_ F sz n s))) (hp_wi w I)) : sx_C E mX12_goesTo 8 0 0 [.ref 381] w Q := by
  obtain ⟨hB, hRS, hL, hO, hs⟩ := id R
  obtain ⟨hn, hn8, hm, hm6, hfo, hbt, hb, hm0⟩ := id hRS
  subst hs
  refine C_of (by decide +kernel) (Nat.le_of_ble_eq_true rfl) ?_
  refine V_aload_n (i := 0) (sx_di dX12_goesTo 0 rfl) rfl rfl ?_
  refine V_getI (sx_di dX12_goesTo 1 rfl) fX12_258 (fun _ => rfl) (hB.k _ rfl) ?_
  refine V_ifN_ne (a := n) (hn) (by omega) (tgt := 13) (sx_di dX12_goesTo 2 rfl) (by decide) (fun h4 => ?_) (fun h4 => ?_)
  · refine V_aload_n (i := 0) (sx_di dX12_goesTo 5 rfl) rfl rfl ?_
    refine V_cV0 (mc' := 0) (ms' := 0) (M' := mX12_wouldGo) 7 (sx_di dX12_goesTo 6 rfl) lX12_305 vX12_wouldGo (hB.k _ rfl) (by decide) rfl (Nat.le_of_ble_eq_true rfl) ⟨Nat.le_of_ble_eq_true rfl, Nat.le_of_ble_eq_true rfl⟩ ⟨Nat.le_refl _, Nat.le_refl _⟩ ?_
    refine c_X12_wouldGo R (fun I f2 => ?_)
    refine V_iret (sx_di dX12_goesTo 7 rfl) rfl (Nat.le_refl _) (Nat.le_refl _) ?_
    exact h1 h4 I f2
  · refine V_ldcw (sx_di dX12_goesTo 3 rfl) kX12_320 ?_
    refine V_goto (tgt := 17) (sx_di dX12_goesTo 4 rfl) (by decide) ?_
    refine V_iret (sx_di dX12_goesTo 7 rfl) rfl (Nat.le_refl _) (Nat.le_refl _) ?_
    exact h0 h4

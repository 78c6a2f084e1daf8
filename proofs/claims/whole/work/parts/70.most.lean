/-! most -/
noncomputable def hb_ (v : Nat → Int32) : Nat → Nat
  | 0 => 0
  | k + 1 => if v (hb_ v k) < v (k + 1) then k + 1 else hb_ v k
theorem hb_le (v : Nat → Int32) : ∀ k, hb_ v k ≤ k
  | 0 => Nat.le_refl _
  | k + 1 => by
    have := hb_le v k
    unfold hb_
    split <;> omega
noncomputable def vo_ (A : AS) (j h : Nat) : Int32 := if j = 0 then -a_r A h - a_r A (8 + h) else if j = 1 then M_ A h else a_r A (16 + h)
def bq_ (pl : Nat → Int32) (L : Nat) : Nat → Nat → Nat
  | 0, n => n
  | d + 1, n => if n + 1 < L ∧ pl n = pl (n + 1) then bq_ pl L d (n + 1) else n
def pls_ (A : AS) (i : Nat) : Int32 := a_r A (46 + 3 * ((a_r A 45).toNatClampNeg - 1 - i) + 1)
noncomputable def q_most (A : AS) (x : Int32) : Int32 := if a_n A = 0 then -1 else if x = 0 then nI (hb_ (vo_ A 0) (a_n A - 1)) else if x = 1 then nI (hb_ (vo_ A 1) (a_n A - 1)) else if x = 2 then nI (hb_ (vo_ A 2) (a_n A - 1)) else if x = 3 then nI (bq_ (pls_ A) (a_r A 45).toNatClampNeg 60 0) else if x = 4 then sm_ (fun h => a_r A (32 + h)) (a_n A) else if x = 5 then sb_ (fun h => decide (a_r A (32 + h) = 0)) (a_n A) else -1
set_option maxHeartbeats 2000000 in
set_option maxRecDepth 20000 in
theorem e_valueOf {E : sxE} {Q : Option Value → hpW → Prop} {A : AS} {w : hpW} (VA : AV A) (H : RR A w) {h j : Nat} (hh : h < a_n A) (hj : j ≤ 2) (hq : ∀ w', RR A w' → fC w w' → Q (some (.int (vo_ A j h))) w') : sx_C E mX12_valueOf 7 0 0 [.ref 381, .int (nI h), .int (nI j)] w Q := by
  have hB := H.1
  have hn8 := VA.2.2.1.1
  have hr : ∀ j, hp_i w 398 j = a_r A j := fun j => congrFun H.2.2.2.2.1 j
  unfold vo_ at hq
  refine C_of (by decide +kernel) (Nat.le_of_ble_eq_true rfl) ?_
  refine V_iload_n (i := 2) (sx_di dX12_valueOf 0 rfl) rfl rfl ?_
  refine V_ifN_ne (a := j) (rfl) (by omega) (tgt := 26) (sx_di dX12_valueOf 1 rfl) (by decide) (fun h1 => ?_) (fun h1 => ?_)
  · rw [if_neg h1] at hq
    refine V_iload_n (i := 2) (sx_di dX12_valueOf 17 rfl) rfl rfl ?_
    refine V_iconst (v := 1) (sx_di dX12_valueOf 18 rfl) (by decide) ?_
    refine V_icN_ne (a := j) (b := 1) (rfl) (rfl) (by omega) (by omega) (tgt := 39) (sx_di dX12_valueOf 19 rfl) (by decide) (fun h28 => ?_) (fun h28 => ?_)
    · rw [if_neg h28] at hq
      refine V_aload_n (i := 0) (sx_di dX12_valueOf 24 rfl) rfl rfl ?_
      refine V_getR (sx_di dX12_valueOf 25 rfl) fX12_58 (fun _ => rfl) (hB.k _ rfl) (hB.r _ _ rfl) ?_
      refine V_bipush (v := 16) (sx_di dX12_valueOf 26 rfl) (by decide) ?_
      refine V_iload_n (i := 1) (sx_di dX12_valueOf 27 rfl) rfl rfl ?_
      refine V_iadd (sx_di dX12_valueOf 28 rfl) ?_
      refine V_ialdN (n := 226) (j := (16 + h)) (sx_di dX12_valueOf 29 rfl) (hB.k _ rfl) (nx_add (rfl) (rfl)) (by omega) (by omega) ?_
      refine V_iv (y := a_r A (16 + h)) (hr (16 + h)) ?_
      refine V_iret (sx_di dX12_valueOf 30 rfl) rfl (Nat.le_refl _) (Nat.le_refl _) ?_
      exact hq w H fC_rf
    · rw [if_pos h28] at hq
      refine V_aload_n (i := 0) (sx_di dX12_valueOf 20 rfl) rfl rfl ?_
      refine V_iload_n (i := 1) (sx_di dX12_valueOf 21 rfl) rfl rfl ?_
      refine V_cV1 (mc' := 0) (ms' := 0) (M' := mX12_mindedOf) 6 (sx_di dX12_valueOf 22 rfl) lX12_299 vX12_mindedOf (hB.k _ rfl) (by decide) rfl (Nat.le_of_ble_eq_true rfl) ⟨Nat.le_of_ble_eq_true rfl, Nat.le_of_ble_eq_true rfl⟩ ⟨Nat.le_refl _, Nat.le_refl _⟩ ?_
      refine e_mindedOf VA H hh (fun w2 H2 f2 => ?_)
      refine V_goto (tgt := 48) (sx_di dX12_valueOf 23 rfl) (by decide) ?_
      refine V_iret (sx_di dX12_valueOf 30 rfl) rfl (Nat.le_refl _) (Nat.le_refl _) ?_
      exact hq w2 H2 f2
  · rw [if_pos h1] at hq
    refine V_aload_n (i := 0) (sx_di dX12_valueOf 2 rfl) rfl rfl ?_
    refine V_getR (sx_di dX12_valueOf 3 rfl) fX12_58 (fun _ => rfl) (hB.k _ rfl) (hB.r _ _ rfl) ?_
    refine V_iconst (v := 0) (sx_di dX12_valueOf 4 rfl) (by decide) ?_
    refine V_iload_n (i := 1) (sx_di dX12_valueOf 5 rfl) rfl rfl ?_
    refine V_iadd (sx_di dX12_valueOf 6 rfl) ?_
    refine V_ialdN (n := 226) (j := h) (sx_di dX12_valueOf 7 rfl) (hB.k _ rfl) (nx_z0 (rfl)) (by omega) (by omega) ?_
    refine V_iv (y := a_r A h) (hr h) ?_
    refine V_ineg (sx_di dX12_valueOf 8 rfl) ?_
    refine V_aload_n (i := 0) (sx_di dX12_valueOf 9 rfl) rfl rfl ?_
    refine V_getR (sx_di dX12_valueOf 10 rfl) fX12_58 (fun _ => rfl) (hB.k _ rfl) (hB.r _ _ rfl) ?_
    refine V_bipush (v := 8) (sx_di dX12_valueOf 11 rfl) (by decide) ?_
    refine V_iload_n (i := 1) (sx_di dX12_valueOf 12 rfl) rfl rfl ?_
    refine V_iadd (sx_di dX12_valueOf 13 rfl) ?_
    refine V_ialdN (n := 226) (j := (8 + h)) (sx_di dX12_valueOf 14 rfl) (hB.k _ rfl) (nx_add (rfl) (rfl)) (by omega) (by omega) ?_
    refine V_iv (y := a_r A (8 + h)) (hr (8 + h)) ?_
    refine V_isub (sx_di dX12_valueOf 15 rfl) ?_
    refine V_goto (tgt := 48) (sx_di dX12_valueOf 16 rfl) (by decide) ?_
    refine V_iret (sx_di dX12_valueOf 30 rfl) rfl (Nat.le_refl _) (Nat.le_refl _) ?_
    exact hq w H fC_rf
set_option maxHeartbeats 2000000 in
set_option maxRecDepth 20000 in
theorem hR_lp {E : sxE} {A : AS} {w : hpW} {Q : Option Value → hpW → Prop} (VA : AV A) {j : Nat} (hj : j ≤ 2) (h0 : 0 < a_n A) (h : ∀ w', RR A w' → fC w w' → Q (some (.int (nI (hb_ (vo_ A j) (a_n A - 1))))) w') : ∀ d k w1, k + d = a_n A → 0 < k → RR A w1 → fC w w1 → V E mX12_highestBy (sx_rm 8 0 0) 0 0 0 0 4 [(3, .int (nI k)), (2, .int (nI (hb_ (vo_ A j) (k - 1)))), (1, .int (nI j)), (0, .ref 381)] [] w1 Q := by
  intro d
  have hn8 := VA.2.2.1.1
  induction d with
  | zero =>
    intro k w1 hk k0 H1 f1
    have e3 : k = a_n A := by omega
    subst e3
    have hB := H1.1
    have hn := H1.2.2.2.1.1
    refine V_iload_n (i := 3) (sx_di dX12_highestBy 4 rfl) rfl rfl ?_
    refine V_aload_n (i := 0) (sx_di dX12_highestBy 5 rfl) rfl rfl ?_
    refine V_getI (sx_di dX12_highestBy 6 rfl) fX12_258 (fun _ => rfl) (hB.k _ rfl) ?_
    refine V_iv (y := nI (a_n A)) (hn) ?_
    refine V_icN_ge (a := (a_n A)) (b := (a_n A)) (rfl) (rfl) (by omega) (by omega) (tgt := 39) (sx_di dX12_highestBy 7 rfl) (by decide) (fun _ => ?_) (fun h9 => absurd h9 (by omega))
    refine V_iload_n (i := 2) (sx_di dX12_highestBy 23 rfl) rfl rfl ?_
    refine V_iret (sx_di dX12_highestBy 24 rfl) rfl (Nat.le_refl _) (Nat.le_refl _) ?_
    exact h w1 H1 f1
  | succ d ih =>
    intro k w1 hk k0 H1 f1
    have hB := H1.1
    have hn := H1.2.2.2.1.1
    have hbl := hb_le (vo_ A j) (k - 1)
    have e1 : hb_ (vo_ A j) k = if vo_ A j (hb_ (vo_ A j) (k - 1)) < vo_ A j k then k else hb_ (vo_ A j) (k - 1) := by
      obtain ⟨k2, rfl⟩ : ∃ k2, k = k2 + 1 := ⟨k - 1, by omega⟩
      rfl
    refine V_iload_n (i := 3) (sx_di dX12_highestBy 4 rfl) rfl rfl ?_
    refine V_aload_n (i := 0) (sx_di dX12_highestBy 5 rfl) rfl rfl ?_
    refine V_getI (sx_di dX12_highestBy 6 rfl) fX12_258 (fun _ => rfl) (hB.k _ rfl) ?_
    refine V_iv (y := nI (a_n A)) (hn) ?_
    refine V_icN_ge (a := k) (b := (a_n A)) (rfl) (rfl) (by omega) (by omega) (tgt := 39) (sx_di dX12_highestBy 7 rfl) (by decide) (fun h9 => absurd h9 (by omega)) (fun _ => ?_)
    refine V_aload_n (i := 0) (sx_di dX12_highestBy 8 rfl) rfl rfl ?_
    refine V_iload_n (i := 3) (sx_di dX12_highestBy 9 rfl) rfl rfl ?_
    refine V_iload_n (i := 1) (sx_di dX12_highestBy 10 rfl) rfl rfl ?_
    refine V_cV2 (mc' := 0) (ms' := 0) (M' := mX12_valueOf) 7 (sx_di dX12_highestBy 11 rfl) lX12_429 vX12_valueOf (hB.k _ rfl) (by decide) rfl (Nat.le_of_ble_eq_true rfl) ⟨Nat.le_of_ble_eq_true rfl, Nat.le_of_ble_eq_true rfl⟩ ⟨Nat.le_refl _, Nat.le_refl _⟩ ?_
    refine e_valueOf VA H1 (h := k) (by omega) hj (fun w2 H2 f2 => ?_)
    have hB2 := H2.1
    refine V_aload_n (i := 0) (sx_di dX12_highestBy 12 rfl) rfl rfl ?_
    refine V_iload_n (i := 2) (sx_di dX12_highestBy 13 rfl) rfl rfl ?_
    refine V_iload_n (i := 1) (sx_di dX12_highestBy 14 rfl) rfl rfl ?_
    refine V_cV2 (mc' := 0) (ms' := 0) (M' := mX12_valueOf) 7 (sx_di dX12_highestBy 15 rfl) lX12_429 vX12_valueOf (hB2.k _ rfl) (by decide) rfl (Nat.le_of_ble_eq_true rfl) ⟨Nat.le_of_ble_eq_true rfl, Nat.le_of_ble_eq_true rfl⟩ ⟨Nat.le_refl _, Nat.le_refl _⟩ ?_
    refine e_valueOf VA H2 (h := hb_ (vo_ A j) (k - 1)) (by omega) hj (fun w3 H3 f3 => ?_)
    refine V_icmp_le (tgt := 31) (sx_di dX12_highestBy 16 rfl) (by decide) (fun h24 => ?_) (fun h24 => ?_)
    · rw [if_neg (Int32.not_lt.mpr h24)] at e1
      have q1 := ih (k + 1) w3 (by omega) (by omega) H3 (fC_tr f1 (fC_tr f2 f3))
      rw [Nat.add_sub_cancel, e1, ← nI_1] at q1
      refine V_iload_n (i := 2) (sx_di dX12_highestBy 19 rfl) rfl rfl ?_
      refine V_istore_n (i := 2) (sx_di dX12_highestBy 20 rfl) rfl (by decide) (rfl) ?_
      refine V_inc (c := 1) (sx_di dX12_highestBy 21 rfl) (by decide) rfl (by decide) (rfl) ?_
      refine V_goto (tgt := 4) (sx_di dX12_highestBy 22 rfl) (by decide) ?_
      exact V_subk q1 ⟨rfl, rfl, rfl, rfl, trivial⟩
    · rw [if_pos (Int32.not_le.mp h24)] at e1
      have q1 := ih (k + 1) w3 (by omega) (by omega) H3 (fC_tr f1 (fC_tr f2 f3))
      rw [Nat.add_sub_cancel, e1, ← nI_1] at q1
      refine V_iload_n (i := 3) (sx_di dX12_highestBy 17 rfl) rfl rfl ?_
      refine V_goto (tgt := 32) (sx_di dX12_highestBy 18 rfl) (by decide) ?_
      refine V_istore_n (i := 2) (sx_di dX12_highestBy 20 rfl) rfl (by decide) (rfl) ?_
      refine V_inc (c := 1) (sx_di dX12_highestBy 21 rfl) (by decide) rfl (by decide) (rfl) ?_
      refine V_goto (tgt := 4) (sx_di dX12_highestBy 22 rfl) (by decide) ?_
      exact V_subk q1 ⟨rfl, rfl, rfl, rfl, trivial⟩
set_option maxHeartbeats 2000000 in
set_option maxRecDepth 20000 in
theorem e_highestBy {E : sxE} {A : AS} {w : hpW} {Q : Option Value → hpW → Prop} (VA : AV A) (H : RR A w) {j : Nat} (hj : j ≤ 2) (h0 : 0 < a_n A) (h : ∀ w', RR A w' → fC w w' → Q (some (.int (nI (hb_ (vo_ A j) (a_n A - 1))))) w') : sx_C E mX12_highestBy 8 0 0 [.ref 381, .int (nI j)] w Q := by
  refine C_of (by decide +kernel) (Nat.le_of_ble_eq_true rfl) ?_
  refine V_iconst (v := 0) (sx_di dX12_highestBy 0 rfl) (by decide) ?_
  refine V_istore_n (i := 2) (sx_di dX12_highestBy 1 rfl) rfl (by decide) (rfl) ?_
  refine V_iconst (v := 1) (sx_di dX12_highestBy 2 rfl) (by decide) ?_
  refine V_istore_n (i := 3) (sx_di dX12_highestBy 3 rfl) rfl (by decide) (rfl) ?_
  refine V_sub (ls' := [(3, .int (nI 1)), (2, .int (nI 0)), (1, .int (nI j)), (0, .ref 381)]) ⟨rfl, rfl, rfl, rfl, trivial⟩ ?_
  exact hR_lp VA hj h0 h (a_n A - 1) 1 w (by omega) (by omega) H fC_rf
set_option maxHeartbeats 2000000 in
set_option maxRecDepth 20000 in
theorem bR_lp {E : sxE} {A : AS} {w : hpW} {Q : Option Value → hpW → Prop} (VA : AV A) (H : RR A w) {L : Nat} (hL : L ≤ 60) (eL : a_r A 45 = nI L) : ∀ d k, k + d = 60 → Q (some (.int (nI (bq_ (pls_ A) L d k)))) w → V E mX12_backs (sx_rm 2 0 0) 0 0 0 0 2 [(1, .int (nI k)), (0, .ref 381)] [] w Q := by
  intro d
  have hB := H.1
  have hr : ∀ j, hp_i w 398 j = a_r A j := fun j => congrFun H.2.2.2.2.1 j
  have epl : ∀ i, pls_ A i = a_r A (46 + 3 * (L - 1 - i) + 1) := fun i => by unfold pls_; rw [eL, nI_clamp (by omega)]
  induction d with
  | zero =>
    intro k hk h
    have e3 : k = 60 := by omega
    subst e3
    refine V_iload_n (i := 1) (sx_di dX12_backs 2 rfl) rfl rfl ?_
    refine V_iconst (v := 1) (sx_di dX12_backs 3 rfl) (by decide) ?_
    refine V_iadd (sx_di dX12_backs 4 rfl) ?_
    refine V_aload_n (i := 0) (sx_di dX12_backs 5 rfl) rfl rfl ?_
    refine V_getR (sx_di dX12_backs 6 rfl) fX12_58 (fun _ => rfl) (hB.k _ rfl) (hB.r _ _ rfl) ?_
    refine V_bipush (v := 45) (sx_di dX12_backs 7 rfl) (by decide) ?_
    refine V_ialdN (n := 226) (j := 45) (sx_di dX12_backs 8 rfl) (hB.k _ rfl) (rfl) (by omega) (by omega) ?_
    refine V_iv (y := nI L) ((hr 45).trans eL) ?_
    refine V_icN_ge (a := (60 + 1)) (b := L) (nx_add (rfl) (rfl)) (rfl) (by omega) (by omega) (tgt := 38) (sx_di dX12_backs 9 rfl) (by decide) (fun _ => ?_) (fun h12 => absurd h12 (by omega))
    refine V_iload_n (i := 1) (sx_di dX12_backs 23 rfl) rfl rfl ?_
    refine V_iret (sx_di dX12_backs 24 rfl) rfl (Nat.le_refl _) (Nat.le_refl _) ?_
    exact h
  | succ d ih =>
    intro k hk h
    have q1 := ih (k + 1) (by omega)
    rw [← nI_1] at q1
    unfold bq_ at h
    rw [epl, epl] at h
    refine V_iload_n (i := 1) (sx_di dX12_backs 2 rfl) rfl rfl ?_
    refine V_iconst (v := 1) (sx_di dX12_backs 3 rfl) (by decide) ?_
    refine V_iadd (sx_di dX12_backs 4 rfl) ?_
    refine V_aload_n (i := 0) (sx_di dX12_backs 5 rfl) rfl rfl ?_
    refine V_getR (sx_di dX12_backs 6 rfl) fX12_58 (fun _ => rfl) (hB.k _ rfl) (hB.r _ _ rfl) ?_
    refine V_bipush (v := 45) (sx_di dX12_backs 7 rfl) (by decide) ?_
    refine V_ialdN (n := 226) (j := 45) (sx_di dX12_backs 8 rfl) (hB.k _ rfl) (rfl) (by omega) (by omega) ?_
    refine V_iv (y := nI L) ((hr 45).trans eL) ?_
    refine V_icN_ge (a := (k + 1)) (b := L) (nx_add (rfl) (rfl)) (rfl) (by omega) (by omega) (tgt := 38) (sx_di dX12_backs 9 rfl) (by decide) (fun h12 => ?_) (fun h12 => ?_)
    · rw [if_neg (fun z => absurd z.1 (by omega))] at h
      refine V_iload_n (i := 1) (sx_di dX12_backs 23 rfl) rfl rfl ?_
      refine V_iret (sx_di dX12_backs 24 rfl) rfl (Nat.le_refl _) (Nat.le_refl _) ?_
      exact h
    · refine V_aload_n (i := 0) (sx_di dX12_backs 10 rfl) rfl rfl ?_
      refine V_iload_n (i := 1) (sx_di dX12_backs 11 rfl) rfl rfl ?_
      refine V_iconst (v := 1) (sx_di dX12_backs 12 rfl) (by decide) ?_
      refine V_cV2 (mc' := 0) (ms' := 0) (M' := mX12_logged) 1 (sx_di dX12_backs 13 rfl) lX12_353 vX12_logged (hB.k _ rfl) (by decide) rfl (Nat.le_of_ble_eq_true rfl) ⟨Nat.le_of_ble_eq_true rfl, Nat.le_of_ble_eq_true rfl⟩ ⟨Nat.le_refl _, Nat.le_refl _⟩ ?_
      refine c_X12_logged hB (i := k) (j := 1) ((hr 45).trans eL) hL (by omega) (by omega) ?_
      refine V_iv (y := _) (hr _) ?_
      refine V_aload_n (i := 0) (sx_di dX12_backs 14 rfl) rfl rfl ?_
      refine V_iload_n (i := 1) (sx_di dX12_backs 15 rfl) rfl rfl ?_
      refine V_iconst (v := 1) (sx_di dX12_backs 16 rfl) (by decide) ?_
      refine V_iadd (sx_di dX12_backs 17 rfl) ?_
      refine V_iv (y := nI (k + 1)) (nI_add k 1) ?_
      refine V_iconst (v := 1) (sx_di dX12_backs 18 rfl) (by decide) ?_
      refine V_cV2 (mc' := 0) (ms' := 0) (M' := mX12_logged) 1 (sx_di dX12_backs 19 rfl) lX12_353 vX12_logged (hB.k _ rfl) (by decide) rfl (Nat.le_of_ble_eq_true rfl) ⟨Nat.le_of_ble_eq_true rfl, Nat.le_of_ble_eq_true rfl⟩ ⟨Nat.le_refl _, Nat.le_refl _⟩ ?_
      refine c_X12_logged hB (i := k + 1) (j := 1) ((hr 45).trans eL) hL (by omega) (by omega) ?_
      refine V_iv (y := _) (hr _) ?_
      refine V_icmp_ne (tgt := 38) (sx_di dX12_backs 20 rfl) (by decide) (fun h29 => ?_) (fun h29 => ?_)
      · rw [if_neg (fun z => h29 z.2)] at h
        refine V_iload_n (i := 1) (sx_di dX12_backs 23 rfl) rfl rfl ?_
        refine V_iret (sx_di dX12_backs 24 rfl) rfl (Nat.le_refl _) (Nat.le_refl _) ?_
        exact h
      · rw [if_pos ⟨by omega, h29⟩] at h
        refine V_inc (c := 1) (sx_di dX12_backs 21 rfl) (by decide) rfl (by decide) (rfl) ?_
        refine V_goto (tgt := 2) (sx_di dX12_backs 22 rfl) (by decide) ?_
        exact V_subk (q1 h) ⟨rfl, rfl, trivial⟩
set_option maxHeartbeats 2000000 in
set_option maxRecDepth 20000 in
theorem e_backs {E : sxE} {A : AS} {w : hpW} {Q : Option Value → hpW → Prop} (VA : AV A) (H : RR A w) (h : Q (some (.int (nI (bq_ (pls_ A) (a_r A 45).toNatClampNeg 60 0)))) w) : sx_C E mX12_backs 2 0 0 [.ref 381] w Q := by
  obtain ⟨L, hL6, eL⟩ := VA.2.2.2.1.1.2.2.2.1
  rw [eL, nI_clamp (by omega)] at h
  refine C_of (by decide +kernel) (Nat.le_of_ble_eq_true rfl) ?_
  refine V_iconst (v := 0) (sx_di dX12_backs 0 rfl) (by decide) ?_
  refine V_istore_n (i := 1) (sx_di dX12_backs 1 rfl) rfl (by decide) (rfl) ?_
  refine V_sub (ls' := [(1, .int (nI 0)), (0, .ref 381)]) ⟨rfl, rfl, trivial⟩ ?_
  exact bR_lp VA H hL6 eL 60 0 (by omega) h
set_option maxHeartbeats 2000000 in
set_option maxRecDepth 20000 in
theorem mR_lp {E : sxE} {A : AS} {w : hpW} {Q : Option Value → hpW → Prop} (VA : AV A) (H : RR A w) {x : Int32} (h : V E mX12_most (sx_rm 9 0 0) 0 0 0 0 77 [(3, .int (sb_ (fun h => decide (a_r A (32 + h) = 0)) (a_n A))), (2, .int (sm_ (fun h => a_r A (32 + h)) (a_n A))), (1, .int x), (0, .ref 381)] [] w Q) : ∀ d k, k + d = a_n A → V E mX12_most (sx_rm 9 0 0) 0 0 0 0 25 [(4, .int (nI k)), (3, .int (sb_ (fun h => decide (a_r A (32 + h) = 0)) k)), (2, .int (sm_ (fun h => a_r A (32 + h)) k)), (1, .int x), (0, .ref 381)] [] w Q := by
  intro d
  have hn8 := VA.2.2.1.1
  have hB := H.1
  have hn := H.2.2.2.1.1
  have hr : ∀ j, hp_i w 398 j = a_r A j := fun j => congrFun H.2.2.2.2.1 j
  induction d with
  | zero =>
    intro k hk
    have e3 : k = a_n A := by omega
    subst e3
    refine V_iload (sx_di dX12_most 16 rfl) rfl ?_
    refine V_aload_n (i := 0) (sx_di dX12_most 17 rfl) rfl rfl ?_
    refine V_getI (sx_di dX12_most 18 rfl) fX12_258 (fun _ => rfl) (hB.k _ rfl) ?_
    refine V_iv (y := nI (a_n A)) (hn) ?_
    refine V_icN_ge (a := (a_n A)) (b := (a_n A)) (rfl) (rfl) (by omega) (by omega) (tgt := 77) (sx_di dX12_most 19 rfl) (by decide) (fun _ => ?_) (fun h31 => absurd h31 (by omega))
    exact V_subk h ⟨rfl, rfl, rfl, rfl, trivial⟩
  | succ d ih =>
    intro k hk
    have q1 := ih (k + 1) (by omega)
    have e1 : sb_ (fun h => decide (a_r A (32 + h) = 0)) (k + 1) = if decide (a_r A (32 + k) = 0) then sb_ (fun h => decide (a_r A (32 + h) = 0)) k ||| 1 <<< (nI k &&& 31) else sb_ (fun h => decide (a_r A (32 + h) = 0)) k := rfl
    rw [e1, ← nI_1] at q1
    refine V_iload (sx_di dX12_most 16 rfl) rfl ?_
    refine V_aload_n (i := 0) (sx_di dX12_most 17 rfl) rfl rfl ?_
    refine V_getI (sx_di dX12_most 18 rfl) fX12_258 (fun _ => rfl) (hB.k _ rfl) ?_
    refine V_iv (y := nI (a_n A)) (hn) ?_
    refine V_icN_ge (a := k) (b := (a_n A)) (rfl) (rfl) (by omega) (by omega) (tgt := 77) (sx_di dX12_most 19 rfl) (by decide) (fun h31 => absurd h31 (by omega)) (fun _ => ?_)
    refine V_iload_n (i := 2) (sx_di dX12_most 20 rfl) rfl rfl ?_
    refine V_aload_n (i := 0) (sx_di dX12_most 21 rfl) rfl rfl ?_
    refine V_getR (sx_di dX12_most 22 rfl) fX12_58 (fun _ => rfl) (hB.k _ rfl) (hB.r _ _ rfl) ?_
    refine V_bipush (v := 32) (sx_di dX12_most 23 rfl) (by decide) ?_
    refine V_iload (sx_di dX12_most 24 rfl) rfl ?_
    refine V_iadd (sx_di dX12_most 25 rfl) ?_
    refine V_ialdN (n := 226) (j := (32 + k)) (sx_di dX12_most 26 rfl) (hB.k _ rfl) (nx_add (rfl) (rfl)) (by omega) (by omega) ?_
    refine V_iv (y := a_r A (32 + k)) (hr (32 + k)) ?_
    refine V_iadd (sx_di dX12_most 27 rfl) ?_
    refine V_istore_n (i := 2) (sx_di dX12_most 28 rfl) rfl (by decide) (rfl) ?_
    refine V_iload_n (i := 3) (sx_di dX12_most 29 rfl) rfl rfl ?_
    refine V_aload_n (i := 0) (sx_di dX12_most 30 rfl) rfl rfl ?_
    refine V_getR (sx_di dX12_most 31 rfl) fX12_58 (fun _ => rfl) (hB.k _ rfl) (hB.r _ _ rfl) ?_
    refine V_bipush (v := 32) (sx_di dX12_most 32 rfl) (by decide) ?_
    refine V_iload (sx_di dX12_most 33 rfl) rfl ?_
    refine V_iadd (sx_di dX12_most 34 rfl) ?_
    refine V_ialdN (n := 226) (j := (32 + k)) (sx_di dX12_most 35 rfl) (hB.k _ rfl) (nx_add (rfl) (rfl)) (by omega) (by omega) ?_
    refine V_iv (y := a_r A (32 + k)) (hr (32 + k)) ?_
    refine V_if_ne (tgt := 68) (sx_di dX12_most 36 rfl) (by decide) (fun h58 => ?_) (fun h58 => ?_)
    · rw [if_neg (by rw [decide_eq_false h58]; decide)] at q1
      refine V_iconst (v := 0) (sx_di dX12_most 41 rfl) (by decide) ?_
      refine V_ior (sx_di dX12_most 42 rfl) ?_
      refine V_istore_n (i := 3) (sx_di dX12_most 43 rfl) rfl (by decide) (rfl) ?_
      refine V_inc (c := 1) (sx_di dX12_most 44 rfl) (by decide) rfl (by decide) (rfl) ?_
      refine V_goto (tgt := 25) (sx_di dX12_most 45 rfl) (by decide) ?_
      first | exact V_subk q1 ⟨rfl, rfl, rfl, rfl, rfl, trivial⟩ | (rw [Int32.or_zero]; exact V_subk q1 ⟨rfl, rfl, rfl, rfl, rfl, trivial⟩)
    · rw [if_pos (decide_eq_true h58)] at q1
      refine V_iconst (v := 1) (sx_di dX12_most 37 rfl) (by decide) ?_
      refine V_iload (sx_di dX12_most 38 rfl) rfl ?_
      refine V_ishl (sx_di dX12_most 39 rfl) ?_
      refine V_goto (tgt := 69) (sx_di dX12_most 40 rfl) (by decide) ?_
      refine V_ior (sx_di dX12_most 42 rfl) ?_
      refine V_istore_n (i := 3) (sx_di dX12_most 43 rfl) rfl (by decide) (rfl) ?_
      refine V_inc (c := 1) (sx_di dX12_most 44 rfl) (by decide) rfl (by decide) (rfl) ?_
      refine V_goto (tgt := 25) (sx_di dX12_most 45 rfl) (by decide) ?_
      first | exact V_subk q1 ⟨rfl, rfl, rfl, rfl, rfl, trivial⟩ | (rw [Int32.or_zero]; exact V_subk q1 ⟨rfl, rfl, rfl, rfl, rfl, trivial⟩)
set_option maxHeartbeats 2000000 in
set_option maxRecDepth 20000 in
theorem mR_tl {E : sxE} {A : AS} {w : hpW} {Q : Option Value → hpW → Prop} (VA : AV A) (H : RR A w) (h0 : 0 < a_n A) {j : Nat} (hj : j ≤ 5) (h : ∀ w', RR A w' → fC w w' → Q (some (.int (if nI j = 0 then nI (hb_ (vo_ A 0) (a_n A - 1)) else if nI j = 1 then nI (hb_ (vo_ A 1) (a_n A - 1)) else if nI j = 2 then nI (hb_ (vo_ A 2) (a_n A - 1)) else if nI j = 3 then nI (bq_ (pls_ A) (a_r A 45).toNatClampNeg 60 0) else if nI j = 4 then sm_ (fun h => a_r A (32 + h)) (a_n A) else if nI j = 5 then sb_ (fun h => decide (a_r A (32 + h) = 0)) (a_n A) else -1))) w') : V E mX12_most (sx_rm 9 0 0) 0 0 0 0 77 [(3, .int (sb_ (fun h => decide (a_r A (32 + h) = 0)) (a_n A))), (2, .int (sm_ (fun h => a_r A (32 + h)) (a_n A))), (1, .int (nI j)), (0, .ref 381)] [] w Q := by
  have hB := H.1
  refine V_iload_n (i := 1) (sx_di dX12_most 46 rfl) rfl rfl ?_
  refine V_iconst (v := 3) (sx_di dX12_most 47 rfl) (by decide) ?_
  refine V_icN_ge (a := j) (b := 3) (rfl) (rfl) (by omega) (by omega) (tgt := 90) (sx_di dX12_most 48 rfl) (by decide) (fun h79 => ?_) (fun h79 => ?_)
  · refine V_iload_n (i := 1) (sx_di dX12_most 53 rfl) rfl rfl ?_
    refine V_iconst (v := 3) (sx_di dX12_most 54 rfl) (by decide) ?_
    refine V_icN_ne (a := j) (b := 3) (rfl) (rfl) (by omega) (by omega) (tgt := 102) (sx_di dX12_most 55 rfl) (by decide) (fun h92 => ?_) (fun h92 => ?_)
    · refine V_iload_n (i := 1) (sx_di dX12_most 59 rfl) rfl rfl ?_
      refine V_iconst (v := 4) (sx_di dX12_most 60 rfl) (by decide) ?_
      refine V_icN_ne (a := j) (b := 4) (rfl) (rfl) (by omega) (by omega) (tgt := 111) (sx_di dX12_most 61 rfl) (by decide) (fun h104 => ?_) (fun h104 => ?_)
      · have e5 : j = 5 := by omega
        subst e5
        refine V_iload_n (i := 3) (sx_di dX12_most 64 rfl) rfl rfl ?_
        refine V_iret (sx_di dX12_most 65 rfl) rfl (Nat.le_refl _) (Nat.le_refl _) ?_
        exact h w H fC_rf
      · subst h104
        refine V_iload_n (i := 2) (sx_di dX12_most 62 rfl) rfl rfl ?_
        refine V_goto (tgt := 112) (sx_di dX12_most 63 rfl) (by decide) ?_
        refine V_iret (sx_di dX12_most 65 rfl) rfl (Nat.le_refl _) (Nat.le_refl _) ?_
        exact h w H fC_rf
    · subst h92
      refine V_aload_n (i := 0) (sx_di dX12_most 56 rfl) rfl rfl ?_
      refine V_cV0 (mc' := 0) (ms' := 0) (M' := mX12_backs) 2 (sx_di dX12_most 57 rfl) lX12_435 vX12_backs (hB.k _ rfl) (by decide) rfl (Nat.le_of_ble_eq_true rfl) ⟨Nat.le_of_ble_eq_true rfl, Nat.le_of_ble_eq_true rfl⟩ ⟨Nat.le_refl _, Nat.le_refl _⟩ ?_
      refine e_backs VA H ?_
      refine V_goto (tgt := 112) (sx_di dX12_most 58 rfl) (by decide) ?_
      refine V_iret (sx_di dX12_most 65 rfl) rfl (Nat.le_refl _) (Nat.le_refl _) ?_
      first | exact h w H fC_rf | (have z := h w2 H2 f2; rcases (show j = 0 ∨ j = 1 ∨ j = 2 by omega) with rfl | rfl | rfl <;> exact z)
  · refine V_aload_n (i := 0) (sx_di dX12_most 49 rfl) rfl rfl ?_
    refine V_iload_n (i := 1) (sx_di dX12_most 50 rfl) rfl rfl ?_
    refine V_cV1 (mc' := 0) (ms' := 0) (M' := mX12_highestBy) 8 (sx_di dX12_most 51 rfl) lX12_432 vX12_highestBy (hB.k _ rfl) (by decide) rfl (Nat.le_of_ble_eq_true rfl) ⟨Nat.le_of_ble_eq_true rfl, Nat.le_of_ble_eq_true rfl⟩ ⟨Nat.le_refl _, Nat.le_refl _⟩ ?_
    refine e_highestBy VA H (j := j) (by omega) h0 (fun w2 H2 f2 => ?_)
    refine V_goto (tgt := 112) (sx_di dX12_most 52 rfl) (by decide) ?_
    refine V_iret (sx_di dX12_most 65 rfl) rfl (Nat.le_refl _) (Nat.le_refl _) ?_
    first | exact h w H fC_rf | (have z := h w2 H2 f2; rcases (show j = 0 ∨ j = 1 ∨ j = 2 by omega) with rfl | rfl | rfl <;> exact z)
set_option maxHeartbeats 2000000 in
set_option maxRecDepth 20000 in
theorem oR_most {E : sxE} {A : AS} {w : hpW} (VA : AV A) (H : RR A w) (x : Int32) : oR E mX12_most 9 [.ref 381, .int x] w A (q_most A x) A := by
  intro Q h
  unfold q_most at h
  have hB := H.1
  have hn := H.2.2.2.1.1
  have hn8 := VA.2.2.1.1
  refine C_of (by decide +kernel) (Nat.le_of_ble_eq_true rfl) ?_
  refine V_aload_n (i := 0) (sx_di dX12_most 0 rfl) rfl rfl ?_
  refine V_getI (sx_di dX12_most 1 rfl) fX12_258 (fun _ => rfl) (hB.k _ rfl) ?_
  refine V_iv (y := nI (a_n A)) (hn) ?_
  refine V_ifN_eq (a := (a_n A)) (rfl) (by omega) (tgt := 16) (sx_di dX12_most 2 rfl) (by decide) (fun h4 => ?_) (fun h4 => ?_)
  · rw [if_pos h4] at h
    refine V_iconst (v := -1) (sx_di dX12_most 8 rfl) (by decide) ?_
    refine V_iret (sx_di dX12_most 9 rfl) rfl (Nat.le_refl _) (Nat.le_refl _) ?_
    exact h w H fC_rf
  · rw [if_neg h4] at h
    refine V_iload_n (i := 1) (sx_di dX12_most 3 rfl) rfl rfl ?_
    refine V_iconst (v := 0) (sx_di dX12_most 4 rfl) (by decide) ?_
    refine V_iconst (v := 5) (sx_di dX12_most 5 rfl) (by decide) ?_
    refine V_cS3 (mc' := 0) (ms' := 0) (M' := mX12_in) 1 (sx_di dX12_most 6 rfl) lX12_214 vX12_in (Nat.le_of_ble_eq_true rfl) ⟨Nat.le_of_ble_eq_true rfl, Nat.le_of_ble_eq_true rfl⟩ ⟨Nat.le_refl _, Nat.le_refl _⟩ ?_
    refine c_X12_in ?_
    refine V_if_ne (tgt := 18) (sx_di dX12_most 7 rfl) (by decide) (fun h13 => ?_) (fun h13 => ?_)
    · have h14 := in_ye h13
      have h0 : 0 < a_n A := by omega
      obtain ⟨j, hj, rfl⟩ := nb_ (v := x) (k := 5) (by decide) (fun z => h14 (Or.inl z)) (fun z => h14 (Or.inr z))
      refine V_iconst (v := 0) (sx_di dX12_most 10 rfl) (by decide) ?_
      refine V_istore_n (i := 2) (sx_di dX12_most 11 rfl) rfl (by decide) (rfl) ?_
      refine V_iconst (v := 0) (sx_di dX12_most 12 rfl) (by decide) ?_
      refine V_istore_n (i := 3) (sx_di dX12_most 13 rfl) rfl (by decide) (rfl) ?_
      refine V_iconst (v := 0) (sx_di dX12_most 14 rfl) (by decide) ?_
      refine V_istore (sx_di dX12_most 15 rfl) (by decide) (rfl) ?_
      refine V_sub (ls' := [(4, .int (nI 0)), (3, .int (sb_ (fun h => decide (a_r A (32 + h) = 0)) 0)), (2, .int (sm_ (fun h => a_r A (32 + h)) 0)), (1, .int (nI j)), (0, .ref 381)]) ⟨rfl, rfl, rfl, rfl, rfl, trivial⟩ ?_
      refine mR_lp VA H ?_ (a_n A) 0 (by omega)
      exact mR_tl VA H h0 hj h
    · have h14 := in_no h13
      have n0 : ¬ x = 0 := fun z => by rw [z] at h14; exact absurd h14 (by decide)
      have n1 : ¬ x = 1 := fun z => by rw [z] at h14; exact absurd h14 (by decide)
      have n2 : ¬ x = 2 := fun z => by rw [z] at h14; exact absurd h14 (by decide)
      have n3 : ¬ x = 3 := fun z => by rw [z] at h14; exact absurd h14 (by decide)
      have n4 : ¬ x = 4 := fun z => by rw [z] at h14; exact absurd h14 (by decide)
      have n5 : ¬ x = 5 := fun z => by rw [z] at h14; exact absurd h14 (by decide)
      rw [if_neg n0, if_neg n1, if_neg n2, if_neg n3, if_neg n4, if_neg n5] at h
      refine V_iconst (v := -1) (sx_di dX12_most 8 rfl) (by decide) ?_
      refine V_iret (sx_di dX12_most 9 rfl) rfl (Nat.le_refl _) (Nat.le_refl _) ?_
      exact h w H fC_rf
theorem v0_lt {A : AS} (V : AV A) {a b : Nat} (ha : a < a_n A) (hb : b < a_n A) : (vo_ A 0 b < vo_ A 0 a) ↔ a_r A a + a_r A (8 + a) < a_r A b + a_r A (8 + b) := by
  have key : ∀ h, h < a_n A → (a_r A h + a_r A (8 + h)).toInt = (a_r A h).toInt + (a_r A (8 + h)).toInt ∧ (vo_ A 0 h).toInt = -((a_r A h).toInt + (a_r A (8 + h)).toInt) := fun h hh => by
    obtain ⟨⟨k, hk, ek⟩, ⟨s1, s2⟩, _⟩ := V.2.2.2.1.1.1.1 h hh
    have e : (a_r A h).toInt = (k : Int) := by rw [ek, nI_toInt (by omega)]
    have b1 : ∀ z : Int, -1000 ≤ z → z ≤ 1000 → z.bmod (2 ^ 32) = z := fun z z1 z2 => by
      apply Int.bmod_eq_of_le
      · omega
      · omega
    refine ⟨by rw [Int32.toInt_add]; exact b1 _ (by omega) (by omega), ?_⟩
    show (-a_r A h - a_r A (8 + h)).toInt = _
    rw [Int32.toInt_sub, Int32.toInt_neg, b1 (-(a_r A h).toInt) (by omega) (by omega), b1 _ (by omega) (by omega)]
    omega
  rw [fa_lt, fa_lt, (key a ha).1, (key a ha).2, (key b hb).1, (key b hb).2]
  omega
set_option maxHeartbeats 2000000 in
set_option maxRecDepth 20000 in
theorem hC_calmest {E : sxE} {A : AS} {w : hpW} {Q : Option Value → hpW → Prop} (VA : AV A) (H : CR A w) (h0 : 0 < a_n A) (h : Q (some (.int (nI (hb_ (vo_ A 0) (a_n A - 1))))) w) : ∀ d k, k + d = a_n A → 0 < k → V E mX11_calmest (sx_rm 3 0 0) 0 0 0 0 4 [(2, .int (nI k)), (1, .int (nI (hb_ (vo_ A 0) (k - 1)))), (0, .ref 16)] [] w Q := by
  intro d
  have hn8 := VA.2.2.1.1
  obtain ⟨t, hB, ht, hst, hn, _, _⟩ := CRn VA H
  have hv := CR_vw H h0
  induction d with
  | zero =>
    intro k hk k0
    have e3 : k = a_n A := by omega
    subst e3
    refine V_iload_n (i := 2) (sx_di dX11_calmest 4 rfl) rfl rfl ?_
    refine V_aload_n (i := 0) (sx_di dX11_calmest 5 rfl) rfl rfl ?_
    refine V_getR (sx_di dX11_calmest 6 rfl) fX11_48 (fun _ => rfl) (hB.k _ rfl) (ht) ?_
    refine V_cV0 (mc' := 0) (ms' := 0) (M' := mX8_houseCount) 2 (sx_di dX11_calmest 7 rfl) lX11_308 vX8_houseCount (hst.1) (by decide) rfl (Nat.le_of_ble_eq_true rfl) ⟨Nat.le_of_ble_eq_true rfl, Nat.le_of_ble_eq_true rfl⟩ ⟨Nat.le_refl _, Nat.le_refl _⟩ ?_
    refine c_X8_houseCount (hst.1) (hc8 hn hn8) ?_
    refine V_iv (y := nI (a_n A)) (hn) ?_
    refine V_icN_ge (a := (a_n A)) (b := (a_n A)) (rfl) (rfl) (by omega) (by omega) (tgt := 64) (sx_di dX11_calmest 8 rfl) (by decide) (fun _ => ?_) (fun h12 => absurd h12 (by omega))
    refine V_iload_n (i := 1) (sx_di dX11_calmest 36 rfl) rfl rfl ?_
    refine V_iret (sx_di dX11_calmest 37 rfl) rfl (Nat.le_refl _) (Nat.le_refl _) ?_
    exact h
  | succ d ih =>
    intro k hk k0
    have hbl := hb_le (vo_ A 0) (k - 1)
    have e1 : hb_ (vo_ A 0) k = if vo_ A 0 (hb_ (vo_ A 0) (k - 1)) < vo_ A 0 k then k else hb_ (vo_ A 0) (k - 1) := by
      obtain ⟨k2, rfl⟩ : ∃ k2, k = k2 + 1 := ⟨k - 1, by omega⟩
      rfl
    have q1 := ih (k + 1) (by omega) (by omega)
    generalize hb_ (vo_ A 0) (k - 1) = g at *
    refine V_iload_n (i := 2) (sx_di dX11_calmest 4 rfl) rfl rfl ?_
    refine V_aload_n (i := 0) (sx_di dX11_calmest 5 rfl) rfl rfl ?_
    refine V_getR (sx_di dX11_calmest 6 rfl) fX11_48 (fun _ => rfl) (hB.k _ rfl) (ht) ?_
    refine V_cV0 (mc' := 0) (ms' := 0) (M' := mX8_houseCount) 2 (sx_di dX11_calmest 7 rfl) lX11_308 vX8_houseCount (hst.1) (by decide) rfl (Nat.le_of_ble_eq_true rfl) ⟨Nat.le_of_ble_eq_true rfl, Nat.le_of_ble_eq_true rfl⟩ ⟨Nat.le_refl _, Nat.le_refl _⟩ ?_
    refine c_X8_houseCount (hst.1) (hc8 hn hn8) ?_
    refine V_iv (y := nI (a_n A)) (hn) ?_
    refine V_icN_ge (a := k) (b := (a_n A)) (rfl) (rfl) (by omega) (by omega) (tgt := 64) (sx_di dX11_calmest 8 rfl) (by decide) (fun h12 => absurd h12 (by omega)) (fun _ => ?_)
    refine V_aload_n (i := 0) (sx_di dX11_calmest 9 rfl) rfl rfl ?_
    refine V_getR (sx_di dX11_calmest 10 rfl) fX11_60 (fun _ => rfl) (hB.k _ rfl) (hB.r _ _ rfl) ?_
    refine V_getR (sx_di dX11_calmest 11 rfl) fX11_177 (fun _ => rfl) (hB.k _ rfl) (hB.r _ _ rfl) ?_
    refine V_iload_n (i := 2) (sx_di dX11_calmest 12 rfl) rfl rfl ?_
    refine V_ialdN (n := 8) (j := k) (sx_di dX11_calmest 13 rfl) (hB.k _ rfl) (rfl) (by omega) (by omega) ?_
    refine V_iv (y := a_r A k) ((hv.1 k (by omega)).1) ?_
    refine V_aload_n (i := 0) (sx_di dX11_calmest 14 rfl) rfl rfl ?_
    refine V_getR (sx_di dX11_calmest 15 rfl) fX11_60 (fun _ => rfl) (hB.k _ rfl) (hB.r _ _ rfl) ?_
    refine V_getR (sx_di dX11_calmest 16 rfl) fX11_189 (fun _ => rfl) (hB.k _ rfl) (hB.r _ _ rfl) ?_
    refine V_iload_n (i := 2) (sx_di dX11_calmest 17 rfl) rfl rfl ?_
    refine V_ialdN (n := 8) (j := k) (sx_di dX11_calmest 18 rfl) (hB.k _ rfl) (rfl) (by omega) (by omega) ?_
    refine V_iv (y := a_r A (8 + k)) ((hv.1 k (by omega)).2.1) ?_
    refine V_iadd (sx_di dX11_calmest 19 rfl) ?_
    refine V_aload_n (i := 0) (sx_di dX11_calmest 20 rfl) rfl rfl ?_
    refine V_getR (sx_di dX11_calmest 21 rfl) fX11_60 (fun _ => rfl) (hB.k _ rfl) (hB.r _ _ rfl) ?_
    refine V_getR (sx_di dX11_calmest 22 rfl) fX11_177 (fun _ => rfl) (hB.k _ rfl) (hB.r _ _ rfl) ?_
    refine V_iload_n (i := 1) (sx_di dX11_calmest 23 rfl) rfl rfl ?_
    refine V_ialdN (n := 8) (j := g) (sx_di dX11_calmest 24 rfl) (hB.k _ rfl) (rfl) (by omega) (by omega) ?_
    refine V_iv (y := a_r A g) ((hv.1 g (by omega)).1) ?_
    refine V_aload_n (i := 0) (sx_di dX11_calmest 25 rfl) rfl rfl ?_
    refine V_getR (sx_di dX11_calmest 26 rfl) fX11_60 (fun _ => rfl) (hB.k _ rfl) (hB.r _ _ rfl) ?_
    refine V_getR (sx_di dX11_calmest 27 rfl) fX11_189 (fun _ => rfl) (hB.k _ rfl) (hB.r _ _ rfl) ?_
    refine V_iload_n (i := 1) (sx_di dX11_calmest 28 rfl) rfl rfl ?_
    refine V_ialdN (n := 8) (j := g) (sx_di dX11_calmest 29 rfl) (hB.k _ rfl) (rfl) (by omega) (by omega) ?_
    refine V_iv (y := a_r A (8 + g)) ((hv.1 g (by omega)).2.1) ?_
    refine V_iadd (sx_di dX11_calmest 30 rfl) ?_
    refine V_icmp_ge (tgt := 58) (sx_di dX11_calmest 31 rfl) (by decide) (fun h53 => ?_) (fun h53 => ?_)
    · rw [if_neg (fun z => absurd ((v0_lt VA (by omega) (by omega)).mp z) (Int32.not_lt.mpr h53))] at e1
      rw [Nat.add_sub_cancel, e1, ← nI_1] at q1
      refine V_inc (c := 1) (sx_di dX11_calmest 34 rfl) (by decide) rfl (by decide) (rfl) ?_
      refine V_goto (tgt := 4) (sx_di dX11_calmest 35 rfl) (by decide) ?_
      exact V_subk q1 ⟨rfl, rfl, rfl, trivial⟩
    · rw [if_pos ((v0_lt VA (by omega) (by omega)).mpr (Int32.not_le.mp h53))] at e1
      rw [Nat.add_sub_cancel, e1, ← nI_1] at q1
      refine V_iload_n (i := 2) (sx_di dX11_calmest 32 rfl) rfl rfl ?_
      refine V_istore_n (i := 1) (sx_di dX11_calmest 33 rfl) rfl (by decide) (rfl) ?_
      refine V_inc (c := 1) (sx_di dX11_calmest 34 rfl) (by decide) rfl (by decide) (rfl) ?_
      refine V_goto (tgt := 4) (sx_di dX11_calmest 35 rfl) (by decide) ?_
      exact V_subk q1 ⟨rfl, rfl, rfl, trivial⟩
set_option maxHeartbeats 2000000 in
set_option maxRecDepth 20000 in
theorem e_calmest {E : sxE} {A : AS} {w : hpW} {Q : Option Value → hpW → Prop} (VA : AV A) (H : CR A w) (h0 : 0 < a_n A) (h : Q (some (.int (nI (hb_ (vo_ A 0) (a_n A - 1))))) w) : sx_C E mX11_calmest 3 0 0 [.ref 16] w Q := by
  refine C_of (by decide +kernel) (Nat.le_of_ble_eq_true rfl) ?_
  refine V_iconst (v := 0) (sx_di dX11_calmest 0 rfl) (by decide) ?_
  refine V_istore_n (i := 1) (sx_di dX11_calmest 1 rfl) rfl (by decide) (rfl) ?_
  refine V_iconst (v := 1) (sx_di dX11_calmest 2 rfl) (by decide) ?_
  refine V_istore_n (i := 2) (sx_di dX11_calmest 3 rfl) rfl (by decide) (rfl) ?_
  refine V_sub (ls' := [(2, .int (nI 1)), (1, .int (nI 0)), (0, .ref 16)]) ⟨rfl, rfl, rfl, trivial⟩ ?_
  exact hC_calmest VA H h0 h (a_n A - 1) 1 (by omega) (by omega)
set_option maxHeartbeats 2000000 in
set_option maxRecDepth 20000 in
theorem hC_whitest {E : sxE} {A : AS} {w : hpW} {Q : Option Value → hpW → Prop} (VA : AV A) (H : CR A w) (h0 : 0 < a_n A) (h : Q (some (.int (nI (hb_ (vo_ A 2) (a_n A - 1))))) w) : ∀ d k, k + d = a_n A → 0 < k → V E mX11_whitest (sx_rm 3 0 0) 0 0 0 0 4 [(2, .int (nI k)), (1, .int (nI (hb_ (vo_ A 2) (k - 1)))), (0, .ref 16)] [] w Q := by
  intro d
  have hn8 := VA.2.2.1.1
  obtain ⟨t, hB, ht, hst, hn, _, _⟩ := CRn VA H
  have hv := CR_vw H h0
  induction d with
  | zero =>
    intro k hk k0
    have e3 : k = a_n A := by omega
    subst e3
    refine V_iload_n (i := 2) (sx_di dX11_whitest 4 rfl) rfl rfl ?_
    refine V_aload_n (i := 0) (sx_di dX11_whitest 5 rfl) rfl rfl ?_
    refine V_getR (sx_di dX11_whitest 6 rfl) fX11_48 (fun _ => rfl) (hB.k _ rfl) (ht) ?_
    refine V_cV0 (mc' := 0) (ms' := 0) (M' := mX8_houseCount) 2 (sx_di dX11_whitest 7 rfl) lX11_308 vX8_houseCount (hst.1) (by decide) rfl (Nat.le_of_ble_eq_true rfl) ⟨Nat.le_of_ble_eq_true rfl, Nat.le_of_ble_eq_true rfl⟩ ⟨Nat.le_refl _, Nat.le_refl _⟩ ?_
    refine c_X8_houseCount (hst.1) (hc8 hn hn8) ?_
    refine V_iv (y := nI (a_n A)) (hn) ?_
    refine V_icN_ge (a := (a_n A)) (b := (a_n A)) (rfl) (rfl) (by omega) (by omega) (tgt := 44) (sx_di dX11_whitest 8 rfl) (by decide) (fun _ => ?_) (fun h12 => absurd h12 (by omega))
    refine V_iload_n (i := 1) (sx_di dX11_whitest 24 rfl) rfl rfl ?_
    refine V_iret (sx_di dX11_whitest 25 rfl) rfl (Nat.le_refl _) (Nat.le_refl _) ?_
    exact h
  | succ d ih =>
    intro k hk k0
    have hbl := hb_le (vo_ A 2) (k - 1)
    have e1 : hb_ (vo_ A 2) k = if vo_ A 2 (hb_ (vo_ A 2) (k - 1)) < vo_ A 2 k then k else hb_ (vo_ A 2) (k - 1) := by
      obtain ⟨k2, rfl⟩ : ∃ k2, k = k2 + 1 := ⟨k - 1, by omega⟩
      rfl
    have q1 := ih (k + 1) (by omega) (by omega)
    generalize hb_ (vo_ A 2) (k - 1) = g at *
    refine V_iload_n (i := 2) (sx_di dX11_whitest 4 rfl) rfl rfl ?_
    refine V_aload_n (i := 0) (sx_di dX11_whitest 5 rfl) rfl rfl ?_
    refine V_getR (sx_di dX11_whitest 6 rfl) fX11_48 (fun _ => rfl) (hB.k _ rfl) (ht) ?_
    refine V_cV0 (mc' := 0) (ms' := 0) (M' := mX8_houseCount) 2 (sx_di dX11_whitest 7 rfl) lX11_308 vX8_houseCount (hst.1) (by decide) rfl (Nat.le_of_ble_eq_true rfl) ⟨Nat.le_of_ble_eq_true rfl, Nat.le_of_ble_eq_true rfl⟩ ⟨Nat.le_refl _, Nat.le_refl _⟩ ?_
    refine c_X8_houseCount (hst.1) (hc8 hn hn8) ?_
    refine V_iv (y := nI (a_n A)) (hn) ?_
    refine V_icN_ge (a := k) (b := (a_n A)) (rfl) (rfl) (by omega) (by omega) (tgt := 44) (sx_di dX11_whitest 8 rfl) (by decide) (fun h12 => absurd h12 (by omega)) (fun _ => ?_)
    refine V_aload_n (i := 0) (sx_di dX11_whitest 9 rfl) rfl rfl ?_
    refine V_getR (sx_di dX11_whitest 10 rfl) fX11_60 (fun _ => rfl) (hB.k _ rfl) (hB.r _ _ rfl) ?_
    refine V_getR (sx_di dX11_whitest 11 rfl) fX11_180 (fun _ => rfl) (hB.k _ rfl) (hB.r _ _ rfl) ?_
    refine V_iload_n (i := 2) (sx_di dX11_whitest 12 rfl) rfl rfl ?_
    refine V_ialdN (n := 8) (j := k) (sx_di dX11_whitest 13 rfl) (hB.k _ rfl) (rfl) (by omega) (by omega) ?_
    refine V_iv (y := a_r A (16 + k)) ((hv.1 k (by omega)).2.2.1) ?_
    refine V_aload_n (i := 0) (sx_di dX11_whitest 14 rfl) rfl rfl ?_
    refine V_getR (sx_di dX11_whitest 15 rfl) fX11_60 (fun _ => rfl) (hB.k _ rfl) (hB.r _ _ rfl) ?_
    refine V_getR (sx_di dX11_whitest 16 rfl) fX11_180 (fun _ => rfl) (hB.k _ rfl) (hB.r _ _ rfl) ?_
    refine V_iload_n (i := 1) (sx_di dX11_whitest 17 rfl) rfl rfl ?_
    refine V_ialdN (n := 8) (j := g) (sx_di dX11_whitest 18 rfl) (hB.k _ rfl) (rfl) (by omega) (by omega) ?_
    refine V_iv (y := a_r A (16 + g)) ((hv.1 g (by omega)).2.2.1) ?_
    refine V_icmp_le (tgt := 38) (sx_di dX11_whitest 19 rfl) (by decide) (fun h33 => ?_) (fun h33 => ?_)
    · rw [if_neg (show ¬ vo_ A 2 g < vo_ A 2 k from Int32.not_lt.mpr h33)] at e1
      rw [Nat.add_sub_cancel, e1, ← nI_1] at q1
      refine V_inc (c := 1) (sx_di dX11_whitest 22 rfl) (by decide) rfl (by decide) (rfl) ?_
      refine V_goto (tgt := 4) (sx_di dX11_whitest 23 rfl) (by decide) ?_
      exact V_subk q1 ⟨rfl, rfl, rfl, trivial⟩
    · rw [if_pos (show vo_ A 2 g < vo_ A 2 k from Int32.not_le.mp h33)] at e1
      rw [Nat.add_sub_cancel, e1, ← nI_1] at q1
      refine V_iload_n (i := 2) (sx_di dX11_whitest 20 rfl) rfl rfl ?_
      refine V_istore_n (i := 1) (sx_di dX11_whitest 21 rfl) rfl (by decide) (rfl) ?_
      refine V_inc (c := 1) (sx_di dX11_whitest 22 rfl) (by decide) rfl (by decide) (rfl) ?_
      refine V_goto (tgt := 4) (sx_di dX11_whitest 23 rfl) (by decide) ?_
      exact V_subk q1 ⟨rfl, rfl, rfl, trivial⟩
set_option maxHeartbeats 2000000 in
set_option maxRecDepth 20000 in
theorem e_whitest {E : sxE} {A : AS} {w : hpW} {Q : Option Value → hpW → Prop} (VA : AV A) (H : CR A w) (h0 : 0 < a_n A) (h : Q (some (.int (nI (hb_ (vo_ A 2) (a_n A - 1))))) w) : sx_C E mX11_whitest 3 0 0 [.ref 16] w Q := by
  refine C_of (by decide +kernel) (Nat.le_of_ble_eq_true rfl) ?_
  refine V_iconst (v := 0) (sx_di dX11_whitest 0 rfl) (by decide) ?_
  refine V_istore_n (i := 1) (sx_di dX11_whitest 1 rfl) rfl (by decide) (rfl) ?_
  refine V_iconst (v := 1) (sx_di dX11_whitest 2 rfl) (by decide) ?_
  refine V_istore_n (i := 2) (sx_di dX11_whitest 3 rfl) rfl (by decide) (rfl) ?_
  refine V_sub (ls' := [(2, .int (nI 1)), (1, .int (nI 0)), (0, .ref 16)]) ⟨rfl, rfl, rfl, trivial⟩ ?_
  exact hC_whitest VA H h0 h (a_n A - 1) 1 (by omega) (by omega)
set_option maxHeartbeats 2000000 in
set_option maxRecDepth 20000 in
theorem c_lp_crowd {E : sxE} {A : AS} {w : hpW} {Q : Option Value → hpW → Prop} (VA : AV A) (H : CR A w) (h0 : 0 < a_n A) (h : Q (some (.int (sm_ (fun h => a_r A (32 + h)) (a_n A)))) w) : ∀ d k, k + d = a_n A → V E mX11_crowd (sx_rm 3 0 0) 0 0 0 0 4 [(2, .int (nI k)), (1, .int (sm_ (fun h => a_r A (32 + h)) k)), (0, .ref 16)] [] w Q := by
  intro d
  have hn8 := VA.2.2.1.1
  obtain ⟨t, hB, ht, hst, hn, _, _⟩ := CRn VA H
  have hv := CR_vw H h0
  induction d with
  | zero =>
    intro k hk
    have e3 : k = a_n A := by omega
    subst e3
    refine V_iload_n (i := 2) (sx_di dX11_crowd 4 rfl) rfl rfl ?_
    refine V_aload_n (i := 0) (sx_di dX11_crowd 5 rfl) rfl rfl ?_
    refine V_getR (sx_di dX11_crowd 6 rfl) fX11_48 (fun _ => rfl) (hB.k _ rfl) (ht) ?_
    refine V_cV0 (mc' := 0) (ms' := 0) (M' := mX8_houseCount) 2 (sx_di dX11_crowd 7 rfl) lX11_308 vX8_houseCount (hst.1) (by decide) rfl (Nat.le_of_ble_eq_true rfl) ⟨Nat.le_of_ble_eq_true rfl, Nat.le_of_ble_eq_true rfl⟩ ⟨Nat.le_refl _, Nat.le_refl _⟩ ?_
    refine c_X8_houseCount (hst.1) (hc8 hn hn8) ?_
    refine V_iv (y := nI (a_n A)) (hn) ?_
    refine V_icN_ge (a := (a_n A)) (b := (a_n A)) (rfl) (rfl) (by omega) (by omega) (tgt := 33) (sx_di dX11_crowd 8 rfl) (by decide) (fun _ => ?_) (fun h12 => absurd h12 (by omega))
    refine V_iload_n (i := 1) (sx_di dX11_crowd 19 rfl) rfl rfl ?_
    refine V_iret (sx_di dX11_crowd 20 rfl) rfl (Nat.le_refl _) (Nat.le_refl _) ?_
    exact h
  | succ d ih =>
    intro k hk
    have q1 := ih (k + 1) (by omega)
    rw [← nI_1] at q1
    refine V_iload_n (i := 2) (sx_di dX11_crowd 4 rfl) rfl rfl ?_
    refine V_aload_n (i := 0) (sx_di dX11_crowd 5 rfl) rfl rfl ?_
    refine V_getR (sx_di dX11_crowd 6 rfl) fX11_48 (fun _ => rfl) (hB.k _ rfl) (ht) ?_
    refine V_cV0 (mc' := 0) (ms' := 0) (M' := mX8_houseCount) 2 (sx_di dX11_crowd 7 rfl) lX11_308 vX8_houseCount (hst.1) (by decide) rfl (Nat.le_of_ble_eq_true rfl) ⟨Nat.le_of_ble_eq_true rfl, Nat.le_of_ble_eq_true rfl⟩ ⟨Nat.le_refl _, Nat.le_refl _⟩ ?_
    refine c_X8_houseCount (hst.1) (hc8 hn hn8) ?_
    refine V_iv (y := nI (a_n A)) (hn) ?_
    refine V_icN_ge (a := k) (b := (a_n A)) (rfl) (rfl) (by omega) (by omega) (tgt := 33) (sx_di dX11_crowd 8 rfl) (by decide) (fun h12 => absurd h12 (by omega)) (fun _ => ?_)
    refine V_iload_n (i := 1) (sx_di dX11_crowd 9 rfl) rfl rfl ?_
    refine V_aload_n (i := 0) (sx_di dX11_crowd 10 rfl) rfl rfl ?_
    refine V_getR (sx_di dX11_crowd 11 rfl) fX11_60 (fun _ => rfl) (hB.k _ rfl) (hB.r _ _ rfl) ?_
    refine V_getR (sx_di dX11_crowd 12 rfl) fX11_186 (fun _ => rfl) (hB.k _ rfl) (hB.r _ _ rfl) ?_
    refine V_iload_n (i := 2) (sx_di dX11_crowd 13 rfl) rfl rfl ?_
    refine V_ialdN (n := 8) (j := k) (sx_di dX11_crowd 14 rfl) (hB.k _ rfl) (rfl) (by omega) (by omega) ?_
    refine V_iv (y := a_r A (32 + k)) ((hv.1 k (by omega)).2.2.2.2) ?_
    refine V_iadd (sx_di dX11_crowd 15 rfl) ?_
    refine V_istore_n (i := 1) (sx_di dX11_crowd 16 rfl) rfl (by decide) (rfl) ?_
    refine V_inc (c := 1) (sx_di dX11_crowd 17 rfl) (by decide) rfl (by decide) (rfl) ?_
    refine V_goto (tgt := 4) (sx_di dX11_crowd 18 rfl) (by decide) ?_
    exact V_subk q1 ⟨rfl, rfl, rfl, trivial⟩
set_option maxHeartbeats 2000000 in
set_option maxRecDepth 20000 in
theorem e_crowd {E : sxE} {A : AS} {w : hpW} {Q : Option Value → hpW → Prop} (VA : AV A) (H : CR A w) (h0 : 0 < a_n A) (h : Q (some (.int (sm_ (fun h => a_r A (32 + h)) (a_n A)))) w) : sx_C E mX11_crowd 3 0 0 [.ref 16] w Q := by
  refine C_of (by decide +kernel) (Nat.le_of_ble_eq_true rfl) ?_
  refine V_iconst (v := 0) (sx_di dX11_crowd 0 rfl) (by decide) ?_
  refine V_istore_n (i := 1) (sx_di dX11_crowd 1 rfl) rfl (by decide) (rfl) ?_
  refine V_iconst (v := 0) (sx_di dX11_crowd 2 rfl) (by decide) ?_
  refine V_istore_n (i := 2) (sx_di dX11_crowd 3 rfl) rfl (by decide) (rfl) ?_
  refine V_sub (ls' := [(2, .int (nI 0)), (1, .int (sm_ (fun h => a_r A (32 + h)) 0)), (0, .ref 16)]) ⟨rfl, rfl, rfl, trivial⟩ ?_
  exact c_lp_crowd VA H h0 h (a_n A) 0 (by omega)
set_option maxHeartbeats 2000000 in
set_option maxRecDepth 20000 in
theorem c_lp_lonely {E : sxE} {A : AS} {w : hpW} {Q : Option Value → hpW → Prop} (VA : AV A) (H : CR A w) (h0 : 0 < a_n A) (h : Q (some (.int (sb_ (fun h => decide (a_r A (32 + h) = 0)) (a_n A)))) w) : ∀ d k, k + d = a_n A → V E mX11_lonely (sx_rm 3 0 0) 0 0 0 0 4 [(2, .int (nI k)), (1, .int (sb_ (fun h => decide (a_r A (32 + h) = 0)) k)), (0, .ref 16)] [] w Q := by
  intro d
  have hn8 := VA.2.2.1.1
  obtain ⟨t, hB, ht, hst, hn, _, _⟩ := CRn VA H
  have hv := CR_vw H h0
  induction d with
  | zero =>
    intro k hk
    have e3 : k = a_n A := by omega
    subst e3
    refine V_iload_n (i := 2) (sx_di dX11_lonely 4 rfl) rfl rfl ?_
    refine V_aload_n (i := 0) (sx_di dX11_lonely 5 rfl) rfl rfl ?_
    refine V_getR (sx_di dX11_lonely 6 rfl) fX11_48 (fun _ => rfl) (hB.k _ rfl) (ht) ?_
    refine V_cV0 (mc' := 0) (ms' := 0) (M' := mX8_houseCount) 2 (sx_di dX11_lonely 7 rfl) lX11_308 vX8_houseCount (hst.1) (by decide) rfl (Nat.le_of_ble_eq_true rfl) ⟨Nat.le_of_ble_eq_true rfl, Nat.le_of_ble_eq_true rfl⟩ ⟨Nat.le_refl _, Nat.le_refl _⟩ ?_
    refine c_X8_houseCount (hst.1) (hc8 hn hn8) ?_
    refine V_iv (y := nI (a_n A)) (hn) ?_
    refine V_icN_ge (a := (a_n A)) (b := (a_n A)) (rfl) (rfl) (by omega) (by omega) (tgt := 39) (sx_di dX11_lonely 8 rfl) (by decide) (fun _ => ?_) (fun h12 => absurd h12 (by omega))
    refine V_iload_n (i := 1) (sx_di dX11_lonely 23 rfl) rfl rfl ?_
    refine V_iret (sx_di dX11_lonely 24 rfl) rfl (Nat.le_refl _) (Nat.le_refl _) ?_
    exact h
  | succ d ih =>
    intro k hk
    have q1 := ih (k + 1) (by omega)
    have e1 : sb_ (fun h => decide (a_r A (32 + h) = 0)) (k + 1) = if decide (a_r A (32 + k) = 0) then sb_ (fun h => decide (a_r A (32 + h) = 0)) k ||| 1 <<< (nI k &&& 31) else sb_ (fun h => decide (a_r A (32 + h) = 0)) k := rfl
    rw [e1] at q1
    rw [← nI_1] at q1
    refine V_iload_n (i := 2) (sx_di dX11_lonely 4 rfl) rfl rfl ?_
    refine V_aload_n (i := 0) (sx_di dX11_lonely 5 rfl) rfl rfl ?_
    refine V_getR (sx_di dX11_lonely 6 rfl) fX11_48 (fun _ => rfl) (hB.k _ rfl) (ht) ?_
    refine V_cV0 (mc' := 0) (ms' := 0) (M' := mX8_houseCount) 2 (sx_di dX11_lonely 7 rfl) lX11_308 vX8_houseCount (hst.1) (by decide) rfl (Nat.le_of_ble_eq_true rfl) ⟨Nat.le_of_ble_eq_true rfl, Nat.le_of_ble_eq_true rfl⟩ ⟨Nat.le_refl _, Nat.le_refl _⟩ ?_
    refine c_X8_houseCount (hst.1) (hc8 hn hn8) ?_
    refine V_iv (y := nI (a_n A)) (hn) ?_
    refine V_icN_ge (a := k) (b := (a_n A)) (rfl) (rfl) (by omega) (by omega) (tgt := 39) (sx_di dX11_lonely 8 rfl) (by decide) (fun h12 => absurd h12 (by omega)) (fun _ => ?_)
    refine V_aload_n (i := 0) (sx_di dX11_lonely 9 rfl) rfl rfl ?_
    refine V_getR (sx_di dX11_lonely 10 rfl) fX11_60 (fun _ => rfl) (hB.k _ rfl) (hB.r _ _ rfl) ?_
    refine V_getR (sx_di dX11_lonely 11 rfl) fX11_186 (fun _ => rfl) (hB.k _ rfl) (hB.r _ _ rfl) ?_
    refine V_iload_n (i := 2) (sx_di dX11_lonely 12 rfl) rfl rfl ?_
    refine V_ialdN (n := 8) (j := k) (sx_di dX11_lonely 13 rfl) (hB.k _ rfl) (rfl) (by omega) (by omega) ?_
    refine V_iv (y := a_r A (32 + k)) ((hv.1 k (by omega)).2.2.2.2) ?_
    refine V_if_ne (tgt := 33) (sx_di dX11_lonely 14 rfl) (by decide) (fun h24 => ?_) (fun h24 => ?_)
    · rw [if_neg (by rw [decide_eq_false h24]; decide)] at q1
      refine V_inc (c := 1) (sx_di dX11_lonely 21 rfl) (by decide) rfl (by decide) (rfl) ?_
      refine V_goto (tgt := 4) (sx_di dX11_lonely 22 rfl) (by decide) ?_
      exact V_subk q1 ⟨rfl, rfl, rfl, trivial⟩
    · rw [if_pos (decide_eq_true h24)] at q1
      refine V_iload_n (i := 1) (sx_di dX11_lonely 15 rfl) rfl rfl ?_
      refine V_iconst (v := 1) (sx_di dX11_lonely 16 rfl) (by decide) ?_
      refine V_iload_n (i := 2) (sx_di dX11_lonely 17 rfl) rfl rfl ?_
      refine V_ishl (sx_di dX11_lonely 18 rfl) ?_
      refine V_ior (sx_di dX11_lonely 19 rfl) ?_
      refine V_istore_n (i := 1) (sx_di dX11_lonely 20 rfl) rfl (by decide) (rfl) ?_
      refine V_inc (c := 1) (sx_di dX11_lonely 21 rfl) (by decide) rfl (by decide) (rfl) ?_
      refine V_goto (tgt := 4) (sx_di dX11_lonely 22 rfl) (by decide) ?_
      exact V_subk q1 ⟨rfl, rfl, rfl, trivial⟩
set_option maxHeartbeats 2000000 in
set_option maxRecDepth 20000 in
theorem e_lonely {E : sxE} {A : AS} {w : hpW} {Q : Option Value → hpW → Prop} (VA : AV A) (H : CR A w) (h0 : 0 < a_n A) (h : Q (some (.int (sb_ (fun h => decide (a_r A (32 + h) = 0)) (a_n A)))) w) : sx_C E mX11_lonely 3 0 0 [.ref 16] w Q := by
  refine C_of (by decide +kernel) (Nat.le_of_ble_eq_true rfl) ?_
  refine V_iconst (v := 0) (sx_di dX11_lonely 0 rfl) (by decide) ?_
  refine V_istore_n (i := 1) (sx_di dX11_lonely 1 rfl) rfl (by decide) (rfl) ?_
  refine V_iconst (v := 0) (sx_di dX11_lonely 2 rfl) (by decide) ?_
  refine V_istore_n (i := 2) (sx_di dX11_lonely 3 rfl) rfl (by decide) (rfl) ?_
  refine V_sub (ls' := [(2, .int (nI 0)), (1, .int (sb_ (fun h => decide (a_r A (32 + h) = 0)) 0)), (0, .ref 16)]) ⟨rfl, rfl, rfl, trivial⟩ ?_
  exact c_lp_lonely VA H h0 h (a_n A) 0 (by omega)
set_option maxHeartbeats 2000000 in
set_option maxRecDepth 20000 in
theorem bC_lp {E : sxE} {A : AS} {w : hpW} {Q : Option Value → hpW → Prop} (VA : AV A) (H : CR A w) {L g : Nat} {c : Int32} (hL : L ≤ 60) (eL : a_r A 45 = nI L) (eg : hp_i w 57 12 = nI g) (hg : g ≤ 9999) (rg : rg_ (hp_i w) 71 g (a_r A)) (ec : ∀ k, k < 61 → (c ≤ nI k ↔ L ≤ k + 1)) : ∀ d k, k + d = 60 → Q (some (.int (nI (bq_ (pls_ A) L d k)))) w → V E mX11_backs (sx_rm 3 0 0) 0 0 0 0 11 [(3, .int (nI k)), (2, .int (nI k)), (1, .int c), (0, .ref 16)] [] w Q := by
  intro d
  have hB := H.1
  have hlg : is_Lg w 71 := lg_71 hB
  have e46 : L = if g < 60 then g else 60 := (nI_eq (by omega) (by split <;> omega)).mp (eL.symm.trans rg.2.1)
  have epl : ∀ i, pls_ A i = a_r A (46 + 3 * (L - 1 - i) + 1) := fun i => by unfold pls_; rw [eL, nI_clamp (by omega)]
  have hrow : ∀ i, i < L → hp_i w 73 ((g - 1 - i) % 128) = pls_ A i := fun i hi => by
    have z := (rg.2.2 i (by omega)).2.1
    rw [← e46] at z
    rw [epl]
    exact z
  have hgL : L ≤ g := by split at e46 <;> omega
  induction d with
  | zero =>
    intro k hk h
    have e3 : k = 60 := by omega
    subst e3
    refine V_iload_n (i := 3) (sx_di dX11_backs 9 rfl) rfl rfl ?_
    refine V_iload_n (i := 1) (sx_di dX11_backs 10 rfl) rfl rfl ?_
    refine V_icmp_ge (tgt := 64) (sx_di dX11_backs 11 rfl) (by decide) (fun _ => ?_) (fun h13 => absurd ((ec 60 (by omega)).mpr (by omega)) h13)
    refine V_iload_n (i := 2) (sx_di dX11_backs 35 rfl) rfl rfl ?_
    refine V_iret (sx_di dX11_backs 36 rfl) rfl (Nat.le_refl _) (Nat.le_refl _) ?_
    exact h
  | succ d ih =>
    intro k hk h
    have q1 := ih (k + 1) (by omega)
    rw [← nI_1] at q1
    unfold bq_ at h
    refine V_iload_n (i := 3) (sx_di dX11_backs 9 rfl) rfl rfl ?_
    refine V_iload_n (i := 1) (sx_di dX11_backs 10 rfl) rfl rfl ?_
    refine V_icmp_ge (tgt := 64) (sx_di dX11_backs 11 rfl) (by decide) (fun h13 => ?_) (fun h13 => ?_)
    · rw [if_neg (fun z => absurd z.1 (by have := (ec k (by omega)).mp h13; omega))] at h
      refine V_iload_n (i := 2) (sx_di dX11_backs 35 rfl) rfl rfl ?_
      refine V_iret (sx_di dX11_backs 36 rfl) rfl (Nat.le_refl _) (Nat.le_refl _) ?_
      exact h
    · have hkL : k + 1 < L := Nat.lt_of_not_le (fun z => h13 ((ec k (by omega)).mpr z))
      refine V_aload_n (i := 0) (sx_di dX11_backs 12 rfl) rfl rfl ?_
      refine V_getR (sx_di dX11_backs 13 rfl) fX11_60 (fun _ => rfl) (hB.k _ rfl) (hB.r _ _ rfl) ?_
      refine V_getI (sx_di dX11_backs 14 rfl) fX11_218 (fun _ => rfl) (hB.k _ rfl) ?_
      refine V_iv (y := nI g) (eg) ?_
      refine V_iconst (v := 1) (sx_di dX11_backs 15 rfl) (by decide) ?_
      refine V_isub (sx_di dX11_backs 16 rfl) ?_
      refine V_iv (y := nI (g - 1)) (pk_sub (a := g) (b := 1) (by omega)) ?_
      refine V_iload_n (i := 3) (sx_di dX11_backs 17 rfl) rfl rfl ?_
      refine V_isub (sx_di dX11_backs 18 rfl) ?_
      refine V_iv (y := nI (g - 1 - k)) (pk_sub (a := g - 1) (b := k) (by omega)) ?_
      refine V_istore (sx_di dX11_backs 19 rfl) (by decide) (rfl) ?_
      refine V_aload_n (i := 0) (sx_di dX11_backs 20 rfl) rfl rfl ?_
      refine V_getR (sx_di dX11_backs 21 rfl) fX11_70 (fun _ => rfl) (hB.k _ rfl) (hB.r _ _ rfl) ?_
      refine V_iload (sx_di dX11_backs 22 rfl) rfl ?_
      refine V_cV1 (mc' := 0) (ms' := 0) (M' := mX4_placeAt) 2 (sx_di dX11_backs 23 rfl) lX11_224 vX4_placeAt (hB.k _ rfl) (by decide) rfl (Nat.le_of_ble_eq_true rfl) ⟨Nat.le_of_ble_eq_true rfl, Nat.le_of_ble_eq_true rfl⟩ ⟨Nat.le_refl _, Nat.le_refl _⟩ ?_
      refine c_X4_placeAt hlg ?_
      refine V_iv (y := pls_ A k) (hrow k (by omega)) ?_
      refine V_aload_n (i := 0) (sx_di dX11_backs 24 rfl) rfl rfl ?_
      refine V_getR (sx_di dX11_backs 25 rfl) fX11_70 (fun _ => rfl) (hB.k _ rfl) (hB.r _ _ rfl) ?_
      refine V_iload (sx_di dX11_backs 26 rfl) rfl ?_
      refine V_iconst (v := 1) (sx_di dX11_backs 27 rfl) (by decide) ?_
      refine V_isub (sx_di dX11_backs 28 rfl) ?_
      refine V_iv (y := nI (g - 1 - (k + 1))) ((pk_sub (a := g - 1 - k) (b := 1) (by omega)).trans (congrArg nI (by omega))) ?_
      refine V_cV1 (mc' := 0) (ms' := 0) (M' := mX4_placeAt) 2 (sx_di dX11_backs 29 rfl) lX11_224 vX4_placeAt (hB.k _ rfl) (by decide) rfl (Nat.le_of_ble_eq_true rfl) ⟨Nat.le_of_ble_eq_true rfl, Nat.le_of_ble_eq_true rfl⟩ ⟨Nat.le_refl _, Nat.le_refl _⟩ ?_
      refine c_X4_placeAt hlg ?_
      refine V_iv (y := pls_ A (k + 1)) (hrow (k + 1) (by omega)) ?_
      refine V_icmp_eq (tgt := 55) (sx_di dX11_backs 30 rfl) (by decide) (fun h49 => ?_) (fun h49 => ?_)
      · rw [if_pos ⟨hkL, h49⟩] at h
        refine V_inc (c := 1) (sx_di dX11_backs 32 rfl) (by decide) rfl (by decide) (rfl) ?_
        refine V_inc (c := 1) (sx_di dX11_backs 33 rfl) (by decide) rfl (by decide) (rfl) ?_
        refine V_goto (tgt := 11) (sx_di dX11_backs 34 rfl) (by decide) ?_
        exact V_subk (q1 h) ⟨rfl, rfl, rfl, rfl, trivial⟩
      · rw [if_neg (fun z => h49 z.2)] at h
        refine V_goto (tgt := 64) (sx_di dX11_backs 31 rfl) (by decide) ?_
        refine V_iload_n (i := 2) (sx_di dX11_backs 35 rfl) rfl rfl ?_
        refine V_iret (sx_di dX11_backs 36 rfl) rfl (Nat.le_refl _) (Nat.le_refl _) ?_
        exact h
set_option maxHeartbeats 2000000 in
set_option maxRecDepth 20000 in
theorem eC_backs {E : sxE} {A : AS} {w : hpW} {Q : Option Value → hpW → Prop} (VA : AV A) (H : CR A w) (h : Q (some (.int (nI (bq_ (pls_ A) (a_r A 45).toNatClampNeg 60 0)))) w) : sx_C E mX11_backs 3 0 0 [.ref 16] w Q := by
  obtain ⟨L, hL6, eL⟩ := VA.2.2.2.1.1.2.2.2.1
  rw [eL, nI_clamp (by omega)] at h
  have hB := H.1
  obtain ⟨g, hg9, e12, rg, e45, e46⟩ := CR_lg VA H
  have ec : ∀ k, k < 61 → (nI L - 1 ≤ nI k ↔ L ≤ k + 1) := fun k hk => by
    rw [fa_le, show (nI L - 1).toInt = (L : Int) - 1 from pk_sub_toInt (a := L) (b := 1) (by omega) (by omega), nI_toInt (by omega)]
    omega
  refine C_of (by decide +kernel) (Nat.le_of_ble_eq_true rfl) ?_
  refine V_aload_n (i := 0) (sx_di dX11_backs 0 rfl) rfl rfl ?_
  refine V_cV0 (mc' := 0) (ms' := 0) (M' := mX11_shownLog) 2 (sx_di dX11_backs 1 rfl) lX11_214 vX11_shownLog (hB.k _ rfl) (by decide) rfl (Nat.le_of_ble_eq_true rfl) ⟨Nat.le_of_ble_eq_true rfl, Nat.le_of_ble_eq_true rfl⟩ ⟨Nat.le_refl _, Nat.le_refl _⟩ ?_
  refine c_X11_shownLog hB ?_
  refine V_iv (y := nI L) (e45.trans eL) ?_
  refine V_iconst (v := 1) (sx_di dX11_backs 2 rfl) (by decide) ?_
  refine V_isub (sx_di dX11_backs 3 rfl) ?_
  refine V_istore_n (i := 1) (sx_di dX11_backs 4 rfl) rfl (by decide) (rfl) ?_
  refine V_iconst (v := 0) (sx_di dX11_backs 5 rfl) (by decide) ?_
  refine V_istore_n (i := 2) (sx_di dX11_backs 6 rfl) rfl (by decide) (rfl) ?_
  refine V_iconst (v := 0) (sx_di dX11_backs 7 rfl) (by decide) ?_
  refine V_istore_n (i := 3) (sx_di dX11_backs 8 rfl) rfl (by decide) (rfl) ?_
  refine V_sub (ls' := [(3, .int (nI 0)), (2, .int (nI 0)), (1, .int (nI L - 1)), (0, .ref 16)]) ⟨rfl, rfl, rfl, rfl, trivial⟩ ?_
  exact bC_lp VA H hL6 eL e12 hg9 rg ec 60 0 (by omega) h
theorem M_pos (A : AS) (h : Nat) : ¬ M_ A h < 0 := by
  have key : ∀ z : Int32, ¬ mx_ 0 z < 0 := fun z => by
    unfold mx_
    split
    · next q => intro y; exact absurd (Int32.lt_trans q y) (by decide)
    · decide
  unfold M_ mv_ md_
  split
  · decide
  · split
    · exact key _
    · decide
theorem gs_s (f : Nat → Int32) (k : Nat) : gs_ f (k + 1) = if (gs_ f k).2 < f k then (nI k, f k) else gs_ f k := by
  show (if f k ≤ (gs_ f k).2 then gs_ f k else (nI k, f k)) = _
  by_cases h : f k ≤ (gs_ f k).2
  · rw [if_pos h, if_neg (Int32.not_lt.mpr h)]
  · rw [if_neg h, if_pos (Int32.not_le.mp h)]
theorem gs_hb (A : AS) : ∀ k, (gs_ (vo_ A 1) (k + 1) = (-1, 0) ∧ hb_ (vo_ A 1) k = 0 ∧ vo_ A 1 0 = 0) ∨ (gs_ (vo_ A 1) (k + 1) = (nI (hb_ (vo_ A 1) k), vo_ A 1 (hb_ (vo_ A 1) k)) ∧ 0 < vo_ A 1 (hb_ (vo_ A 1) k))
  | 0 => by
    have hp : ¬ vo_ A 1 0 < 0 := M_pos A 0
    rw [gs_s]
    show ((if (0 : Int32) < vo_ A 1 0 then (nI 0, vo_ A 1 0) else (-1, 0)) = (-1, 0) ∧ 0 = 0 ∧ vo_ A 1 0 = 0) ∨ ((if (0 : Int32) < vo_ A 1 0 then (nI 0, vo_ A 1 0) else (-1, 0)) = (nI 0, vo_ A 1 0) ∧ 0 < vo_ A 1 0)
    by_cases h : (0 : Int32) < vo_ A 1 0
    · rw [if_pos h]; exact Or.inr ⟨rfl, h⟩
    · rw [if_neg h]
      refine Or.inl ⟨rfl, rfl, ?_⟩
      rw [fa_lt, ti_0] at h hp
      rw [fa_eq, ti_0]
      omega
  | k + 1 => by
    have hp : ¬ vo_ A 1 (k + 1) < 0 := M_pos A (k + 1)
    have e : gs_ (vo_ A 1) (k + 1 + 1) = if (gs_ (vo_ A 1) (k + 1)).2 < vo_ A 1 (k + 1) then (nI (k + 1), vo_ A 1 (k + 1)) else gs_ (vo_ A 1) (k + 1) := gs_s _ _
    have e2 : hb_ (vo_ A 1) (k + 1) = if vo_ A 1 (hb_ (vo_ A 1) k) < vo_ A 1 (k + 1) then k + 1 else hb_ (vo_ A 1) k := rfl
    rcases gs_hb A k with ⟨a, b, c⟩ | ⟨a, b⟩
    · rw [a] at e
      rw [b, c] at e2
      rw [e, e2]
      show ((if (0 : Int32) < vo_ A 1 (k + 1) then (nI (k + 1), vo_ A 1 (k + 1)) else (-1, 0)) = (-1, 0) ∧ _) ∨ _
      by_cases h : (0 : Int32) < vo_ A 1 (k + 1)
      · rw [if_pos h, if_pos h]; exact Or.inr ⟨rfl, h⟩
      · rw [if_neg h, if_neg h]; exact Or.inl ⟨rfl, rfl, c⟩
    · rw [a] at e
      rw [e, e2]
      refine Or.inr ?_
      show (if vo_ A 1 (hb_ (vo_ A 1) k) < vo_ A 1 (k + 1) then (nI (k + 1), vo_ A 1 (k + 1)) else (nI (hb_ (vo_ A 1) k), vo_ A 1 (hb_ (vo_ A 1) k))) = _ ∧ _
      by_cases h : vo_ A 1 (hb_ (vo_ A 1) k) < vo_ A 1 (k + 1)
      · rw [if_pos h, if_pos h]
        refine ⟨rfl, ?_⟩
        rw [fa_lt] at h b ⊢
        omega
      · rw [if_neg h, if_neg h]; exact ⟨rfl, b⟩
theorem mx_hb {A : AS} (V : AV A) (h0 : 0 < a_n A) : mx_ 0 (G_ A) = nI (hb_ (vo_ A 1) (a_n A - 1)) := by
  have hn8 := V.2.2.1.1
  have hle := hb_le (vo_ A 1) (a_n A - 1)
  have e : G_ A = (gs_ (vo_ A 1) (a_n A - 1 + 1)).1 := by
    rw [show a_n A - 1 + 1 = a_n A by omega]
    rfl
  rcases gs_hb A (a_n A - 1) with ⟨a, b, _⟩ | ⟨a, b⟩
  · rw [e, a, b]
    decide
  · rw [e, a]
    show mx_ 0 (nI (hb_ (vo_ A 1) (a_n A - 1))) = nI (hb_ (vo_ A 1) (a_n A - 1))
    generalize hb_ (vo_ A 1) (a_n A - 1) = j at *
    unfold mx_
    by_cases h : 0 < j
    · exact if_pos ((nI_ltI (a := 0) (by decide) (by omega)).mpr h)
    · rw [show j = 0 by omega]; decide
theorem e_goal {E : sxE} {Q : Option Value → hpW → Prop} {A : AS} {w : hpW} {lv : Value} (V : AV A) (H : CR A w) (h0 : 0 < a_n A) (hl : lw_ok w lv (F_ A)) (hq : ∀ w', CR A w' → fR w w' → Q (some (.int (G_ A))) w') : sx_C E mX7_goal 5 0 0 [.ref 57, lv] w Q := by
  obtain ⟨t, s2, C, e0, c3⟩ := CQ_of V H
  have e1 := e0 h0
  subst e1
  have ht2 := C.2.2.2.2.2.2.1
  refine c_X7_goal (ss_57 H.1) C.2.2.2.2.2.1 C.2.2.1 hl (by omega) (by omega) C.2.2.2.1 V.2.2.1.1 (fun I fI => ?_)
  rw [gl_v C.2.2.2.2.2.2.2.2.1, go_G V h0 c3]
  exact hq _ (CR_q0 V (sc_QT fI) H) (fR_q0 (sc_QT fI))
set_option maxHeartbeats 2000000 in
set_option maxRecDepth 20000 in
theorem oC_most {E : sxE} {A : AS} {w : hpW} (VA : AV A) (H : CR A w) (x : Int32) : oC E mX11_most 6 [.ref 16, .int x] w A (q_most A x) A := by
  intro Q h
  unfold q_most at h
  obtain ⟨t, hB, ht, hst, hn, _, _⟩ := CRn VA H
  have hn8 := VA.2.2.1.1
  refine C_of (by decide +kernel) (Nat.le_of_ble_eq_true rfl) ?_
  refine V_aload_n (i := 0) (sx_di dX11_most 0 rfl) rfl rfl ?_
  refine V_cV0 (mc' := 0) (ms' := 0) (M' := mX11_isStreet) 1 (sx_di dX11_most 1 rfl) lX11_154 vX11_isStreet (hB.k _ rfl) (by decide) rfl (Nat.le_of_ble_eq_true rfl) ⟨Nat.le_of_ble_eq_true rfl, Nat.le_of_ble_eq_true rfl⟩ ⟨Nat.le_refl _, Nat.le_refl _⟩ ?_
  refine c_X11_isStreet hB ht hst hn hn8 ?_
  refine V_if_ne (tgt := 9) (sx_di dX11_most 2 rfl) (by decide) (fun h4 => ?_) (fun h4 => ?_)
  · have h5 : ¬ a_n A = 0 := fun z => h4 (if_pos z)
    have h0 : 0 < a_n A := by omega
    rw [if_neg h5] at h
    refine V_iload_n (i := 1) (sx_di dX11_most 5 rfl) rfl rfl ?_
    refine V_top (fun x10 ex10 => ?_)
    by_cases hx10_0 : x10 = 0
    · refine V_tabIn (off := 38) (tgt := 48) (sx_di dX11_most 6 rfl) (by rw [hx10_0]; decide) (by rw [hx10_0]; decide) (by rw [hx10_0]; decide) (by decide) ?_
      rw [hx10_0] at ex10
      refine V_aload_n (i := 0) (sx_di dX11_most 7 rfl) rfl rfl ?_
      refine V_cV0 (mc' := 0) (ms' := 0) (M' := mX11_calmest) 3 (sx_di dX11_most 8 rfl) lX11_396 vX11_calmest (hB.k _ rfl) (by decide) rfl (Nat.le_of_ble_eq_true rfl) ⟨Nat.le_of_ble_eq_true rfl, Nat.le_of_ble_eq_true rfl⟩ ⟨Nat.le_refl _, Nat.le_refl _⟩ ?_
      refine e_calmest VA H h0 ?_
      refine V_iret (sx_di dX11_most 9 rfl) rfl (Nat.le_refl _) (Nat.le_refl _) ?_
      rw [← ex10] at h
      rw [if_pos rfl] at h
      exact h w H fR_rf
    · skip
      by_cases hx10_1 : x10 = 1
      · refine V_tabIn (off := 43) (tgt := 53) (sx_di dX11_most 6 rfl) (by rw [hx10_1]; decide) (by rw [hx10_1]; decide) (by rw [hx10_1]; decide) (by decide) ?_
        rw [hx10_1] at ex10
        refine V_iconst (v := 0) (sx_di dX11_most 10 rfl) (by decide) ?_
        refine V_aload_n (i := 0) (sx_di dX11_most 11 rfl) rfl rfl ?_
        refine V_getR (sx_di dX11_most 12 rfl) fX11_60 (fun _ => rfl) (hB.k _ rfl) (hB.r _ _ rfl) ?_
        refine V_aload_n (i := 0) (sx_di dX11_most 13 rfl) rfl rfl ?_
        refine V_getR (sx_di dX11_most 14 rfl) fX11_28 (fun _ => rfl) (hB.k _ rfl) (hB.r _ _ rfl) ?_
        refine V_cV0 (mc' := 0) (ms' := 0) (M' := mX2_holding) 1 (sx_di dX11_most 15 rfl) lX11_195 vX2_holding (hB.k _ rfl) (by decide) rfl (Nat.le_of_ble_eq_true rfl) ⟨Nat.le_of_ble_eq_true rfl, Nat.le_of_ble_eq_true rfl⟩ ⟨Nat.le_refl _, Nat.le_refl _⟩ ?_
        refine e_holding VA H (fun lv hl => ?_)
        refine V_cV1 (mc' := 0) (ms' := 0) (M' := mX7_goal) 5 (sx_di dX11_most 16 rfl) lX11_299 vX7_goal (hB.k _ rfl) (by decide) rfl (Nat.le_of_ble_eq_true rfl) ⟨Nat.le_of_ble_eq_true rfl, Nat.le_of_ble_eq_true rfl⟩ ⟨Nat.le_refl _, Nat.le_refl _⟩ ?_
        refine e_goal VA H h0 hl (fun w2 H2 f2 => ?_)
        refine V_mmax (sx_di dX11_most 17 rfl) (sx_a3 185 rfl rfl) (sx_a3 186 rfl rfl) (sx_a1 22 rfl rfl) (sx_a3 187 rfl rfl) ⟨Nat.le_of_ble_eq_true rfl, Nat.le_of_ble_eq_true rfl, Nat.le_refl _, Nat.le_refl _⟩ ?_
        refine V_iv (y := nI (hb_ (vo_ A 1) (a_n A - 1))) (mx_hb VA h0) ?_
        refine V_iret (sx_di dX11_most 18 rfl) rfl (Nat.le_refl _) (Nat.le_refl _) ?_
        rw [← ex10] at h
        rw [if_neg (by decide), if_pos rfl] at h
        exact h w2 H2 f2
      · skip
        by_cases hx10_2 : x10 = 2
        · refine V_tabIn (off := 62) (tgt := 72) (sx_di dX11_most 6 rfl) (by rw [hx10_2]; decide) (by rw [hx10_2]; decide) (by rw [hx10_2]; decide) (by decide) ?_
          rw [hx10_2] at ex10
          refine V_aload_n (i := 0) (sx_di dX11_most 19 rfl) rfl rfl ?_
          refine V_cV0 (mc' := 0) (ms' := 0) (M' := mX11_whitest) 3 (sx_di dX11_most 20 rfl) lX11_399 vX11_whitest (hB.k _ rfl) (by decide) rfl (Nat.le_of_ble_eq_true rfl) ⟨Nat.le_of_ble_eq_true rfl, Nat.le_of_ble_eq_true rfl⟩ ⟨Nat.le_refl _, Nat.le_refl _⟩ ?_
          refine e_whitest VA H h0 ?_
          refine V_iret (sx_di dX11_most 21 rfl) rfl (Nat.le_refl _) (Nat.le_refl _) ?_
          rw [← ex10] at h
          rw [if_neg (by decide), if_neg (by decide), if_pos rfl] at h
          exact h w H fR_rf
        · skip
          by_cases hx10_3 : x10 = 3
          · refine V_tabIn (off := 67) (tgt := 77) (sx_di dX11_most 6 rfl) (by rw [hx10_3]; decide) (by rw [hx10_3]; decide) (by rw [hx10_3]; decide) (by decide) ?_
            rw [hx10_3] at ex10
            refine V_aload_n (i := 0) (sx_di dX11_most 22 rfl) rfl rfl ?_
            refine V_cV0 (mc' := 0) (ms' := 0) (M' := mX11_backs) 3 (sx_di dX11_most 23 rfl) lX11_402 vX11_backs (hB.k _ rfl) (by decide) rfl (Nat.le_of_ble_eq_true rfl) ⟨Nat.le_of_ble_eq_true rfl, Nat.le_of_ble_eq_true rfl⟩ ⟨Nat.le_refl _, Nat.le_refl _⟩ ?_
            refine eC_backs VA H ?_
            refine V_iret (sx_di dX11_most 24 rfl) rfl (Nat.le_refl _) (Nat.le_refl _) ?_
            rw [← ex10] at h
            rw [if_neg (by decide), if_neg (by decide), if_neg (by decide), if_pos rfl] at h
            exact h w H fR_rf
          · skip
            by_cases hx10_4 : x10 = 4
            · refine V_tabIn (off := 72) (tgt := 82) (sx_di dX11_most 6 rfl) (by rw [hx10_4]; decide) (by rw [hx10_4]; decide) (by rw [hx10_4]; decide) (by decide) ?_
              rw [hx10_4] at ex10
              refine V_aload_n (i := 0) (sx_di dX11_most 25 rfl) rfl rfl ?_
              refine V_cV0 (mc' := 0) (ms' := 0) (M' := mX11_crowd) 3 (sx_di dX11_most 26 rfl) lX11_405 vX11_crowd (hB.k _ rfl) (by decide) rfl (Nat.le_of_ble_eq_true rfl) ⟨Nat.le_of_ble_eq_true rfl, Nat.le_of_ble_eq_true rfl⟩ ⟨Nat.le_refl _, Nat.le_refl _⟩ ?_
              refine e_crowd VA H h0 ?_
              refine V_iret (sx_di dX11_most 27 rfl) rfl (Nat.le_refl _) (Nat.le_refl _) ?_
              rw [← ex10] at h
              rw [if_neg (by decide), if_neg (by decide), if_neg (by decide), if_neg (by decide), if_pos rfl] at h
              exact h w H fR_rf
            · skip
              by_cases hx10_5 : x10 = 5
              · refine V_tabIn (off := 77) (tgt := 87) (sx_di dX11_most 6 rfl) (by rw [hx10_5]; decide) (by rw [hx10_5]; decide) (by rw [hx10_5]; decide) (by decide) ?_
                rw [hx10_5] at ex10
                refine V_aload_n (i := 0) (sx_di dX11_most 28 rfl) rfl rfl ?_
                refine V_cV0 (mc' := 0) (ms' := 0) (M' := mX11_lonely) 3 (sx_di dX11_most 29 rfl) lX11_408 vX11_lonely (hB.k _ rfl) (by decide) rfl (Nat.le_of_ble_eq_true rfl) ⟨Nat.le_of_ble_eq_true rfl, Nat.le_of_ble_eq_true rfl⟩ ⟨Nat.le_refl _, Nat.le_refl _⟩ ?_
                refine e_lonely VA H h0 ?_
                refine V_iret (sx_di dX11_most 30 rfl) rfl (Nat.le_refl _) (Nat.le_refl _) ?_
                rw [← ex10] at h
                rw [if_neg (by decide), if_neg (by decide), if_neg (by decide), if_neg (by decide), if_neg (by decide), if_pos rfl] at h
                exact h w H fR_rf
              · skip
                refine V_tabOut (tgt := 92) (sx_di dX11_most 6 rfl) (by have z0 := lv_neT (a := 0) hx10_0 (by decide); have z1 := lv_neT (a := 1) hx10_1 (by decide); have z2 := lv_neT (a := 2) hx10_2 (by decide); have z3 := lv_neT (a := 3) hx10_3 (by decide); have z4 := lv_neT (a := 4) hx10_4 (by decide); have z5 := lv_neT (a := 5) hx10_5 (by decide); omega) (by decide) ?_
                refine V_iconst (v := -1) (sx_di dX11_most 31 rfl) (by decide) ?_
                refine V_iret (sx_di dX11_most 32 rfl) rfl (Nat.le_refl _) (Nat.le_refl _) ?_
                rw [← ex10] at h
                rw [if_neg hx10_0, if_neg hx10_1, if_neg hx10_2, if_neg hx10_3, if_neg hx10_4, if_neg hx10_5] at h
                exact h w H fR_rf
  · have h5 : a_n A = 0 := Classical.byContradiction (fun z => by rw [if_neg z] at h4; exact absurd h4 (by decide))
    rw [if_pos h5] at h
    refine V_iconst (v := -1) (sx_di dX11_most 3 rfl) (by decide) ?_
    refine V_iret (sx_di dX11_most 4 rfl) rfl (Nat.le_refl _) (Nat.le_refl _) ?_
    exact h w H fR_rf

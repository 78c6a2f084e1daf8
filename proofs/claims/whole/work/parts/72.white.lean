/-! white, rid -/
noncomputable def wq_ (p : Nat → Prop) : Nat → Nat → Int32
  | 0, _ => -1
  | d + 1, v => @ite _ (p v) (Classical.propDecidable _) (nI v) (wq_ p d (v + 1))
def pw_ (A : AS) (k v : Nat) : Prop := go2 A (up_ (a_r A) (16 + k) (nI v)) = nI k
noncomputable def q_white (A : AS) (x : Int32) : Int32 := if ih_ (a_n A) x = 0 then -1 else wq_ (pw_ A x.toNatClampNeg) 10 0
set_option maxHeartbeats 2000000 in
set_option maxRecDepth 20000 in
theorem wC_lp {E : sxE} {A : AS} {w : hpW} {Q : Option Value → hpW → Prop} (VA : AV A) {k : Nat} (hk : k < a_n A) {m0 : Nat → Int32} : ∀ d v w1 y, v + d = 10 → CR A w1 → fR w w1 → AW A w1 m0 (up_ (a_r A) (16 + k) y) → (∀ w', CR A w' → fR w w' → Q (some (.int (wq_ (pw_ A k) d v))) w') → V E mX11_white (sx_rm 6 0 0) 0 0 0 0 23 [(2, .int (nI v)), (1, .int (nI k)), (0, .ref 16)] [] w1 Q := by
  intro d
  have hn8 := VA.2.2.1.1
  induction d with
  | zero =>
    intro v w1 y hv H1 f1 hA h
    have hB := H1.1
    have e : v = 10 := by omega
    subst e
    refine V_iload_n (i := 2) (sx_di dX11_white 13 rfl) rfl rfl ?_
    refine V_bipush (v := 9) (sx_di dX11_white 14 rfl) (by decide) ?_
    refine V_icN_gt (a := 10) (b := 9) (rfl) (rfl) (by omega) (by omega) (tgt := 65) (sx_di dX11_white 15 rfl) (by decide) (fun _ => ?_) (fun h26 => absurd h26 (by omega))
    refine V_iconst (v := -1) (sx_di dX11_white 34 rfl) (by decide) ?_
    refine V_iret (sx_di dX11_white 35 rfl) rfl (Nat.le_refl _) (Nat.le_refl _) ?_
    exact h w1 H1 f1
  | succ d ih =>
    intro v w1 y hv H1 f1 hA h
    have hB := H1.1
    unfold wq_ at h
    refine V_iload_n (i := 2) (sx_di dX11_white 13 rfl) rfl rfl ?_
    refine V_bipush (v := 9) (sx_di dX11_white 14 rfl) (by decide) ?_
    refine V_icN_gt (a := v) (b := 9) (rfl) (rfl) (by omega) (by omega) (tgt := 65) (sx_di dX11_white 15 rfl) (by decide) (fun h26 => absurd h26 (by omega)) (fun _ => ?_)
    refine V_aload_n (i := 0) (sx_di dX11_white 16 rfl) rfl rfl ?_
    refine V_getR (sx_di dX11_white 17 rfl) fX11_64 (fun _ => rfl) (hB.k _ rfl) (hB.r _ _ rfl) ?_
    refine V_getR (sx_di dX11_white 18 rfl) fX11_180 (fun _ => rfl) (hB.k _ rfl) (hB.r _ _ rfl) ?_
    refine V_iload_n (i := 1) (sx_di dX11_white 19 rfl) rfl rfl ?_
    refine V_iload_n (i := 2) (sx_di dX11_white 20 rfl) rfl rfl ?_
    refine V_iastN (n := 8) (j := k) (sx_di dX11_white 21 rfl) (hB.k _ rfl) (rfl) (by omega) (by omega) ?_
    obtain ⟨H2, f2, _, hA2⟩ := AW_white (x := nI v) VA H1 hA hk
    rw [up_up] at hA2
    refine V_aload_n (i := 0) (sx_di dX11_white 22 rfl) rfl rfl ?_
    refine V_getR (sx_di dX11_white 23 rfl) fX11_64 (fun _ => rfl) (hB.k _ rfl) (hB.r _ _ rfl) ?_
    refine V_aload_n (i := 0) (sx_di dX11_white 24 rfl) rfl rfl ?_
    refine V_getR (sx_di dX11_white 25 rfl) fX11_28 (fun _ => rfl) (hB.k _ rfl) (hB.r _ _ rfl) ?_
    refine V_cV0 (mc' := 0) (ms' := 0) (M' := mX2_holding) 1 (sx_di dX11_white 26 rfl) lX11_195 vX2_holding (hB.k _ rfl) (by decide) rfl (Nat.le_of_ble_eq_true rfl) ⟨Nat.le_of_ble_eq_true rfl, Nat.le_of_ble_eq_true rfl⟩ ⟨Nat.le_refl _, Nat.le_refl _⟩ ?_
    refine e_holding VA H2 (fun lv hl => ?_)
    refine V_cV1 (mc' := 0) (ms' := 0) (M' := mX7_goal) 5 (sx_di dX11_white 27 rfl) lX11_299 vX7_goal (hB.k _ rfl) (by decide) rfl (Nat.le_of_ble_eq_true rfl) ⟨Nat.le_of_ble_eq_true rfl, Nat.le_of_ble_eq_true rfl⟩ ⟨Nat.le_refl _, Nat.le_refl _⟩ ?_
    refine k_goalA VA H2 (by omega) hA2 (OKF_wh hn8 hk VA.2.2.2.1.1 (by omega)).1 hl (fun w3 H3 f3 _ hA3 => ?_)
    refine V_iload_n (i := 1) (sx_di dX11_white 28 rfl) rfl rfl ?_
    refine V_icmp_ne (tgt := 59) (sx_di dX11_white 29 rfl) (by decide) (fun h54 => ?_) (fun h54 => ?_)
    · rw [if_neg (show ¬ pw_ A k v from h54)] at h
      have q1 := ih (v + 1) w3 (nI v) (by omega) H3 (fR_tr f1 (fR_tr f2 f3)) hA3 h
      rw [← nI_1] at q1
      refine V_inc (c := 1) (sx_di dX11_white 32 rfl) (by decide) rfl (by decide) (rfl) ?_
      refine V_goto (tgt := 23) (sx_di dX11_white 33 rfl) (by decide) ?_
      exact V_subk q1 ⟨rfl, rfl, rfl, trivial⟩
    · rw [if_pos (show pw_ A k v from h54)] at h
      refine V_iload_n (i := 2) (sx_di dX11_white 30 rfl) rfl rfl ?_
      refine V_iret (sx_di dX11_white 31 rfl) rfl (Nat.le_refl _) (Nat.le_refl _) ?_
      exact h w3 H3 (fR_tr f1 (fR_tr f2 f3))
set_option maxHeartbeats 2000000 in
set_option maxRecDepth 20000 in
theorem oC_white {E : sxE} {A : AS} {w : hpW} (VA : AV A) (H : CR A w) (x : Int32) : oC E mX11_white 6 [.ref 16, .int x] w A (q_white A x) A := by
  intro Q h
  unfold q_white at h
  obtain ⟨t, hB, ht, hst, hn, _, _⟩ := CRn VA H
  have hn8 := VA.2.2.1.1
  refine C_of (by decide +kernel) (Nat.le_of_ble_eq_true rfl) ?_
  refine V_aload_n (i := 0) (sx_di dX11_white 0 rfl) rfl rfl ?_
  refine V_iload_n (i := 1) (sx_di dX11_white 1 rfl) rfl rfl ?_
  refine V_cV1 (mc' := 0) (ms' := 0) (M' := mX11_isHouse) 1 (sx_di dX11_white 2 rfl) lX11_170 vX11_isHouse (hB.k _ rfl) (by decide) rfl (Nat.le_of_ble_eq_true rfl) ⟨Nat.le_of_ble_eq_true rfl, Nat.le_of_ble_eq_true rfl⟩ ⟨Nat.le_refl _, Nat.le_refl _⟩ ?_
  refine c_X11_isHouse hB ht hst hn hn8 ?_
  refine V_if_ne (tgt := 10) (sx_di dX11_white 3 rfl) (by decide) (fun h5 => ?_) (fun h5 => ?_)
  · rw [if_neg h5] at h
    obtain ⟨k, hk, rfl⟩ := ih_ye (by omega) h5
    rw [nI_clamp (by omega)] at h
    refine V_aload_n (i := 0) (sx_di dX11_white 6 rfl) rfl rfl ?_
    refine V_getR (sx_di dX11_white 7 rfl) fX11_64 (fun _ => rfl) (hB.k _ rfl) (hB.r _ _ rfl) ?_
    refine V_aload_n (i := 0) (sx_di dX11_white 8 rfl) rfl rfl ?_
    refine V_getR (sx_di dX11_white 9 rfl) fX11_60 (fun _ => rfl) (hB.k _ rfl) (hB.r _ _ rfl) ?_
    refine V_cV1 (mc' := 0) (ms' := 0) (M' := mX7_copyFrom) 2 (sx_di dX11_white 10 rfl) lX11_293 vX7_copyFrom (hB.k _ rfl) (by decide) rfl (Nat.le_of_ble_eq_true rfl) ⟨Nat.le_of_ble_eq_true rfl, Nat.le_of_ble_eq_true rfl⟩ ⟨Nat.le_refl _, Nat.le_refl _⟩ ?_
    refine k_copyFrom VA H (by omega) (fun w2 H2 f2 _ hA2 => ?_)
    refine V_iconst (v := 0) (sx_di dX11_white 11 rfl) (by decide) ?_
    refine V_istore_n (i := 2) (sx_di dX11_white 12 rfl) rfl (by decide) (rfl) ?_
    refine V_sub (ls' := [(2, .int (nI 0)), (1, .int (nI k)), (0, .ref 16)]) ⟨rfl, rfl, rfl, trivial⟩ ?_
    exact wC_lp VA hk 10 0 w2 (a_r A (16 + k)) (by omega) H2 f2 (by rw [up_id]; exact hA2) h
  · rw [if_pos h5] at h
    refine V_iconst (v := -1) (sx_di dX11_white 4 rfl) (by decide) ?_
    refine V_iret (sx_di dX11_white 5 rfl) rfl (Nat.le_refl _) (Nat.le_refl _) ?_
    exact h w H fR_rf
set_option maxHeartbeats 2000000 in
set_option maxRecDepth 20000 in
theorem wR_tl {E : sxE} {A : AS} {w w1 : hpW} {Q : Option Value → hpW → Prop} (VA : AV A) {k : Nat} (hk : k < a_n A) {x y : Int32} (H1 : RR (pt_r A (up_ (a_r A) (16 + k) y)) w1) (f1 : fC w w1) (h : ∀ w', RR A w' → fC w w' → Q (some (.int x)) w') : V E mX12_white (sx_rm 8 0 0) 0 0 0 0 69 [(3, .int (a_r A (16 + k))), (2, .int x), (1, .int (nI k)), (0, .ref 381)] [] w1 Q := by
  have hB := H1.1
  have hn8 := VA.2.2.1.1
  obtain ⟨H2, f2⟩ := RR_st H1 (16 + k) (a_r A (16 + k))
  rw [up_up, up_id] at H2
  refine V_aload_n (i := 0) (sx_di dX12_white 40 rfl) rfl rfl ?_
  refine V_getR (sx_di dX12_white 41 rfl) fX12_58 (fun _ => rfl) (hB.k _ rfl) (hB.r _ _ rfl) ?_
  refine V_bipush (v := 16) (sx_di dX12_white 42 rfl) (by decide) ?_
  refine V_iload_n (i := 1) (sx_di dX12_white 43 rfl) rfl rfl ?_
  refine V_iadd (sx_di dX12_white 44 rfl) ?_
  refine V_iload_n (i := 3) (sx_di dX12_white 45 rfl) rfl rfl ?_
  refine V_iastN (n := 226) (j := (16 + k)) (sx_di dX12_white 46 rfl) (hB.k _ rfl) (nx_add (rfl) (rfl)) (by omega) (by omega) ?_
  refine V_iload_n (i := 2) (sx_di dX12_white 47 rfl) rfl rfl ?_
  refine V_iret (sx_di dX12_white 48 rfl) rfl (Nat.le_refl _) (Nat.le_refl _) ?_
  exact h _ H2 (fC_tr f1 f2)
set_option maxHeartbeats 2000000 in
set_option maxRecDepth 20000 in
theorem wR_f {E : sxE} {A : AS} {w w1 : hpW} {Q : Option Value → hpW → Prop} (VA : AV A) {k v j : Nat} (hk : k < a_n A) {y : Int32} (hv : v ≤ 10) (hj : j ≤ 10) (H1 : RR (pt_r A (up_ (a_r A) (16 + k) y)) w1) (f1 : fC w w1) (h : ∀ w', RR A w' → fC w w' → Q (some (.int (nI j))) w') : V E mX12_white (sx_rm 8 0 0) 0 0 0 0 25 [(4, .int (nI v)), (3, .int (a_r A (16 + k))), (2, .int (nI j)), (1, .int (nI k)), (0, .ref 381)] [] w1 Q := by
  have hB := H1.1
  have hj1 : ¬ nI j = -1 := nI_m1 (by omega)
  refine V_iload (sx_di dX12_white 17 rfl) rfl ?_
  refine V_bipush (v := 9) (sx_di dX12_white 18 rfl) (by decide) ?_
  refine V_icN_gt (a := v) (b := 9) (rfl) (rfl) (by omega) (by omega) (tgt := 69) (sx_di dX12_white 19 rfl) (by decide) (fun h29 => ?_) (fun h29 => ?_)
  · refine V_sub (ls' := [(3, .int (a_r A (16 + k))), (2, .int (nI j)), (1, .int (nI k)), (0, .ref 381)]) ⟨rfl, rfl, rfl, rfl, trivial⟩ ?_
    exact wR_tl VA hk H1 f1 h
  · refine V_iload_n (i := 2) (sx_di dX12_white 20 rfl) rfl rfl ?_
    refine V_iconst (v := -1) (sx_di dX12_white 21 rfl) (by decide) ?_
    refine V_icmp_ne (tgt := 69) (sx_di dX12_white 22 rfl) (by decide) (fun _ => ?_) (fun h34 => absurd h34 hj1)
    refine V_sub (ls' := [(3, .int (a_r A (16 + k))), (2, .int (nI j)), (1, .int (nI k)), (0, .ref 381)]) ⟨rfl, rfl, rfl, rfl, trivial⟩ ?_
    exact wR_tl VA hk H1 f1 h
set_option maxHeartbeats 2000000 in
set_option maxRecDepth 20000 in
theorem wR_lp {E : sxE} {A : AS} {w : hpW} {Q : Option Value → hpW → Prop} (VA : AV A) {k : Nat} (hk : k < a_n A) : ∀ d v w1 y, v + d = 10 → RR (pt_r A (up_ (a_r A) (16 + k) y)) w1 → fC w w1 → (∀ w', RR A w' → fC w w' → Q (some (.int (wq_ (pw_ A k) d v))) w') → V E mX12_white (sx_rm 8 0 0) 0 0 0 0 25 [(4, .int (nI v)), (3, .int (a_r A (16 + k))), (2, .int (-1)), (1, .int (nI k)), (0, .ref 381)] [] w1 Q := by
  intro d
  have hn8 := VA.2.2.1.1
  induction d with
  | zero =>
    intro v w1 y hv H1 f1 h
    have hB := H1.1
    have e : v = 10 := by omega
    subst e
    refine V_iload (sx_di dX12_white 17 rfl) rfl ?_
    refine V_bipush (v := 9) (sx_di dX12_white 18 rfl) (by decide) ?_
    refine V_icN_gt (a := 10) (b := 9) (rfl) (rfl) (by omega) (by omega) (tgt := 69) (sx_di dX12_white 19 rfl) (by decide) (fun _ => ?_) (fun h29 => absurd h29 (by omega))
    refine V_sub (ls' := [(3, .int (a_r A (16 + k))), (2, .int (-1)), (1, .int (nI k)), (0, .ref 381)]) ⟨rfl, rfl, rfl, rfl, trivial⟩ ?_
    exact wR_tl VA hk H1 f1 h
  | succ d ih =>
    intro v w1 y hv H1 f1 h
    have hB := H1.1
    obtain ⟨H2, f2⟩ := RR_st H1 (16 + k) (nI v)
    rw [up_up] at H2
    unfold wq_ at h
    refine V_iload (sx_di dX12_white 17 rfl) rfl ?_
    refine V_bipush (v := 9) (sx_di dX12_white 18 rfl) (by decide) ?_
    refine V_icN_gt (a := v) (b := 9) (rfl) (rfl) (by omega) (by omega) (tgt := 69) (sx_di dX12_white 19 rfl) (by decide) (fun h29 => absurd h29 (by omega)) (fun _ => ?_)
    refine V_iload_n (i := 2) (sx_di dX12_white 20 rfl) rfl rfl ?_
    refine V_iconst (v := -1) (sx_di dX12_white 21 rfl) (by decide) ?_
    refine V_icmp_ne (tgt := 69) (sx_di dX12_white 22 rfl) (by decide) (fun h34 => absurd h34 (fun q => q rfl)) (fun _ => ?_)
    refine V_aload_n (i := 0) (sx_di dX12_white 23 rfl) rfl rfl ?_
    refine V_getR (sx_di dX12_white 24 rfl) fX12_58 (fun _ => rfl) (hB.k _ rfl) (hB.r _ _ rfl) ?_
    refine V_bipush (v := 16) (sx_di dX12_white 25 rfl) (by decide) ?_
    refine V_iload_n (i := 1) (sx_di dX12_white 26 rfl) rfl rfl ?_
    refine V_iadd (sx_di dX12_white 27 rfl) ?_
    refine V_iload (sx_di dX12_white 28 rfl) rfl ?_
    refine V_iastN (n := 226) (j := (16 + k)) (sx_di dX12_white 29 rfl) (hB.k _ rfl) (nx_add (rfl) (rfl)) (by omega) (by omega) ?_
    refine V_aload_n (i := 0) (sx_di dX12_white 30 rfl) rfl rfl ?_
    refine V_cV0 (mc' := 0) (ms' := 0) (M' := mX12_wouldGo) 7 (sx_di dX12_white 31 rfl) lX12_305 vX12_wouldGo (hB.k _ rfl) (by decide) rfl (Nat.le_of_ble_eq_true rfl) ⟨Nat.le_of_ble_eq_true rfl, Nat.le_of_ble_eq_true rfl⟩ ⟨Nat.le_refl _, Nat.le_refl _⟩ ?_
    refine e_wouldGo VA (OKF_wh hn8 hk VA.2.2.2.1.1 (by omega)) H2 (fun w3 H3 f3 => ?_)
    refine V_iload_n (i := 1) (sx_di dX12_white 32 rfl) rfl rfl ?_
    refine V_icmp_ne (tgt := 61) (sx_di dX12_white 33 rfl) (by decide) (fun h53 => ?_) (fun h53 => ?_)
    · rw [if_neg (show ¬ pw_ A k v from h53)] at h
      have q1 := ih (v + 1) w3 (nI v) (by omega) H3 (fC_tr f1 (fC_tr f2 f3)) h
      rw [← nI_1] at q1
      refine V_iconst (v := -1) (sx_di dX12_white 36 rfl) (by decide) ?_
      refine V_istore_n (i := 2) (sx_di dX12_white 37 rfl) rfl (by decide) (rfl) ?_
      refine V_inc (c := 1) (sx_di dX12_white 38 rfl) (by decide) rfl (by decide) (rfl) ?_
      refine V_goto (tgt := 25) (sx_di dX12_white 39 rfl) (by decide) ?_
      exact V_subk q1 ⟨rfl, rfl, rfl, rfl, rfl, trivial⟩
    · rw [if_pos (show pw_ A k v from h53)] at h
      have q1 := wR_f (E := E) (Q := Q) VA (v := v + 1) (j := v) hk (by omega) (by omega) H3 (fC_tr f1 (fC_tr f2 f3)) h
      rw [← nI_1] at q1
      refine V_iload (sx_di dX12_white 34 rfl) rfl ?_
      refine V_goto (tgt := 62) (sx_di dX12_white 35 rfl) (by decide) ?_
      refine V_istore_n (i := 2) (sx_di dX12_white 37 rfl) rfl (by decide) (rfl) ?_
      refine V_inc (c := 1) (sx_di dX12_white 38 rfl) (by decide) rfl (by decide) (rfl) ?_
      refine V_goto (tgt := 25) (sx_di dX12_white 39 rfl) (by decide) ?_
      exact V_subk q1 ⟨rfl, rfl, rfl, rfl, rfl, trivial⟩
set_option maxHeartbeats 2000000 in
set_option maxRecDepth 20000 in
theorem oR_white {E : sxE} {A : AS} {w : hpW} (VA : AV A) (H : RR A w) (x : Int32) : oR E mX12_white 8 [.ref 381, .int x] w A (q_white A x) A := by
  intro Q h
  unfold q_white at h
  have hB := H.1
  have hn := H.2.2.2.1.1
  have hn8 := VA.2.2.1.1
  have hr : ∀ j, hp_i w 398 j = a_r A j := fun j => congrFun H.2.2.2.2.1 j
  refine C_of (by decide +kernel) (Nat.le_of_ble_eq_true rfl) ?_
  refine V_aload_n (i := 0) (sx_di dX12_white 0 rfl) rfl rfl ?_
  refine V_iload_n (i := 1) (sx_di dX12_white 1 rfl) rfl rfl ?_
  refine V_cV1 (mc' := 0) (ms' := 0) (M' := mX12_isHouse) 2 (sx_di dX12_white 2 rfl) lX12_311 vX12_isHouse (hB.k _ rfl) (by decide) rfl (Nat.le_of_ble_eq_true rfl) ⟨Nat.le_of_ble_eq_true rfl, Nat.le_of_ble_eq_true rfl⟩ ⟨Nat.le_refl _, Nat.le_refl _⟩ ?_
  refine c_X12_isHouse hB hn hn8 ?_
  refine V_if_ne (tgt := 10) (sx_di dX12_white 3 rfl) (by decide) (fun h5 => ?_) (fun h5 => ?_)
  · rw [if_neg h5] at h
    obtain ⟨k, hk, rfl⟩ := ih_ye (by omega) h5
    rw [nI_clamp (by omega)] at h
    refine V_iconst (v := -1) (sx_di dX12_white 6 rfl) (by decide) ?_
    refine V_istore_n (i := 2) (sx_di dX12_white 7 rfl) rfl (by decide) (rfl) ?_
    refine V_aload_n (i := 0) (sx_di dX12_white 8 rfl) rfl rfl ?_
    refine V_getR (sx_di dX12_white 9 rfl) fX12_58 (fun _ => rfl) (hB.k _ rfl) (hB.r _ _ rfl) ?_
    refine V_bipush (v := 16) (sx_di dX12_white 10 rfl) (by decide) ?_
    refine V_iload_n (i := 1) (sx_di dX12_white 11 rfl) rfl rfl ?_
    refine V_iadd (sx_di dX12_white 12 rfl) ?_
    refine V_ialdN (n := 226) (j := (16 + k)) (sx_di dX12_white 13 rfl) (hB.k _ rfl) (nx_add (rfl) (rfl)) (by omega) (by omega) ?_
    refine V_iv (y := a_r A (16 + k)) (hr (16 + k)) ?_
    refine V_istore_n (i := 3) (sx_di dX12_white 14 rfl) rfl (by decide) (rfl) ?_
    refine V_iconst (v := 0) (sx_di dX12_white 15 rfl) (by decide) ?_
    refine V_istore (sx_di dX12_white 16 rfl) (by decide) (rfl) ?_
    refine V_sub (ls' := [(4, .int (nI 0)), (3, .int (a_r A (16 + k))), (2, .int (-1)), (1, .int (nI k)), (0, .ref 381)]) ⟨rfl, rfl, rfl, rfl, rfl, trivial⟩ ?_
    exact wR_lp VA hk 10 0 w (a_r A (16 + k)) (by omega) (by rw [up_id]; exact H) fC_rf h
  · rw [if_pos h5] at h
    refine V_iconst (v := -1) (sx_di dX12_white 4 rfl) (by decide) ?_
    refine V_iret (sx_di dX12_white 5 rfl) rfl (Nat.le_refl _) (Nat.le_refl _) ?_
    exact h w H fC_rf
/-- what is shammed, from -9 on -/
def sv_ (i : Nat) : Int32 := nI i - 9
theorem sv_i {i : Nat} (h : i ≤ 19) : (sv_ i).toInt = (i : Int) - 9 := pk_sub_toInt (a := i) (b := 9) (by omega) (by omega)
theorem sv_s {i : Nat} (h : i < 19) : sv_ i + 1 = sv_ (i + 1) := by
  rw [fa_eq, Int32.toInt_add, sv_i (by omega), sv_i (by omega), ti_1]
  rw [Int.bmod_eq_of_le] <;> omega
theorem sv_9 {i : Nat} (h : i ≤ 19) : 9 < sv_ i ↔ 18 < i := by
  rw [fa_lt, sv_i h, ti_9]
  omega
theorem OKF_sv {n m : Nat} {r : Nat → Int32} {h i : Nat} (hn : n ≤ 8) (hh : h < n) (hi : i ≤ 18) (H : OKF n m r) : OKF n m (up_ r (8 + h) (sv_ i)) := OKF_sh hn hh H (by rw [sv_i (by omega)]; omega) (by rw [sv_i (by omega)]; omega)
theorem ih_0 (x : Int32) : ih_ 0 x = 0 := by
  unfold ih_
  by_cases h : x < 0
  · exact if_pos (Or.inl h)
  · exact if_pos (Or.inr (Int32.not_lt.mp h))
noncomputable def rd_ (A : AS) (k : Nat) : Nat → Int32
  | 0 => -1
  | i + 1 => if (rd_ A k i = -1 ∨ ab_ (sv_ i - a_r A (8 + k)) < rd_ A k i) ∧ ¬ go2 A (up_ (a_r A) (8 + k) (sv_ i)) = nI k then ab_ (sv_ i - a_r A (8 + k)) else rd_ A k i
noncomputable def q_rid (A : AS) : Int32 := if a_n A = 0 ∨ a_r A 42 = -1 then -1 else rd_ A (a_r A 42).toNatClampNeg 19
theorem pl_ok {A : AS} (V : AV A) (h : ¬ (a_n A = 0 ∨ a_r A 42 = -1)) : ∃ k, k < a_n A ∧ a_r A 42 = nI k := by
  rcases V.2.2.2.1.1.1.2.2 (Nat.pos_of_ne_zero (fun z => h (Or.inl z))) with z | z
  · exact absurd (Or.inr z) h
  · exact z
set_option maxHeartbeats 2000000 in
set_option maxRecDepth 20000 in
theorem rC_lp3 {E : sxE} {A : AS} {w : hpW} {Q : Option Value → hpW → Prop} (VA : AV A) {k : Nat} (hk : k < a_n A) {m0 : Nat → Int32} (h : ∀ w', CR A w' → fR w w' → Q (some (.int (rd_ A k 19))) w') : ∀ d i w1 y, i + d = 19 → CR A w1 → fR w w1 → AW A w1 m0 (up_ (a_r A) (8 + k) y) → V E mX11_rid (sx_rm 6 0 0) 0 0 0 0 34 [(3, .int (sv_ i)), (2, .int (rd_ A k i)), (1, .int (nI k)), (0, .ref 16)] [] w1 Q := by
  intro d
  have hn8 := VA.2.2.1.1
  induction d with
  | zero =>
    intro i w1 y hi H1 f1 hA
    have hB := H1.1
    have e : i = 19 := by omega
    subst e
    refine V_iload_n (i := 3) (sx_di dX11_rid 19 rfl) rfl rfl ?_
    refine V_bipush (v := 9) (sx_di dX11_rid 20 rfl) (by decide) ?_
    refine V_icmp_gt (tgt := 104) (sx_di dX11_rid 21 rfl) (by decide) (fun _ => ?_) (fun h37 => absurd ((sv_9 (by omega)).mpr (by omega)) h37)
    refine V_iload_n (i := 2) (sx_di dX11_rid 55 rfl) rfl rfl ?_
    refine V_iret (sx_di dX11_rid 56 rfl) rfl (Nat.le_refl _) (Nat.le_refl _) ?_
    exact h w1 H1 f1
  | succ d ih =>
    intro i w1 y hi H1 f1 hA
    have hB := H1.1
    have hv := (CR_vw H1 (by omega)).1 k hk
    obtain ⟨H2, f2, _, hA2⟩ := AW_sham (x := sv_ i) VA H1 hA hk
    rw [up_up] at hA2
    have e1 : rd_ A k (i + 1) = if (rd_ A k i = -1 ∨ ab_ (sv_ i - a_r A (8 + k)) < rd_ A k i) ∧ ¬ go2 A (up_ (a_r A) (8 + k) (sv_ i)) = nI k then ab_ (sv_ i - a_r A (8 + k)) else rd_ A k i := rfl
    have es := sv_s (i := i) (by omega)
    refine V_iload_n (i := 3) (sx_di dX11_rid 19 rfl) rfl rfl ?_
    refine V_bipush (v := 9) (sx_di dX11_rid 20 rfl) (by decide) ?_
    refine V_icmp_gt (tgt := 104) (sx_di dX11_rid 21 rfl) (by decide) (fun h37 => absurd h37 (fun z => absurd ((sv_9 (by omega)).mp z) (by omega))) (fun _ => ?_)
    refine V_aload_n (i := 0) (sx_di dX11_rid 22 rfl) rfl rfl ?_
    refine V_getR (sx_di dX11_rid 23 rfl) fX11_64 (fun _ => rfl) (hB.k _ rfl) (hB.r _ _ rfl) ?_
    refine V_getR (sx_di dX11_rid 24 rfl) fX11_189 (fun _ => rfl) (hB.k _ rfl) (hB.r _ _ rfl) ?_
    refine V_iload_n (i := 1) (sx_di dX11_rid 25 rfl) rfl rfl ?_
    refine V_iload_n (i := 3) (sx_di dX11_rid 26 rfl) rfl rfl ?_
    refine V_iastN (n := 8) (j := k) (sx_di dX11_rid 27 rfl) (hB.k _ rfl) (rfl) (by omega) (by omega) ?_
    refine V_iload_n (i := 3) (sx_di dX11_rid 28 rfl) rfl rfl ?_
    refine V_aload_n (i := 0) (sx_di dX11_rid 29 rfl) rfl rfl ?_
    refine V_getR (sx_di dX11_rid 30 rfl) fX11_60 (fun _ => rfl) (hB.k _ rfl) (hB.r _ _ rfl) ?_
    refine V_getR (sx_di dX11_rid 31 rfl) fX11_189 (fun _ => rfl) (hB.k _ rfl) (hB.r _ _ rfl) ?_
    refine V_iload_n (i := 1) (sx_di dX11_rid 32 rfl) rfl rfl ?_
    refine V_ialdN (n := 8) (j := k) (sx_di dX11_rid 33 rfl) (hB.k _ rfl) (rfl) (by omega) (by omega) ?_
    refine V_iv (y := a_r A (8 + k)) (by rw [hp_i_si, if_neg (by omega)]; exact hv.2.1) ?_
    refine V_isub (sx_di dX11_rid 34 rfl) ?_
    refine V_mabs (sx_di dX11_rid 35 rfl) (sx_a4 121 rfl rfl) (sx_a4 0 rfl rfl) (sx_a1 22 rfl rfl) (sx_a4 1 rfl rfl) ⟨Nat.le_of_ble_eq_true rfl, Nat.le_of_ble_eq_true rfl, Nat.le_refl _, Nat.le_refl _⟩ ?_
    refine V_istore (sx_di dX11_rid 36 rfl) (by decide) (rfl) ?_
    refine V_iload_n (i := 2) (sx_di dX11_rid 37 rfl) rfl rfl ?_
    refine V_iconst (v := -1) (sx_di dX11_rid 38 rfl) (by decide) ?_
    refine V_icmp_eq (tgt := 77) (sx_di dX11_rid 39 rfl) (by decide) (fun h68 => ?_) (fun h68 => ?_)
    · refine V_aload_n (i := 0) (sx_di dX11_rid 43 rfl) rfl rfl ?_
      refine V_getR (sx_di dX11_rid 44 rfl) fX11_64 (fun _ => rfl) (hB.k _ rfl) (hB.r _ _ rfl) ?_
      refine V_aload_n (i := 0) (sx_di dX11_rid 45 rfl) rfl rfl ?_
      refine V_getR (sx_di dX11_rid 46 rfl) fX11_28 (fun _ => rfl) (hB.k _ rfl) (hB.r _ _ rfl) ?_
      refine V_cV0 (mc' := 0) (ms' := 0) (M' := mX2_holding) 1 (sx_di dX11_rid 47 rfl) lX11_195 vX2_holding (hB.k _ rfl) (by decide) rfl (Nat.le_of_ble_eq_true rfl) ⟨Nat.le_of_ble_eq_true rfl, Nat.le_of_ble_eq_true rfl⟩ ⟨Nat.le_refl _, Nat.le_refl _⟩ ?_
      refine e_holding VA H2 (fun lv hl => ?_)
      refine V_cV1 (mc' := 0) (ms' := 0) (M' := mX7_goal) 5 (sx_di dX11_rid 48 rfl) lX11_299 vX7_goal (hB.k _ rfl) (by decide) rfl (Nat.le_of_ble_eq_true rfl) ⟨Nat.le_of_ble_eq_true rfl, Nat.le_of_ble_eq_true rfl⟩ ⟨Nat.le_refl _, Nat.le_refl _⟩ ?_
      refine k_goalA VA H2 (by omega) hA2 (OKF_sv hn8 hk (by omega) VA.2.2.2.1.1).1 hl (fun w3 H3 f3 _ hA3 => ?_)
      refine V_iload_n (i := 1) (sx_di dX11_rid 49 rfl) rfl rfl ?_
      refine V_icmp_eq (tgt := 98) (sx_di dX11_rid 50 rfl) (by decide) (fun h92 => ?_) (fun h92 => ?_)
      · rw [if_neg (fun z => z.2 h92)] at e1
        have q1 := ih (i + 1) w3 (sv_ i) (by omega) H3 (fR_tr f1 (fR_tr f2 f3)) hA3
        rw [e1, ← es] at q1
        refine V_inc (c := 1) (sx_di dX11_rid 53 rfl) (by decide) rfl (by decide) (rfl) ?_
        refine V_goto (tgt := 34) (sx_di dX11_rid 54 rfl) (by decide) ?_
        exact V_subk q1 ⟨rfl, rfl, rfl, rfl, trivial⟩
      · rw [if_pos ⟨Or.inl h68, h92⟩] at e1
        have q1 := ih (i + 1) w3 (sv_ i) (by omega) H3 (fR_tr f1 (fR_tr f2 f3)) hA3
        rw [e1, ← es] at q1
        refine V_iload (sx_di dX11_rid 51 rfl) rfl ?_
        refine V_istore_n (i := 2) (sx_di dX11_rid 52 rfl) rfl (by decide) (rfl) ?_
        refine V_inc (c := 1) (sx_di dX11_rid 53 rfl) (by decide) rfl (by decide) (rfl) ?_
        refine V_goto (tgt := 34) (sx_di dX11_rid 54 rfl) (by decide) ?_
        exact V_subk q1 ⟨rfl, rfl, rfl, rfl, trivial⟩
    · refine V_iload (sx_di dX11_rid 40 rfl) rfl ?_
      refine V_iload_n (i := 2) (sx_di dX11_rid 41 rfl) rfl rfl ?_
      refine V_icmp_ge (tgt := 98) (sx_di dX11_rid 42 rfl) (by decide) (fun h74 => ?_) (fun h74 => ?_)
      · rw [if_neg (fun z => z.1.elim h68 (Int32.not_lt.mpr h74))] at e1
        have q1 := ih (i + 1) _ (sv_ i) (by omega) H2 (fR_tr f1 f2) hA2
        rw [e1, ← es] at q1
        refine V_inc (c := 1) (sx_di dX11_rid 53 rfl) (by decide) rfl (by decide) (rfl) ?_
        refine V_goto (tgt := 34) (sx_di dX11_rid 54 rfl) (by decide) ?_
        exact V_subk q1 ⟨rfl, rfl, rfl, rfl, trivial⟩
      · refine V_aload_n (i := 0) (sx_di dX11_rid 43 rfl) rfl rfl ?_
        refine V_getR (sx_di dX11_rid 44 rfl) fX11_64 (fun _ => rfl) (hB.k _ rfl) (hB.r _ _ rfl) ?_
        refine V_aload_n (i := 0) (sx_di dX11_rid 45 rfl) rfl rfl ?_
        refine V_getR (sx_di dX11_rid 46 rfl) fX11_28 (fun _ => rfl) (hB.k _ rfl) (hB.r _ _ rfl) ?_
        refine V_cV0 (mc' := 0) (ms' := 0) (M' := mX2_holding) 1 (sx_di dX11_rid 47 rfl) lX11_195 vX2_holding (hB.k _ rfl) (by decide) rfl (Nat.le_of_ble_eq_true rfl) ⟨Nat.le_of_ble_eq_true rfl, Nat.le_of_ble_eq_true rfl⟩ ⟨Nat.le_refl _, Nat.le_refl _⟩ ?_
        refine e_holding VA H2 (fun lv hl => ?_)
        refine V_cV1 (mc' := 0) (ms' := 0) (M' := mX7_goal) 5 (sx_di dX11_rid 48 rfl) lX11_299 vX7_goal (hB.k _ rfl) (by decide) rfl (Nat.le_of_ble_eq_true rfl) ⟨Nat.le_of_ble_eq_true rfl, Nat.le_of_ble_eq_true rfl⟩ ⟨Nat.le_refl _, Nat.le_refl _⟩ ?_
        refine k_goalA VA H2 (by omega) hA2 (OKF_sv hn8 hk (by omega) VA.2.2.2.1.1).1 hl (fun w3 H3 f3 _ hA3 => ?_)
        refine V_iload_n (i := 1) (sx_di dX11_rid 49 rfl) rfl rfl ?_
        refine V_icmp_eq (tgt := 98) (sx_di dX11_rid 50 rfl) (by decide) (fun h92 => ?_) (fun h92 => ?_)
        · rw [if_neg (fun z => z.2 h92)] at e1
          have q1 := ih (i + 1) w3 (sv_ i) (by omega) H3 (fR_tr f1 (fR_tr f2 f3)) hA3
          rw [e1, ← es] at q1
          refine V_inc (c := 1) (sx_di dX11_rid 53 rfl) (by decide) rfl (by decide) (rfl) ?_
          refine V_goto (tgt := 34) (sx_di dX11_rid 54 rfl) (by decide) ?_
          exact V_subk q1 ⟨rfl, rfl, rfl, rfl, trivial⟩
        · rw [if_pos ⟨Or.inr (Int32.not_le.mp h74), h92⟩] at e1
          have q1 := ih (i + 1) w3 (sv_ i) (by omega) H3 (fR_tr f1 (fR_tr f2 f3)) hA3
          rw [e1, ← es] at q1
          refine V_iload (sx_di dX11_rid 51 rfl) rfl ?_
          refine V_istore_n (i := 2) (sx_di dX11_rid 52 rfl) rfl (by decide) (rfl) ?_
          refine V_inc (c := 1) (sx_di dX11_rid 53 rfl) (by decide) rfl (by decide) (rfl) ?_
          refine V_goto (tgt := 34) (sx_di dX11_rid 54 rfl) (by decide) ?_
          exact V_subk q1 ⟨rfl, rfl, rfl, rfl, trivial⟩
set_option maxHeartbeats 2000000 in
set_option maxRecDepth 20000 in
theorem oC_rid {E : sxE} {A : AS} {w : hpW} (VA : AV A) (H : CR A w) : oC E mX11_rid 6 [.ref 16] w A (q_rid A) A := by
  intro Q h
  unfold q_rid at h
  obtain ⟨t, hB, ht, hst, hn, _, _⟩ := CRn VA H
  have hn8 := VA.2.2.1.1
  by_cases hx : a_n A = 0 ∨ a_r A 42 = -1
  · rw [if_pos hx] at h
    have hi : ih_ (a_n A) (hp_i w 57 9) = 0 := by
      rcases Nat.eq_zero_or_pos (a_n A) with z | z
      · rw [z]; exact ih_0 _
      · rw [(CR_vw H z).2.2.2.1, hx.resolve_left (by omega)]
        unfold ih_
        rw [if_pos (Or.inl (by decide))]
    refine C_of (by decide +kernel) (Nat.le_of_ble_eq_true rfl) ?_
    refine V_aload_n (i := 0) (sx_di dX11_rid 0 rfl) rfl rfl ?_
    refine V_getR (sx_di dX11_rid 1 rfl) fX11_60 (fun _ => rfl) (hB.k _ rfl) (hB.r _ _ rfl) ?_
    refine V_getI (sx_di dX11_rid 2 rfl) fX11_161 (fun _ => rfl) (hB.k _ rfl) ?_
    refine V_istore_n (i := 1) (sx_di dX11_rid 3 rfl) rfl (by decide) (rfl) ?_
    refine V_aload_n (i := 0) (sx_di dX11_rid 4 rfl) rfl rfl ?_
    refine V_iload_n (i := 1) (sx_di dX11_rid 5 rfl) rfl rfl ?_
    refine V_cV1 (mc' := 0) (ms' := 0) (M' := mX11_isHouse) 1 (sx_di dX11_rid 6 rfl) lX11_170 vX11_isHouse (hB.k _ rfl) (by decide) rfl (Nat.le_of_ble_eq_true rfl) ⟨Nat.le_of_ble_eq_true rfl, Nat.le_of_ble_eq_true rfl⟩ ⟨Nat.le_refl _, Nat.le_refl _⟩ ?_
    refine c_X11_isHouse hB ht hst hn hn8 ?_
    refine V_if_ne (tgt := 18) (sx_di dX11_rid 7 rfl) (by decide) (fun h13 => absurd h13 (fun q => q hi)) (fun _ => ?_)
    refine V_iconst (v := -1) (sx_di dX11_rid 8 rfl) (by decide) ?_
    refine V_iret (sx_di dX11_rid 9 rfl) rfl (Nat.le_refl _) (Nat.le_refl _) ?_
    exact h w H fR_rf
  · obtain ⟨k, hk, ek⟩ := pl_ok VA hx
    rw [if_neg hx, ek, nI_clamp (by omega)] at h
    have e9 : hp_i w 57 9 = nI k := ((CR_vw H (by omega)).2.2.2.1).trans ek
    refine C_of (by decide +kernel) (Nat.le_of_ble_eq_true rfl) ?_
    refine V_aload_n (i := 0) (sx_di dX11_rid 0 rfl) rfl rfl ?_
    refine V_getR (sx_di dX11_rid 1 rfl) fX11_60 (fun _ => rfl) (hB.k _ rfl) (hB.r _ _ rfl) ?_
    refine V_getI (sx_di dX11_rid 2 rfl) fX11_161 (fun _ => rfl) (hB.k _ rfl) ?_
    refine V_iv (y := nI k) (e9) ?_
    refine V_istore_n (i := 1) (sx_di dX11_rid 3 rfl) rfl (by decide) (rfl) ?_
    refine V_aload_n (i := 0) (sx_di dX11_rid 4 rfl) rfl rfl ?_
    refine V_iload_n (i := 1) (sx_di dX11_rid 5 rfl) rfl rfl ?_
    refine V_cV1 (mc' := 0) (ms' := 0) (M' := mX11_isHouse) 1 (sx_di dX11_rid 6 rfl) lX11_170 vX11_isHouse (hB.k _ rfl) (by decide) rfl (Nat.le_of_ble_eq_true rfl) ⟨Nat.le_of_ble_eq_true rfl, Nat.le_of_ble_eq_true rfl⟩ ⟨Nat.le_refl _, Nat.le_refl _⟩ ?_
    refine c_X11_isHouse hB ht hst hn hn8 ?_
    refine V_iv (y := 1) (ih_1 hk hn8) ?_
    refine V_ifN_ne (a := 1) (rfl) (by omega) (tgt := 18) (sx_di dX11_rid 7 rfl) (by decide) (fun _ => ?_) (fun h13 => absurd h13 (by omega))
    refine V_iconst (v := -1) (sx_di dX11_rid 10 rfl) (by decide) ?_
    refine V_istore_n (i := 2) (sx_di dX11_rid 11 rfl) rfl (by decide) (rfl) ?_
    refine V_aload_n (i := 0) (sx_di dX11_rid 12 rfl) rfl rfl ?_
    refine V_getR (sx_di dX11_rid 13 rfl) fX11_64 (fun _ => rfl) (hB.k _ rfl) (hB.r _ _ rfl) ?_
    refine V_aload_n (i := 0) (sx_di dX11_rid 14 rfl) rfl rfl ?_
    refine V_getR (sx_di dX11_rid 15 rfl) fX11_60 (fun _ => rfl) (hB.k _ rfl) (hB.r _ _ rfl) ?_
    refine V_cV1 (mc' := 0) (ms' := 0) (M' := mX7_copyFrom) 2 (sx_di dX11_rid 16 rfl) lX11_293 vX7_copyFrom (hB.k _ rfl) (by decide) rfl (Nat.le_of_ble_eq_true rfl) ⟨Nat.le_of_ble_eq_true rfl, Nat.le_of_ble_eq_true rfl⟩ ⟨Nat.le_refl _, Nat.le_refl _⟩ ?_
    refine k_copyFrom VA H (by omega) (fun w2 H2 f2 _ hA2 => ?_)
    refine V_bipush (v := -9) (sx_di dX11_rid 17 rfl) (by decide) ?_
    refine V_istore_n (i := 3) (sx_di dX11_rid 18 rfl) rfl (by decide) (rfl) ?_
    refine V_sub (ls' := [(3, .int (sv_ 0)), (2, .int (rd_ A k 0)), (1, .int (nI k)), (0, .ref 16)]) ⟨rfl, rfl, rfl, rfl, trivial⟩ ?_
    exact rC_lp3 VA hk h 19 0 w2 (a_r A (8 + k)) (by omega) H2 f2 (by rw [up_id]; exact hA2)
set_option maxHeartbeats 2000000 in
set_option maxRecDepth 20000 in
theorem rR_lp3 {E : sxE} {A : AS} {w : hpW} {Q : Option Value → hpW → Prop} (VA : AV A) {k : Nat} (hk : k < a_n A) (h : ∀ w', RR A w' → fC w w' → Q (some (.int (rd_ A k 19))) w') : ∀ d i w1 y, i + d = 19 → RR (pt_r A (up_ (a_r A) (8 + k) y)) w1 → fC w w1 → V E mX12_rid (sx_rm 8 0 0) 0 0 0 0 42 [(4, .int (sv_ i)), (3, .int (a_r A (8 + k))), (2, .int (rd_ A k i)), (1, .int (nI k)), (0, .ref 381)] [] w1 Q := by
  intro d
  have hn8 := VA.2.2.1.1
  induction d with
  | zero =>
    intro i w1 y hi H1 f1
    have hB := H1.1
    have e : i = 19 := by omega
    subst e
    obtain ⟨H2, f2⟩ := RR_st H1 (8 + k) (a_r A (8 + k))
    rw [up_up, up_id] at H2
    refine V_iload (sx_di dX12_rid 26 rfl) rfl ?_
    refine V_bipush (v := 9) (sx_di dX12_rid 27 rfl) (by decide) ?_
    refine V_icmp_gt (tgt := 101) (sx_di dX12_rid 28 rfl) (by decide) (fun _ => ?_) (fun h46 => absurd ((sv_9 (by omega)).mpr (by omega)) h46)
    refine V_aload_n (i := 0) (sx_di dX12_rid 57 rfl) rfl rfl ?_
    refine V_getR (sx_di dX12_rid 58 rfl) fX12_58 (fun _ => rfl) (hB.k _ rfl) (hB.r _ _ rfl) ?_
    refine V_bipush (v := 8) (sx_di dX12_rid 59 rfl) (by decide) ?_
    refine V_iload_n (i := 1) (sx_di dX12_rid 60 rfl) rfl rfl ?_
    refine V_iadd (sx_di dX12_rid 61 rfl) ?_
    refine V_iload_n (i := 3) (sx_di dX12_rid 62 rfl) rfl rfl ?_
    refine V_iastN (n := 226) (j := (8 + k)) (sx_di dX12_rid 63 rfl) (hB.k _ rfl) (nx_add (rfl) (rfl)) (by omega) (by omega) ?_
    refine V_iload_n (i := 2) (sx_di dX12_rid 64 rfl) rfl rfl ?_
    refine V_iret (sx_di dX12_rid 65 rfl) rfl (Nat.le_refl _) (Nat.le_refl _) ?_
    exact h _ H2 (fC_tr f1 f2)
  | succ d ih =>
    intro i w1 y hi H1 f1
    have hB := H1.1
    obtain ⟨H2, f2⟩ := RR_st H1 (8 + k) (sv_ i)
    rw [up_up] at H2
    have e1 : rd_ A k (i + 1) = if (rd_ A k i = -1 ∨ ab_ (sv_ i - a_r A (8 + k)) < rd_ A k i) ∧ ¬ go2 A (up_ (a_r A) (8 + k) (sv_ i)) = nI k then ab_ (sv_ i - a_r A (8 + k)) else rd_ A k i := rfl
    have es := sv_s (i := i) (by omega)
    refine V_iload (sx_di dX12_rid 26 rfl) rfl ?_
    refine V_bipush (v := 9) (sx_di dX12_rid 27 rfl) (by decide) ?_
    refine V_icmp_gt (tgt := 101) (sx_di dX12_rid 28 rfl) (by decide) (fun h46 => absurd h46 (fun z => absurd ((sv_9 (by omega)).mp z) (by omega))) (fun _ => ?_)
    refine V_aload_n (i := 0) (sx_di dX12_rid 29 rfl) rfl rfl ?_
    refine V_getR (sx_di dX12_rid 30 rfl) fX12_58 (fun _ => rfl) (hB.k _ rfl) (hB.r _ _ rfl) ?_
    refine V_bipush (v := 8) (sx_di dX12_rid 31 rfl) (by decide) ?_
    refine V_iload_n (i := 1) (sx_di dX12_rid 32 rfl) rfl rfl ?_
    refine V_iadd (sx_di dX12_rid 33 rfl) ?_
    refine V_iload (sx_di dX12_rid 34 rfl) rfl ?_
    refine V_iastN (n := 226) (j := (8 + k)) (sx_di dX12_rid 35 rfl) (hB.k _ rfl) (nx_add (rfl) (rfl)) (by omega) (by omega) ?_
    refine V_iload (sx_di dX12_rid 36 rfl) rfl ?_
    refine V_iload_n (i := 3) (sx_di dX12_rid 37 rfl) rfl rfl ?_
    refine V_isub (sx_di dX12_rid 38 rfl) ?_
    refine V_mabs (sx_di dX12_rid 39 rfl) (sx_a6 199 rfl rfl) (sx_a4 0 rfl rfl) (sx_a1 22 rfl rfl) (sx_a4 1 rfl rfl) ⟨Nat.le_of_ble_eq_true rfl, Nat.le_of_ble_eq_true rfl, Nat.le_refl _, Nat.le_refl _⟩ ?_
    refine V_istore (sx_di dX12_rid 40 rfl) (by decide) (rfl) ?_
    refine V_aload_n (i := 0) (sx_di dX12_rid 41 rfl) rfl rfl ?_
    refine V_cV0 (mc' := 0) (ms' := 0) (M' := mX12_wouldGo) 7 (sx_di dX12_rid 42 rfl) lX12_305 vX12_wouldGo (hB.k _ rfl) (by decide) rfl (Nat.le_of_ble_eq_true rfl) ⟨Nat.le_of_ble_eq_true rfl, Nat.le_of_ble_eq_true rfl⟩ ⟨Nat.le_refl _, Nat.le_refl _⟩ ?_
    refine e_wouldGo VA (OKF_sv hn8 hk (by omega) VA.2.2.2.1.1) H2 (fun w3 H3 f3 => ?_)
    refine V_iload_n (i := 1) (sx_di dX12_rid 43 rfl) rfl rfl ?_
    refine V_icmp_eq (tgt := 93) (sx_di dX12_rid 44 rfl) (by decide) (fun h74 => ?_) (fun h74 => ?_)
    · rw [if_neg (fun z => z.2 h74)] at e1
      have q1 := ih (i + 1) w3 (sv_ i) (by omega) H3 (fC_tr f1 (fC_tr f2 f3))
      rw [e1, ← es] at q1
      refine V_iload_n (i := 2) (sx_di dX12_rid 53 rfl) rfl rfl ?_
      refine V_istore_n (i := 2) (sx_di dX12_rid 54 rfl) rfl (by decide) (rfl) ?_
      refine V_inc (c := 1) (sx_di dX12_rid 55 rfl) (by decide) rfl (by decide) (rfl) ?_
      refine V_goto (tgt := 42) (sx_di dX12_rid 56 rfl) (by decide) ?_
      exact V_subk q1 ⟨rfl, rfl, rfl, rfl, rfl, trivial⟩
    · refine V_iload_n (i := 2) (sx_di dX12_rid 45 rfl) rfl rfl ?_
      refine V_iconst (v := -1) (sx_di dX12_rid 46 rfl) (by decide) ?_
      refine V_icmp_eq (tgt := 88) (sx_di dX12_rid 47 rfl) (by decide) (fun h79 => ?_) (fun h79 => ?_)
      · rw [if_pos ⟨Or.inl h79, h74⟩] at e1
        have q1 := ih (i + 1) w3 (sv_ i) (by omega) H3 (fC_tr f1 (fC_tr f2 f3))
        rw [e1, ← es] at q1
        refine V_iload (sx_di dX12_rid 51 rfl) rfl ?_
        refine V_goto (tgt := 94) (sx_di dX12_rid 52 rfl) (by decide) ?_
        refine V_istore_n (i := 2) (sx_di dX12_rid 54 rfl) rfl (by decide) (rfl) ?_
        refine V_inc (c := 1) (sx_di dX12_rid 55 rfl) (by decide) rfl (by decide) (rfl) ?_
        refine V_goto (tgt := 42) (sx_di dX12_rid 56 rfl) (by decide) ?_
        exact V_subk q1 ⟨rfl, rfl, rfl, rfl, rfl, trivial⟩
      · refine V_iload (sx_di dX12_rid 48 rfl) rfl ?_
        refine V_iload_n (i := 2) (sx_di dX12_rid 49 rfl) rfl rfl ?_
        refine V_icmp_ge (tgt := 93) (sx_di dX12_rid 50 rfl) (by decide) (fun h85 => ?_) (fun h85 => ?_)
        · rw [if_neg (fun z => z.1.elim h79 (Int32.not_lt.mpr h85))] at e1
          have q1 := ih (i + 1) w3 (sv_ i) (by omega) H3 (fC_tr f1 (fC_tr f2 f3))
          rw [e1, ← es] at q1
          refine V_iload_n (i := 2) (sx_di dX12_rid 53 rfl) rfl rfl ?_
          refine V_istore_n (i := 2) (sx_di dX12_rid 54 rfl) rfl (by decide) (rfl) ?_
          refine V_inc (c := 1) (sx_di dX12_rid 55 rfl) (by decide) rfl (by decide) (rfl) ?_
          refine V_goto (tgt := 42) (sx_di dX12_rid 56 rfl) (by decide) ?_
          exact V_subk q1 ⟨rfl, rfl, rfl, rfl, rfl, trivial⟩
        · rw [if_pos ⟨Or.inr (Int32.not_le.mp h85), h74⟩] at e1
          have q1 := ih (i + 1) w3 (sv_ i) (by omega) H3 (fC_tr f1 (fC_tr f2 f3))
          rw [e1, ← es] at q1
          refine V_iload (sx_di dX12_rid 51 rfl) rfl ?_
          refine V_goto (tgt := 94) (sx_di dX12_rid 52 rfl) (by decide) ?_
          refine V_istore_n (i := 2) (sx_di dX12_rid 54 rfl) rfl (by decide) (rfl) ?_
          refine V_inc (c := 1) (sx_di dX12_rid 55 rfl) (by decide) rfl (by decide) (rfl) ?_
          refine V_goto (tgt := 42) (sx_di dX12_rid 56 rfl) (by decide) ?_
          exact V_subk q1 ⟨rfl, rfl, rfl, rfl, rfl, trivial⟩
set_option maxHeartbeats 2000000 in
set_option maxRecDepth 20000 in
theorem oR_rid {E : sxE} {A : AS} {w : hpW} (VA : AV A) (H : RR A w) : oR E mX12_rid 8 [.ref 381] w A (q_rid A) A := by
  intro Q h
  unfold q_rid at h
  have hB := H.1
  have hn := H.2.2.2.1.1
  have hn8 := VA.2.2.1.1
  have hr : ∀ j, hp_i w 398 j = a_r A j := fun j => congrFun H.2.2.2.2.1 j
  refine C_of (by decide +kernel) (Nat.le_of_ble_eq_true rfl) ?_
  refine V_aload_n (i := 0) (sx_di dX12_rid 0 rfl) rfl rfl ?_
  refine V_getI (sx_di dX12_rid 1 rfl) fX12_258 (fun _ => rfl) (hB.k _ rfl) ?_
  refine V_iv (y := nI (a_n A)) (hn) ?_
  refine V_ifN_ne (a := (a_n A)) (rfl) (by omega) (tgt := 11) (sx_di dX12_rid 2 rfl) (by decide) (fun h4 => ?_) (fun h4 => ?_)
  · refine V_aload_n (i := 0) (sx_di dX12_rid 5 rfl) rfl rfl ?_
    refine V_getR (sx_di dX12_rid 6 rfl) fX12_58 (fun _ => rfl) (hB.k _ rfl) (hB.r _ _ rfl) ?_
    refine V_bipush (v := 42) (sx_di dX12_rid 7 rfl) (by decide) ?_
    refine V_ialdN (n := 226) (j := 42) (sx_di dX12_rid 8 rfl) (hB.k _ rfl) (rfl) (by omega) (by omega) ?_
    refine V_iv (y := a_r A 42) (hr 42) ?_
    refine V_istore_n (i := 1) (sx_di dX12_rid 9 rfl) rfl (by decide) (rfl) ?_
    refine V_iload_n (i := 1) (sx_di dX12_rid 10 rfl) rfl rfl ?_
    refine V_iconst (v := -1) (sx_di dX12_rid 11 rfl) (by decide) ?_
    refine V_icmp_ne (tgt := 26) (sx_di dX12_rid 12 rfl) (by decide) (fun h21 => ?_) (fun h21 => ?_)
    · have hx : ¬ (a_n A = 0 ∨ a_r A 42 = -1) := fun z => z.elim h4 h21
      obtain ⟨k, hk, ek⟩ := pl_ok VA hx
      rw [if_neg hx, ek, nI_clamp (by omega)] at h
      rw [ek]
      refine V_iconst (v := -1) (sx_di dX12_rid 15 rfl) (by decide) ?_
      refine V_istore_n (i := 2) (sx_di dX12_rid 16 rfl) rfl (by decide) (rfl) ?_
      refine V_aload_n (i := 0) (sx_di dX12_rid 17 rfl) rfl rfl ?_
      refine V_getR (sx_di dX12_rid 18 rfl) fX12_58 (fun _ => rfl) (hB.k _ rfl) (hB.r _ _ rfl) ?_
      refine V_bipush (v := 8) (sx_di dX12_rid 19 rfl) (by decide) ?_
      refine V_iload_n (i := 1) (sx_di dX12_rid 20 rfl) rfl rfl ?_
      refine V_iadd (sx_di dX12_rid 21 rfl) ?_
      refine V_ialdN (n := 226) (j := (8 + k)) (sx_di dX12_rid 22 rfl) (hB.k _ rfl) (nx_add (rfl) (rfl)) (by omega) (by omega) ?_
      refine V_iv (y := a_r A (8 + k)) (hr (8 + k)) ?_
      refine V_istore_n (i := 3) (sx_di dX12_rid 23 rfl) rfl (by decide) (rfl) ?_
      refine V_bipush (v := -9) (sx_di dX12_rid 24 rfl) (by decide) ?_
      refine V_istore (sx_di dX12_rid 25 rfl) (by decide) (rfl) ?_
      refine V_sub (ls' := [(4, .int (sv_ 0)), (3, .int (a_r A (8 + k))), (2, .int (rd_ A k 0)), (1, .int (nI k)), (0, .ref 381)]) ⟨rfl, rfl, rfl, rfl, rfl, trivial⟩ ?_
      exact rR_lp3 VA hk h 19 0 w (a_r A (8 + k)) (by omega) (by rw [up_id]; exact H) fC_rf
    · rw [if_pos (Or.inr h21)] at h
      refine V_iconst (v := -1) (sx_di dX12_rid 13 rfl) (by decide) ?_
      refine V_iret (sx_di dX12_rid 14 rfl) rfl (Nat.le_refl _) (Nat.le_refl _) ?_
      exact h w H fC_rf
  · rw [if_pos (Or.inl h4)] at h
    refine V_iconst (v := -1) (sx_di dX12_rid 3 rfl) (by decide) ?_
    refine V_goto (tgt := 18) (sx_di dX12_rid 4 rfl) (by decide) ?_
    refine V_istore_n (i := 1) (sx_di dX12_rid 9 rfl) rfl (by decide) (rfl) ?_
    refine V_iload_n (i := 1) (sx_di dX12_rid 10 rfl) rfl rfl ?_
    refine V_iconst (v := -1) (sx_di dX12_rid 11 rfl) (by decide) ?_
    refine V_icmp_ne (tgt := 26) (sx_di dX12_rid 12 rfl) (by decide) (fun h21 => absurd h21 (fun q => q rfl)) (fun _ => ?_)
    refine V_iconst (v := -1) (sx_di dX12_rid 13 rfl) (by decide) ?_
    refine V_iret (sx_di dX12_rid 14 rfl) rfl (Nat.le_refl _) (Nat.le_refl _) ?_
    exact h w H fC_rf

/-! neighbours, the log, notes -/
theorem ih_v {n j : Nat} (hn : n ≤ 8) (hj : j < 2 ^ 31) : ih_ n (nI j) = nI (if j < n then 1 else 0) := by
  by_cases h : j < n
  · rw [if_pos h]; exact ih_1 h hn
  · rw [if_neg h]
    unfold ih_
    rw [if_pos (Or.inr ((nI_leI (by omega) hj).mpr (by omega)))]
    rfl
theorem ih_m {n k : Nat} (hn : n ≤ 8) (hk : k < n) : ih_ n (nI k - 1) = nI (if 0 < k then 1 else 0) := by
  by_cases h : 0 < k
  · have e : nI k - 1 = nI (k - 1) := pk_sub h
    rw [e, ih_v hn (by omega), if_pos h, if_pos (by omega)]
  · rw [if_neg h, show k = 0 by omega]
    unfold ih_
    rw [if_pos (Or.inl (by decide))]
    rfl
noncomputable def nr_ (n k : Nat) : Int32 := (if k + 1 < n then 1 <<< (nI (k + 1) &&& 31) else 0) ||| (if 0 < k then 1 <<< (nI (k - 1) &&& 31) else 0)
noncomputable def q_near (A : AS) (x : Int32) : Int32 := if ih_ (a_n A) x = 0 then -1 else nr_ (a_n A) x.toNatClampNeg
set_option maxHeartbeats 2000000 in
set_option maxRecDepth 20000 in
theorem oC_near {E : sxE} {A : AS} {w : hpW} (VA : AV A) (H : CR A w) (x : Int32) : oC E mX11_near 2 [.ref 16, .int x] w A (q_near A x) A := by
  intro Q h
  replace h := h w H fR_rf
  obtain ⟨t, p, C, c3'⟩ := CN_of VA H
  have hB := H.1
  have hn8 := VA.2.2.1.1
  have ht := C.2.1
  have hst := C.2.2.1
  have hn := C.2.2.2.1
  unfold q_near at h
  refine C_of (by decide +kernel) (Nat.le_of_ble_eq_true rfl) ?_
  refine V_aload_n (i := 0) (sx_di dX11_near 0 rfl) rfl rfl ?_
  refine V_iload_n (i := 1) (sx_di dX11_near 1 rfl) rfl rfl ?_
  refine V_cV1 (mc' := 0) (ms' := 0) (M' := mX11_isHouse) 1 (sx_di dX11_near 2 rfl) lX11_170 vX11_isHouse (hB.k _ rfl) (by decide) rfl (Nat.le_of_ble_eq_true rfl) ⟨Nat.le_of_ble_eq_true rfl, Nat.le_of_ble_eq_true rfl⟩ ⟨Nat.le_refl _, Nat.le_refl _⟩ ?_
  refine c_X11_isHouse hB ht hst hn hn8 ?_
  refine V_if_ne (tgt := 10) (sx_di dX11_near 3 rfl) (by decide) (fun h5 => ?_) (fun h5 => ?_)
  · rw [if_neg h5] at h
    obtain ⟨k, hk, rfl⟩ := ih_ye (by omega) h5
    rw [nI_clamp (by omega)] at h
    refine V_aload_n (i := 0) (sx_di dX11_near 6 rfl) rfl rfl ?_
    refine V_iload_n (i := 1) (sx_di dX11_near 7 rfl) rfl rfl ?_
    refine V_iconst (v := 1) (sx_di dX11_near 8 rfl) (by decide) ?_
    refine V_iadd (sx_di dX11_near 9 rfl) ?_
    refine V_iv (y := nI (k + 1)) (nI_add k 1) ?_
    refine V_cV1 (mc' := 0) (ms' := 0) (M' := mX11_isHouse) 1 (sx_di dX11_near 10 rfl) lX11_170 vX11_isHouse (hB.k _ rfl) (by decide) rfl (Nat.le_of_ble_eq_true rfl) ⟨Nat.le_of_ble_eq_true rfl, Nat.le_of_ble_eq_true rfl⟩ ⟨Nat.le_refl _, Nat.le_refl _⟩ ?_
    refine c_X11_isHouse hB ht hst hn hn8 ?_
    refine V_iv (y := nI (if k + 1 < a_n A then 1 else 0)) (ih_v hn8 (by omega)) ?_
    refine V_if_eq (tgt := 28) (sx_di dX11_near 11 rfl) (by decide) (fun h17 => ?_) (fun h17 => ?_)
    · have e1 : ¬ k + 1 < a_n A := fun z => by rw [if_pos z] at h17; exact absurd h17 (by decide)
      refine V_iconst (v := 0) (sx_di dX11_near 18 rfl) (by decide) ?_
      refine V_istore_n (i := 2) (sx_di dX11_near 19 rfl) rfl (by decide) (rfl) ?_
      refine V_aload_n (i := 0) (sx_di dX11_near 20 rfl) rfl rfl ?_
      refine V_iload_n (i := 1) (sx_di dX11_near 21 rfl) rfl rfl ?_
      refine V_iconst (v := 1) (sx_di dX11_near 22 rfl) (by decide) ?_
      refine V_isub (sx_di dX11_near 23 rfl) ?_
      refine V_cV1 (mc' := 0) (ms' := 0) (M' := mX11_isHouse) 1 (sx_di dX11_near 24 rfl) lX11_170 vX11_isHouse (hB.k _ rfl) (by decide) rfl (Nat.le_of_ble_eq_true rfl) ⟨Nat.le_of_ble_eq_true rfl, Nat.le_of_ble_eq_true rfl⟩ ⟨Nat.le_refl _, Nat.le_refl _⟩ ?_
      refine c_X11_isHouse hB ht hst hn hn8 ?_
      refine V_iv (y := nI (if 0 < k then 1 else 0)) (ih_m hn8 hk) ?_
      refine V_if_eq (tgt := 48) (sx_di dX11_near 25 rfl) (by decide) (fun h37 => ?_) (fun h37 => ?_)
      · have e2 : ¬ 0 < k := fun z => by rw [if_pos z] at h37; exact absurd h37 (by decide)
        refine V_iconst (v := 0) (sx_di dX11_near 32 rfl) (by decide) ?_
        refine V_istore_n (i := 3) (sx_di dX11_near 33 rfl) rfl (by decide) (rfl) ?_
        refine V_iload_n (i := 2) (sx_di dX11_near 34 rfl) rfl rfl ?_
        refine V_iload_n (i := 3) (sx_di dX11_near 35 rfl) rfl rfl ?_
        refine V_ior (sx_di dX11_near 36 rfl) ?_
        refine V_iret (sx_di dX11_near 37 rfl) rfl (Nat.le_refl _) (Nat.le_refl _) ?_
        unfold nr_ at h
        first | rw [if_pos e1] at h | rw [if_neg e1] at h
        first | rw [if_pos e2] at h | rw [if_neg e2] at h
        exact h
      · have e2 : 0 < k := Classical.byContradiction (fun z => by rw [if_neg z] at h37; exact absurd h37 (by decide))
        refine V_iconst (v := 1) (sx_di dX11_near 26 rfl) (by decide) ?_
        refine V_iload_n (i := 1) (sx_di dX11_near 27 rfl) rfl rfl ?_
        refine V_iconst (v := 1) (sx_di dX11_near 28 rfl) (by decide) ?_
        refine V_isub (sx_di dX11_near 29 rfl) ?_
        refine V_iv (y := nI (k - 1)) (pk_sub (a := k) (b := 1) e2) ?_
        refine V_ishl (sx_di dX11_near 30 rfl) ?_
        refine V_goto (tgt := 49) (sx_di dX11_near 31 rfl) (by decide) ?_
        refine V_istore_n (i := 3) (sx_di dX11_near 33 rfl) rfl (by decide) (rfl) ?_
        refine V_iload_n (i := 2) (sx_di dX11_near 34 rfl) rfl rfl ?_
        refine V_iload_n (i := 3) (sx_di dX11_near 35 rfl) rfl rfl ?_
        refine V_ior (sx_di dX11_near 36 rfl) ?_
        refine V_iret (sx_di dX11_near 37 rfl) rfl (Nat.le_refl _) (Nat.le_refl _) ?_
        unfold nr_ at h
        first | rw [if_pos e1] at h | rw [if_neg e1] at h
        first | rw [if_pos e2] at h | rw [if_neg e2] at h
        exact h
    · have e1 : k + 1 < a_n A := Classical.byContradiction (fun z => by rw [if_neg z] at h17; exact absurd h17 (by decide))
      refine V_iconst (v := 1) (sx_di dX11_near 12 rfl) (by decide) ?_
      refine V_iload_n (i := 1) (sx_di dX11_near 13 rfl) rfl rfl ?_
      refine V_iconst (v := 1) (sx_di dX11_near 14 rfl) (by decide) ?_
      refine V_iadd (sx_di dX11_near 15 rfl) ?_
      refine V_iv (y := nI (k + 1)) (nI_add k 1) ?_
      refine V_ishl (sx_di dX11_near 16 rfl) ?_
      refine V_goto (tgt := 29) (sx_di dX11_near 17 rfl) (by decide) ?_
      refine V_istore_n (i := 2) (sx_di dX11_near 19 rfl) rfl (by decide) (rfl) ?_
      refine V_aload_n (i := 0) (sx_di dX11_near 20 rfl) rfl rfl ?_
      refine V_iload_n (i := 1) (sx_di dX11_near 21 rfl) rfl rfl ?_
      refine V_iconst (v := 1) (sx_di dX11_near 22 rfl) (by decide) ?_
      refine V_isub (sx_di dX11_near 23 rfl) ?_
      refine V_cV1 (mc' := 0) (ms' := 0) (M' := mX11_isHouse) 1 (sx_di dX11_near 24 rfl) lX11_170 vX11_isHouse (hB.k _ rfl) (by decide) rfl (Nat.le_of_ble_eq_true rfl) ⟨Nat.le_of_ble_eq_true rfl, Nat.le_of_ble_eq_true rfl⟩ ⟨Nat.le_refl _, Nat.le_refl _⟩ ?_
      refine c_X11_isHouse hB ht hst hn hn8 ?_
      refine V_iv (y := nI (if 0 < k then 1 else 0)) (ih_m hn8 hk) ?_
      refine V_if_eq (tgt := 48) (sx_di dX11_near 25 rfl) (by decide) (fun h37 => ?_) (fun h37 => ?_)
      · have e2 : ¬ 0 < k := fun z => by rw [if_pos z] at h37; exact absurd h37 (by decide)
        refine V_iconst (v := 0) (sx_di dX11_near 32 rfl) (by decide) ?_
        refine V_istore_n (i := 3) (sx_di dX11_near 33 rfl) rfl (by decide) (rfl) ?_
        refine V_iload_n (i := 2) (sx_di dX11_near 34 rfl) rfl rfl ?_
        refine V_iload_n (i := 3) (sx_di dX11_near 35 rfl) rfl rfl ?_
        refine V_ior (sx_di dX11_near 36 rfl) ?_
        refine V_iret (sx_di dX11_near 37 rfl) rfl (Nat.le_refl _) (Nat.le_refl _) ?_
        unfold nr_ at h
        first | rw [if_pos e1] at h | rw [if_neg e1] at h
        first | rw [if_pos e2] at h | rw [if_neg e2] at h
        exact h
      · have e2 : 0 < k := Classical.byContradiction (fun z => by rw [if_neg z] at h37; exact absurd h37 (by decide))
        refine V_iconst (v := 1) (sx_di dX11_near 26 rfl) (by decide) ?_
        refine V_iload_n (i := 1) (sx_di dX11_near 27 rfl) rfl rfl ?_
        refine V_iconst (v := 1) (sx_di dX11_near 28 rfl) (by decide) ?_
        refine V_isub (sx_di dX11_near 29 rfl) ?_
        refine V_iv (y := nI (k - 1)) (pk_sub (a := k) (b := 1) e2) ?_
        refine V_ishl (sx_di dX11_near 30 rfl) ?_
        refine V_goto (tgt := 49) (sx_di dX11_near 31 rfl) (by decide) ?_
        refine V_istore_n (i := 3) (sx_di dX11_near 33 rfl) rfl (by decide) (rfl) ?_
        refine V_iload_n (i := 2) (sx_di dX11_near 34 rfl) rfl rfl ?_
        refine V_iload_n (i := 3) (sx_di dX11_near 35 rfl) rfl rfl ?_
        refine V_ior (sx_di dX11_near 36 rfl) ?_
        refine V_iret (sx_di dX11_near 37 rfl) rfl (Nat.le_refl _) (Nat.le_refl _) ?_
        unfold nr_ at h
        first | rw [if_pos e1] at h | rw [if_neg e1] at h
        first | rw [if_pos e2] at h | rw [if_neg e2] at h
        exact h
  · rw [if_pos h5] at h
    refine V_iconst (v := -1) (sx_di dX11_near 4 rfl) (by decide) ?_
    refine V_iret (sx_di dX11_near 5 rfl) rfl (Nat.le_refl _) (Nat.le_refl _) ?_
    exact h
set_option maxHeartbeats 2000000 in
set_option maxRecDepth 20000 in
theorem oR_near {E : sxE} {A : AS} {w : hpW} (VA : AV A) (H : RR A w) (x : Int32) : oR E mX12_near 3 [.ref 381, .int x] w A (q_near A x) A := by
  intro Q h
  replace h := h w H fC_rf
  obtain ⟨hB, h1, h2, h3, h4, h5, h6, ⟨h7, h8⟩, ⟨h9, h10⟩, h11, h12⟩ := id H
  have hn8 := VA.2.2.1.1
  have hm6 := VA.2.2.1.2.1
  have hn : hp_i w 381 25 = nI (a_n A) := h3.1
  have hr : ∀ j, hp_i w 398 j = a_r A j := fun j => congrFun h4 j
  unfold q_near at h
  refine C_of (by decide +kernel) (Nat.le_of_ble_eq_true rfl) ?_
  refine V_aload_n (i := 0) (sx_di dX12_near 0 rfl) rfl rfl ?_
  refine V_iload_n (i := 1) (sx_di dX12_near 1 rfl) rfl rfl ?_
  refine V_cV1 (mc' := 0) (ms' := 0) (M' := mX12_isHouse) 2 (sx_di dX12_near 2 rfl) lX12_311 vX12_isHouse (hB.k _ rfl) (by decide) rfl (Nat.le_of_ble_eq_true rfl) ⟨Nat.le_of_ble_eq_true rfl, Nat.le_of_ble_eq_true rfl⟩ ⟨Nat.le_refl _, Nat.le_refl _⟩ ?_
  refine c_X12_isHouse hB hn hn8 ?_
  refine V_if_ne (tgt := 10) (sx_di dX12_near 3 rfl) (by decide) (fun h5_ => ?_) (fun h5_ => ?_)
  · rw [if_neg h5_] at h
    obtain ⟨k, hk, rfl⟩ := ih_ye (by omega) h5_
    rw [nI_clamp (by omega)] at h
    refine V_iload_n (i := 1) (sx_di dX12_near 6 rfl) rfl rfl ?_
    refine V_ifN_le (a := k) (rfl) (by omega) (tgt := 22) (sx_di dX12_near 7 rfl) (by decide) (fun h11 => ?_) (fun h11 => ?_)
    · refine V_iconst (v := 0) (sx_di dX12_near 14 rfl) (by decide) ?_
      refine V_iload_n (i := 1) (sx_di dX12_near 15 rfl) rfl rfl ?_
      refine V_aload_n (i := 0) (sx_di dX12_near 16 rfl) rfl rfl ?_
      refine V_getI (sx_di dX12_near 17 rfl) fX12_258 (fun _ => rfl) (hB.k _ rfl) ?_
      refine V_iv (y := nI (a_n A)) (hn) ?_
      refine V_iconst (v := 1) (sx_di dX12_near 18 rfl) (by decide) ?_
      refine V_isub (sx_di dX12_near 19 rfl) ?_
      refine V_icN_ge (a := k) (b := ((a_n A) - 1)) (rfl) (nx_sub (rfl) (rfl) (by omega)) (by omega) (by omega) (tgt := 41) (sx_di dX12_near 20 rfl) (by decide) (fun h30 => ?_) (fun h30 => ?_)
      · refine V_iconst (v := 0) (sx_di dX12_near 27 rfl) (by decide) ?_
        refine V_ior (sx_di dX12_near 28 rfl) ?_
        refine V_iret (sx_di dX12_near 29 rfl) rfl (Nat.le_refl _) (Nat.le_refl _) ?_
        unfold nr_ at h
        rw [Int32.or_comm]
        first | rw [if_pos (show k + 1 < a_n A by omega)] at h | rw [if_neg (show ¬ k + 1 < a_n A by omega)] at h
        first | rw [if_pos (show 0 < k by omega)] at h | rw [if_neg (show ¬ 0 < k by omega)] at h
        exact h
      · refine V_iconst (v := 1) (sx_di dX12_near 21 rfl) (by decide) ?_
        refine V_iload_n (i := 1) (sx_di dX12_near 22 rfl) rfl rfl ?_
        refine V_iconst (v := 1) (sx_di dX12_near 23 rfl) (by decide) ?_
        refine V_iadd (sx_di dX12_near 24 rfl) ?_
        refine V_iv (y := nI (k + 1)) (nI_add k 1) ?_
        refine V_ishl (sx_di dX12_near 25 rfl) ?_
        refine V_goto (tgt := 42) (sx_di dX12_near 26 rfl) (by decide) ?_
        refine V_ior (sx_di dX12_near 28 rfl) ?_
        refine V_iret (sx_di dX12_near 29 rfl) rfl (Nat.le_refl _) (Nat.le_refl _) ?_
        unfold nr_ at h
        rw [Int32.or_comm]
        first | rw [if_pos (show k + 1 < a_n A by omega)] at h | rw [if_neg (show ¬ k + 1 < a_n A by omega)] at h
        first | rw [if_pos (show 0 < k by omega)] at h | rw [if_neg (show ¬ 0 < k by omega)] at h
        exact h
    · refine V_iconst (v := 1) (sx_di dX12_near 8 rfl) (by decide) ?_
      refine V_iload_n (i := 1) (sx_di dX12_near 9 rfl) rfl rfl ?_
      refine V_iconst (v := 1) (sx_di dX12_near 10 rfl) (by decide) ?_
      refine V_isub (sx_di dX12_near 11 rfl) ?_
      refine V_iv (y := nI (k - 1)) (pk_sub (a := k) (b := 1) (by omega)) ?_
      refine V_ishl (sx_di dX12_near 12 rfl) ?_
      refine V_goto (tgt := 23) (sx_di dX12_near 13 rfl) (by decide) ?_
      refine V_iload_n (i := 1) (sx_di dX12_near 15 rfl) rfl rfl ?_
      refine V_aload_n (i := 0) (sx_di dX12_near 16 rfl) rfl rfl ?_
      refine V_getI (sx_di dX12_near 17 rfl) fX12_258 (fun _ => rfl) (hB.k _ rfl) ?_
      refine V_iv (y := nI (a_n A)) (hn) ?_
      refine V_iconst (v := 1) (sx_di dX12_near 18 rfl) (by decide) ?_
      refine V_isub (sx_di dX12_near 19 rfl) ?_
      refine V_icN_ge (a := k) (b := ((a_n A) - 1)) (rfl) (nx_sub (rfl) (rfl) (by omega)) (by omega) (by omega) (tgt := 41) (sx_di dX12_near 20 rfl) (by decide) (fun h30 => ?_) (fun h30 => ?_)
      · refine V_iconst (v := 0) (sx_di dX12_near 27 rfl) (by decide) ?_
        refine V_ior (sx_di dX12_near 28 rfl) ?_
        refine V_iret (sx_di dX12_near 29 rfl) rfl (Nat.le_refl _) (Nat.le_refl _) ?_
        unfold nr_ at h
        rw [Int32.or_comm]
        first | rw [if_pos (show k + 1 < a_n A by omega)] at h | rw [if_neg (show ¬ k + 1 < a_n A by omega)] at h
        first | rw [if_pos (show 0 < k by omega)] at h | rw [if_neg (show ¬ 0 < k by omega)] at h
        exact h
      · refine V_iconst (v := 1) (sx_di dX12_near 21 rfl) (by decide) ?_
        refine V_iload_n (i := 1) (sx_di dX12_near 22 rfl) rfl rfl ?_
        refine V_iconst (v := 1) (sx_di dX12_near 23 rfl) (by decide) ?_
        refine V_iadd (sx_di dX12_near 24 rfl) ?_
        refine V_iv (y := nI (k + 1)) (nI_add k 1) ?_
        refine V_ishl (sx_di dX12_near 25 rfl) ?_
        refine V_goto (tgt := 42) (sx_di dX12_near 26 rfl) (by decide) ?_
        refine V_ior (sx_di dX12_near 28 rfl) ?_
        refine V_iret (sx_di dX12_near 29 rfl) rfl (Nat.le_refl _) (Nat.le_refl _) ?_
        unfold nr_ at h
        rw [Int32.or_comm]
        first | rw [if_pos (show k + 1 < a_n A by omega)] at h | rw [if_neg (show ¬ k + 1 < a_n A by omega)] at h
        first | rw [if_pos (show 0 < k by omega)] at h | rw [if_neg (show ¬ 0 < k by omega)] at h
        exact h
  · rw [if_pos h5_] at h
    refine V_iconst (v := -1) (sx_di dX12_near 4 rfl) (by decide) ?_
    refine V_iret (sx_di dX12_near 5 rfl) rfl (Nat.le_refl _) (Nat.le_refl _) ?_
    exact h
noncomputable def q_log (A : AS) (x y : Int32) : Int32 := if x < 0 ∨ a_r A 45 ≤ x ∨ y < 0 ∨ 2 < y then -1000000 else a_r A (46 + 3 * ((a_r A 45).toNatClampNeg - 1 - x.toNatClampNeg) + y.toNatClampNeg)
set_option maxHeartbeats 2000000 in
set_option maxRecDepth 20000 in
theorem oC_log {E : sxE} {A : AS} {w : hpW} (VA : AV A) (H : CR A w) (x : Int32) (y : Int32) : oC E mX11_log 3 [.ref 16, .int x, .int y] w A (q_log A x y) A := by
  intro Q h
  replace h := h w H fR_rf
  obtain ⟨t, p, C, c3'⟩ := CN_of VA H
  have hB := H.1
  have hn8 := VA.2.2.1.1
  have ht := C.2.1
  have hst := C.2.2.1
  have hn := C.2.2.2.1
  unfold q_log at h
  obtain ⟨g, hg9, e12, rg, e45, e46⟩ := CR_lg VA H
  have hlg : is_Lg w 71 := lg_71 hB
  refine C_of (by decide +kernel) (Nat.le_of_ble_eq_true rfl) ?_
  refine V_iload_n (i := 1) (sx_di dX11_log 0 rfl) rfl rfl ?_
  refine V_if_lt (tgt := 21) (sx_di dX11_log 1 rfl) (by decide) (fun h1 => ?_) (fun h1 => ?_)
  · rw [if_pos (Or.inl h1)] at h
    refine V_ldc (sx_di dX11_log 11 rfl) kX11_217 ?_
    refine V_iret (sx_di dX11_log 12 rfl) rfl (Nat.le_refl _) (Nat.le_refl _) ?_
    exact h
  · refine V_iload_n (i := 1) (sx_di dX11_log 2 rfl) rfl rfl ?_
    refine V_aload_n (i := 0) (sx_di dX11_log 3 rfl) rfl rfl ?_
    refine V_cV0 (mc' := 0) (ms' := 0) (M' := mX11_shownLog) 2 (sx_di dX11_log 4 rfl) lX11_214 vX11_shownLog (hB.k _ rfl) (by decide) rfl (Nat.le_of_ble_eq_true rfl) ⟨Nat.le_of_ble_eq_true rfl, Nat.le_of_ble_eq_true rfl⟩ ⟨Nat.le_refl _, Nat.le_refl _⟩ ?_
    refine c_X11_shownLog hB ?_
    refine V_iv (y := a_r A 45) e45 ?_
    refine V_icmp_ge (tgt := 21) (sx_di dX11_log 5 rfl) (by decide) (fun h9 => ?_) (fun h9 => ?_)
    · rw [if_pos (Or.inr (Or.inl h9))] at h
      refine V_ldc (sx_di dX11_log 11 rfl) kX11_217 ?_
      refine V_iret (sx_di dX11_log 12 rfl) rfl (Nat.le_refl _) (Nat.le_refl _) ?_
      exact h
    · refine V_iload_n (i := 2) (sx_di dX11_log 6 rfl) rfl rfl ?_
      refine V_if_lt (tgt := 21) (sx_di dX11_log 7 rfl) (by decide) (fun h13 => ?_) (fun h13 => ?_)
      · rw [if_pos (Or.inr (Or.inr (Or.inl h13)))] at h
        refine V_ldc (sx_di dX11_log 11 rfl) kX11_217 ?_
        refine V_iret (sx_di dX11_log 12 rfl) rfl (Nat.le_refl _) (Nat.le_refl _) ?_
        exact h
      · refine V_iload_n (i := 2) (sx_di dX11_log 8 rfl) rfl rfl ?_
        refine V_iconst (v := 2) (sx_di dX11_log 9 rfl) (by decide) ?_
        refine V_icmp_le (tgt := 24) (sx_di dX11_log 10 rfl) (by decide) (fun h18 => ?_) (fun h18 => ?_)
        · have h20 : ¬ (x < 0 ∨ a_r A 45 ≤ x ∨ y < 0 ∨ 2 < y) := fun z => z.elim h1 (fun z => z.elim h9 (fun z => z.elim h13 (Int32.not_lt.mpr h18)))
          rw [if_neg h20] at h
          obtain ⟨i, hi, rfl⟩ := nI_of h1
          obtain ⟨j, hj, rfl⟩ := nb_ (v := y) (k := 2) (by decide) h13 (Int32.not_lt.mpr h18)
          rw [e46] at h9 h
          have hi2 : i < (if g < 60 then g else 60) := Nat.lt_of_not_le (fun q => h9 ((nI_leI (by split <;> omega) hi).mpr q))
          rw [nI_clamp (by split <;> omega), nI_clamp (by omega), nI_clamp (by omega)] at h
          have hrow := rg.2.2 i hi2
          have hig : i < g := by split at hi2 <;> omega
          refine V_aload_n (i := 0) (sx_di dX11_log 13 rfl) rfl rfl ?_
          refine V_getR (sx_di dX11_log 14 rfl) fX11_60 (fun _ => rfl) (hB.k _ rfl) (hB.r _ _ rfl) ?_
          refine V_getI (sx_di dX11_log 15 rfl) fX11_218 (fun _ => rfl) (hB.k _ rfl) ?_
          refine V_iv (y := nI g) (e12) ?_
          refine V_iconst (v := 1) (sx_di dX11_log 16 rfl) (by decide) ?_
          refine V_isub (sx_di dX11_log 17 rfl) ?_
          refine V_iv (y := nI (g - 1)) (pk_sub (a := g) (b := 1) (by omega)) ?_
          refine V_iload_n (i := 1) (sx_di dX11_log 18 rfl) rfl rfl ?_
          refine V_isub (sx_di dX11_log 19 rfl) ?_
          refine V_iv (y := nI (g - 1 - i)) (pk_sub (by omega)) ?_
          refine V_istore_n (i := 3) (sx_di dX11_log 20 rfl) rfl (by decide) (rfl) ?_
          refine V_iload_n (i := 2) (sx_di dX11_log 21 rfl) rfl rfl ?_
          refine V_ifN_ne (a := j) (rfl) (by omega) (tgt := 49) (sx_di dX11_log 22 rfl) (by decide) (fun h37 => ?_) (fun h37 => ?_)
          · refine V_iload_n (i := 2) (sx_di dX11_log 28 rfl) rfl rfl ?_
            refine V_iconst (v := 1) (sx_di dX11_log 29 rfl) (by decide) ?_
            refine V_icN_ne (a := j) (b := 1) (rfl) (rfl) (by omega) (by omega) (tgt := 65) (sx_di dX11_log 30 rfl) (by decide) (fun h51 => ?_) (fun h51 => ?_)
            · refine V_aload_n (i := 0) (sx_di dX11_log 36 rfl) rfl rfl ?_
              refine V_getR (sx_di dX11_log 37 rfl) fX11_70 (fun _ => rfl) (hB.k _ rfl) (hB.r _ _ rfl) ?_
              refine V_iload_n (i := 3) (sx_di dX11_log 38 rfl) rfl rfl ?_
              refine V_cV1 (mc' := 0) (ms' := 0) (M' := mX4_formAt) 2 (sx_di dX11_log 39 rfl) lX11_227 vX4_formAt (hB.k _ rfl) (by decide) rfl (Nat.le_of_ble_eq_true rfl) ⟨Nat.le_of_ble_eq_true rfl, Nat.le_of_ble_eq_true rfl⟩ ⟨Nat.le_refl _, Nat.le_refl _⟩ ?_
              refine c_X4_formAt hlg ?_
              refine V_iv (y := _) hrow.2.2 ?_
              refine V_iret (sx_di dX11_log 40 rfl) rfl (Nat.le_refl _) (Nat.le_refl _) ?_
              first | (rw [h51] at h; exact h) | (rw [show j = 2 by omega] at h; exact h)
            · refine V_aload_n (i := 0) (sx_di dX11_log 31 rfl) rfl rfl ?_
              refine V_getR (sx_di dX11_log 32 rfl) fX11_70 (fun _ => rfl) (hB.k _ rfl) (hB.r _ _ rfl) ?_
              refine V_iload_n (i := 3) (sx_di dX11_log 33 rfl) rfl rfl ?_
              refine V_cV1 (mc' := 0) (ms' := 0) (M' := mX4_placeAt) 2 (sx_di dX11_log 34 rfl) lX11_224 vX4_placeAt (hB.k _ rfl) (by decide) rfl (Nat.le_of_ble_eq_true rfl) ⟨Nat.le_of_ble_eq_true rfl, Nat.le_of_ble_eq_true rfl⟩ ⟨Nat.le_refl _, Nat.le_refl _⟩ ?_
              refine c_X4_placeAt hlg ?_
              refine V_iv (y := _) hrow.2.1 ?_
              refine V_goto (tgt := 73) (sx_di dX11_log 35 rfl) (by decide) ?_
              refine V_iret (sx_di dX11_log 40 rfl) rfl (Nat.le_refl _) (Nat.le_refl _) ?_
              first | (rw [h51] at h; exact h) | (rw [show j = 2 by omega] at h; exact h)
          · refine V_aload_n (i := 0) (sx_di dX11_log 23 rfl) rfl rfl ?_
            refine V_getR (sx_di dX11_log 24 rfl) fX11_70 (fun _ => rfl) (hB.k _ rfl) (hB.r _ _ rfl) ?_
            refine V_iload_n (i := 3) (sx_di dX11_log 25 rfl) rfl rfl ?_
            refine V_cV1 (mc' := 0) (ms' := 0) (M' := mX4_dayAt) 2 (sx_di dX11_log 26 rfl) lX11_221 vX4_dayAt (hB.k _ rfl) (by decide) rfl (Nat.le_of_ble_eq_true rfl) ⟨Nat.le_of_ble_eq_true rfl, Nat.le_of_ble_eq_true rfl⟩ ⟨Nat.le_refl _, Nat.le_refl _⟩ ?_
            refine c_X4_dayAt hlg ?_
            refine V_iv (y := _) hrow.1 ?_
            refine V_iret (sx_di dX11_log 27 rfl) rfl (Nat.le_refl _) (Nat.le_refl _) ?_
            rw [h37] at h
            exact h
        · rw [if_pos (Or.inr (Or.inr (Or.inr (Int32.not_le.mp h18))))] at h
          refine V_ldc (sx_di dX11_log 11 rfl) kX11_217 ?_
          refine V_iret (sx_di dX11_log 12 rfl) rfl (Nat.le_refl _) (Nat.le_refl _) ?_
          exact h
set_option maxHeartbeats 2000000 in
set_option maxRecDepth 20000 in
theorem c_X12_logged {E : sxE} {w : hpW} {Q : Option Value → hpW → Prop} (hB : ly_B w) {L i j : Nat} (hL : hp_i w 398 45 = nI L) (hL6 : L ≤ 60) (hi : i < L) (hj : j ≤ 2) (h : Q (some (.int (hp_i w 398 (46 + 3 * (L - 1 - i) + j)))) w) : sx_C E mX12_logged 1 0 0 [.ref 381, .int (nI i), .int (nI j)] w Q := by
  refine C_of (by decide +kernel) (Nat.le_of_ble_eq_true rfl) ?_
  refine V_aload_n (i := 0) (sx_di dX12_logged 0 rfl) rfl rfl ?_
  refine V_getR (sx_di dX12_logged 1 rfl) fX12_58 (fun _ => rfl) (hB.k _ rfl) (hB.r _ _ rfl) ?_
  refine V_bipush (v := 46) (sx_di dX12_logged 2 rfl) (by decide) ?_
  refine V_iconst (v := 3) (sx_di dX12_logged 3 rfl) (by decide) ?_
  refine V_aload_n (i := 0) (sx_di dX12_logged 4 rfl) rfl rfl ?_
  refine V_getR (sx_di dX12_logged 5 rfl) fX12_58 (fun _ => rfl) (hB.k _ rfl) (hB.r _ _ rfl) ?_
  refine V_bipush (v := 45) (sx_di dX12_logged 6 rfl) (by decide) ?_
  refine V_ialdN (n := 226) (j := 45) (sx_di dX12_logged 7 rfl) (hB.k _ rfl) (rfl) (by omega) (by omega) ?_
  refine V_iv (y := nI L) (hL) ?_
  refine V_iconst (v := 1) (sx_di dX12_logged 8 rfl) (by decide) ?_
  refine V_isub (sx_di dX12_logged 9 rfl) ?_
  refine V_iload_n (i := 1) (sx_di dX12_logged 10 rfl) rfl rfl ?_
  refine V_isub (sx_di dX12_logged 11 rfl) ?_
  refine V_imul (sx_di dX12_logged 12 rfl) ?_
  refine V_iadd (sx_di dX12_logged 13 rfl) ?_
  refine V_iload_n (i := 2) (sx_di dX12_logged 14 rfl) rfl rfl ?_
  refine V_iadd (sx_di dX12_logged 15 rfl) ?_
  refine V_ialdN (n := 226) (j := ((46 + (3 * ((L - 1) - i))) + j)) (sx_di dX12_logged 16 rfl) (hB.k _ rfl) (nx_add (nx_add (rfl) (nx_mul (rfl) (nx_sub (nx_sub (rfl) (rfl) (by omega)) (rfl) (by omega)))) (rfl)) (by omega) (by omega) ?_
  refine V_iret (sx_di dX12_logged 17 rfl) rfl (Nat.le_refl _) (Nat.le_refl _) ?_
  exact h
set_option maxHeartbeats 2000000 in
set_option maxRecDepth 20000 in
theorem oR_log {E : sxE} {A : AS} {w : hpW} (VA : AV A) (H : RR A w) (x : Int32) (y : Int32) : oR E mX12_log 2 [.ref 381, .int x, .int y] w A (q_log A x y) A := by
  intro Q h
  replace h := h w H fC_rf
  obtain ⟨hB, h1, h2, h3, h4, h5, h6, ⟨h7, h8⟩, ⟨h9, h10⟩, h11, h12⟩ := id H
  have hn8 := VA.2.2.1.1
  have hm6 := VA.2.2.1.2.1
  have hn : hp_i w 381 25 = nI (a_n A) := h3.1
  have hr : ∀ j, hp_i w 398 j = a_r A j := fun j => congrFun h4 j
  unfold q_log at h
  obtain ⟨L, hL6, eL⟩ := VA.2.2.2.1.1.2.2.2.1
  refine C_of (by decide +kernel) (Nat.le_of_ble_eq_true rfl) ?_
  refine V_iload_n (i := 1) (sx_di dX12_log 0 rfl) rfl rfl ?_
  refine V_iconst (v := 0) (sx_di dX12_log 1 rfl) (by decide) ?_
  refine V_aload_n (i := 0) (sx_di dX12_log 2 rfl) rfl rfl ?_
  refine V_getR (sx_di dX12_log 3 rfl) fX12_58 (fun _ => rfl) (hB.k _ rfl) (hB.r _ _ rfl) ?_
  refine V_bipush (v := 45) (sx_di dX12_log 4 rfl) (by decide) ?_
  refine V_ialdN (n := 226) (j := 45) (sx_di dX12_log 5 rfl) (hB.k _ rfl) (rfl) (by omega) (by omega) ?_
  refine V_iv (y := nI L) ((hr 45).trans eL) ?_
  refine V_iconst (v := 1) (sx_di dX12_log 6 rfl) (by decide) ?_
  refine V_isub (sx_di dX12_log 7 rfl) ?_
  refine V_cS3 (mc' := 0) (ms' := 0) (M' := mX12_in) 1 (sx_di dX12_log 8 rfl) lX12_214 vX12_in (Nat.le_of_ble_eq_true rfl) ⟨Nat.le_of_ble_eq_true rfl, Nat.le_of_ble_eq_true rfl⟩ ⟨Nat.le_refl _, Nat.le_refl _⟩ ?_
  refine c_X12_in ?_
  refine V_if_eq (tgt := 35) (sx_di dX12_log 9 rfl) (by decide) (fun h14 => ?_) (fun h14 => ?_)
  · have h15 := in_no h14
    rw [pr_lt (by omega), ← eL] at h15
    rw [if_pos (h15.elim Or.inl (fun z => Or.inr (Or.inl z)))] at h
    refine V_ldcw (sx_di dX12_log 20 rfl) kX12_320 ?_
    refine V_iret (sx_di dX12_log 21 rfl) rfl (Nat.le_refl _) (Nat.le_refl _) ?_
    exact h
  · have h15 := in_ye h14
    rw [pr_lt (by omega), ← eL] at h15
    refine V_iload_n (i := 2) (sx_di dX12_log 10 rfl) rfl rfl ?_
    refine V_iconst (v := 0) (sx_di dX12_log 11 rfl) (by decide) ?_
    refine V_iconst (v := 2) (sx_di dX12_log 12 rfl) (by decide) ?_
    refine V_cS3 (mc' := 0) (ms' := 0) (M' := mX12_in) 1 (sx_di dX12_log 13 rfl) lX12_214 vX12_in (Nat.le_of_ble_eq_true rfl) ⟨Nat.le_of_ble_eq_true rfl, Nat.le_of_ble_eq_true rfl⟩ ⟨Nat.le_refl _, Nat.le_refl _⟩ ?_
    refine c_X12_in ?_
    refine V_if_eq (tgt := 35) (sx_di dX12_log 14 rfl) (by decide) (fun h23 => ?_) (fun h23 => ?_)
    · have h24 := in_no h23
      rw [if_pos (Or.inr (Or.inr h24))] at h
      refine V_ldcw (sx_di dX12_log 20 rfl) kX12_320 ?_
      refine V_iret (sx_di dX12_log 21 rfl) rfl (Nat.le_refl _) (Nat.le_refl _) ?_
      exact h
    · have h24 := in_ye h23
      have h20 : ¬ (x < 0 ∨ a_r A 45 ≤ x ∨ y < 0 ∨ 2 < y) := fun z => z.elim (fun z => h15 (Or.inl z)) (fun z => z.elim (fun z => h15 (Or.inr z)) h24)
      rw [if_neg h20] at h
      obtain ⟨i, hi, rfl⟩ := nI_of (fun z => h15 (Or.inl z))
      obtain ⟨j, hj, rfl⟩ := nb_ (v := y) (k := 2) (by decide) (fun z => h24 (Or.inl z)) (fun z => h24 (Or.inr z))
      rw [eL] at h15 h
      have hi2 : i < L := Nat.lt_of_not_le (fun q => h15 (Or.inr ((nI_leI (by omega) hi).mpr q)))
      rw [nI_clamp (by omega), nI_clamp (by omega), nI_clamp (by omega)] at h
      refine V_aload_n (i := 0) (sx_di dX12_log 15 rfl) rfl rfl ?_
      refine V_iload_n (i := 1) (sx_di dX12_log 16 rfl) rfl rfl ?_
      refine V_iload_n (i := 2) (sx_di dX12_log 17 rfl) rfl rfl ?_
      refine V_cV2 (mc' := 0) (ms' := 0) (M' := mX12_logged) 1 (sx_di dX12_log 18 rfl) lX12_353 vX12_logged (hB.k _ rfl) (by decide) rfl (Nat.le_of_ble_eq_true rfl) ⟨Nat.le_of_ble_eq_true rfl, Nat.le_of_ble_eq_true rfl⟩ ⟨Nat.le_refl _, Nat.le_refl _⟩ ?_
      refine c_X12_logged hB (hL := (hr 45).trans eL) hL6 hi2 hj ?_
      refine V_iv (y := _) (hr _) ?_
      refine V_goto (tgt := 38) (sx_di dX12_log 19 rfl) (by decide) ?_
      refine V_iret (sx_di dX12_log 21 rfl) rfl (Nat.le_refl _) (Nat.le_refl _) ?_
      exact h
theorem zb_ok {z : Int32} (h : b01 z) : narrow .boolean (.int z) = .int z := by
  rcases h with rfl | rfl <;> rfl
theorem nts_ap {I J : Nat → Nat → Int32} {x y z : Nat} {L : List n3T} {q : n3T} (h : nts_ I x y z L) (h1 : ∀ j, j ≠ L.length → J x j = I x j ∧ J y j = I y j ∧ J z j = I z j) (h2 : J x L.length = q.1 ∧ J y L.length = q.2.1 ∧ J z L.length = q.2.2) : nts_ J x y z (L ++ [q]) := fun i p hp => by
  rcases Nat.lt_trichotomy i L.length with hi | hi | hi
  · rw [List.getElem?_append_left hi] at hp
    rw [(h1 i (by omega)).1, (h1 i (by omega)).2.1, (h1 i (by omega)).2.2]
    exact h i p hp
  · subst hi
    rw [List.getElem?_append_right (Nat.le_refl _), Nat.sub_self] at hp
    have e : q = p := by simpa using hp
    rw [← e]
    exact h2
  · rw [List.getElem?_eq_none (by simp; omega)] at hp
    simp at hp
def q_seen (A : AS) (x y z : Int32) : Int32 × AS := if ih_ (a_n A) y = 0 ∨ x < 1 ∨ 40 < x ∨ (a_S A).length = 10 then (-1, A) else (nI ((a_S A).length + 1), pt_S A (a_S A ++ [(x, y, z)]))
def q_was (A : AS) (x y z : Int32) : Int32 × AS := if ih_ (a_m A) y = 0 ∨ x < 0 ∨ 60 < x ∨ (a_Q A).length = 10 then (-1, A) else (nI ((a_Q A).length + 1), pt_Q A (a_Q A ++ [(x, y, z)]))
theorem AV_seen {A : AS} (V : AV A) (x y z : Int32) (hz : b01 z) : AV (q_seen A x y z).2 := by
  unfold q_seen
  split
  · exact V
  · next h =>
    obtain ⟨v1, v2, v3, v4, ⟨v5, v6, v7⟩, v9⟩ := V
    have hy : ¬ ih_ (a_n A) y = 0 := fun q => h (Or.inl q)
    have hl : ¬ (a_S A).length = 10 := fun q => h (Or.inr (Or.inr (Or.inr q)))
    have z1 : ¬ x < 1 := fun z => h (Or.inr (Or.inl z))
    obtain ⟨k, hk, ex⟩ := nb_ (v := x) (k := 40) (by decide) (by rw [fa_lt, ti_0]; rw [fa_lt, ti_1] at z1; omega) (fun z => h (Or.inr (Or.inr (Or.inl z))))
    have k0 : 0 < k := by
      rw [ex] at z1
      exact Nat.le_of_not_lt (fun q => z1 ((nI_ltI (b := 1) (by omega) (by decide)).mpr q))
    have hi := ih_cl v3.1 hy
    refine ⟨v1, v2, v3, v4, ⟨?_, fun q hq => ?_, v7⟩, fun q => absurd q (by show ¬ a_n A = 0; omega)⟩
    · show (a_S A ++ [(x, y, z)]).length ≤ 10
      simp; omega
    · rcases List.mem_append.mp hq with hq | hq
      · exact v6 q hq
      · have e : q = (x, y, z) := by simpa using hq
        rw [e]
        exact ⟨⟨k, k0, hk, ex⟩, ⟨_, hi.1, hi.2⟩, hz⟩
theorem AV_was {A : AS} (V : AV A) (x y z : Int32) (hz : b01 z) : AV (q_was A x y z).2 := by
  unfold q_was
  split
  · exact V
  · next h =>
    obtain ⟨v1, v2, v3, v4, ⟨v5, v6, v7, v8⟩, v9⟩ := V
    have hy : ¬ ih_ (a_m A) y = 0 := fun q => h (Or.inl q)
    have hl : ¬ (a_Q A).length = 10 := fun q => h (Or.inr (Or.inr (Or.inr q)))
    obtain ⟨k, hk, ex⟩ := nb_ (v := x) (k := 60) (by decide) (fun z => h (Or.inr (Or.inl z))) (fun z => h (Or.inr (Or.inr (Or.inl z))))
    have hi := ih_cl (n := a_m A) (by omega) hy
    refine ⟨v1, v2, v3, v4, ⟨v5, v6, ?_, fun q hq => ?_⟩, fun q => absurd (v3.2.2.2 q) (by omega)⟩
    · show (a_Q A ++ [(x, y, z)]).length ≤ 10
      simp; omega
    · rcases List.mem_append.mp hq with hq | hq
      · exact v8 q hq
      · have e : q = (x, y, z) := by simpa using hq
        rw [e]
        exact ⟨⟨k, hk, ex⟩, ⟨_, hi.1, hi.2⟩, hz⟩
set_option maxHeartbeats 2000000 in
set_option maxRecDepth 20000 in
theorem oC_seen {E : sxE} {A : AS} {w : hpW} (VA : AV A) (H : CR A w) (x y z : Int32) (hz : b01 z) : oC E mX11_seen 2 [.ref 16, .int x, .int y, .int z] w A (q_seen A x y z).1 (q_seen A x y z).2 := by
  intro Q h
  obtain ⟨t', p, C, c3'⟩ := CN_of VA H
  obtain ⟨hB, c1, c2, t, g, c3, c4, c5, c6, ⟨c7, c8⟩, ⟨c9, c10⟩, c11, c12⟩ := id H
  have hn8 := VA.2.2.1.1
  have hm6 := VA.2.2.1.2.1
  have hl : (a_S A).length ≤ 10 := VA.2.2.2.2.1.1
  have hno : (ih_ (a_n A) y = 0 ∨ x < 1 ∨ 40 < x ∨ (a_S A).length = 10) → Q (some (.int (-1))) w := fun e => by
    rw [q_seen, if_pos e] at h
    exact h w H fR_rf
  have hB2 : ly_B (hp_wi w (nt_ (hp_i w) 369 (a_S A).length x y z)) := ly_wi hB _
  have e : ∀ b, b < 369 ∨ 372 < b → hp_i (hp_wi w (nt_ (hp_i w) 369 (a_S A).length x y z)) b = hp_i w b := fun b z => by
    funext j
    show nt_ (hp_i w) 369 (a_S A).length x y _ b j = _
    unfold nt_
    rw [hp_u_nk _ _ (by omega), hp_u_nk _ _ (by omega), hp_u_nk _ _ (by omega), hp_u_nk _ _ (by omega)]
  have er : ∀ b, b < 381 → hp_r (hp_wi w (nt_ (hp_i w) 369 (a_S A).length x y z)) b = hp_r w b := fun b _ => rfl
  have e3 : nt_ (hp_i w) 369 (a_S A).length x y z 369 3 = nI ((a_S A).length + 1) := by unfold nt_; rw [hp_u_at]
  have hnt : nts_ (nt_ (hp_i w) 369 (a_S A).length x y z) 370 371 372 (a_S A ++ [(x, y, z)]) := by
    refine nts_ap c8 (fun j hj => ?_) ?_
    · unfold nt_
      refine ⟨?_, ?_, ?_⟩ <;> rw [hp_u_nk _ _ (by omega), hp_u_nk _ _ (by omega), hp_u_nk _ _ (by omega), hp_u_nk _ _ (by omega)]
    · unfold nt_
      refine ⟨?_, ?_, ?_⟩
      · rw [hp_u_nk _ _ (by omega), hp_u_nk _ _ (by omega), hp_u_nk _ _ (by omega), hp_u_at]
      · rw [hp_u_nk _ _ (by omega), hp_u_nk _ _ (by omega), hp_u_at]
      · rw [hp_u_nk _ _ (by omega), hp_u_at]
  have hyes : ¬ (ih_ (a_n A) y = 0 ∨ x < 1 ∨ 40 < x ∨ (a_S A).length = 10) → Q (some (.int (nI ((a_S A).length + 1)))) (hp_wi w (nt_ (hp_i w) 369 (a_S A).length x y z)) := fun q => by
    rw [q_seen, if_neg q] at h
    exact h _ ⟨hB2, tp_mv (by rw [e 17 (by omega)]) (e 18 (by omega)) c1, Claws_mv VA.2.1.1 (fun i j hi hj => e _ (by omega)) (e 20 (by omega)) c2, t, g, Cstr_mv (er 16 (by omega)) (fun b b1 b2 => e b (by omega)) c3, Cnow_mv (by rw [er 57 (by omega)]) (fun b b1 b2 => e b (by omega)) (fun b b1 b2 => e b (by omega)) c4, Cpast_mv (fun b b1 b2 => er b (by omega)) (fun b b1 b2 => e b (by omega)) c5, Cimg_mv (er 362 (by omega)) (fun b b1 b2 => e b (by omega)) c6, ⟨by rw [show (pt_S A (a_S A ++ [(x, y, z)]) |> a_S).length = (a_S A).length + 1 by show (a_S A ++ [(x, y, z)]).length = _; simp]; exact e3, hnt⟩, ⟨by rw [e 373 (by omega)]; exact c9, nts_mv (e 374 (by omega)) (e 375 (by omega)) (e 376 (by omega)) c10⟩, fun j hj => by rw [e 377 (by omega)]; exact c11 j hj, by rw [e 16 (by omega)]; exact c12⟩ (fR_wi (fun b hb => e b (by omega)))
  refine C_of (by decide +kernel) (Nat.le_of_ble_eq_true rfl) ?_
  by_cases hfull : (a_S A).length = 10
  · refine V_aload_n (i := 0) (sx_di dX11_seen 0 rfl) rfl rfl ?_
    refine V_iload_n (i := 2) (sx_di dX11_seen 1 rfl) rfl rfl ?_
    refine V_cV1 (mc' := 0) (ms' := 0) (M' := mX11_isHouse) 1 (sx_di dX11_seen 2 rfl) lX11_170 vX11_isHouse (hB.k _ rfl) (by decide) rfl (Nat.le_of_ble_eq_true rfl) ⟨Nat.le_of_ble_eq_true rfl, Nat.le_of_ble_eq_true rfl⟩ ⟨Nat.le_refl _, Nat.le_refl _⟩ ?_
    refine c_X11_isHouse hB C.2.1 C.2.2.1 C.2.2.2.1 hn8 ?_
    refine V_if_eq (tgt := 19) (sx_di dX11_seen 3 rfl) (by decide) (fun h5 => ?_) (fun h5 => ?_)
    · refine V_iconst (v := -1) (sx_di dX11_seen 10 rfl) (by decide) ?_
      refine V_iret (sx_di dX11_seen 11 rfl) rfl (Nat.le_refl _) (Nat.le_refl _) ?_
      exact hno (Or.inl h5)
    · refine V_iload_n (i := 1) (sx_di dX11_seen 4 rfl) rfl rfl ?_
      refine V_iconst (v := 1) (sx_di dX11_seen 5 rfl) (by decide) ?_
      refine V_icmp_lt (tgt := 19) (sx_di dX11_seen 6 rfl) (by decide) (fun h10 => ?_) (fun h10 => ?_)
      · refine V_iconst (v := -1) (sx_di dX11_seen 10 rfl) (by decide) ?_
        refine V_iret (sx_di dX11_seen 11 rfl) rfl (Nat.le_refl _) (Nat.le_refl _) ?_
        exact hno (Or.inr (Or.inl h10))
      · refine V_iload_n (i := 1) (sx_di dX11_seen 7 rfl) rfl rfl ?_
        refine V_bipush (v := 40) (sx_di dX11_seen 8 rfl) (by decide) ?_
        refine V_icmp_le (tgt := 21) (sx_di dX11_seen 9 rfl) (by decide) (fun h16 => ?_) (fun h16 => ?_)
        · have h20 : ¬ (ih_ (a_n A) y = 0 ∨ x < 1 ∨ 40 < x) := fun z => z.elim h5 (fun z => z.elim h10 (Int32.not_lt.mpr h16))
          refine V_aload_n (i := 0) (sx_di dX11_seen 12 rfl) rfl rfl ?_
          refine V_getR (sx_di dX11_seen 13 rfl) fX11_91 (fun _ => rfl) (hB.k _ rfl) (hB.r _ _ rfl) ?_
          refine V_iload_n (i := 1) (sx_di dX11_seen 14 rfl) rfl rfl ?_
          refine V_iload_n (i := 2) (sx_di dX11_seen 15 rfl) rfl rfl ?_
          refine V_iload_n (i := 3) (sx_di dX11_seen 16 rfl) rfl rfl ?_
          refine V_cV3 (mc' := 0) (ms' := 0) (M' := mX5_add) 1 (sx_di dX11_seen 17 rfl) lX11_353 vX5_add (hB.k _ rfl) (by decide) rfl (Nat.le_of_ble_eq_true rfl) ⟨Nat.le_of_ble_eq_true rfl, Nat.le_of_ble_eq_true rfl⟩ ⟨Nat.le_refl _, Nat.le_refl _⟩ ?_
          refine c_X5_add (nt_369 hB) c7 hl (zb_ok hz) (fun h10 => ?_) (fun h10 => absurd h10 (by omega))
          refine V_ifN_eq (a := 0) (rfl) (by omega) (tgt := 44) (sx_di dX11_seen 18 rfl) (by decide) (fun _ => ?_) (fun h31 => absurd h31 (by omega))
          refine V_iconst (v := -1) (sx_di dX11_seen 23 rfl) (by decide) ?_
          refine V_iret (sx_di dX11_seen 24 rfl) rfl (Nat.le_refl _) (Nat.le_refl _) ?_
          exact hno (Or.inr (Or.inr (Or.inr hfull)))
        · refine V_iconst (v := -1) (sx_di dX11_seen 10 rfl) (by decide) ?_
          refine V_iret (sx_di dX11_seen 11 rfl) rfl (Nat.le_refl _) (Nat.le_refl _) ?_
          exact hno (Or.inr (Or.inr (Or.inl (Int32.not_le.mp h16))))
  · refine V_aload_n (i := 0) (sx_di dX11_seen 0 rfl) rfl rfl ?_
    refine V_iload_n (i := 2) (sx_di dX11_seen 1 rfl) rfl rfl ?_
    refine V_cV1 (mc' := 0) (ms' := 0) (M' := mX11_isHouse) 1 (sx_di dX11_seen 2 rfl) lX11_170 vX11_isHouse (hB.k _ rfl) (by decide) rfl (Nat.le_of_ble_eq_true rfl) ⟨Nat.le_of_ble_eq_true rfl, Nat.le_of_ble_eq_true rfl⟩ ⟨Nat.le_refl _, Nat.le_refl _⟩ ?_
    refine c_X11_isHouse hB C.2.1 C.2.2.1 C.2.2.2.1 hn8 ?_
    refine V_if_eq (tgt := 19) (sx_di dX11_seen 3 rfl) (by decide) (fun h5 => ?_) (fun h5 => ?_)
    · refine V_iconst (v := -1) (sx_di dX11_seen 10 rfl) (by decide) ?_
      refine V_iret (sx_di dX11_seen 11 rfl) rfl (Nat.le_refl _) (Nat.le_refl _) ?_
      exact hno (Or.inl h5)
    · refine V_iload_n (i := 1) (sx_di dX11_seen 4 rfl) rfl rfl ?_
      refine V_iconst (v := 1) (sx_di dX11_seen 5 rfl) (by decide) ?_
      refine V_icmp_lt (tgt := 19) (sx_di dX11_seen 6 rfl) (by decide) (fun h10 => ?_) (fun h10 => ?_)
      · refine V_iconst (v := -1) (sx_di dX11_seen 10 rfl) (by decide) ?_
        refine V_iret (sx_di dX11_seen 11 rfl) rfl (Nat.le_refl _) (Nat.le_refl _) ?_
        exact hno (Or.inr (Or.inl h10))
      · refine V_iload_n (i := 1) (sx_di dX11_seen 7 rfl) rfl rfl ?_
        refine V_bipush (v := 40) (sx_di dX11_seen 8 rfl) (by decide) ?_
        refine V_icmp_le (tgt := 21) (sx_di dX11_seen 9 rfl) (by decide) (fun h16 => ?_) (fun h16 => ?_)
        · have h20 : ¬ (ih_ (a_n A) y = 0 ∨ x < 1 ∨ 40 < x) := fun z => z.elim h5 (fun z => z.elim h10 (Int32.not_lt.mpr h16))
          refine V_aload_n (i := 0) (sx_di dX11_seen 12 rfl) rfl rfl ?_
          refine V_getR (sx_di dX11_seen 13 rfl) fX11_91 (fun _ => rfl) (hB.k _ rfl) (hB.r _ _ rfl) ?_
          refine V_iload_n (i := 1) (sx_di dX11_seen 14 rfl) rfl rfl ?_
          refine V_iload_n (i := 2) (sx_di dX11_seen 15 rfl) rfl rfl ?_
          refine V_iload_n (i := 3) (sx_di dX11_seen 16 rfl) rfl rfl ?_
          refine V_cV3 (mc' := 0) (ms' := 0) (M' := mX5_add) 1 (sx_di dX11_seen 17 rfl) lX11_353 vX5_add (hB.k _ rfl) (by decide) rfl (Nat.le_of_ble_eq_true rfl) ⟨Nat.le_of_ble_eq_true rfl, Nat.le_of_ble_eq_true rfl⟩ ⟨Nat.le_refl _, Nat.le_refl _⟩ ?_
          refine c_X5_add (nt_369 hB) c7 hl (zb_ok hz) (fun h10 => absurd h10 hfull) (fun h10 => ?_)
          refine V_ifN_eq (a := 1) (rfl) (by omega) (tgt := 44) (sx_di dX11_seen 18 rfl) (by decide) (fun h31 => absurd h31 (by omega)) (fun _ => ?_)
          refine V_aload_n (i := 0) (sx_di dX11_seen 19 rfl) rfl rfl ?_
          refine V_getR (sx_di dX11_seen 20 rfl) fX11_91 (fun _ => rfl) (hB2.k _ rfl) (hB2.r _ _ rfl) ?_
          refine V_getI (sx_di dX11_seen 21 rfl) fX11_150 (fun _ => rfl) (hB2.k _ rfl) ?_
          refine V_iv (y := nI ((a_S A).length + 1)) (e3) ?_
          refine V_goto (tgt := 45) (sx_di dX11_seen 22 rfl) (by decide) ?_
          refine V_iret (sx_di dX11_seen 24 rfl) rfl (Nat.le_refl _) (Nat.le_refl _) ?_
          exact hyes (fun q => q.elim (fun z => h20 (Or.inl z)) (fun q => q.elim (fun z => h20 (Or.inr (Or.inl z))) (fun q => q.elim (fun z => h20 (Or.inr (Or.inr z))) hfull)))
        · refine V_iconst (v := -1) (sx_di dX11_seen 10 rfl) (by decide) ?_
          refine V_iret (sx_di dX11_seen 11 rfl) rfl (Nat.le_refl _) (Nat.le_refl _) ?_
          exact hno (Or.inr (Or.inr (Or.inl (Int32.not_le.mp h16))))
set_option maxHeartbeats 2000000 in
set_option maxRecDepth 20000 in
theorem oR_seen {E : sxE} {A : AS} {w : hpW} (VA : AV A) (H : RR A w) (x y z : Int32) (hz : b01 z) : oR E mX12_seen 3 [.ref 381, .int x, .int y, .int z] w A (q_seen A x y z).1 (q_seen A x y z).2 := by
  intro Q h
  obtain ⟨hB, h1, h2, h3, h4, h5, h6, ⟨h7, h8⟩, ⟨h9, h10⟩, h11, h12⟩ := id H
  have hn8 := VA.2.2.1.1
  have hm6 := VA.2.2.1.2.1
  have hl : (a_S A).length ≤ 10 := VA.2.2.2.2.1.1
  have ec : hp_i w 381 40 = nI (a_S A).length := h7
  have hno : (ih_ (a_n A) y = 0 ∨ x < 1 ∨ 40 < x ∨ (a_S A).length = 10) → Q (some (.int (-1))) w := fun e => by
    rw [q_seen, if_pos e] at h
    exact h w H fC_rf
  have hB2 : ly_B (hp_wi w (hp_u (hp_u (hp_u (hp_u (hp_i w) 402 (a_S A).length x) 403 (a_S A).length y) 404 (a_S A).length z) 381 40 (nI ((a_S A).length + 1)))) := ly_wi hB _
  have e : ∀ b, b ≠ 402 ∧ b ≠ 403 ∧ b ≠ 404 ∧ b ≠ 381 → hp_i (hp_wi w (hp_u (hp_u (hp_u (hp_u (hp_i w) 402 (a_S A).length x) 403 (a_S A).length y) 404 (a_S A).length z) 381 40 (nI ((a_S A).length + 1)))) b = hp_i w b := fun b z => by
    funext j
    rw [hp_i_wi, hp_u_nk _ _ (by omega), hp_u_nk _ _ (by omega), hp_u_nk _ _ (by omega), hp_u_nk _ _ (by omega)]
  have g1 : ∀ j, j ≠ 40 → hp_i (hp_wi w (hp_u (hp_u (hp_u (hp_u (hp_i w) 402 (a_S A).length x) 403 (a_S A).length y) 404 (a_S A).length z) 381 40 (nI ((a_S A).length + 1)))) 381 j = hp_i w 381 j := fun j z => by
    rw [hp_i_wi, hp_u_nk _ _ (by omega), hp_u_nk _ _ (by omega), hp_u_nk _ _ (by omega), hp_u_nk _ _ (by omega)]
  have hnt : nts_ (hp_i (hp_wi w (hp_u (hp_u (hp_u (hp_u (hp_i w) 402 (a_S A).length x) 403 (a_S A).length y) 404 (a_S A).length z) 381 40 (nI ((a_S A).length + 1))))) 402 403 404 (a_S A ++ [(x, y, z)]) := by
    refine nts_ap h8 (fun j hj => ?_) ?_ <;> rw [hp_i_wi]
    · refine ⟨?_, ?_, ?_⟩ <;> rw [hp_u_nk _ _ (by omega), hp_u_nk _ _ (by omega), hp_u_nk _ _ (by omega), hp_u_nk _ _ (by omega)]
    · refine ⟨?_, ?_, ?_⟩
      · rw [hp_u_nk _ _ (by omega), hp_u_nk _ _ (by omega), hp_u_nk _ _ (by omega), hp_u_at]
      · rw [hp_u_nk _ _ (by omega), hp_u_nk _ _ (by omega), hp_u_at]
      · rw [hp_u_nk _ _ (by omega), hp_u_at]
  have hyes : ¬ (ih_ (a_n A) y = 0 ∨ x < 1 ∨ 40 < x ∨ (a_S A).length = 10) → Q (some (.int (nI ((a_S A).length + 1)))) (hp_wi w (hp_u (hp_u (hp_u (hp_u (hp_i w) 402 (a_S A).length x) 403 (a_S A).length y) 404 (a_S A).length z) 381 40 (nI ((a_S A).length + 1)))) := fun q => by
    rw [q_seen, if_neg q] at h
    exact h _ ⟨hB2, tp_mv (g1 2 (by omega)) (e 382 (by omega)) h1, Rlaws_mv (fun b b1 b2 => e b (by omega)) (g1 13 (by omega)) (g1 29 (by omega)) h2, Rstr_mv (g1 25 (by omega)) (g1 26 (by omega)) (e 395 (by omega)) (e 396 (by omega)) (e 397 (by omega)) h3, (e 398 (by omega)).trans h4, Rkept_mv (g1 32 (by omega)) (e 400 (by omega)) h5, Rimg_mv (g1 47 (by omega)) (e 409 (by omega)) h6, ⟨by rw [hp_i_wi, hp_u_at]; exact congrArg nI (by show _ = (a_S A ++ [(x, y, z)]).length; simp), hnt⟩, ⟨(g1 45 (by omega)).trans h9, nts_mv (e 406 (by omega)) (e 407 (by omega)) (e 408 (by omega)) h10⟩, fun j hj => by rw [e 399 (by omega)]; exact h11 j hj, (g1 30 (by omega)).trans h12⟩ (fC_wi (fun b hb => e b (by omega)))
  refine C_of (by decide +kernel) (Nat.le_of_ble_eq_true rfl) ?_
  refine V_aload_n (i := 0) (sx_di dX12_seen 0 rfl) rfl rfl ?_
  refine V_iload_n (i := 2) (sx_di dX12_seen 1 rfl) rfl rfl ?_
  refine V_cV1 (mc' := 0) (ms' := 0) (M' := mX12_isHouse) 2 (sx_di dX12_seen 2 rfl) lX12_311 vX12_isHouse (hB.k _ rfl) (by decide) rfl (Nat.le_of_ble_eq_true rfl) ⟨Nat.le_of_ble_eq_true rfl, Nat.le_of_ble_eq_true rfl⟩ ⟨Nat.le_refl _, Nat.le_refl _⟩ ?_
  refine c_X12_isHouse hB h3.1 hn8 ?_
  refine V_if_eq (tgt := 27) (sx_di dX12_seen 3 rfl) (by decide) (fun h5_ => ?_) (fun h5_ => ?_)
  · refine V_iconst (v := -1) (sx_di dX12_seen 13 rfl) (by decide) ?_
    refine V_iret (sx_di dX12_seen 14 rfl) rfl (Nat.le_refl _) (Nat.le_refl _) ?_
    exact hno (Or.inl h5_)
  · refine V_iload_n (i := 1) (sx_di dX12_seen 4 rfl) rfl rfl ?_
    refine V_iconst (v := 1) (sx_di dX12_seen 5 rfl) (by decide) ?_
    refine V_bipush (v := 40) (sx_di dX12_seen 6 rfl) (by decide) ?_
    refine V_cS3 (mc' := 0) (ms' := 0) (M' := mX12_in) 1 (sx_di dX12_seen 7 rfl) lX12_214 vX12_in (Nat.le_of_ble_eq_true rfl) ⟨Nat.le_of_ble_eq_true rfl, Nat.le_of_ble_eq_true rfl⟩ ⟨Nat.le_refl _, Nat.le_refl _⟩ ?_
    refine c_X12_in ?_
    refine V_if_eq (tgt := 27) (sx_di dX12_seen 8 rfl) (by decide) (fun h15 => ?_) (fun h15 => ?_)
    · refine V_iconst (v := -1) (sx_di dX12_seen 13 rfl) (by decide) ?_
      refine V_iret (sx_di dX12_seen 14 rfl) rfl (Nat.le_refl _) (Nat.le_refl _) ?_
      exact hno (Or.inr ((in_no h15).elim Or.inl (fun z => Or.inr (Or.inl z))))
    · have h16 := in_ye h15
      refine V_aload_n (i := 0) (sx_di dX12_seen 9 rfl) rfl rfl ?_
      refine V_getI (sx_di dX12_seen 10 rfl) fX12_270 (fun _ => rfl) (hB.k _ rfl) ?_
      refine V_iv (y := nI (a_S A).length) (ec) ?_
      refine V_bipush (v := 10) (sx_di dX12_seen 11 rfl) (by decide) ?_
      refine V_icN_ne (a := (a_S A).length) (b := 10) (rfl) (rfl) (by omega) (by omega) (tgt := 29) (sx_di dX12_seen 12 rfl) (by decide) (fun h24 => ?_) (fun h24 => ?_)
      · have hc0 : (nI (a_S A).length).toNatClampNeg = (a_S A).length := nI_clamp (by omega)
        refine V_aload_n (i := 0) (sx_di dX12_seen 15 rfl) rfl rfl ?_
        refine V_getR (sx_di dX12_seen 16 rfl) fX12_74 (fun _ => rfl) (hB.k _ rfl) (hB.r _ _ rfl) ?_
        refine V_aload_n (i := 0) (sx_di dX12_seen 17 rfl) rfl rfl ?_
        refine V_getI (sx_di dX12_seen 18 rfl) fX12_270 (fun _ => rfl) (hB.k _ rfl) ?_
        refine V_iv (y := nI (a_S A).length) (ec) ?_
        refine V_iload_n (i := 1) (sx_di dX12_seen 19 rfl) rfl rfl ?_
        refine V_iastN (n := 10) (j := (a_S A).length) (sx_di dX12_seen 20 rfl) (hB.k _ rfl) (rfl) (by omega) (by omega) ?_
        refine V_aload_n (i := 0) (sx_di dX12_seen 21 rfl) rfl rfl ?_
        refine V_getR (sx_di dX12_seen 22 rfl) fX12_77 (fun _ => rfl) (hB.k _ rfl) (hB.r _ _ rfl) ?_
        refine V_aload_n (i := 0) (sx_di dX12_seen 23 rfl) rfl rfl ?_
        refine V_getI (sx_di dX12_seen 24 rfl) fX12_270 (fun _ => rfl) (hB.k _ rfl) ?_
        refine V_iv (y := nI (a_S A).length) (by rw [hp_i_si, if_neg (by omega)]; exact ec) ?_
        refine V_iload_n (i := 2) (sx_di dX12_seen 25 rfl) rfl rfl ?_
        refine V_iastN (n := 10) (j := (a_S A).length) (sx_di dX12_seen 26 rfl) (hB.k _ rfl) (rfl) (by omega) (by omega) ?_
        refine V_aload_n (i := 0) (sx_di dX12_seen 27 rfl) rfl rfl ?_
        refine V_getR (sx_di dX12_seen 28 rfl) fX12_80 (fun _ => rfl) (hB.k _ rfl) (hB.r _ _ rfl) ?_
        refine V_aload_n (i := 0) (sx_di dX12_seen 29 rfl) rfl rfl ?_
        refine V_getI (sx_di dX12_seen 30 rfl) fX12_270 (fun _ => rfl) (hB.k _ rfl) ?_
        refine V_iv (y := nI (a_S A).length) (by rw [hp_i_si, if_neg (by omega), hp_i_si, if_neg (by omega)]; exact ec) ?_
        refine V_iload_n (i := 3) (sx_di dX12_seen 31 rfl) rfl rfl ?_
        refine V_zast (sx_di dX12_seen 32 rfl) (hB.k _ rfl) (vp_in_nI (show (a_S A).length < 10 by omega) (by decide)) (zb_ok hz) ?_
        rw [hc0]
        refine V_aload_n (i := 0) (sx_di dX12_seen 33 rfl) rfl rfl ?_
        refine V_dup (sx_di dX12_seen 34 rfl) rfl ?_
        refine V_getI (sx_di dX12_seen 35 rfl) fX12_270 (fun _ => rfl) (hB.k _ rfl) ?_
        refine V_iv (y := nI (a_S A).length) (by rw [hp_i_si, if_neg (by omega), hp_i_si, if_neg (by omega), hp_i_si, if_neg (by omega)]; exact ec) ?_
        refine V_iconst (v := 1) (sx_di dX12_seen 36 rfl) (by decide) ?_
        refine V_iadd (sx_di dX12_seen 37 rfl) ?_
        refine V_iv (y := nI ((a_S A).length + 1)) (nI_add _ 1) ?_
        refine V_putI (sx_di dX12_seen 38 rfl) fX12_270 (fun _ => rfl) rfl (hB.k _ rfl) (rfl) (rfl) ?_
        refine V_aload_n (i := 0) (sx_di dX12_seen 39 rfl) rfl rfl ?_
        refine V_getI (sx_di dX12_seen 40 rfl) fX12_270 (fun _ => rfl) (hB.k _ rfl) ?_
        refine V_iv (y := nI ((a_S A).length + 1)) (hp_i_at _ _ _ _) ?_
        refine V_iret (sx_di dX12_seen 41 rfl) rfl (Nat.le_refl _) (Nat.le_refl _) ?_
        exact hyes (fun q => q.elim h5_ (fun q => q.elim (fun z => h16 (Or.inl z)) (fun q => q.elim (fun z => h16 (Or.inr z)) h24)))
      · refine V_iconst (v := -1) (sx_di dX12_seen 13 rfl) (by decide) ?_
        refine V_iret (sx_di dX12_seen 14 rfl) rfl (Nat.le_refl _) (Nat.le_refl _) ?_
        exact hno (Or.inr (Or.inr (Or.inr h24)))
set_option maxHeartbeats 2000000 in
set_option maxRecDepth 20000 in
theorem oC_was {E : sxE} {A : AS} {w : hpW} (VA : AV A) (H : CR A w) (x y z : Int32) (hz : b01 z) : oC E mX11_was 2 [.ref 16, .int x, .int y, .int z] w A (q_was A x y z).1 (q_was A x y z).2 := by
  intro Q h
  obtain ⟨t', p, C, c3'⟩ := CN_of VA H
  obtain ⟨hB, c1, c2, t, g, c3, c4, c5, c6, ⟨c7, c8⟩, ⟨c9, c10⟩, c11, c12⟩ := id H
  have hn8 := VA.2.2.1.1
  have hm6 := VA.2.2.1.2.1
  have hl : (a_Q A).length ≤ 10 := VA.2.2.2.2.1.2.2.1
  have hno : (ih_ (a_m A) y = 0 ∨ x < 0 ∨ 60 < x ∨ (a_Q A).length = 10) → Q (some (.int (-1))) w := fun e => by
    rw [q_was, if_pos e] at h
    exact h w H fR_rf
  have hB2 : ly_B (hp_wi w (nt_ (hp_i w) 373 (a_Q A).length x y z)) := ly_wi hB _
  have e : ∀ b, b < 373 ∨ 376 < b → hp_i (hp_wi w (nt_ (hp_i w) 373 (a_Q A).length x y z)) b = hp_i w b := fun b z => by
    funext j
    show nt_ (hp_i w) 373 (a_Q A).length x y _ b j = _
    unfold nt_
    rw [hp_u_nk _ _ (by omega), hp_u_nk _ _ (by omega), hp_u_nk _ _ (by omega), hp_u_nk _ _ (by omega)]
  have er : ∀ b, b < 381 → hp_r (hp_wi w (nt_ (hp_i w) 373 (a_Q A).length x y z)) b = hp_r w b := fun b _ => rfl
  have e3 : nt_ (hp_i w) 373 (a_Q A).length x y z 373 3 = nI ((a_Q A).length + 1) := by unfold nt_; rw [hp_u_at]
  have hnt : nts_ (nt_ (hp_i w) 373 (a_Q A).length x y z) 374 375 376 (a_Q A ++ [(x, y, z)]) := by
    refine nts_ap c10 (fun j hj => ?_) ?_
    · unfold nt_
      refine ⟨?_, ?_, ?_⟩ <;> rw [hp_u_nk _ _ (by omega), hp_u_nk _ _ (by omega), hp_u_nk _ _ (by omega), hp_u_nk _ _ (by omega)]
    · unfold nt_
      refine ⟨?_, ?_, ?_⟩
      · rw [hp_u_nk _ _ (by omega), hp_u_nk _ _ (by omega), hp_u_nk _ _ (by omega), hp_u_at]
      · rw [hp_u_nk _ _ (by omega), hp_u_nk _ _ (by omega), hp_u_at]
      · rw [hp_u_nk _ _ (by omega), hp_u_at]
  have hyes : ¬ (ih_ (a_m A) y = 0 ∨ x < 0 ∨ 60 < x ∨ (a_Q A).length = 10) → Q (some (.int (nI ((a_Q A).length + 1)))) (hp_wi w (nt_ (hp_i w) 373 (a_Q A).length x y z)) := fun q => by
    rw [q_was, if_neg q] at h
    exact h _ ⟨hB2, tp_mv (by rw [e 17 (by omega)]) (e 18 (by omega)) c1, Claws_mv VA.2.1.1 (fun i j hi hj => e _ (by omega)) (e 20 (by omega)) c2, t, g, Cstr_mv (er 16 (by omega)) (fun b b1 b2 => e b (by omega)) c3, Cnow_mv (by rw [er 57 (by omega)]) (fun b b1 b2 => e b (by omega)) (fun b b1 b2 => e b (by omega)) c4, Cpast_mv (fun b b1 b2 => er b (by omega)) (fun b b1 b2 => e b (by omega)) c5, Cimg_mv (er 362 (by omega)) (fun b b1 b2 => e b (by omega)) c6, ⟨by rw [e 369 (by omega)]; exact c7, nts_mv (e 370 (by omega)) (e 371 (by omega)) (e 372 (by omega)) c8⟩, ⟨by rw [show (pt_Q A (a_Q A ++ [(x, y, z)]) |> a_Q).length = (a_Q A).length + 1 by show (a_Q A ++ [(x, y, z)]).length = _; simp]; exact e3, hnt⟩, fun j hj => by rw [e 377 (by omega)]; exact c11 j hj, by rw [e 16 (by omega)]; exact c12⟩ (fR_wi (fun b hb => e b (by omega)))
  refine C_of (by decide +kernel) (Nat.le_of_ble_eq_true rfl) ?_
  by_cases hfull : (a_Q A).length = 10
  · refine V_aload_n (i := 0) (sx_di dX11_was 0 rfl) rfl rfl ?_
    refine V_iload_n (i := 2) (sx_di dX11_was 1 rfl) rfl rfl ?_
    refine V_cV1 (mc' := 0) (ms' := 0) (M' := mX11_isForm) 1 (sx_di dX11_was 2 rfl) lX11_202 vX11_isForm (hB.k _ rfl) (by decide) rfl (Nat.le_of_ble_eq_true rfl) ⟨Nat.le_of_ble_eq_true rfl, Nat.le_of_ble_eq_true rfl⟩ ⟨Nat.le_refl _, Nat.le_refl _⟩ ?_
    refine c_X11_isForm hB C.2.1 C.2.2.1 c3'.2.2.2.2.1 hm6 ?_
    refine V_if_eq (tgt := 18) (sx_di dX11_was 3 rfl) (by decide) (fun h5 => ?_) (fun h5 => ?_)
    · refine V_iconst (v := -1) (sx_di dX11_was 9 rfl) (by decide) ?_
      refine V_iret (sx_di dX11_was 10 rfl) rfl (Nat.le_refl _) (Nat.le_refl _) ?_
      exact hno (Or.inl h5)
    · refine V_iload_n (i := 1) (sx_di dX11_was 4 rfl) rfl rfl ?_
      refine V_if_lt (tgt := 18) (sx_di dX11_was 5 rfl) (by decide) (fun h9 => ?_) (fun h9 => ?_)
      · refine V_iconst (v := -1) (sx_di dX11_was 9 rfl) (by decide) ?_
        refine V_iret (sx_di dX11_was 10 rfl) rfl (Nat.le_refl _) (Nat.le_refl _) ?_
        exact hno (Or.inr (Or.inl h9))
      · refine V_iload_n (i := 1) (sx_di dX11_was 6 rfl) rfl rfl ?_
        refine V_bipush (v := 60) (sx_di dX11_was 7 rfl) (by decide) ?_
        refine V_icmp_le (tgt := 20) (sx_di dX11_was 8 rfl) (by decide) (fun h15 => ?_) (fun h15 => ?_)
        · have h20 : ¬ (ih_ (a_m A) y = 0 ∨ x < 0 ∨ 60 < x) := fun z => z.elim h5 (fun z => z.elim h9 (Int32.not_lt.mpr h15))
          refine V_aload_n (i := 0) (sx_di dX11_was 11 rfl) rfl rfl ?_
          refine V_getR (sx_di dX11_was 12 rfl) fX11_95 (fun _ => rfl) (hB.k _ rfl) (hB.r _ _ rfl) ?_
          refine V_iload_n (i := 1) (sx_di dX11_was 13 rfl) rfl rfl ?_
          refine V_iload_n (i := 2) (sx_di dX11_was 14 rfl) rfl rfl ?_
          refine V_iload_n (i := 3) (sx_di dX11_was 15 rfl) rfl rfl ?_
          refine V_cV3 (mc' := 0) (ms' := 0) (M' := mX5_add) 1 (sx_di dX11_was 16 rfl) lX11_353 vX5_add (hB.k _ rfl) (by decide) rfl (Nat.le_of_ble_eq_true rfl) ⟨Nat.le_of_ble_eq_true rfl, Nat.le_of_ble_eq_true rfl⟩ ⟨Nat.le_refl _, Nat.le_refl _⟩ ?_
          refine c_X5_add (nt_373 hB) c9 hl (zb_ok hz) (fun h10 => ?_) (fun h10 => absurd h10 (by omega))
          refine V_ifN_eq (a := 0) (rfl) (by omega) (tgt := 43) (sx_di dX11_was 17 rfl) (by decide) (fun _ => ?_) (fun h30 => absurd h30 (by omega))
          refine V_iconst (v := -1) (sx_di dX11_was 22 rfl) (by decide) ?_
          refine V_iret (sx_di dX11_was 23 rfl) rfl (Nat.le_refl _) (Nat.le_refl _) ?_
          exact hno (Or.inr (Or.inr (Or.inr hfull)))
        · refine V_iconst (v := -1) (sx_di dX11_was 9 rfl) (by decide) ?_
          refine V_iret (sx_di dX11_was 10 rfl) rfl (Nat.le_refl _) (Nat.le_refl _) ?_
          exact hno (Or.inr (Or.inr (Or.inl (Int32.not_le.mp h15))))
  · refine V_aload_n (i := 0) (sx_di dX11_was 0 rfl) rfl rfl ?_
    refine V_iload_n (i := 2) (sx_di dX11_was 1 rfl) rfl rfl ?_
    refine V_cV1 (mc' := 0) (ms' := 0) (M' := mX11_isForm) 1 (sx_di dX11_was 2 rfl) lX11_202 vX11_isForm (hB.k _ rfl) (by decide) rfl (Nat.le_of_ble_eq_true rfl) ⟨Nat.le_of_ble_eq_true rfl, Nat.le_of_ble_eq_true rfl⟩ ⟨Nat.le_refl _, Nat.le_refl _⟩ ?_
    refine c_X11_isForm hB C.2.1 C.2.2.1 c3'.2.2.2.2.1 hm6 ?_
    refine V_if_eq (tgt := 18) (sx_di dX11_was 3 rfl) (by decide) (fun h5 => ?_) (fun h5 => ?_)
    · refine V_iconst (v := -1) (sx_di dX11_was 9 rfl) (by decide) ?_
      refine V_iret (sx_di dX11_was 10 rfl) rfl (Nat.le_refl _) (Nat.le_refl _) ?_
      exact hno (Or.inl h5)
    · refine V_iload_n (i := 1) (sx_di dX11_was 4 rfl) rfl rfl ?_
      refine V_if_lt (tgt := 18) (sx_di dX11_was 5 rfl) (by decide) (fun h9 => ?_) (fun h9 => ?_)
      · refine V_iconst (v := -1) (sx_di dX11_was 9 rfl) (by decide) ?_
        refine V_iret (sx_di dX11_was 10 rfl) rfl (Nat.le_refl _) (Nat.le_refl _) ?_
        exact hno (Or.inr (Or.inl h9))
      · refine V_iload_n (i := 1) (sx_di dX11_was 6 rfl) rfl rfl ?_
        refine V_bipush (v := 60) (sx_di dX11_was 7 rfl) (by decide) ?_
        refine V_icmp_le (tgt := 20) (sx_di dX11_was 8 rfl) (by decide) (fun h15 => ?_) (fun h15 => ?_)
        · have h20 : ¬ (ih_ (a_m A) y = 0 ∨ x < 0 ∨ 60 < x) := fun z => z.elim h5 (fun z => z.elim h9 (Int32.not_lt.mpr h15))
          refine V_aload_n (i := 0) (sx_di dX11_was 11 rfl) rfl rfl ?_
          refine V_getR (sx_di dX11_was 12 rfl) fX11_95 (fun _ => rfl) (hB.k _ rfl) (hB.r _ _ rfl) ?_
          refine V_iload_n (i := 1) (sx_di dX11_was 13 rfl) rfl rfl ?_
          refine V_iload_n (i := 2) (sx_di dX11_was 14 rfl) rfl rfl ?_
          refine V_iload_n (i := 3) (sx_di dX11_was 15 rfl) rfl rfl ?_
          refine V_cV3 (mc' := 0) (ms' := 0) (M' := mX5_add) 1 (sx_di dX11_was 16 rfl) lX11_353 vX5_add (hB.k _ rfl) (by decide) rfl (Nat.le_of_ble_eq_true rfl) ⟨Nat.le_of_ble_eq_true rfl, Nat.le_of_ble_eq_true rfl⟩ ⟨Nat.le_refl _, Nat.le_refl _⟩ ?_
          refine c_X5_add (nt_373 hB) c9 hl (zb_ok hz) (fun h10 => absurd h10 hfull) (fun h10 => ?_)
          refine V_ifN_eq (a := 1) (rfl) (by omega) (tgt := 43) (sx_di dX11_was 17 rfl) (by decide) (fun h30 => absurd h30 (by omega)) (fun _ => ?_)
          refine V_aload_n (i := 0) (sx_di dX11_was 18 rfl) rfl rfl ?_
          refine V_getR (sx_di dX11_was 19 rfl) fX11_95 (fun _ => rfl) (hB2.k _ rfl) (hB2.r _ _ rfl) ?_
          refine V_getI (sx_di dX11_was 20 rfl) fX11_150 (fun _ => rfl) (hB2.k _ rfl) ?_
          refine V_iv (y := nI ((a_Q A).length + 1)) (e3) ?_
          refine V_goto (tgt := 44) (sx_di dX11_was 21 rfl) (by decide) ?_
          refine V_iret (sx_di dX11_was 23 rfl) rfl (Nat.le_refl _) (Nat.le_refl _) ?_
          exact hyes (fun q => q.elim (fun z => h20 (Or.inl z)) (fun q => q.elim (fun z => h20 (Or.inr (Or.inl z))) (fun q => q.elim (fun z => h20 (Or.inr (Or.inr z))) hfull)))
        · refine V_iconst (v := -1) (sx_di dX11_was 9 rfl) (by decide) ?_
          refine V_iret (sx_di dX11_was 10 rfl) rfl (Nat.le_refl _) (Nat.le_refl _) ?_
          exact hno (Or.inr (Or.inr (Or.inl (Int32.not_le.mp h15))))
set_option maxHeartbeats 2000000 in
set_option maxRecDepth 20000 in
theorem oR_was {E : sxE} {A : AS} {w : hpW} (VA : AV A) (H : RR A w) (x y z : Int32) (hz : b01 z) : oR E mX12_was 3 [.ref 381, .int x, .int y, .int z] w A (q_was A x y z).1 (q_was A x y z).2 := by
  intro Q h
  obtain ⟨hB, h1, h2, h3, h4, h5, h6, ⟨h7, h8⟩, ⟨h9, h10⟩, h11, h12⟩ := id H
  have hn8 := VA.2.2.1.1
  have hm6 := VA.2.2.1.2.1
  have hl : (a_Q A).length ≤ 10 := VA.2.2.2.2.1.2.2.1
  have ec : hp_i w 381 45 = nI (a_Q A).length := h9
  have hno : (ih_ (a_m A) y = 0 ∨ x < 0 ∨ 60 < x ∨ (a_Q A).length = 10) → Q (some (.int (-1))) w := fun e => by
    rw [q_was, if_pos e] at h
    exact h w H fC_rf
  have hB2 : ly_B (hp_wi w (hp_u (hp_u (hp_u (hp_u (hp_i w) 406 (a_Q A).length x) 407 (a_Q A).length y) 408 (a_Q A).length z) 381 45 (nI ((a_Q A).length + 1)))) := ly_wi hB _
  have e : ∀ b, b ≠ 406 ∧ b ≠ 407 ∧ b ≠ 408 ∧ b ≠ 381 → hp_i (hp_wi w (hp_u (hp_u (hp_u (hp_u (hp_i w) 406 (a_Q A).length x) 407 (a_Q A).length y) 408 (a_Q A).length z) 381 45 (nI ((a_Q A).length + 1)))) b = hp_i w b := fun b z => by
    funext j
    rw [hp_i_wi, hp_u_nk _ _ (by omega), hp_u_nk _ _ (by omega), hp_u_nk _ _ (by omega), hp_u_nk _ _ (by omega)]
  have g1 : ∀ j, j ≠ 45 → hp_i (hp_wi w (hp_u (hp_u (hp_u (hp_u (hp_i w) 406 (a_Q A).length x) 407 (a_Q A).length y) 408 (a_Q A).length z) 381 45 (nI ((a_Q A).length + 1)))) 381 j = hp_i w 381 j := fun j z => by
    rw [hp_i_wi, hp_u_nk _ _ (by omega), hp_u_nk _ _ (by omega), hp_u_nk _ _ (by omega), hp_u_nk _ _ (by omega)]
  have hnt : nts_ (hp_i (hp_wi w (hp_u (hp_u (hp_u (hp_u (hp_i w) 406 (a_Q A).length x) 407 (a_Q A).length y) 408 (a_Q A).length z) 381 45 (nI ((a_Q A).length + 1))))) 406 407 408 (a_Q A ++ [(x, y, z)]) := by
    refine nts_ap h10 (fun j hj => ?_) ?_ <;> rw [hp_i_wi]
    · refine ⟨?_, ?_, ?_⟩ <;> rw [hp_u_nk _ _ (by omega), hp_u_nk _ _ (by omega), hp_u_nk _ _ (by omega), hp_u_nk _ _ (by omega)]
    · refine ⟨?_, ?_, ?_⟩
      · rw [hp_u_nk _ _ (by omega), hp_u_nk _ _ (by omega), hp_u_nk _ _ (by omega), hp_u_at]
      · rw [hp_u_nk _ _ (by omega), hp_u_nk _ _ (by omega), hp_u_at]
      · rw [hp_u_nk _ _ (by omega), hp_u_at]
  have hyes : ¬ (ih_ (a_m A) y = 0 ∨ x < 0 ∨ 60 < x ∨ (a_Q A).length = 10) → Q (some (.int (nI ((a_Q A).length + 1)))) (hp_wi w (hp_u (hp_u (hp_u (hp_u (hp_i w) 406 (a_Q A).length x) 407 (a_Q A).length y) 408 (a_Q A).length z) 381 45 (nI ((a_Q A).length + 1)))) := fun q => by
    rw [q_was, if_neg q] at h
    exact h _ ⟨hB2, tp_mv (g1 2 (by omega)) (e 382 (by omega)) h1, Rlaws_mv (fun b b1 b2 => e b (by omega)) (g1 13 (by omega)) (g1 29 (by omega)) h2, Rstr_mv (g1 25 (by omega)) (g1 26 (by omega)) (e 395 (by omega)) (e 396 (by omega)) (e 397 (by omega)) h3, (e 398 (by omega)).trans h4, Rkept_mv (g1 32 (by omega)) (e 400 (by omega)) h5, Rimg_mv (g1 47 (by omega)) (e 409 (by omega)) h6, ⟨(g1 40 (by omega)).trans h7, nts_mv (e 402 (by omega)) (e 403 (by omega)) (e 404 (by omega)) h8⟩, ⟨by rw [hp_i_wi, hp_u_at]; exact congrArg nI (by show _ = (a_Q A ++ [(x, y, z)]).length; simp), hnt⟩, fun j hj => by rw [e 399 (by omega)]; exact h11 j hj, (g1 30 (by omega)).trans h12⟩ (fC_wi (fun b hb => e b (by omega)))
  refine C_of (by decide +kernel) (Nat.le_of_ble_eq_true rfl) ?_
  refine V_aload_n (i := 0) (sx_di dX12_was 0 rfl) rfl rfl ?_
  refine V_iload_n (i := 2) (sx_di dX12_was 1 rfl) rfl rfl ?_
  refine V_cV1 (mc' := 0) (ms' := 0) (M' := mX12_isForm) 2 (sx_di dX12_was 2 rfl) lX12_314 vX12_isForm (hB.k _ rfl) (by decide) rfl (Nat.le_of_ble_eq_true rfl) ⟨Nat.le_of_ble_eq_true rfl, Nat.le_of_ble_eq_true rfl⟩ ⟨Nat.le_refl _, Nat.le_refl _⟩ ?_
  refine c_X12_isForm hB h3.2.1 hm6 ?_
  refine V_if_eq (tgt := 27) (sx_di dX12_was 3 rfl) (by decide) (fun h5_ => ?_) (fun h5_ => ?_)
  · refine V_iconst (v := -1) (sx_di dX12_was 13 rfl) (by decide) ?_
    refine V_iret (sx_di dX12_was 14 rfl) rfl (Nat.le_refl _) (Nat.le_refl _) ?_
    exact hno (Or.inl h5_)
  · refine V_iload_n (i := 1) (sx_di dX12_was 4 rfl) rfl rfl ?_
    refine V_iconst (v := 0) (sx_di dX12_was 5 rfl) (by decide) ?_
    refine V_bipush (v := 60) (sx_di dX12_was 6 rfl) (by decide) ?_
    refine V_cS3 (mc' := 0) (ms' := 0) (M' := mX12_in) 1 (sx_di dX12_was 7 rfl) lX12_214 vX12_in (Nat.le_of_ble_eq_true rfl) ⟨Nat.le_of_ble_eq_true rfl, Nat.le_of_ble_eq_true rfl⟩ ⟨Nat.le_refl _, Nat.le_refl _⟩ ?_
    refine c_X12_in ?_
    refine V_if_eq (tgt := 27) (sx_di dX12_was 8 rfl) (by decide) (fun h15 => ?_) (fun h15 => ?_)
    · refine V_iconst (v := -1) (sx_di dX12_was 13 rfl) (by decide) ?_
      refine V_iret (sx_di dX12_was 14 rfl) rfl (Nat.le_refl _) (Nat.le_refl _) ?_
      exact hno (Or.inr ((in_no h15).elim Or.inl (fun z => Or.inr (Or.inl z))))
    · have h16 := in_ye h15
      refine V_aload_n (i := 0) (sx_di dX12_was 9 rfl) rfl rfl ?_
      refine V_getI (sx_di dX12_was 10 rfl) fX12_273 (fun _ => rfl) (hB.k _ rfl) ?_
      refine V_iv (y := nI (a_Q A).length) (ec) ?_
      refine V_bipush (v := 10) (sx_di dX12_was 11 rfl) (by decide) ?_
      refine V_icN_ne (a := (a_Q A).length) (b := 10) (rfl) (rfl) (by omega) (by omega) (tgt := 29) (sx_di dX12_was 12 rfl) (by decide) (fun h24 => ?_) (fun h24 => ?_)
      · have hc0 : (nI (a_Q A).length).toNatClampNeg = (a_Q A).length := nI_clamp (by omega)
        refine V_aload_n (i := 0) (sx_di dX12_was 15 rfl) rfl rfl ?_
        refine V_getR (sx_di dX12_was 16 rfl) fX12_87 (fun _ => rfl) (hB.k _ rfl) (hB.r _ _ rfl) ?_
        refine V_aload_n (i := 0) (sx_di dX12_was 17 rfl) rfl rfl ?_
        refine V_getI (sx_di dX12_was 18 rfl) fX12_273 (fun _ => rfl) (hB.k _ rfl) ?_
        refine V_iv (y := nI (a_Q A).length) (ec) ?_
        refine V_iload_n (i := 1) (sx_di dX12_was 19 rfl) rfl rfl ?_
        refine V_iastN (n := 10) (j := (a_Q A).length) (sx_di dX12_was 20 rfl) (hB.k _ rfl) (rfl) (by omega) (by omega) ?_
        refine V_aload_n (i := 0) (sx_di dX12_was 21 rfl) rfl rfl ?_
        refine V_getR (sx_di dX12_was 22 rfl) fX12_90 (fun _ => rfl) (hB.k _ rfl) (hB.r _ _ rfl) ?_
        refine V_aload_n (i := 0) (sx_di dX12_was 23 rfl) rfl rfl ?_
        refine V_getI (sx_di dX12_was 24 rfl) fX12_273 (fun _ => rfl) (hB.k _ rfl) ?_
        refine V_iv (y := nI (a_Q A).length) (by rw [hp_i_si, if_neg (by omega)]; exact ec) ?_
        refine V_iload_n (i := 2) (sx_di dX12_was 25 rfl) rfl rfl ?_
        refine V_iastN (n := 10) (j := (a_Q A).length) (sx_di dX12_was 26 rfl) (hB.k _ rfl) (rfl) (by omega) (by omega) ?_
        refine V_aload_n (i := 0) (sx_di dX12_was 27 rfl) rfl rfl ?_
        refine V_getR (sx_di dX12_was 28 rfl) fX12_93 (fun _ => rfl) (hB.k _ rfl) (hB.r _ _ rfl) ?_
        refine V_aload_n (i := 0) (sx_di dX12_was 29 rfl) rfl rfl ?_
        refine V_getI (sx_di dX12_was 30 rfl) fX12_273 (fun _ => rfl) (hB.k _ rfl) ?_
        refine V_iv (y := nI (a_Q A).length) (by rw [hp_i_si, if_neg (by omega), hp_i_si, if_neg (by omega)]; exact ec) ?_
        refine V_iload_n (i := 3) (sx_di dX12_was 31 rfl) rfl rfl ?_
        refine V_zast (sx_di dX12_was 32 rfl) (hB.k _ rfl) (vp_in_nI (show (a_Q A).length < 10 by omega) (by decide)) (zb_ok hz) ?_
        rw [hc0]
        refine V_aload_n (i := 0) (sx_di dX12_was 33 rfl) rfl rfl ?_
        refine V_dup (sx_di dX12_was 34 rfl) rfl ?_
        refine V_getI (sx_di dX12_was 35 rfl) fX12_273 (fun _ => rfl) (hB.k _ rfl) ?_
        refine V_iv (y := nI (a_Q A).length) (by rw [hp_i_si, if_neg (by omega), hp_i_si, if_neg (by omega), hp_i_si, if_neg (by omega)]; exact ec) ?_
        refine V_iconst (v := 1) (sx_di dX12_was 36 rfl) (by decide) ?_
        refine V_iadd (sx_di dX12_was 37 rfl) ?_
        refine V_iv (y := nI ((a_Q A).length + 1)) (nI_add _ 1) ?_
        refine V_putI (sx_di dX12_was 38 rfl) fX12_273 (fun _ => rfl) rfl (hB.k _ rfl) (rfl) (rfl) ?_
        refine V_aload_n (i := 0) (sx_di dX12_was 39 rfl) rfl rfl ?_
        refine V_getI (sx_di dX12_was 40 rfl) fX12_273 (fun _ => rfl) (hB.k _ rfl) ?_
        refine V_iv (y := nI ((a_Q A).length + 1)) (hp_i_at _ _ _ _) ?_
        refine V_iret (sx_di dX12_was 41 rfl) rfl (Nat.le_refl _) (Nat.le_refl _) ?_
        exact hyes (fun q => q.elim h5_ (fun q => q.elim (fun z => h16 (Or.inl z)) (fun q => q.elim (fun z => h16 (Or.inr z)) h24)))
      · refine V_iconst (v := -1) (sx_di dX12_was 13 rfl) (by decide) ?_
        refine V_iret (sx_di dX12_was 14 rfl) rfl (Nat.le_refl _) (Nat.le_refl _) ?_
        exact hno (Or.inr (Or.inr (Or.inr h24)))

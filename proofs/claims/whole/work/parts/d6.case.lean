/-! the case of house in the law's loop -/
theorem lh_cmp (x : Int64) : lg_cmp x x = 0 := by
  unfold lg_cmp
  rw [if_neg (show ¬ x > x from Int64.lt_irrefl), if_pos rfl]
theorem sj_at9 {w : hpW} {a k : Nat} {v : Int64} : hp_j (hp_sj w a k v) a k = v := by
  show hp_u (hp_j w) a k v a k = v
  unfold hp_u
  rw [if_pos ⟨rfl, rfl⟩]
theorem CR_sj {A : AS} {w : hpW} {v : Int64} (VA : AV A) (H : CR A w) : CR A (hp_sj w 410 0 v) := CR_mv VA.2.1.1 H.1 (fun _ _ _ => rfl) (fun _ _ _ => rfl) H
theorem RR_sj {A : AS} {w : hpW} {v : Int64} (H : RR A w) : RR A (hp_sj w 410 0 v) := RR_mv H.1 (fun _ _ _ _ _ _ _ => rfl) (fun _ _ => rfl) H
set_option maxHeartbeats 2000000 in
set_option maxRecDepth 20000 in
theorem hs9_of {E : sxE} {n : Nat} {f : Nat → Int32} (hE : XE9 E) (hS : scr9 E n f) : hs9 E n f := by
  intro I ce sl A w Q hn hi hce VA HC HR K
  refine V_aload_n (i := 1) (sx_di dL_q5 0 rfl) rfl rfl ?_
  refine V_aload_n (i := 0) (sx_di dL_q5 1 rfl) rfl rfl ?_
  refine V_iload (sx_di dL_q5 2 rfl) rfl ?_
  refine V_iconst (v := 1) (sx_di dL_q5 3 rfl) (by decide) ?_
  refine V_iadd (sx_di dL_q5 4 rfl) ?_
  refine V_ialdO (N := n) (f := f) (sx_di dL_q5 5 rfl) hS (scr_in (k := 1) hn hi (by decide)) ?_
  refine V_aload_n (i := 0) (sx_di dL_q5 6 rfl) rfl rfl ?_
  refine V_iload (sx_di dL_q5 7 rfl) rfl ?_
  refine V_iconst (v := 2) (sx_di dL_q5 8 rfl) (by decide) ?_
  refine V_iadd (sx_di dL_q5 9 rfl) ?_
  refine V_ialdO (N := n) (f := f) (sx_di dL_q5 10 rfl) hS (scr_in (k := 2) hn hi (by decide)) ?_
  refine V_aload_n (i := 3) (sx_di dL_q5 11 rfl) rfl rfl ?_
  refine V_callSW (as := [.ref 16, .int (f (nI I + 1).toNatClampNeg), .int (f (nI I + 2).toNatClampNeg), .ref 410]) (rest := []) (d := 7) (mc' := 64) (ms' := 1024) (M' := mL_house) (hh := [(0, 10, 13, 13)]) (n := 4) (sx_di dL_q5 12 rfl) (sx_a5 49 rfl rfl) lh_code lh_init lh_static ⟨by decide, by decide⟩ (by decide +kernel) (Nat.le_of_ble_eq_true rfl) rfl (Nat.le_of_ble_eq_true rfl) ⟨Nat.le_of_ble_eq_true rfl, Nat.le_of_ble_eq_true rfl⟩ hce ?_
  refine m_lh hE VA HC ⟨fun ok k hk hx w1 C1 f1 => ?_, fun nok d => ?_⟩
  · have R1 := RR_sj (v := (hv9 A k (f (nI I + 2).toNatClampNeg)).toInt64) (RR_fR f1 C1.1 HR)
    have C2 := CR_sj (v := (hv9 A k (f (nI I + 2).toNatClampNeg)).toInt64) VA C1
    refine V_istore (sx_di dL_q5 13 rfl) (by decide) (rfl) ?_
    refine V_aload_n (i := 2) (sx_di dL_q5 14 rfl) rfl rfl ?_
    refine V_aload_n (i := 0) (sx_di dL_q5 15 rfl) rfl rfl ?_
    refine V_iload (sx_di dL_q5 16 rfl) rfl ?_
    refine V_iconst (v := 1) (sx_di dL_q5 17 rfl) (by decide) ?_
    refine V_iadd (sx_di dL_q5 18 rfl) ?_
    refine V_ialdO (N := n) (f := f) (sx_di dL_q5 19 rfl) hS (scr_in (k := 1) hn hi (by decide)) ?_
    refine V_aload_n (i := 0) (sx_di dL_q5 20 rfl) rfl rfl ?_
    refine V_iload (sx_di dL_q5 21 rfl) rfl ?_
    refine V_iconst (v := 2) (sx_di dL_q5 22 rfl) (by decide) ?_
    refine V_iadd (sx_di dL_q5 23 rfl) ?_
    refine V_ialdO (N := n) (f := f) (sx_di dL_q5 24 rfl) hS (scr_in (k := 2) hn hi (by decide)) ?_
    refine V_cV2 (mc' := 0) (ms' := 0) (M' := mX12_house) 7 (sx_di dL_q5 25 rfl) lL_47 vX12_house (R1.1.k 381 rfl) (by decide) rfl (Nat.le_of_ble_eq_true rfl) ⟨Nat.le_of_ble_eq_true rfl, Nat.le_of_ble_eq_true rfl⟩ hce ?_
    refine e_houseR VA R1 (fun nok => absurd ok nok) (fun _ k2 hk2 hx2 w2 R2 f2 i2 j2 => ?_)
    have hn8 := VA.2.2.1.1
    have ek : k2 = k := (nI_eq (by omega) (by omega)).mp (hx2.symm.trans hx)
    subst ek
    refine V_istore (sx_di dL_q5 26 rfl) (by decide) (rfl) ?_
    refine V_aload_n (i := 2) (sx_di dL_q5 27 rfl) rfl rfl ?_
    refine V_cV0 (mc' := 0) (ms' := 0) (M' := mX12_thrown) 1 (sx_di dL_q5 28 rfl) lL_48 vX12_thrown (R2.1.k 381 rfl) (by decide) rfl (Nat.le_of_ble_eq_true rfl) ⟨Nat.le_of_ble_eq_true rfl, Nat.le_of_ble_eq_true rfl⟩ hce ?_
    refine c_X12_thrown R2.1 ?_
    rw [i2]
    refine V_iload (sx_di dL_q5 29 rfl) rfl ?_
    refine V_icmp_eq (tgt := 461) (sx_di dL_q5 30 rfl) (by decide) (fun _ => ?_) (fun hne => absurd rfl hne)
    refine V_iload (sx_di dL_q5 33 rfl) rfl ?_
    refine V_if_ne (tgt := 478) (sx_di dL_q5 34 rfl) (by decide) (fun hne => absurd rfl hne) (fun _ => ?_)
    refine V_aload_n (i := 3) (sx_di dL_q5 35 rfl) rfl rfl ?_
    refine V_iconst (v := 0) (sx_di dL_q5 36 rfl) (by decide) ?_
    refine V_lald (n := 1) (sx_di dL_q5 37 rfl) (R2.1.k 410 rfl) (vp_in_nI (n := 0) (by decide) (by decide)) ?_
    rw [j2]
    refine V_iload (sx_di dL_q5 38 rfl) rfl ?_
    refine V_i2l (sx_di dL_q5 39 rfl) ?_
    refine V_lcmp (sx_di dL_q5 40 rfl) ?_
    have ej : hp_j (hp_sj w1 410 0 (hv9 A k2 (f (nI I + 2).toNatClampNeg)).toInt64) 410 (Int32.toNatClampNeg 0) = (hv9 A k2 (f (nI I + 2).toNatClampNeg)).toInt64 := by
      rw [show Int32.toNatClampNeg 0 = 0 by decide]
      exact sj_at9
    rw [ej, lh_cmp]
    refine V_if_eq (tgt := 478) (sx_di dL_q5 41 rfl) (by decide) (fun _ => ?_) (fun hne => absurd rfl hne)
    refine V_goto (tgt := 1749) (sx_di dL_q5 44 rfl) (by decide) ?_
    exact V_subk (K A w2 _ _ (Nat.le_refl _) (Nat.le_refl _) VA (CR_fC VA f2 R2.1 C2) R2) ⟨rfl, rfl, rfl, rfl, rfl, trivial⟩
  · have R1 := RR_wn (d := d) HR
    have C2 := CR_wn (d := d) HC
    refine V_istore (sx_di dL_q5 13 rfl) (by decide) (rfl) ?_
    refine V_aload_n (i := 2) (sx_di dL_q5 14 rfl) rfl rfl ?_
    refine V_aload_n (i := 0) (sx_di dL_q5 15 rfl) rfl rfl ?_
    refine V_iload (sx_di dL_q5 16 rfl) rfl ?_
    refine V_iconst (v := 1) (sx_di dL_q5 17 rfl) (by decide) ?_
    refine V_iadd (sx_di dL_q5 18 rfl) ?_
    refine V_ialdO (N := n) (f := f) (sx_di dL_q5 19 rfl) hS (scr_in (k := 1) hn hi (by decide)) ?_
    refine V_aload_n (i := 0) (sx_di dL_q5 20 rfl) rfl rfl ?_
    refine V_iload (sx_di dL_q5 21 rfl) rfl ?_
    refine V_iconst (v := 2) (sx_di dL_q5 22 rfl) (by decide) ?_
    refine V_iadd (sx_di dL_q5 23 rfl) ?_
    refine V_ialdO (N := n) (f := f) (sx_di dL_q5 24 rfl) hS (scr_in (k := 2) hn hi (by decide)) ?_
    refine V_cV2 (mc' := 0) (ms' := 0) (M' := mX12_house) 7 (sx_di dL_q5 25 rfl) lL_47 vX12_house (R1.1.k 381 rfl) (by decide) rfl (Nat.le_of_ble_eq_true rfl) ⟨Nat.le_of_ble_eq_true rfl, Nat.le_of_ble_eq_true rfl⟩ hce ?_
    refine e_houseR VA R1 (fun _ w2 R2 f2 i2 _ => ?_) (fun ok => absurd ok nok)
    refine V_istore (sx_di dL_q5 26 rfl) (by decide) (rfl) ?_
    refine V_aload_n (i := 2) (sx_di dL_q5 27 rfl) rfl rfl ?_
    refine V_cV0 (mc' := 0) (ms' := 0) (M' := mX12_thrown) 1 (sx_di dL_q5 28 rfl) lL_48 vX12_thrown (R2.1.k 381 rfl) (by decide) rfl (Nat.le_of_ble_eq_true rfl) ⟨Nat.le_of_ble_eq_true rfl, Nat.le_of_ble_eq_true rfl⟩ hce ?_
    refine c_X12_thrown R2.1 ?_
    rw [i2]
    refine V_iload (sx_di dL_q5 29 rfl) rfl ?_
    refine V_icmp_eq (tgt := 461) (sx_di dL_q5 30 rfl) (by decide) (fun _ => ?_) (fun hne => absurd rfl hne)
    refine V_iload (sx_di dL_q5 33 rfl) rfl ?_
    refine V_if_ne (tgt := 478) (sx_di dL_q5 34 rfl) (by decide) (fun _ => ?_) (fun z => absurd z (by decide))
    refine V_goto (tgt := 1749) (sx_di dL_q5 44 rfl) (by decide) ?_
    exact V_subk (K A w2 _ _ (Nat.le_refl _) (Nat.le_refl _) VA (CR_fC VA f2 R2.1 C2) R2) ⟨rfl, rfl, rfl, rfl, rfl, trivial⟩

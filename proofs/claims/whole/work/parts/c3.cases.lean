/-! the law's cases: class and reference answer alike -/
def lsL (I : Nat) : List (Nat × Value) := [(0, .ref 0), (1, .ref 16), (2, .ref 381), (3, .ref 410), (4, .int (nI I))]
theorem scr_in {I k n : Nat} (hn : n ≤ 3072) (hi : I + 6 ≤ n) (hk : k < 6) : vp_in (nI I + nI k) n := by
  rw [show nI I + nI k = nI (I + k) by rw [nI_add]]
  exact vp_in_nI (by omega) (by omega)
/-- what a case is given, and what it owes -/
def cs9 (E : sxE) (n : Nat) (f : Nat → Int32) (pc : Nat) : Prop := ∀ (I ce sl : Nat) (A : AS) (w : hpW) (Q : Option Value → hpW → Prop), n ≤ 3072 → I + 6 ≤ n → ce ≤ 601024 ∧ sl ≤ 7293034 → AV A → CR A w → RR A w → (∀ A2 w2, AV A2 → CR A2 w2 → RR A2 w2 → V E mL_law room_1 601024 7293034 ce sl 1749 (lsL I) [] w2 Q) → V E mL_law room_1 601024 7293034 ce sl pc (lsL I) [] w Q
def scr9 (E : sxE) (n : Nat) (f : Nat → Int32) : Prop := ∀ U H, sx_X E U H → va_T .int (sx_ad E 0) n (fun j => .int (f j)) (ox_A E) U H
set_option maxHeartbeats 2000000 in
set_option maxRecDepth 20000 in
theorem cs_feed {E : sxE} {n : Nat} {f : Nat → Int32} (hX : XO E) (hS : scr9 E n f) : cs9 E n f 240 := by
  intro I ce sl A w Q hn hi hce VA HC HR K
  refine V_aload_n (i := 1) (sx_di dL_q0 0 rfl) rfl rfl ?_
  refine V_aload_n (i := 0) (sx_di dL_q0 1 rfl) rfl rfl ?_
  refine V_iload (sx_di dL_q0 2 rfl) rfl ?_
  refine V_iconst (v := 1) (sx_di dL_q0 3 rfl) (by decide) ?_
  refine V_iadd (sx_di dL_q0 4 rfl) ?_
  refine V_ialdO (N := n) (f := f) (sx_di dL_q0 5 rfl) hS (scr_in (k := 1) hn hi (by decide)) ?_
  refine V_aload_n (i := 0) (sx_di dL_q0 6 rfl) rfl rfl ?_
  refine V_iload (sx_di dL_q0 7 rfl) rfl ?_
  refine V_iconst (v := 2) (sx_di dL_q0 8 rfl) (by decide) ?_
  refine V_iadd (sx_di dL_q0 9 rfl) ?_
  refine V_ialdO (N := n) (f := f) (sx_di dL_q0 10 rfl) hS (scr_in (k := 2) hn hi (by decide)) ?_
  refine V_aload_n (i := 0) (sx_di dL_q0 11 rfl) rfl rfl ?_
  refine V_iload (sx_di dL_q0 12 rfl) rfl ?_
  refine V_iconst (v := 3) (sx_di dL_q0 13 rfl) (by decide) ?_
  refine V_iadd (sx_di dL_q0 14 rfl) ?_
  refine V_ialdO (N := n) (f := f) (sx_di dL_q0 15 rfl) hS (scr_in (k := 3) hn hi (by decide)) ?_
  refine V_aload_n (i := 0) (sx_di dL_q0 16 rfl) rfl rfl ?_
  refine V_iload (sx_di dL_q0 17 rfl) rfl ?_
  refine V_iconst (v := 4) (sx_di dL_q0 18 rfl) (by decide) ?_
  refine V_iadd (sx_di dL_q0 19 rfl) ?_
  refine V_ialdO (N := n) (f := f) (sx_di dL_q0 20 rfl) hS (scr_in (k := 4) hn hi (by decide)) ?_
  refine V_aload_n (i := 0) (sx_di dL_q0 21 rfl) rfl rfl ?_
  refine V_iload (sx_di dL_q0 22 rfl) rfl ?_
  refine V_iconst (v := 5) (sx_di dL_q0 23 rfl) (by decide) ?_
  refine V_iadd (sx_di dL_q0 24 rfl) ?_
  refine V_ialdO (N := n) (f := f) (sx_di dL_q0 25 rfl) hS (scr_in (k := 5) hn hi (by decide)) ?_
  refine V_cV5 (mc' := 0) (ms' := 0) (M' := mX11_feed) 2 (sx_di dL_q0 26 rfl) lL_19 vX11_feed (HC.1.k 16 rfl) (by decide) rfl (Nat.le_of_ble_eq_true rfl) ⟨Nat.le_of_ble_eq_true rfl, Nat.le_of_ble_eq_true rfl⟩ hce ?_
  refine (oC_feed VA HC _ _ _ _ _) _ (fun w1 C1 f1 => ?_)
  have R1 := RR_fR f1 C1.1 HR
  refine V_aload_n (i := 2) (sx_di dL_q0 27 rfl) rfl rfl ?_
  refine V_aload_n (i := 0) (sx_di dL_q0 28 rfl) rfl rfl ?_
  refine V_iload (sx_di dL_q0 29 rfl) rfl ?_
  refine V_iconst (v := 1) (sx_di dL_q0 30 rfl) (by decide) ?_
  refine V_iadd (sx_di dL_q0 31 rfl) ?_
  refine V_ialdO (N := n) (f := f) (sx_di dL_q0 32 rfl) hS (scr_in (k := 1) hn hi (by decide)) ?_
  refine V_aload_n (i := 0) (sx_di dL_q0 33 rfl) rfl rfl ?_
  refine V_iload (sx_di dL_q0 34 rfl) rfl ?_
  refine V_iconst (v := 2) (sx_di dL_q0 35 rfl) (by decide) ?_
  refine V_iadd (sx_di dL_q0 36 rfl) ?_
  refine V_ialdO (N := n) (f := f) (sx_di dL_q0 37 rfl) hS (scr_in (k := 2) hn hi (by decide)) ?_
  refine V_aload_n (i := 0) (sx_di dL_q0 38 rfl) rfl rfl ?_
  refine V_iload (sx_di dL_q0 39 rfl) rfl ?_
  refine V_iconst (v := 3) (sx_di dL_q0 40 rfl) (by decide) ?_
  refine V_iadd (sx_di dL_q0 41 rfl) ?_
  refine V_ialdO (N := n) (f := f) (sx_di dL_q0 42 rfl) hS (scr_in (k := 3) hn hi (by decide)) ?_
  refine V_aload_n (i := 0) (sx_di dL_q0 43 rfl) rfl rfl ?_
  refine V_iload (sx_di dL_q0 44 rfl) rfl ?_
  refine V_iconst (v := 4) (sx_di dL_q0 45 rfl) (by decide) ?_
  refine V_iadd (sx_di dL_q0 46 rfl) ?_
  refine V_ialdO (N := n) (f := f) (sx_di dL_q0 47 rfl) hS (scr_in (k := 4) hn hi (by decide)) ?_
  refine V_aload_n (i := 0) (sx_di dL_q0 48 rfl) rfl rfl ?_
  refine V_iload (sx_di dL_q0 49 rfl) rfl ?_
  refine V_iconst (v := 5) (sx_di dL_q0 50 rfl) (by decide) ?_
  refine V_iadd (sx_di dL_q0 51 rfl) ?_
  refine V_ialdO (N := n) (f := f) (sx_di dL_q0 52 rfl) hS (scr_in (k := 5) hn hi (by decide)) ?_
  refine V_cV5 (mc' := 0) (ms' := 0) (M' := mX12_feed) 2 (sx_di dL_q0 53 rfl) lL_23 vX12_feed (R1.1.k 381 rfl) (by decide) rfl (Nat.le_of_ble_eq_true rfl) ⟨Nat.le_of_ble_eq_true rfl, Nat.le_of_ble_eq_true rfl⟩ hce ?_
  refine (oR_feed VA R1 _ _ _ _ _) _ (fun w2 R2 f2 => ?_)
  refine V_icmp_eq (tgt := 1749) (sx_di dL_q0 54 rfl) (by decide) (fun _ => ?_) (fun hne => absurd rfl hne)
  exact K _ w2 (AV_feed VA _ _ _ _ _) (CR_fC (AV_feed VA _ _ _ _ _) f2 R2.1 C1) R2
set_option maxHeartbeats 2000000 in
set_option maxRecDepth 20000 in
theorem cs_end {E : sxE} {n : Nat} {f : Nat → Int32} (hX : XO E) (hS : scr9 E n f) : cs9 E n f 313 := by
  intro I ce sl A w Q hn hi hce VA HC HR K
  refine V_aload_n (i := 1) (sx_di dL_q1 0 rfl) rfl rfl ?_
  refine V_aload_n (i := 0) (sx_di dL_q1 1 rfl) rfl rfl ?_
  refine V_iload (sx_di dL_q1 2 rfl) rfl ?_
  refine V_iconst (v := 1) (sx_di dL_q1 3 rfl) (by decide) ?_
  refine V_iadd (sx_di dL_q1 4 rfl) ?_
  refine V_ialdO (N := n) (f := f) (sx_di dL_q1 5 rfl) hS (scr_in (k := 1) hn hi (by decide)) ?_
  refine V_cV1 (mc' := 0) (ms' := 0) (M' := mX11_end) 1 (sx_di dL_q1 6 rfl) lL_24 vX11_end (HC.1.k 16 rfl) (by decide) rfl (Nat.le_of_ble_eq_true rfl) ⟨Nat.le_of_ble_eq_true rfl, Nat.le_of_ble_eq_true rfl⟩ hce ?_
  refine (oC_end VA HC _) _ (fun w1 C1 f1 => ?_)
  have R1 := RR_fR f1 C1.1 HR
  refine V_aload_n (i := 2) (sx_di dL_q1 7 rfl) rfl rfl ?_
  refine V_aload_n (i := 0) (sx_di dL_q1 8 rfl) rfl rfl ?_
  refine V_iload (sx_di dL_q1 9 rfl) rfl ?_
  refine V_iconst (v := 1) (sx_di dL_q1 10 rfl) (by decide) ?_
  refine V_iadd (sx_di dL_q1 11 rfl) ?_
  refine V_ialdO (N := n) (f := f) (sx_di dL_q1 12 rfl) hS (scr_in (k := 1) hn hi (by decide)) ?_
  refine V_cV1 (mc' := 0) (ms' := 0) (M' := mX12_end) 1 (sx_di dL_q1 13 rfl) lL_28 vX12_end (R1.1.k 381 rfl) (by decide) rfl (Nat.le_of_ble_eq_true rfl) ⟨Nat.le_of_ble_eq_true rfl, Nat.le_of_ble_eq_true rfl⟩ hce ?_
  refine (oR_end VA R1 _) _ (fun w2 R2 f2 => ?_)
  refine V_icmp_eq (tgt := 1749) (sx_di dL_q1 14 rfl) (by decide) (fun _ => ?_) (fun hne => absurd rfl hne)
  exact K _ w2 (AV_end VA _) (CR_fC (AV_end VA _) f2 R2.1 C1) R2
set_option maxHeartbeats 2000000 in
set_option maxRecDepth 20000 in
theorem cs_fault {E : sxE} {n : Nat} {f : Nat → Int32} (hX : XO E) (hS : scr9 E n f) : cs9 E n f 338 := by
  intro I ce sl A w Q hn hi hce VA HC HR K
  refine V_aload_n (i := 1) (sx_di dL_q2 0 rfl) rfl rfl ?_
  refine V_aload_n (i := 0) (sx_di dL_q2 1 rfl) rfl rfl ?_
  refine V_iload (sx_di dL_q2 2 rfl) rfl ?_
  refine V_iconst (v := 1) (sx_di dL_q2 3 rfl) (by decide) ?_
  refine V_iadd (sx_di dL_q2 4 rfl) ?_
  refine V_ialdO (N := n) (f := f) (sx_di dL_q2 5 rfl) hS (scr_in (k := 1) hn hi (by decide)) ?_
  refine V_cV1 (mc' := 0) (ms' := 0) (M' := mX11_fault) 41 (sx_di dL_q2 6 rfl) lL_29 vX11_fault (HC.1.k 16 rfl) (by decide) rfl (Nat.le_of_ble_eq_true rfl) ⟨Nat.le_of_ble_eq_true rfl, Nat.le_of_ble_eq_true rfl⟩ hce ?_
  refine (oC_fault hX VA HC _) _ (fun w1 C1 f1 => ?_)
  have R1 := RR_fR f1 C1.1 HR
  refine V_aload_n (i := 2) (sx_di dL_q2 7 rfl) rfl rfl ?_
  refine V_aload_n (i := 0) (sx_di dL_q2 8 rfl) rfl rfl ?_
  refine V_iload (sx_di dL_q2 9 rfl) rfl ?_
  refine V_iconst (v := 1) (sx_di dL_q2 10 rfl) (by decide) ?_
  refine V_iadd (sx_di dL_q2 11 rfl) ?_
  refine V_ialdO (N := n) (f := f) (sx_di dL_q2 12 rfl) hS (scr_in (k := 1) hn hi (by decide)) ?_
  refine V_cV1 (mc' := 0) (ms' := 0) (M' := mX12_fault) 56 (sx_di dL_q2 13 rfl) lL_33 vX12_fault (R1.1.k 381 rfl) (by decide) rfl (Nat.le_of_ble_eq_true rfl) ⟨Nat.le_of_ble_eq_true rfl, Nat.le_of_ble_eq_true rfl⟩ hce ?_
  refine (oR_fault VA R1 _) _ (fun w2 R2 f2 => ?_)
  refine V_icmp_eq (tgt := 1749) (sx_di dL_q2 14 rfl) (by decide) (fun _ => ?_) (fun hne => absurd rfl hne)
  exact K _ w2 VA (CR_fC VA f2 R2.1 C1) R2
set_option maxHeartbeats 2000000 in
set_option maxRecDepth 20000 in
theorem cs_text {E : sxE} {n : Nat} {f : Nat → Int32} (hX : XO E) (hS : scr9 E n f) : cs9 E n f 363 := by
  intro I ce sl A w Q hn hi hce VA HC HR K
  refine V_aload_n (i := 1) (sx_di dL_q3 0 rfl) rfl rfl ?_
  refine V_aload_n (i := 0) (sx_di dL_q3 1 rfl) rfl rfl ?_
  refine V_iload (sx_di dL_q3 2 rfl) rfl ?_
  refine V_iconst (v := 1) (sx_di dL_q3 3 rfl) (by decide) ?_
  refine V_iadd (sx_di dL_q3 4 rfl) ?_
  refine V_ialdO (N := n) (f := f) (sx_di dL_q3 5 rfl) hS (scr_in (k := 1) hn hi (by decide)) ?_
  refine V_cV1 (mc' := 0) (ms' := 0) (M' := mX11_text) 41 (sx_di dL_q3 6 rfl) lL_34 vX11_text (HC.1.k 16 rfl) (by decide) rfl (Nat.le_of_ble_eq_true rfl) ⟨Nat.le_of_ble_eq_true rfl, Nat.le_of_ble_eq_true rfl⟩ hce ?_
  refine (oC_text hX VA HC _) _ (fun w1 C1 f1 => ?_)
  have R1 := RR_fR f1 C1.1 HR
  refine V_aload_n (i := 2) (sx_di dL_q3 7 rfl) rfl rfl ?_
  refine V_aload_n (i := 0) (sx_di dL_q3 8 rfl) rfl rfl ?_
  refine V_iload (sx_di dL_q3 9 rfl) rfl ?_
  refine V_iconst (v := 1) (sx_di dL_q3 10 rfl) (by decide) ?_
  refine V_iadd (sx_di dL_q3 11 rfl) ?_
  refine V_ialdO (N := n) (f := f) (sx_di dL_q3 12 rfl) hS (scr_in (k := 1) hn hi (by decide)) ?_
  refine V_cV1 (mc' := 0) (ms' := 0) (M' := mX12_text) 56 (sx_di dL_q3 13 rfl) lL_37 vX12_text (R1.1.k 381 rfl) (by decide) rfl (Nat.le_of_ble_eq_true rfl) ⟨Nat.le_of_ble_eq_true rfl, Nat.le_of_ble_eq_true rfl⟩ hce ?_
  refine (oR_text VA R1 _) _ (fun w2 R2 f2 => ?_)
  refine V_icmp_eq (tgt := 1749) (sx_di dL_q3 14 rfl) (by decide) (fun _ => ?_) (fun hne => absurd rfl hne)
  exact K _ w2 (AV_text VA _) (CR_fC (AV_text VA _) f2 R2.1 C1) R2
set_option maxHeartbeats 2000000 in
set_option maxRecDepth 20000 in
theorem cs_rule {E : sxE} {n : Nat} {f : Nat → Int32} (hX : XO E) (hS : scr9 E n f) : cs9 E n f 388 := by
  intro I ce sl A w Q hn hi hce VA HC HR K
  refine V_aload_n (i := 1) (sx_di dL_q4 0 rfl) rfl rfl ?_
  refine V_aload_n (i := 0) (sx_di dL_q4 1 rfl) rfl rfl ?_
  refine V_iload (sx_di dL_q4 2 rfl) rfl ?_
  refine V_iconst (v := 1) (sx_di dL_q4 3 rfl) (by decide) ?_
  refine V_iadd (sx_di dL_q4 4 rfl) ?_
  refine V_ialdO (N := n) (f := f) (sx_di dL_q4 5 rfl) hS (scr_in (k := 1) hn hi (by decide)) ?_
  refine V_cV1 (mc' := 0) (ms' := 0) (M' := mX11_rule) 3 (sx_di dL_q4 6 rfl) lL_38 vX11_rule (HC.1.k 16 rfl) (by decide) rfl (Nat.le_of_ble_eq_true rfl) ⟨Nat.le_of_ble_eq_true rfl, Nat.le_of_ble_eq_true rfl⟩ hce ?_
  refine (oC_rule VA HC _) _ (fun w1 C1 f1 => ?_)
  have R1 := RR_fR f1 C1.1 HR
  refine V_aload_n (i := 2) (sx_di dL_q4 7 rfl) rfl rfl ?_
  refine V_aload_n (i := 0) (sx_di dL_q4 8 rfl) rfl rfl ?_
  refine V_iload (sx_di dL_q4 9 rfl) rfl ?_
  refine V_iconst (v := 1) (sx_di dL_q4 10 rfl) (by decide) ?_
  refine V_iadd (sx_di dL_q4 11 rfl) ?_
  refine V_ialdO (N := n) (f := f) (sx_di dL_q4 12 rfl) hS (scr_in (k := 1) hn hi (by decide)) ?_
  refine V_cV1 (mc' := 0) (ms' := 0) (M' := mX12_rule) 2 (sx_di dL_q4 13 rfl) lL_41 vX12_rule (R1.1.k 381 rfl) (by decide) rfl (Nat.le_of_ble_eq_true rfl) ⟨Nat.le_of_ble_eq_true rfl, Nat.le_of_ble_eq_true rfl⟩ hce ?_
  refine (oR_rule VA R1 _) _ (fun w2 R2 f2 => ?_)
  refine V_icmp_eq (tgt := 1749) (sx_di dL_q4 14 rfl) (by decide) (fun _ => ?_) (fun hne => absurd rfl hne)
  exact K _ w2 VA (CR_fC VA f2 R2.1 C1) R2
set_option maxHeartbeats 2000000 in
set_option maxRecDepth 20000 in
theorem cs_form {E : sxE} {n : Nat} {f : Nat → Int32} (hX : XO E) (hS : scr9 E n f) : cs9 E n f 481 := by
  intro I ce sl A w Q hn hi hce VA HC HR K
  refine V_aload_n (i := 1) (sx_di dL_q6 0 rfl) rfl rfl ?_
  refine V_aload_n (i := 0) (sx_di dL_q6 1 rfl) rfl rfl ?_
  refine V_iload (sx_di dL_q6 2 rfl) rfl ?_
  refine V_iconst (v := 1) (sx_di dL_q6 3 rfl) (by decide) ?_
  refine V_iadd (sx_di dL_q6 4 rfl) ?_
  refine V_ialdO (N := n) (f := f) (sx_di dL_q6 5 rfl) hS (scr_in (k := 1) hn hi (by decide)) ?_
  refine V_aload_n (i := 0) (sx_di dL_q6 6 rfl) rfl rfl ?_
  refine V_iload (sx_di dL_q6 7 rfl) rfl ?_
  refine V_iconst (v := 2) (sx_di dL_q6 8 rfl) (by decide) ?_
  refine V_iadd (sx_di dL_q6 9 rfl) ?_
  refine V_ialdO (N := n) (f := f) (sx_di dL_q6 10 rfl) hS (scr_in (k := 2) hn hi (by decide)) ?_
  refine V_cV2 (mc' := 0) (ms' := 0) (M' := mX11_form) 3 (sx_di dL_q6 11 rfl) lL_52 vX11_form (HC.1.k 16 rfl) (by decide) rfl (Nat.le_of_ble_eq_true rfl) ⟨Nat.le_of_ble_eq_true rfl, Nat.le_of_ble_eq_true rfl⟩ hce ?_
  refine (oC_form VA HC _ _) _ (fun w1 C1 f1 => ?_)
  have R1 := RR_fR f1 C1.1 HR
  refine V_aload_n (i := 2) (sx_di dL_q6 12 rfl) rfl rfl ?_
  refine V_aload_n (i := 0) (sx_di dL_q6 13 rfl) rfl rfl ?_
  refine V_iload (sx_di dL_q6 14 rfl) rfl ?_
  refine V_iconst (v := 1) (sx_di dL_q6 15 rfl) (by decide) ?_
  refine V_iadd (sx_di dL_q6 16 rfl) ?_
  refine V_ialdO (N := n) (f := f) (sx_di dL_q6 17 rfl) hS (scr_in (k := 1) hn hi (by decide)) ?_
  refine V_aload_n (i := 0) (sx_di dL_q6 18 rfl) rfl rfl ?_
  refine V_iload (sx_di dL_q6 19 rfl) rfl ?_
  refine V_iconst (v := 2) (sx_di dL_q6 20 rfl) (by decide) ?_
  refine V_iadd (sx_di dL_q6 21 rfl) ?_
  refine V_ialdO (N := n) (f := f) (sx_di dL_q6 22 rfl) hS (scr_in (k := 2) hn hi (by decide)) ?_
  refine V_cV2 (mc' := 0) (ms' := 0) (M' := mX12_form) 3 (sx_di dL_q6 23 rfl) lL_55 vX12_form (R1.1.k 381 rfl) (by decide) rfl (Nat.le_of_ble_eq_true rfl) ⟨Nat.le_of_ble_eq_true rfl, Nat.le_of_ble_eq_true rfl⟩ hce ?_
  refine (oR_form VA R1 _ _) _ (fun w2 R2 f2 => ?_)
  refine V_icmp_eq (tgt := 1749) (sx_di dL_q6 24 rfl) (by decide) (fun _ => ?_) (fun hne => absurd rfl hne)
  exact K _ w2 VA (CR_fC VA f2 R2.1 C1) R2
set_option maxHeartbeats 2000000 in
set_option maxRecDepth 20000 in
theorem cs_law {E : sxE} {n : Nat} {f : Nat → Int32} (hX : XO E) (hS : scr9 E n f) : cs9 E n f 518 := by
  intro I ce sl A w Q hn hi hce VA HC HR K
  refine V_aload_n (i := 1) (sx_di dL_q7 0 rfl) rfl rfl ?_
  refine V_aload_n (i := 0) (sx_di dL_q7 1 rfl) rfl rfl ?_
  refine V_iload (sx_di dL_q7 2 rfl) rfl ?_
  refine V_iconst (v := 1) (sx_di dL_q7 3 rfl) (by decide) ?_
  refine V_iadd (sx_di dL_q7 4 rfl) ?_
  refine V_ialdO (N := n) (f := f) (sx_di dL_q7 5 rfl) hS (scr_in (k := 1) hn hi (by decide)) ?_
  refine V_cV1 (mc' := 0) (ms' := 0) (M' := mX11_law) 1 (sx_di dL_q7 6 rfl) lL_56 vX11_law (HC.1.k 16 rfl) (by decide) rfl (Nat.le_of_ble_eq_true rfl) ⟨Nat.le_of_ble_eq_true rfl, Nat.le_of_ble_eq_true rfl⟩ hce ?_
  refine (oC_law VA HC _) _ (fun w1 C1 f1 => ?_)
  have R1 := RR_fR f1 C1.1 HR
  refine V_aload_n (i := 2) (sx_di dL_q7 7 rfl) rfl rfl ?_
  refine V_aload_n (i := 0) (sx_di dL_q7 8 rfl) rfl rfl ?_
  refine V_iload (sx_di dL_q7 9 rfl) rfl ?_
  refine V_iconst (v := 1) (sx_di dL_q7 10 rfl) (by decide) ?_
  refine V_iadd (sx_di dL_q7 11 rfl) ?_
  refine V_ialdO (N := n) (f := f) (sx_di dL_q7 12 rfl) hS (scr_in (k := 1) hn hi (by decide)) ?_
  refine V_cV1 (mc' := 0) (ms' := 0) (M' := mX12_law) 2 (sx_di dL_q7 13 rfl) lL_59 vX12_law (R1.1.k 381 rfl) (by decide) rfl (Nat.le_of_ble_eq_true rfl) ⟨Nat.le_of_ble_eq_true rfl, Nat.le_of_ble_eq_true rfl⟩ hce ?_
  refine (oR_law VA R1 _) _ (fun w2 R2 f2 => ?_)
  refine V_icmp_eq (tgt := 1749) (sx_di dL_q7 14 rfl) (by decide) (fun _ => ?_) (fun hne => absurd rfl hne)
  exact K _ w2 (AV_law VA _) (CR_fC (AV_law VA _) f2 R2.1 C1) R2
set_option maxHeartbeats 2000000 in
set_option maxRecDepth 20000 in
theorem cs_sham {E : sxE} {n : Nat} {f : Nat → Int32} (hX : XO E) (hS : scr9 E n f) : cs9 E n f 543 := by
  intro I ce sl A w Q hn hi hce VA HC HR K
  refine V_aload_n (i := 1) (sx_di dL_q8 0 rfl) rfl rfl ?_
  refine V_aload_n (i := 0) (sx_di dL_q8 1 rfl) rfl rfl ?_
  refine V_iload (sx_di dL_q8 2 rfl) rfl ?_
  refine V_iconst (v := 1) (sx_di dL_q8 3 rfl) (by decide) ?_
  refine V_iadd (sx_di dL_q8 4 rfl) ?_
  refine V_ialdO (N := n) (f := f) (sx_di dL_q8 5 rfl) hS (scr_in (k := 1) hn hi (by decide)) ?_
  refine V_aload_n (i := 0) (sx_di dL_q8 6 rfl) rfl rfl ?_
  refine V_iload (sx_di dL_q8 7 rfl) rfl ?_
  refine V_iconst (v := 2) (sx_di dL_q8 8 rfl) (by decide) ?_
  refine V_iadd (sx_di dL_q8 9 rfl) ?_
  refine V_ialdO (N := n) (f := f) (sx_di dL_q8 10 rfl) hS (scr_in (k := 2) hn hi (by decide)) ?_
  refine V_cV2 (mc' := 0) (ms' := 0) (M' := mX11_sham) 4 (sx_di dL_q8 11 rfl) lL_60 vX11_sham (HC.1.k 16 rfl) (by decide) rfl (Nat.le_of_ble_eq_true rfl) ⟨Nat.le_of_ble_eq_true rfl, Nat.le_of_ble_eq_true rfl⟩ hce ?_
  refine (oC_sham VA HC _ _) _ (fun w1 C1 f1 => ?_)
  have R1 := RR_fR f1 C1.1 HR
  refine V_aload_n (i := 2) (sx_di dL_q8 12 rfl) rfl rfl ?_
  refine V_aload_n (i := 0) (sx_di dL_q8 13 rfl) rfl rfl ?_
  refine V_iload (sx_di dL_q8 14 rfl) rfl ?_
  refine V_iconst (v := 1) (sx_di dL_q8 15 rfl) (by decide) ?_
  refine V_iadd (sx_di dL_q8 16 rfl) ?_
  refine V_ialdO (N := n) (f := f) (sx_di dL_q8 17 rfl) hS (scr_in (k := 1) hn hi (by decide)) ?_
  refine V_aload_n (i := 0) (sx_di dL_q8 18 rfl) rfl rfl ?_
  refine V_iload (sx_di dL_q8 19 rfl) rfl ?_
  refine V_iconst (v := 2) (sx_di dL_q8 20 rfl) (by decide) ?_
  refine V_iadd (sx_di dL_q8 21 rfl) ?_
  refine V_ialdO (N := n) (f := f) (sx_di dL_q8 22 rfl) hS (scr_in (k := 2) hn hi (by decide)) ?_
  refine V_cV2 (mc' := 0) (ms' := 0) (M' := mX12_sham) 3 (sx_di dL_q8 23 rfl) lL_63 vX12_sham (R1.1.k 381 rfl) (by decide) rfl (Nat.le_of_ble_eq_true rfl) ⟨Nat.le_of_ble_eq_true rfl, Nat.le_of_ble_eq_true rfl⟩ hce ?_
  refine (oR_sham VA R1 _ _) _ (fun w2 R2 f2 => ?_)
  refine V_icmp_eq (tgt := 1749) (sx_di dL_q8 24 rfl) (by decide) (fun _ => ?_) (fun hne => absurd rfl hne)
  exact K _ w2 (AV_sham VA _ _) (CR_fC (AV_sham VA _ _) f2 R2.1 C1) R2
set_option maxHeartbeats 2000000 in
set_option maxRecDepth 20000 in
theorem cs_hang {E : sxE} {n : Nat} {f : Nat → Int32} (hX : XO E) (hS : scr9 E n f) : cs9 E n f 580 := by
  intro I ce sl A w Q hn hi hce VA HC HR K
  refine V_aload_n (i := 1) (sx_di dL_q9 0 rfl) rfl rfl ?_
  refine V_aload_n (i := 0) (sx_di dL_q9 1 rfl) rfl rfl ?_
  refine V_iload (sx_di dL_q9 2 rfl) rfl ?_
  refine V_iconst (v := 1) (sx_di dL_q9 3 rfl) (by decide) ?_
  refine V_iadd (sx_di dL_q9 4 rfl) ?_
  refine V_ialdO (N := n) (f := f) (sx_di dL_q9 5 rfl) hS (scr_in (k := 1) hn hi (by decide)) ?_
  refine V_aload_n (i := 0) (sx_di dL_q9 6 rfl) rfl rfl ?_
  refine V_iload (sx_di dL_q9 7 rfl) rfl ?_
  refine V_iconst (v := 2) (sx_di dL_q9 8 rfl) (by decide) ?_
  refine V_iadd (sx_di dL_q9 9 rfl) ?_
  refine V_ialdO (N := n) (f := f) (sx_di dL_q9 10 rfl) hS (scr_in (k := 2) hn hi (by decide)) ?_
  refine V_cV2 (mc' := 0) (ms' := 0) (M' := mX11_hang) 4 (sx_di dL_q9 11 rfl) lL_64 vX11_hang (HC.1.k 16 rfl) (by decide) rfl (Nat.le_of_ble_eq_true rfl) ⟨Nat.le_of_ble_eq_true rfl, Nat.le_of_ble_eq_true rfl⟩ hce ?_
  refine (oC_hang VA HC _ _) _ (fun w1 C1 f1 => ?_)
  have R1 := RR_fR f1 C1.1 HR
  refine V_aload_n (i := 2) (sx_di dL_q9 12 rfl) rfl rfl ?_
  refine V_aload_n (i := 0) (sx_di dL_q9 13 rfl) rfl rfl ?_
  refine V_iload (sx_di dL_q9 14 rfl) rfl ?_
  refine V_iconst (v := 1) (sx_di dL_q9 15 rfl) (by decide) ?_
  refine V_iadd (sx_di dL_q9 16 rfl) ?_
  refine V_ialdO (N := n) (f := f) (sx_di dL_q9 17 rfl) hS (scr_in (k := 1) hn hi (by decide)) ?_
  refine V_aload_n (i := 0) (sx_di dL_q9 18 rfl) rfl rfl ?_
  refine V_iload (sx_di dL_q9 19 rfl) rfl ?_
  refine V_iconst (v := 2) (sx_di dL_q9 20 rfl) (by decide) ?_
  refine V_iadd (sx_di dL_q9 21 rfl) ?_
  refine V_ialdO (N := n) (f := f) (sx_di dL_q9 22 rfl) hS (scr_in (k := 2) hn hi (by decide)) ?_
  refine V_cV2 (mc' := 0) (ms' := 0) (M' := mX12_hang) 3 (sx_di dL_q9 23 rfl) lL_67 vX12_hang (R1.1.k 381 rfl) (by decide) rfl (Nat.le_of_ble_eq_true rfl) ⟨Nat.le_of_ble_eq_true rfl, Nat.le_of_ble_eq_true rfl⟩ hce ?_
  refine (oR_hang VA R1 _ _) _ (fun w2 R2 f2 => ?_)
  refine V_icmp_eq (tgt := 1749) (sx_di dL_q9 24 rfl) (by decide) (fun _ => ?_) (fun hne => absurd rfl hne)
  exact K _ w2 (AV_hang VA _ _) (CR_fC (AV_hang VA _ _) f2 R2.1 C1) R2
set_option maxHeartbeats 2000000 in
set_option maxRecDepth 20000 in
theorem cs_whiten {E : sxE} {n : Nat} {f : Nat → Int32} (hX : XO E) (hS : scr9 E n f) : cs9 E n f 617 := by
  intro I ce sl A w Q hn hi hce VA HC HR K
  refine V_aload_n (i := 1) (sx_di dL_q10 0 rfl) rfl rfl ?_
  refine V_aload_n (i := 0) (sx_di dL_q10 1 rfl) rfl rfl ?_
  refine V_iload (sx_di dL_q10 2 rfl) rfl ?_
  refine V_iconst (v := 1) (sx_di dL_q10 3 rfl) (by decide) ?_
  refine V_iadd (sx_di dL_q10 4 rfl) ?_
  refine V_ialdO (N := n) (f := f) (sx_di dL_q10 5 rfl) hS (scr_in (k := 1) hn hi (by decide)) ?_
  refine V_cV1 (mc' := 0) (ms' := 0) (M' := mX11_whiten) 4 (sx_di dL_q10 6 rfl) lL_68 vX11_whiten (HC.1.k 16 rfl) (by decide) rfl (Nat.le_of_ble_eq_true rfl) ⟨Nat.le_of_ble_eq_true rfl, Nat.le_of_ble_eq_true rfl⟩ hce ?_
  refine (oC_whiten VA HC _) _ (fun w1 C1 f1 => ?_)
  have R1 := RR_fR f1 C1.1 HR
  refine V_aload_n (i := 2) (sx_di dL_q10 7 rfl) rfl rfl ?_
  refine V_aload_n (i := 0) (sx_di dL_q10 8 rfl) rfl rfl ?_
  refine V_iload (sx_di dL_q10 9 rfl) rfl ?_
  refine V_iconst (v := 1) (sx_di dL_q10 10 rfl) (by decide) ?_
  refine V_iadd (sx_di dL_q10 11 rfl) ?_
  refine V_ialdO (N := n) (f := f) (sx_di dL_q10 12 rfl) hS (scr_in (k := 1) hn hi (by decide)) ?_
  refine V_cV1 (mc' := 0) (ms' := 0) (M' := mX12_whiten) 3 (sx_di dL_q10 13 rfl) lL_71 vX12_whiten (R1.1.k 381 rfl) (by decide) rfl (Nat.le_of_ble_eq_true rfl) ⟨Nat.le_of_ble_eq_true rfl, Nat.le_of_ble_eq_true rfl⟩ hce ?_
  refine (oR_whiten VA R1 _) _ (fun w2 R2 f2 => ?_)
  refine V_icmp_eq (tgt := 1749) (sx_di dL_q10 14 rfl) (by decide) (fun _ => ?_) (fun hne => absurd rfl hne)
  exact K _ w2 (AV_whiten VA _) (CR_fC (AV_whiten VA _) f2 R2.1 C1) R2
set_option maxHeartbeats 2000000 in
set_option maxRecDepth 20000 in
theorem cs_piano {E : sxE} {n : Nat} {f : Nat → Int32} (hX : XO E) (hS : scr9 E n f) : cs9 E n f 642 := by
  intro I ce sl A w Q hn hi hce VA HC HR K
  refine V_aload_n (i := 1) (sx_di dL_q11 0 rfl) rfl rfl ?_
  refine V_aload_n (i := 0) (sx_di dL_q11 1 rfl) rfl rfl ?_
  refine V_iload (sx_di dL_q11 2 rfl) rfl ?_
  refine V_iconst (v := 1) (sx_di dL_q11 3 rfl) (by decide) ?_
  refine V_iadd (sx_di dL_q11 4 rfl) ?_
  refine V_ialdO (N := n) (f := f) (sx_di dL_q11 5 rfl) hS (scr_in (k := 1) hn hi (by decide)) ?_
  refine V_cV1 (mc' := 0) (ms' := 0) (M' := mX11_piano) 4 (sx_di dL_q11 6 rfl) lL_72 vX11_piano (HC.1.k 16 rfl) (by decide) rfl (Nat.le_of_ble_eq_true rfl) ⟨Nat.le_of_ble_eq_true rfl, Nat.le_of_ble_eq_true rfl⟩ hce ?_
  refine (oC_piano VA HC _) _ (fun w1 C1 f1 => ?_)
  have R1 := RR_fR f1 C1.1 HR
  refine V_aload_n (i := 2) (sx_di dL_q11 7 rfl) rfl rfl ?_
  refine V_aload_n (i := 0) (sx_di dL_q11 8 rfl) rfl rfl ?_
  refine V_iload (sx_di dL_q11 9 rfl) rfl ?_
  refine V_iconst (v := 1) (sx_di dL_q11 10 rfl) (by decide) ?_
  refine V_iadd (sx_di dL_q11 11 rfl) ?_
  refine V_ialdO (N := n) (f := f) (sx_di dL_q11 12 rfl) hS (scr_in (k := 1) hn hi (by decide)) ?_
  refine V_cV1 (mc' := 0) (ms' := 0) (M' := mX12_piano) 3 (sx_di dL_q11 13 rfl) lL_75 vX12_piano (R1.1.k 381 rfl) (by decide) rfl (Nat.le_of_ble_eq_true rfl) ⟨Nat.le_of_ble_eq_true rfl, Nat.le_of_ble_eq_true rfl⟩ hce ?_
  refine (oR_piano VA R1 _) _ (fun w2 R2 f2 => ?_)
  refine V_icmp_eq (tgt := 1749) (sx_di dL_q11 14 rfl) (by decide) (fun _ => ?_) (fun hne => absurd rfl hne)
  exact K _ w2 (AV_piano VA _) (CR_fC (AV_piano VA _) f2 R2.1 C1) R2
set_option maxHeartbeats 2000000 in
set_option maxRecDepth 20000 in
theorem cs_move {E : sxE} {n : Nat} {f : Nat → Int32} (hX : XO E) (hS : scr9 E n f) : cs9 E n f 667 := by
  intro I ce sl A w Q hn hi hce VA HC HR K
  refine V_aload_n (i := 1) (sx_di dL_q12 0 rfl) rfl rfl ?_
  refine V_aload_n (i := 0) (sx_di dL_q12 1 rfl) rfl rfl ?_
  refine V_iload (sx_di dL_q12 2 rfl) rfl ?_
  refine V_iconst (v := 1) (sx_di dL_q12 3 rfl) (by decide) ?_
  refine V_iadd (sx_di dL_q12 4 rfl) ?_
  refine V_ialdO (N := n) (f := f) (sx_di dL_q12 5 rfl) hS (scr_in (k := 1) hn hi (by decide)) ?_
  refine V_aload_n (i := 0) (sx_di dL_q12 6 rfl) rfl rfl ?_
  refine V_iload (sx_di dL_q12 7 rfl) rfl ?_
  refine V_iconst (v := 2) (sx_di dL_q12 8 rfl) (by decide) ?_
  refine V_iadd (sx_di dL_q12 9 rfl) ?_
  refine V_ialdO (N := n) (f := f) (sx_di dL_q12 10 rfl) hS (scr_in (k := 2) hn hi (by decide)) ?_
  refine V_cV2 (mc' := 0) (ms' := 0) (M' := mX11_move) 4 (sx_di dL_q12 11 rfl) lL_76 vX11_move (HC.1.k 16 rfl) (by decide) rfl (Nat.le_of_ble_eq_true rfl) ⟨Nat.le_of_ble_eq_true rfl, Nat.le_of_ble_eq_true rfl⟩ hce ?_
  refine (oC_move VA HC _ _) _ (fun w1 C1 f1 => ?_)
  have R1 := RR_fR f1 C1.1 HR
  refine V_aload_n (i := 2) (sx_di dL_q12 12 rfl) rfl rfl ?_
  refine V_aload_n (i := 0) (sx_di dL_q12 13 rfl) rfl rfl ?_
  refine V_iload (sx_di dL_q12 14 rfl) rfl ?_
  refine V_iconst (v := 1) (sx_di dL_q12 15 rfl) (by decide) ?_
  refine V_iadd (sx_di dL_q12 16 rfl) ?_
  refine V_ialdO (N := n) (f := f) (sx_di dL_q12 17 rfl) hS (scr_in (k := 1) hn hi (by decide)) ?_
  refine V_aload_n (i := 0) (sx_di dL_q12 18 rfl) rfl rfl ?_
  refine V_iload (sx_di dL_q12 19 rfl) rfl ?_
  refine V_iconst (v := 2) (sx_di dL_q12 20 rfl) (by decide) ?_
  refine V_iadd (sx_di dL_q12 21 rfl) ?_
  refine V_ialdO (N := n) (f := f) (sx_di dL_q12 22 rfl) hS (scr_in (k := 2) hn hi (by decide)) ?_
  refine V_cV2 (mc' := 0) (ms' := 0) (M' := mX12_move) 3 (sx_di dL_q12 23 rfl) lL_79 vX12_move (R1.1.k 381 rfl) (by decide) rfl (Nat.le_of_ble_eq_true rfl) ⟨Nat.le_of_ble_eq_true rfl, Nat.le_of_ble_eq_true rfl⟩ hce ?_
  refine (oR_move VA R1 _ _) _ (fun w2 R2 f2 => ?_)
  refine V_icmp_eq (tgt := 1749) (sx_di dL_q12 24 rfl) (by decide) (fun _ => ?_) (fun hne => absurd rfl hne)
  exact K _ w2 (AV_move VA _ _) (CR_fC (AV_move VA _ _) f2 R2.1 C1) R2
set_option maxHeartbeats 2000000 in
set_option maxRecDepth 20000 in
theorem cs_give {E : sxE} {n : Nat} {f : Nat → Int32} (hX : XO E) (hS : scr9 E n f) : cs9 E n f 704 := by
  intro I ce sl A w Q hn hi hce VA HC HR K
  refine V_aload_n (i := 1) (sx_di dL_q13 0 rfl) rfl rfl ?_
  refine V_aload_n (i := 0) (sx_di dL_q13 1 rfl) rfl rfl ?_
  refine V_iload (sx_di dL_q13 2 rfl) rfl ?_
  refine V_iconst (v := 1) (sx_di dL_q13 3 rfl) (by decide) ?_
  refine V_iadd (sx_di dL_q13 4 rfl) ?_
  refine V_ialdO (N := n) (f := f) (sx_di dL_q13 5 rfl) hS (scr_in (k := 1) hn hi (by decide)) ?_
  refine V_cV1 (mc' := 0) (ms' := 0) (M' := mX11_give) 4 (sx_di dL_q13 6 rfl) lL_80 vX11_give (HC.1.k 16 rfl) (by decide) rfl (Nat.le_of_ble_eq_true rfl) ⟨Nat.le_of_ble_eq_true rfl, Nat.le_of_ble_eq_true rfl⟩ hce ?_
  refine (oC_give VA HC _) _ (fun w1 C1 f1 => ?_)
  have R1 := RR_fR f1 C1.1 HR
  refine V_aload_n (i := 2) (sx_di dL_q13 7 rfl) rfl rfl ?_
  refine V_aload_n (i := 0) (sx_di dL_q13 8 rfl) rfl rfl ?_
  refine V_iload (sx_di dL_q13 9 rfl) rfl ?_
  refine V_iconst (v := 1) (sx_di dL_q13 10 rfl) (by decide) ?_
  refine V_iadd (sx_di dL_q13 11 rfl) ?_
  refine V_ialdO (N := n) (f := f) (sx_di dL_q13 12 rfl) hS (scr_in (k := 1) hn hi (by decide)) ?_
  refine V_cV1 (mc' := 0) (ms' := 0) (M' := mX12_give) 2 (sx_di dL_q13 13 rfl) lL_83 vX12_give (R1.1.k 381 rfl) (by decide) rfl (Nat.le_of_ble_eq_true rfl) ⟨Nat.le_of_ble_eq_true rfl, Nat.le_of_ble_eq_true rfl⟩ hce ?_
  refine (oR_give VA R1 _) _ (fun w2 R2 f2 => ?_)
  refine V_icmp_eq (tgt := 1749) (sx_di dL_q13 14 rfl) (by decide) (fun _ => ?_) (fun hne => absurd rfl hne)
  exact K _ w2 (AV_give VA _) (CR_fC (AV_give VA _) f2 R2.1 C1) R2
set_option maxHeartbeats 2000000 in
set_option maxRecDepth 20000 in
theorem cs_days {E : sxE} {n : Nat} {f : Nat → Int32} (hX : XO E) (hS : scr9 E n f) : cs9 E n f 729 := by
  intro I ce sl A w Q hn hi hce VA HC HR K
  refine V_aload_n (i := 1) (sx_di dL_q14 0 rfl) rfl rfl ?_
  refine V_aload_n (i := 0) (sx_di dL_q14 1 rfl) rfl rfl ?_
  refine V_iload (sx_di dL_q14 2 rfl) rfl ?_
  refine V_iconst (v := 1) (sx_di dL_q14 3 rfl) (by decide) ?_
  refine V_iadd (sx_di dL_q14 4 rfl) ?_
  refine V_ialdO (N := n) (f := f) (sx_di dL_q14 5 rfl) hS (scr_in (k := 1) hn hi (by decide)) ?_
  refine V_cV1 (mc' := 0) (ms' := 0) (M' := mX11_days) 8 (sx_di dL_q14 6 rfl) lL_84 vX11_days (HC.1.k 16 rfl) (by decide) rfl (Nat.le_of_ble_eq_true rfl) ⟨Nat.le_of_ble_eq_true rfl, Nat.le_of_ble_eq_true rfl⟩ hce ?_
  refine (oC_days VA HC _) _ (fun w1 C1 f1 => ?_)
  have R1 := RR_fR f1 C1.1 HR
  refine V_aload_n (i := 2) (sx_di dL_q14 7 rfl) rfl rfl ?_
  refine V_aload_n (i := 0) (sx_di dL_q14 8 rfl) rfl rfl ?_
  refine V_iload (sx_di dL_q14 9 rfl) rfl ?_
  refine V_iconst (v := 1) (sx_di dL_q14 10 rfl) (by decide) ?_
  refine V_iadd (sx_di dL_q14 11 rfl) ?_
  refine V_ialdO (N := n) (f := f) (sx_di dL_q14 12 rfl) hS (scr_in (k := 1) hn hi (by decide)) ?_
  refine V_cV1 (mc' := 0) (ms' := 0) (M' := mX12_days) 10 (sx_di dL_q14 13 rfl) lL_87 vX12_days (R1.1.k 381 rfl) (by decide) rfl (Nat.le_of_ble_eq_true rfl) ⟨Nat.le_of_ble_eq_true rfl, Nat.le_of_ble_eq_true rfl⟩ hce ?_
  refine (oR_days VA R1 _) _ (fun w2 R2 f2 => ?_)
  refine V_icmp_eq (tgt := 1749) (sx_di dL_q14 14 rfl) (by decide) (fun _ => ?_) (fun hne => absurd rfl hne)
  exact K _ w2 (AV_days VA _) (CR_fC (AV_days VA _) f2 R2.1 C1) R2
set_option maxHeartbeats 2000000 in
set_option maxRecDepth 20000 in
theorem cs_moods {E : sxE} {n : Nat} {f : Nat → Int32} (hX : XO E) (hS : scr9 E n f) : cs9 E n f 754 := by
  intro I ce sl A w Q hn hi hce VA HC HR K
  refine V_aload_n (i := 1) (sx_di dL_q15 0 rfl) rfl rfl ?_
  refine V_aload_n (i := 0) (sx_di dL_q15 1 rfl) rfl rfl ?_
  refine V_iload (sx_di dL_q15 2 rfl) rfl ?_
  refine V_iconst (v := 1) (sx_di dL_q15 3 rfl) (by decide) ?_
  refine V_iadd (sx_di dL_q15 4 rfl) ?_
  refine V_ialdO (N := n) (f := f) (sx_di dL_q15 5 rfl) hS (scr_in (k := 1) hn hi (by decide)) ?_
  refine V_cV1 (mc' := 0) (ms' := 0) (M' := mX11_moods) 1 (sx_di dL_q15 6 rfl) lL_88 vX11_moods (HC.1.k 16 rfl) (by decide) rfl (Nat.le_of_ble_eq_true rfl) ⟨Nat.le_of_ble_eq_true rfl, Nat.le_of_ble_eq_true rfl⟩ hce ?_
  refine (oC_moods VA HC _) _ (fun w1 C1 f1 => ?_)
  have R1 := RR_fR f1 C1.1 HR
  refine V_aload_n (i := 2) (sx_di dL_q15 7 rfl) rfl rfl ?_
  refine V_aload_n (i := 0) (sx_di dL_q15 8 rfl) rfl rfl ?_
  refine V_iload (sx_di dL_q15 9 rfl) rfl ?_
  refine V_iconst (v := 1) (sx_di dL_q15 10 rfl) (by decide) ?_
  refine V_iadd (sx_di dL_q15 11 rfl) ?_
  refine V_ialdO (N := n) (f := f) (sx_di dL_q15 12 rfl) hS (scr_in (k := 1) hn hi (by decide)) ?_
  refine V_cV1 (mc' := 0) (ms' := 0) (M' := mX12_moods) 2 (sx_di dL_q15 13 rfl) lL_91 vX12_moods (R1.1.k 381 rfl) (by decide) rfl (Nat.le_of_ble_eq_true rfl) ⟨Nat.le_of_ble_eq_true rfl, Nat.le_of_ble_eq_true rfl⟩ hce ?_
  refine (oR_moods VA R1 _) _ (fun w2 R2 f2 => ?_)
  refine V_icmp_eq (tgt := 1749) (sx_di dL_q15 14 rfl) (by decide) (fun _ => ?_) (fun hne => absurd rfl hne)
  exact K _ w2 (AV_moods VA _) (CR_fC (AV_moods VA _) f2 R2.1 C1) R2
set_option maxHeartbeats 2000000 in
set_option maxRecDepth 20000 in
theorem cs_status {E : sxE} {n : Nat} {f : Nat → Int32} (hX : XO E) (hS : scr9 E n f) : cs9 E n f 848 := by
  intro I ce sl A w Q hn hi hce VA HC HR K
  refine V_aload_n (i := 1) (sx_di dL_q17 0 rfl) rfl rfl ?_
  refine V_aload_n (i := 0) (sx_di dL_q17 1 rfl) rfl rfl ?_
  refine V_iload (sx_di dL_q17 2 rfl) rfl ?_
  refine V_iconst (v := 1) (sx_di dL_q17 3 rfl) (by decide) ?_
  refine V_iadd (sx_di dL_q17 4 rfl) ?_
  refine V_ialdO (N := n) (f := f) (sx_di dL_q17 5 rfl) hS (scr_in (k := 1) hn hi (by decide)) ?_
  refine V_cV1 (mc' := 0) (ms' := 0) (M' := mX11_status) 1 (sx_di dL_q17 6 rfl) lL_99 vX11_status (HC.1.k 16 rfl) (by decide) rfl (Nat.le_of_ble_eq_true rfl) ⟨Nat.le_of_ble_eq_true rfl, Nat.le_of_ble_eq_true rfl⟩ hce ?_
  refine (oC_status VA HC _) _ (fun w1 C1 f1 => ?_)
  have R1 := RR_fR f1 C1.1 HR
  refine V_aload_n (i := 2) (sx_di dL_q17 7 rfl) rfl rfl ?_
  refine V_aload_n (i := 0) (sx_di dL_q17 8 rfl) rfl rfl ?_
  refine V_iload (sx_di dL_q17 9 rfl) rfl ?_
  refine V_iconst (v := 1) (sx_di dL_q17 10 rfl) (by decide) ?_
  refine V_iadd (sx_di dL_q17 11 rfl) ?_
  refine V_ialdO (N := n) (f := f) (sx_di dL_q17 12 rfl) hS (scr_in (k := 1) hn hi (by decide)) ?_
  refine V_cV1 (mc' := 0) (ms' := 0) (M' := mX12_status) 2 (sx_di dL_q17 13 rfl) lL_102 vX12_status (R1.1.k 381 rfl) (by decide) rfl (Nat.le_of_ble_eq_true rfl) ⟨Nat.le_of_ble_eq_true rfl, Nat.le_of_ble_eq_true rfl⟩ hce ?_
  refine (oR_status VA R1 _) _ (fun w2 R2 f2 => ?_)
  refine V_icmp_eq (tgt := 1749) (sx_di dL_q17 14 rfl) (by decide) (fun _ => ?_) (fun hne => absurd rfl hne)
  exact K _ w2 VA (CR_fC VA f2 R2.1 C1) R2
set_option maxHeartbeats 2000000 in
set_option maxRecDepth 20000 in
theorem cs_undo {E : sxE} {n : Nat} {f : Nat → Int32} (hX : XO E) (hS : scr9 E n f) : cs9 E n f 873 := by
  intro I ce sl A w Q hn hi hce VA HC HR K
  refine V_aload_n (i := 1) (sx_di dL_q18 0 rfl) rfl rfl ?_
  refine V_cV0 (mc' := 0) (ms' := 0) (M' := mX11_undo) 4 (sx_di dL_q18 1 rfl) lL_103 vX11_undo (HC.1.k 16 rfl) (by decide) rfl (Nat.le_of_ble_eq_true rfl) ⟨Nat.le_of_ble_eq_true rfl, Nat.le_of_ble_eq_true rfl⟩ hce ?_
  refine (oC_undo VA HC) _ (fun w1 C1 f1 => ?_)
  have R1 := RR_fR f1 C1.1 HR
  refine V_aload_n (i := 2) (sx_di dL_q18 2 rfl) rfl rfl ?_
  refine V_cV0 (mc' := 0) (ms' := 0) (M' := mX12_undo) 1 (sx_di dL_q18 3 rfl) lL_106 vX12_undo (R1.1.k 381 rfl) (by decide) rfl (Nat.le_of_ble_eq_true rfl) ⟨Nat.le_of_ble_eq_true rfl, Nat.le_of_ble_eq_true rfl⟩ hce ?_
  refine (oR_undo VA R1) _ (fun w2 R2 f2 => ?_)
  refine V_icmp_eq (tgt := 1749) (sx_di dL_q18 4 rfl) (by decide) (fun _ => ?_) (fun hne => absurd rfl hne)
  exact K _ w2 (AV_undo VA) (CR_fC (AV_undo VA) f2 R2.1 C1) R2
set_option maxHeartbeats 2000000 in
set_option maxRecDepth 20000 in
theorem cs_log {E : sxE} {n : Nat} {f : Nat → Int32} (hX : XO E) (hS : scr9 E n f) : cs9 E n f 886 := by
  intro I ce sl A w Q hn hi hce VA HC HR K
  refine V_aload_n (i := 1) (sx_di dL_q19 0 rfl) rfl rfl ?_
  refine V_aload_n (i := 0) (sx_di dL_q19 1 rfl) rfl rfl ?_
  refine V_iload (sx_di dL_q19 2 rfl) rfl ?_
  refine V_iconst (v := 1) (sx_di dL_q19 3 rfl) (by decide) ?_
  refine V_iadd (sx_di dL_q19 4 rfl) ?_
  refine V_ialdO (N := n) (f := f) (sx_di dL_q19 5 rfl) hS (scr_in (k := 1) hn hi (by decide)) ?_
  refine V_aload_n (i := 0) (sx_di dL_q19 6 rfl) rfl rfl ?_
  refine V_iload (sx_di dL_q19 7 rfl) rfl ?_
  refine V_iconst (v := 2) (sx_di dL_q19 8 rfl) (by decide) ?_
  refine V_iadd (sx_di dL_q19 9 rfl) ?_
  refine V_ialdO (N := n) (f := f) (sx_di dL_q19 10 rfl) hS (scr_in (k := 2) hn hi (by decide)) ?_
  refine V_cV2 (mc' := 0) (ms' := 0) (M' := mX11_log) 3 (sx_di dL_q19 11 rfl) lL_107 vX11_log (HC.1.k 16 rfl) (by decide) rfl (Nat.le_of_ble_eq_true rfl) ⟨Nat.le_of_ble_eq_true rfl, Nat.le_of_ble_eq_true rfl⟩ hce ?_
  refine (oC_log VA HC _ _) _ (fun w1 C1 f1 => ?_)
  have R1 := RR_fR f1 C1.1 HR
  refine V_aload_n (i := 2) (sx_di dL_q19 12 rfl) rfl rfl ?_
  refine V_aload_n (i := 0) (sx_di dL_q19 13 rfl) rfl rfl ?_
  refine V_iload (sx_di dL_q19 14 rfl) rfl ?_
  refine V_iconst (v := 1) (sx_di dL_q19 15 rfl) (by decide) ?_
  refine V_iadd (sx_di dL_q19 16 rfl) ?_
  refine V_ialdO (N := n) (f := f) (sx_di dL_q19 17 rfl) hS (scr_in (k := 1) hn hi (by decide)) ?_
  refine V_aload_n (i := 0) (sx_di dL_q19 18 rfl) rfl rfl ?_
  refine V_iload (sx_di dL_q19 19 rfl) rfl ?_
  refine V_iconst (v := 2) (sx_di dL_q19 20 rfl) (by decide) ?_
  refine V_iadd (sx_di dL_q19 21 rfl) ?_
  refine V_ialdO (N := n) (f := f) (sx_di dL_q19 22 rfl) hS (scr_in (k := 2) hn hi (by decide)) ?_
  refine V_cV2 (mc' := 0) (ms' := 0) (M' := mX12_log) 2 (sx_di dL_q19 23 rfl) lL_110 vX12_log (R1.1.k 381 rfl) (by decide) rfl (Nat.le_of_ble_eq_true rfl) ⟨Nat.le_of_ble_eq_true rfl, Nat.le_of_ble_eq_true rfl⟩ hce ?_
  refine (oR_log VA R1 _ _) _ (fun w2 R2 f2 => ?_)
  refine V_icmp_eq (tgt := 1749) (sx_di dL_q19 24 rfl) (by decide) (fun _ => ?_) (fun hne => absurd rfl hne)
  exact K _ w2 VA (CR_fC VA f2 R2.1 C1) R2
set_option maxHeartbeats 2000000 in
set_option maxRecDepth 20000 in
theorem cs_ahead {E : sxE} {n : Nat} {f : Nat → Int32} (hX : XO E) (hS : scr9 E n f) : cs9 E n f 923 := by
  intro I ce sl A w Q hn hi hce VA HC HR K
  refine V_aload_n (i := 1) (sx_di dL_q20 0 rfl) rfl rfl ?_
  refine V_aload_n (i := 0) (sx_di dL_q20 1 rfl) rfl rfl ?_
  refine V_iload (sx_di dL_q20 2 rfl) rfl ?_
  refine V_iconst (v := 1) (sx_di dL_q20 3 rfl) (by decide) ?_
  refine V_iadd (sx_di dL_q20 4 rfl) ?_
  refine V_ialdO (N := n) (f := f) (sx_di dL_q20 5 rfl) hS (scr_in (k := 1) hn hi (by decide)) ?_
  refine V_aload_n (i := 0) (sx_di dL_q20 6 rfl) rfl rfl ?_
  refine V_iload (sx_di dL_q20 7 rfl) rfl ?_
  refine V_iconst (v := 2) (sx_di dL_q20 8 rfl) (by decide) ?_
  refine V_iadd (sx_di dL_q20 9 rfl) ?_
  refine V_ialdO (N := n) (f := f) (sx_di dL_q20 10 rfl) hS (scr_in (k := 2) hn hi (by decide)) ?_
  refine V_cV2 (mc' := 0) (ms' := 0) (M' := mX11_ahead) 7 (sx_di dL_q20 11 rfl) lL_111 vX11_ahead (HC.1.k 16 rfl) (by decide) rfl (Nat.le_of_ble_eq_true rfl) ⟨Nat.le_of_ble_eq_true rfl, Nat.le_of_ble_eq_true rfl⟩ hce ?_
  refine (oC_ahead VA HC _ _) _ (fun w1 C1 f1 => ?_)
  have R1 := RR_fR f1 C1.1 HR
  refine V_aload_n (i := 2) (sx_di dL_q20 12 rfl) rfl rfl ?_
  refine V_aload_n (i := 0) (sx_di dL_q20 13 rfl) rfl rfl ?_
  refine V_iload (sx_di dL_q20 14 rfl) rfl ?_
  refine V_iconst (v := 1) (sx_di dL_q20 15 rfl) (by decide) ?_
  refine V_iadd (sx_di dL_q20 16 rfl) ?_
  refine V_ialdO (N := n) (f := f) (sx_di dL_q20 17 rfl) hS (scr_in (k := 1) hn hi (by decide)) ?_
  refine V_aload_n (i := 0) (sx_di dL_q20 18 rfl) rfl rfl ?_
  refine V_iload (sx_di dL_q20 19 rfl) rfl ?_
  refine V_iconst (v := 2) (sx_di dL_q20 20 rfl) (by decide) ?_
  refine V_iadd (sx_di dL_q20 21 rfl) ?_
  refine V_ialdO (N := n) (f := f) (sx_di dL_q20 22 rfl) hS (scr_in (k := 2) hn hi (by decide)) ?_
  refine V_cV2 (mc' := 0) (ms' := 0) (M' := mX12_ahead) 9 (sx_di dL_q20 23 rfl) lL_114 vX12_ahead (R1.1.k 381 rfl) (by decide) rfl (Nat.le_of_ble_eq_true rfl) ⟨Nat.le_of_ble_eq_true rfl, Nat.le_of_ble_eq_true rfl⟩ hce ?_
  refine (oR_ahead VA R1 _ _) _ (fun w2 R2 f2 => ?_)
  refine V_icmp_eq (tgt := 1749) (sx_di dL_q20 24 rfl) (by decide) (fun _ => ?_) (fun hne => absurd rfl hne)
  exact K _ w2 VA (CR_fC VA f2 R2.1 C1) R2
set_option maxHeartbeats 2000000 in
set_option maxRecDepth 20000 in
theorem cs_soonest {E : sxE} {n : Nat} {f : Nat → Int32} (hX : XO E) (hS : scr9 E n f) : cs9 E n f 960 := by
  intro I ce sl A w Q hn hi hce VA HC HR K
  refine V_aload_n (i := 1) (sx_di dL_q21 0 rfl) rfl rfl ?_
  refine V_aload_n (i := 0) (sx_di dL_q21 1 rfl) rfl rfl ?_
  refine V_iload (sx_di dL_q21 2 rfl) rfl ?_
  refine V_iconst (v := 1) (sx_di dL_q21 3 rfl) (by decide) ?_
  refine V_iadd (sx_di dL_q21 4 rfl) ?_
  refine V_ialdO (N := n) (f := f) (sx_di dL_q21 5 rfl) hS (scr_in (k := 1) hn hi (by decide)) ?_
  refine V_cV1 (mc' := 0) (ms' := 0) (M' := mX11_soonest) 7 (sx_di dL_q21 6 rfl) lL_115 vX11_soonest (HC.1.k 16 rfl) (by decide) rfl (Nat.le_of_ble_eq_true rfl) ⟨Nat.le_of_ble_eq_true rfl, Nat.le_of_ble_eq_true rfl⟩ hce ?_
  refine (oC_soonest VA HC _) _ (fun w1 C1 f1 => ?_)
  have R1 := RR_fR f1 C1.1 HR
  refine V_aload_n (i := 2) (sx_di dL_q21 7 rfl) rfl rfl ?_
  refine V_aload_n (i := 0) (sx_di dL_q21 8 rfl) rfl rfl ?_
  refine V_iload (sx_di dL_q21 9 rfl) rfl ?_
  refine V_iconst (v := 1) (sx_di dL_q21 10 rfl) (by decide) ?_
  refine V_iadd (sx_di dL_q21 11 rfl) ?_
  refine V_ialdO (N := n) (f := f) (sx_di dL_q21 12 rfl) hS (scr_in (k := 1) hn hi (by decide)) ?_
  refine V_cV1 (mc' := 0) (ms' := 0) (M' := mX12_soonest) 9 (sx_di dL_q21 13 rfl) lL_118 vX12_soonest (R1.1.k 381 rfl) (by decide) rfl (Nat.le_of_ble_eq_true rfl) ⟨Nat.le_of_ble_eq_true rfl, Nat.le_of_ble_eq_true rfl⟩ hce ?_
  refine (oR_soonest VA R1 _) _ (fun w2 R2 f2 => ?_)
  refine V_icmp_eq (tgt := 1749) (sx_di dL_q21 14 rfl) (by decide) (fun _ => ?_) (fun hne => absurd rfl hne)
  exact K _ w2 VA (CR_fC VA f2 R2.1 C1) R2
set_option maxHeartbeats 2000000 in
set_option maxRecDepth 20000 in
theorem cs_visits {E : sxE} {n : Nat} {f : Nat → Int32} (hX : XO E) (hS : scr9 E n f) : cs9 E n f 985 := by
  intro I ce sl A w Q hn hi hce VA HC HR K
  refine V_aload_n (i := 1) (sx_di dL_q22 0 rfl) rfl rfl ?_
  refine V_aload_n (i := 0) (sx_di dL_q22 1 rfl) rfl rfl ?_
  refine V_iload (sx_di dL_q22 2 rfl) rfl ?_
  refine V_iconst (v := 1) (sx_di dL_q22 3 rfl) (by decide) ?_
  refine V_iadd (sx_di dL_q22 4 rfl) ?_
  refine V_ialdO (N := n) (f := f) (sx_di dL_q22 5 rfl) hS (scr_in (k := 1) hn hi (by decide)) ?_
  refine V_cV1 (mc' := 0) (ms' := 0) (M' := mX11_visits) 7 (sx_di dL_q22 6 rfl) lL_119 vX11_visits (HC.1.k 16 rfl) (by decide) rfl (Nat.le_of_ble_eq_true rfl) ⟨Nat.le_of_ble_eq_true rfl, Nat.le_of_ble_eq_true rfl⟩ hce ?_
  refine (oC_visits VA HC _) _ (fun w1 C1 f1 => ?_)
  have R1 := RR_fR f1 C1.1 HR
  refine V_aload_n (i := 2) (sx_di dL_q22 7 rfl) rfl rfl ?_
  refine V_aload_n (i := 0) (sx_di dL_q22 8 rfl) rfl rfl ?_
  refine V_iload (sx_di dL_q22 9 rfl) rfl ?_
  refine V_iconst (v := 1) (sx_di dL_q22 10 rfl) (by decide) ?_
  refine V_iadd (sx_di dL_q22 11 rfl) ?_
  refine V_ialdO (N := n) (f := f) (sx_di dL_q22 12 rfl) hS (scr_in (k := 1) hn hi (by decide)) ?_
  refine V_cV1 (mc' := 0) (ms' := 0) (M' := mX12_visits) 10 (sx_di dL_q22 13 rfl) lL_122 vX12_visits (R1.1.k 381 rfl) (by decide) rfl (Nat.le_of_ble_eq_true rfl) ⟨Nat.le_of_ble_eq_true rfl, Nat.le_of_ble_eq_true rfl⟩ hce ?_
  refine (oR_visits VA R1 _) _ (fun w2 R2 f2 => ?_)
  refine V_icmp_eq (tgt := 1749) (sx_di dL_q22 14 rfl) (by decide) (fun _ => ?_) (fun hne => absurd rfl hne)
  exact K _ w2 VA (CR_fC VA f2 R2.1 C1) R2
set_option maxHeartbeats 2000000 in
set_option maxRecDepth 20000 in
theorem cs_empty {E : sxE} {n : Nat} {f : Nat → Int32} (hX : XO E) (hS : scr9 E n f) : cs9 E n f 1010 := by
  intro I ce sl A w Q hn hi hce VA HC HR K
  refine V_aload_n (i := 1) (sx_di dL_q23 0 rfl) rfl rfl ?_
  refine V_aload_n (i := 0) (sx_di dL_q23 1 rfl) rfl rfl ?_
  refine V_iload (sx_di dL_q23 2 rfl) rfl ?_
  refine V_iconst (v := 1) (sx_di dL_q23 3 rfl) (by decide) ?_
  refine V_iadd (sx_di dL_q23 4 rfl) ?_
  refine V_ialdO (N := n) (f := f) (sx_di dL_q23 5 rfl) hS (scr_in (k := 1) hn hi (by decide)) ?_
  refine V_cV1 (mc' := 0) (ms' := 0) (M' := mX11_empty) 7 (sx_di dL_q23 6 rfl) lL_123 vX11_empty (HC.1.k 16 rfl) (by decide) rfl (Nat.le_of_ble_eq_true rfl) ⟨Nat.le_of_ble_eq_true rfl, Nat.le_of_ble_eq_true rfl⟩ hce ?_
  refine (oC_empty VA HC _) _ (fun w1 C1 f1 => ?_)
  have R1 := RR_fR f1 C1.1 HR
  refine V_aload_n (i := 2) (sx_di dL_q23 7 rfl) rfl rfl ?_
  refine V_aload_n (i := 0) (sx_di dL_q23 8 rfl) rfl rfl ?_
  refine V_iload (sx_di dL_q23 9 rfl) rfl ?_
  refine V_iconst (v := 1) (sx_di dL_q23 10 rfl) (by decide) ?_
  refine V_iadd (sx_di dL_q23 11 rfl) ?_
  refine V_ialdO (N := n) (f := f) (sx_di dL_q23 12 rfl) hS (scr_in (k := 1) hn hi (by decide)) ?_
  refine V_cV1 (mc' := 0) (ms' := 0) (M' := mX12_empty) 10 (sx_di dL_q23 13 rfl) lL_126 vX12_empty (R1.1.k 381 rfl) (by decide) rfl (Nat.le_of_ble_eq_true rfl) ⟨Nat.le_of_ble_eq_true rfl, Nat.le_of_ble_eq_true rfl⟩ hce ?_
  refine (oR_empty VA R1 _) _ (fun w2 R2 f2 => ?_)
  refine V_icmp_eq (tgt := 1749) (sx_di dL_q23 14 rfl) (by decide) (fun _ => ?_) (fun hne => absurd rfl hne)
  exact K _ w2 VA (CR_fC VA f2 R2.1 C1) R2
set_option maxHeartbeats 2000000 in
set_option maxRecDepth 20000 in
theorem cs_goesTo {E : sxE} {n : Nat} {f : Nat → Int32} (hX : XO E) (hS : scr9 E n f) : cs9 E n f 1035 := by
  intro I ce sl A w Q hn hi hce VA HC HR K
  refine V_aload_n (i := 1) (sx_di dL_q24 0 rfl) rfl rfl ?_
  refine V_cV0 (mc' := 0) (ms' := 0) (M' := mX11_goesTo) 6 (sx_di dL_q24 1 rfl) lL_127 vX11_goesTo (HC.1.k 16 rfl) (by decide) rfl (Nat.le_of_ble_eq_true rfl) ⟨Nat.le_of_ble_eq_true rfl, Nat.le_of_ble_eq_true rfl⟩ hce ?_
  refine (oC_goesTo VA HC) _ (fun w1 C1 f1 => ?_)
  have R1 := RR_fR f1 C1.1 HR
  refine V_aload_n (i := 2) (sx_di dL_q24 2 rfl) rfl rfl ?_
  refine V_cV0 (mc' := 0) (ms' := 0) (M' := mX12_goesTo) 8 (sx_di dL_q24 3 rfl) lL_130 vX12_goesTo (R1.1.k 381 rfl) (by decide) rfl (Nat.le_of_ble_eq_true rfl) ⟨Nat.le_of_ble_eq_true rfl, Nat.le_of_ble_eq_true rfl⟩ hce ?_
  refine (oR_goesTo VA R1) _ (fun w2 R2 f2 => ?_)
  refine V_icmp_eq (tgt := 1749) (sx_di dL_q24 4 rfl) (by decide) (fun _ => ?_) (fun hne => absurd rfl hne)
  exact K _ w2 VA (CR_fC VA f2 R2.1 C1) R2
set_option maxHeartbeats 2000000 in
set_option maxRecDepth 20000 in
theorem cs_least {E : sxE} {n : Nat} {f : Nat → Int32} (hX : XO E) (hS : scr9 E n f) : cs9 E n f 1048 := by
  intro I ce sl A w Q hn hi hce VA HC HR K
  refine V_aload_n (i := 1) (sx_di dL_q25 0 rfl) rfl rfl ?_
  refine V_aload_n (i := 0) (sx_di dL_q25 1 rfl) rfl rfl ?_
  refine V_iload (sx_di dL_q25 2 rfl) rfl ?_
  refine V_iconst (v := 1) (sx_di dL_q25 3 rfl) (by decide) ?_
  refine V_iadd (sx_di dL_q25 4 rfl) ?_
  refine V_ialdO (N := n) (f := f) (sx_di dL_q25 5 rfl) hS (scr_in (k := 1) hn hi (by decide)) ?_
  refine V_aload_n (i := 0) (sx_di dL_q25 6 rfl) rfl rfl ?_
  refine V_iload (sx_di dL_q25 7 rfl) rfl ?_
  refine V_iconst (v := 2) (sx_di dL_q25 8 rfl) (by decide) ?_
  refine V_iadd (sx_di dL_q25 9 rfl) ?_
  refine V_ialdO (N := n) (f := f) (sx_di dL_q25 10 rfl) hS (scr_in (k := 2) hn hi (by decide)) ?_
  refine V_cV2 (mc' := 0) (ms' := 0) (M' := mX11_least) 6 (sx_di dL_q25 11 rfl) lL_131 vX11_least (HC.1.k 16 rfl) (by decide) rfl (Nat.le_of_ble_eq_true rfl) ⟨Nat.le_of_ble_eq_true rfl, Nat.le_of_ble_eq_true rfl⟩ hce ?_
  refine (oC_least VA HC _ _) _ (fun w1 C1 f1 => ?_)
  have R1 := RR_fR f1 C1.1 HR
  refine V_aload_n (i := 2) (sx_di dL_q25 12 rfl) rfl rfl ?_
  refine V_aload_n (i := 0) (sx_di dL_q25 13 rfl) rfl rfl ?_
  refine V_iload (sx_di dL_q25 14 rfl) rfl ?_
  refine V_iconst (v := 1) (sx_di dL_q25 15 rfl) (by decide) ?_
  refine V_iadd (sx_di dL_q25 16 rfl) ?_
  refine V_ialdO (N := n) (f := f) (sx_di dL_q25 17 rfl) hS (scr_in (k := 1) hn hi (by decide)) ?_
  refine V_aload_n (i := 0) (sx_di dL_q25 18 rfl) rfl rfl ?_
  refine V_iload (sx_di dL_q25 19 rfl) rfl ?_
  refine V_iconst (v := 2) (sx_di dL_q25 20 rfl) (by decide) ?_
  refine V_iadd (sx_di dL_q25 21 rfl) ?_
  refine V_ialdO (N := n) (f := f) (sx_di dL_q25 22 rfl) hS (scr_in (k := 2) hn hi (by decide)) ?_
  refine V_cV2 (mc' := 0) (ms' := 0) (M' := mX12_least) 10 (sx_di dL_q25 23 rfl) lL_134 vX12_least (R1.1.k 381 rfl) (by decide) rfl (Nat.le_of_ble_eq_true rfl) ⟨Nat.le_of_ble_eq_true rfl, Nat.le_of_ble_eq_true rfl⟩ hce ?_
  refine (oR_least VA R1 _ _) _ (fun w2 R2 f2 => ?_)
  refine V_icmp_eq (tgt := 1749) (sx_di dL_q25 24 rfl) (by decide) (fun _ => ?_) (fun hne => absurd rfl hne)
  exact K _ w2 VA (CR_fC VA f2 R2.1 C1) R2
set_option maxHeartbeats 2000000 in
set_option maxRecDepth 20000 in
theorem cs_rid {E : sxE} {n : Nat} {f : Nat → Int32} (hX : XO E) (hS : scr9 E n f) : cs9 E n f 1085 := by
  intro I ce sl A w Q hn hi hce VA HC HR K
  refine V_aload_n (i := 1) (sx_di dL_q26 0 rfl) rfl rfl ?_
  refine V_cV0 (mc' := 0) (ms' := 0) (M' := mX11_rid) 6 (sx_di dL_q26 1 rfl) lL_135 vX11_rid (HC.1.k 16 rfl) (by decide) rfl (Nat.le_of_ble_eq_true rfl) ⟨Nat.le_of_ble_eq_true rfl, Nat.le_of_ble_eq_true rfl⟩ hce ?_
  refine (oC_rid VA HC) _ (fun w1 C1 f1 => ?_)
  have R1 := RR_fR f1 C1.1 HR
  refine V_aload_n (i := 2) (sx_di dL_q26 2 rfl) rfl rfl ?_
  refine V_cV0 (mc' := 0) (ms' := 0) (M' := mX12_rid) 8 (sx_di dL_q26 3 rfl) lL_138 vX12_rid (R1.1.k 381 rfl) (by decide) rfl (Nat.le_of_ble_eq_true rfl) ⟨Nat.le_of_ble_eq_true rfl, Nat.le_of_ble_eq_true rfl⟩ hce ?_
  refine (oR_rid VA R1) _ (fun w2 R2 f2 => ?_)
  refine V_icmp_eq (tgt := 1749) (sx_di dL_q26 4 rfl) (by decide) (fun _ => ?_) (fun hne => absurd rfl hne)
  exact K _ w2 VA (CR_fC VA f2 R2.1 C1) R2
set_option maxHeartbeats 2000000 in
set_option maxRecDepth 20000 in
theorem cs_white {E : sxE} {n : Nat} {f : Nat → Int32} (hX : XO E) (hS : scr9 E n f) : cs9 E n f 1098 := by
  intro I ce sl A w Q hn hi hce VA HC HR K
  refine V_aload_n (i := 1) (sx_di dL_q27 0 rfl) rfl rfl ?_
  refine V_aload_n (i := 0) (sx_di dL_q27 1 rfl) rfl rfl ?_
  refine V_iload (sx_di dL_q27 2 rfl) rfl ?_
  refine V_iconst (v := 1) (sx_di dL_q27 3 rfl) (by decide) ?_
  refine V_iadd (sx_di dL_q27 4 rfl) ?_
  refine V_ialdO (N := n) (f := f) (sx_di dL_q27 5 rfl) hS (scr_in (k := 1) hn hi (by decide)) ?_
  refine V_cV1 (mc' := 0) (ms' := 0) (M' := mX11_white) 6 (sx_di dL_q27 6 rfl) lL_139 vX11_white (HC.1.k 16 rfl) (by decide) rfl (Nat.le_of_ble_eq_true rfl) ⟨Nat.le_of_ble_eq_true rfl, Nat.le_of_ble_eq_true rfl⟩ hce ?_
  refine (oC_white VA HC _) _ (fun w1 C1 f1 => ?_)
  have R1 := RR_fR f1 C1.1 HR
  refine V_aload_n (i := 2) (sx_di dL_q27 7 rfl) rfl rfl ?_
  refine V_aload_n (i := 0) (sx_di dL_q27 8 rfl) rfl rfl ?_
  refine V_iload (sx_di dL_q27 9 rfl) rfl ?_
  refine V_iconst (v := 1) (sx_di dL_q27 10 rfl) (by decide) ?_
  refine V_iadd (sx_di dL_q27 11 rfl) ?_
  refine V_ialdO (N := n) (f := f) (sx_di dL_q27 12 rfl) hS (scr_in (k := 1) hn hi (by decide)) ?_
  refine V_cV1 (mc' := 0) (ms' := 0) (M' := mX12_white) 8 (sx_di dL_q27 13 rfl) lL_142 vX12_white (R1.1.k 381 rfl) (by decide) rfl (Nat.le_of_ble_eq_true rfl) ⟨Nat.le_of_ble_eq_true rfl, Nat.le_of_ble_eq_true rfl⟩ hce ?_
  refine (oR_white VA R1 _) _ (fun w2 R2 f2 => ?_)
  refine V_icmp_eq (tgt := 1749) (sx_di dL_q27 14 rfl) (by decide) (fun _ => ?_) (fun hne => absurd rfl hne)
  exact K _ w2 VA (CR_fC VA f2 R2.1 C1) R2
set_option maxHeartbeats 2000000 in
set_option maxRecDepth 20000 in
theorem cs_treaties {E : sxE} {n : Nat} {f : Nat → Int32} (hX : XO E) (hS : scr9 E n f) : cs9 E n f 1123 := by
  intro I ce sl A w Q hn hi hce VA HC HR K
  refine V_aload_n (i := 1) (sx_di dL_q28 0 rfl) rfl rfl ?_
  refine V_aload_n (i := 0) (sx_di dL_q28 1 rfl) rfl rfl ?_
  refine V_iload (sx_di dL_q28 2 rfl) rfl ?_
  refine V_iconst (v := 1) (sx_di dL_q28 3 rfl) (by decide) ?_
  refine V_iadd (sx_di dL_q28 4 rfl) ?_
  refine V_ialdO (N := n) (f := f) (sx_di dL_q28 5 rfl) hS (scr_in (k := 1) hn hi (by decide)) ?_
  refine V_aload_n (i := 0) (sx_di dL_q28 6 rfl) rfl rfl ?_
  refine V_iload (sx_di dL_q28 7 rfl) rfl ?_
  refine V_iconst (v := 2) (sx_di dL_q28 8 rfl) (by decide) ?_
  refine V_iadd (sx_di dL_q28 9 rfl) ?_
  refine V_ialdO (N := n) (f := f) (sx_di dL_q28 10 rfl) hS (scr_in (k := 2) hn hi (by decide)) ?_
  refine V_cV2 (mc' := 0) (ms' := 0) (M' := mX11_treaties) 6 (sx_di dL_q28 11 rfl) lL_143 vX11_treaties (HC.1.k 16 rfl) (by decide) rfl (Nat.le_of_ble_eq_true rfl) ⟨Nat.le_of_ble_eq_true rfl, Nat.le_of_ble_eq_true rfl⟩ hce ?_
  refine (oC_treaties VA HC _ _) _ (fun w1 C1 f1 => ?_)
  have R1 := RR_fR f1 C1.1 HR
  refine V_aload_n (i := 2) (sx_di dL_q28 12 rfl) rfl rfl ?_
  refine V_aload_n (i := 0) (sx_di dL_q28 13 rfl) rfl rfl ?_
  refine V_iload (sx_di dL_q28 14 rfl) rfl ?_
  refine V_iconst (v := 1) (sx_di dL_q28 15 rfl) (by decide) ?_
  refine V_iadd (sx_di dL_q28 16 rfl) ?_
  refine V_ialdO (N := n) (f := f) (sx_di dL_q28 17 rfl) hS (scr_in (k := 1) hn hi (by decide)) ?_
  refine V_aload_n (i := 0) (sx_di dL_q28 18 rfl) rfl rfl ?_
  refine V_iload (sx_di dL_q28 19 rfl) rfl ?_
  refine V_iconst (v := 2) (sx_di dL_q28 20 rfl) (by decide) ?_
  refine V_iadd (sx_di dL_q28 21 rfl) ?_
  refine V_ialdO (N := n) (f := f) (sx_di dL_q28 22 rfl) hS (scr_in (k := 2) hn hi (by decide)) ?_
  refine V_cV2 (mc' := 0) (ms' := 0) (M' := mX12_treaties) 9 (sx_di dL_q28 23 rfl) lL_146 vX12_treaties (R1.1.k 381 rfl) (by decide) rfl (Nat.le_of_ble_eq_true rfl) ⟨Nat.le_of_ble_eq_true rfl, Nat.le_of_ble_eq_true rfl⟩ hce ?_
  refine (oR_treaties VA R1 _ _) _ (fun w2 R2 f2 => ?_)
  refine V_icmp_eq (tgt := 1749) (sx_di dL_q28 24 rfl) (by decide) (fun _ => ?_) (fun hne => absurd rfl hne)
  exact K _ w2 VA (CR_fC VA f2 R2.1 C1) R2
set_option maxHeartbeats 2000000 in
set_option maxRecDepth 20000 in
theorem cs_game {E : sxE} {n : Nat} {f : Nat → Int32} (hX : XO E) (hS : scr9 E n f) : cs9 E n f 1160 := by
  intro I ce sl A w Q hn hi hce VA HC HR K
  refine V_aload_n (i := 1) (sx_di dL_q29 0 rfl) rfl rfl ?_
  refine V_aload_n (i := 0) (sx_di dL_q29 1 rfl) rfl rfl ?_
  refine V_iload (sx_di dL_q29 2 rfl) rfl ?_
  refine V_iconst (v := 1) (sx_di dL_q29 3 rfl) (by decide) ?_
  refine V_iadd (sx_di dL_q29 4 rfl) ?_
  refine V_ialdO (N := n) (f := f) (sx_di dL_q29 5 rfl) hS (scr_in (k := 1) hn hi (by decide)) ?_
  refine V_aload_n (i := 0) (sx_di dL_q29 6 rfl) rfl rfl ?_
  refine V_iload (sx_di dL_q29 7 rfl) rfl ?_
  refine V_iconst (v := 2) (sx_di dL_q29 8 rfl) (by decide) ?_
  refine V_iadd (sx_di dL_q29 9 rfl) ?_
  refine V_ialdO (N := n) (f := f) (sx_di dL_q29 10 rfl) hS (scr_in (k := 2) hn hi (by decide)) ?_
  refine V_aload_n (i := 0) (sx_di dL_q29 11 rfl) rfl rfl ?_
  refine V_iload (sx_di dL_q29 12 rfl) rfl ?_
  refine V_iconst (v := 3) (sx_di dL_q29 13 rfl) (by decide) ?_
  refine V_iadd (sx_di dL_q29 14 rfl) ?_
  refine V_ialdO (N := n) (f := f) (sx_di dL_q29 15 rfl) hS (scr_in (k := 3) hn hi (by decide)) ?_
  refine V_aload_n (i := 0) (sx_di dL_q29 16 rfl) rfl rfl ?_
  refine V_iload (sx_di dL_q29 17 rfl) rfl ?_
  refine V_iconst (v := 4) (sx_di dL_q29 18 rfl) (by decide) ?_
  refine V_iadd (sx_di dL_q29 19 rfl) ?_
  refine V_ialdO (N := n) (f := f) (sx_di dL_q29 20 rfl) hS (scr_in (k := 4) hn hi (by decide)) ?_
  refine V_aload_n (i := 0) (sx_di dL_q29 21 rfl) rfl rfl ?_
  refine V_iload (sx_di dL_q29 22 rfl) rfl ?_
  refine V_iconst (v := 5) (sx_di dL_q29 23 rfl) (by decide) ?_
  refine V_iadd (sx_di dL_q29 24 rfl) ?_
  refine V_ialdO (N := n) (f := f) (sx_di dL_q29 25 rfl) hS (scr_in (k := 5) hn hi (by decide)) ?_
  refine V_cV5 (mc' := 0) (ms' := 0) (M' := mX11_game) 7 (sx_di dL_q29 26 rfl) lL_147 vX11_game (HC.1.k 16 rfl) (by decide) rfl (Nat.le_of_ble_eq_true rfl) ⟨Nat.le_of_ble_eq_true rfl, Nat.le_of_ble_eq_true rfl⟩ hce ?_
  refine (oC_game VA HC _ _ _ _ _) _ (fun w1 C1 f1 => ?_)
  have R1 := RR_fR f1 C1.1 HR
  refine V_aload_n (i := 2) (sx_di dL_q29 27 rfl) rfl rfl ?_
  refine V_aload_n (i := 0) (sx_di dL_q29 28 rfl) rfl rfl ?_
  refine V_iload (sx_di dL_q29 29 rfl) rfl ?_
  refine V_iconst (v := 1) (sx_di dL_q29 30 rfl) (by decide) ?_
  refine V_iadd (sx_di dL_q29 31 rfl) ?_
  refine V_ialdO (N := n) (f := f) (sx_di dL_q29 32 rfl) hS (scr_in (k := 1) hn hi (by decide)) ?_
  refine V_aload_n (i := 0) (sx_di dL_q29 33 rfl) rfl rfl ?_
  refine V_iload (sx_di dL_q29 34 rfl) rfl ?_
  refine V_iconst (v := 2) (sx_di dL_q29 35 rfl) (by decide) ?_
  refine V_iadd (sx_di dL_q29 36 rfl) ?_
  refine V_ialdO (N := n) (f := f) (sx_di dL_q29 37 rfl) hS (scr_in (k := 2) hn hi (by decide)) ?_
  refine V_aload_n (i := 0) (sx_di dL_q29 38 rfl) rfl rfl ?_
  refine V_iload (sx_di dL_q29 39 rfl) rfl ?_
  refine V_iconst (v := 3) (sx_di dL_q29 40 rfl) (by decide) ?_
  refine V_iadd (sx_di dL_q29 41 rfl) ?_
  refine V_ialdO (N := n) (f := f) (sx_di dL_q29 42 rfl) hS (scr_in (k := 3) hn hi (by decide)) ?_
  refine V_aload_n (i := 0) (sx_di dL_q29 43 rfl) rfl rfl ?_
  refine V_iload (sx_di dL_q29 44 rfl) rfl ?_
  refine V_iconst (v := 4) (sx_di dL_q29 45 rfl) (by decide) ?_
  refine V_iadd (sx_di dL_q29 46 rfl) ?_
  refine V_ialdO (N := n) (f := f) (sx_di dL_q29 47 rfl) hS (scr_in (k := 4) hn hi (by decide)) ?_
  refine V_aload_n (i := 0) (sx_di dL_q29 48 rfl) rfl rfl ?_
  refine V_iload (sx_di dL_q29 49 rfl) rfl ?_
  refine V_iconst (v := 5) (sx_di dL_q29 50 rfl) (by decide) ?_
  refine V_iadd (sx_di dL_q29 51 rfl) ?_
  refine V_ialdO (N := n) (f := f) (sx_di dL_q29 52 rfl) hS (scr_in (k := 5) hn hi (by decide)) ?_
  refine V_cV5 (mc' := 0) (ms' := 0) (M' := mX12_game) 9 (sx_di dL_q29 53 rfl) lL_150 vX12_game (R1.1.k 381 rfl) (by decide) rfl (Nat.le_of_ble_eq_true rfl) ⟨Nat.le_of_ble_eq_true rfl, Nat.le_of_ble_eq_true rfl⟩ hce ?_
  refine (oR_game VA R1 _ _ _ _ _) _ (fun w2 R2 f2 => ?_)
  refine V_icmp_eq (tgt := 1749) (sx_di dL_q29 54 rfl) (by decide) (fun _ => ?_) (fun hne => absurd rfl hne)
  exact K _ w2 VA (CR_fC VA f2 R2.1 C1) R2
set_option maxHeartbeats 2000000 in
set_option maxRecDepth 20000 in
theorem cs_rests {E : sxE} {n : Nat} {f : Nat → Int32} (hX : XO E) (hS : scr9 E n f) : cs9 E n f 1233 := by
  intro I ce sl A w Q hn hi hce VA HC HR K
  refine V_aload_n (i := 1) (sx_di dL_q30 0 rfl) rfl rfl ?_
  refine V_aload_n (i := 0) (sx_di dL_q30 1 rfl) rfl rfl ?_
  refine V_iload (sx_di dL_q30 2 rfl) rfl ?_
  refine V_iconst (v := 1) (sx_di dL_q30 3 rfl) (by decide) ?_
  refine V_iadd (sx_di dL_q30 4 rfl) ?_
  refine V_ialdO (N := n) (f := f) (sx_di dL_q30 5 rfl) hS (scr_in (k := 1) hn hi (by decide)) ?_
  refine V_aload_n (i := 0) (sx_di dL_q30 6 rfl) rfl rfl ?_
  refine V_iload (sx_di dL_q30 7 rfl) rfl ?_
  refine V_iconst (v := 2) (sx_di dL_q30 8 rfl) (by decide) ?_
  refine V_iadd (sx_di dL_q30 9 rfl) ?_
  refine V_ialdO (N := n) (f := f) (sx_di dL_q30 10 rfl) hS (scr_in (k := 2) hn hi (by decide)) ?_
  refine V_aload_n (i := 0) (sx_di dL_q30 11 rfl) rfl rfl ?_
  refine V_iload (sx_di dL_q30 12 rfl) rfl ?_
  refine V_iconst (v := 3) (sx_di dL_q30 13 rfl) (by decide) ?_
  refine V_iadd (sx_di dL_q30 14 rfl) ?_
  refine V_ialdO (N := n) (f := f) (sx_di dL_q30 15 rfl) hS (scr_in (k := 3) hn hi (by decide)) ?_
  refine V_cV3 (mc' := 0) (ms' := 0) (M' := mX11_rests) 8 (sx_di dL_q30 16 rfl) lL_151 vX11_rests (HC.1.k 16 rfl) (by decide) rfl (Nat.le_of_ble_eq_true rfl) ⟨Nat.le_of_ble_eq_true rfl, Nat.le_of_ble_eq_true rfl⟩ hce ?_
  refine (oC_rests VA HC _ _ _) _ (fun w1 C1 f1 => ?_)
  have R1 := RR_fR f1 C1.1 HR
  refine V_aload_n (i := 2) (sx_di dL_q30 17 rfl) rfl rfl ?_
  refine V_aload_n (i := 0) (sx_di dL_q30 18 rfl) rfl rfl ?_
  refine V_iload (sx_di dL_q30 19 rfl) rfl ?_
  refine V_iconst (v := 1) (sx_di dL_q30 20 rfl) (by decide) ?_
  refine V_iadd (sx_di dL_q30 21 rfl) ?_
  refine V_ialdO (N := n) (f := f) (sx_di dL_q30 22 rfl) hS (scr_in (k := 1) hn hi (by decide)) ?_
  refine V_aload_n (i := 0) (sx_di dL_q30 23 rfl) rfl rfl ?_
  refine V_iload (sx_di dL_q30 24 rfl) rfl ?_
  refine V_iconst (v := 2) (sx_di dL_q30 25 rfl) (by decide) ?_
  refine V_iadd (sx_di dL_q30 26 rfl) ?_
  refine V_ialdO (N := n) (f := f) (sx_di dL_q30 27 rfl) hS (scr_in (k := 2) hn hi (by decide)) ?_
  refine V_aload_n (i := 0) (sx_di dL_q30 28 rfl) rfl rfl ?_
  refine V_iload (sx_di dL_q30 29 rfl) rfl ?_
  refine V_iconst (v := 3) (sx_di dL_q30 30 rfl) (by decide) ?_
  refine V_iadd (sx_di dL_q30 31 rfl) ?_
  refine V_ialdO (N := n) (f := f) (sx_di dL_q30 32 rfl) hS (scr_in (k := 3) hn hi (by decide)) ?_
  refine V_cV3 (mc' := 0) (ms' := 0) (M' := mX12_rests) 10 (sx_di dL_q30 33 rfl) lL_155 vX12_rests (R1.1.k 381 rfl) (by decide) rfl (Nat.le_of_ble_eq_true rfl) ⟨Nat.le_of_ble_eq_true rfl, Nat.le_of_ble_eq_true rfl⟩ hce ?_
  refine (oR_rests VA R1 _ _ _) _ (fun w2 R2 f2 => ?_)
  refine V_icmp_eq (tgt := 1749) (sx_di dL_q30 34 rfl) (by decide) (fun _ => ?_) (fun hne => absurd rfl hne)
  exact K _ w2 VA (CR_fC VA f2 R2.1 C1) R2
set_option maxHeartbeats 2000000 in
set_option maxRecDepth 20000 in
theorem cs_who {E : sxE} {n : Nat} {f : Nat → Int32} (hX : XO E) (hS : scr9 E n f) : cs9 E n f 1347 := by
  intro I ce sl A w Q hn hi hce VA HC HR K
  refine V_aload_n (i := 1) (sx_di dL_q32 0 rfl) rfl rfl ?_
  refine V_aload_n (i := 0) (sx_di dL_q32 1 rfl) rfl rfl ?_
  refine V_iload (sx_di dL_q32 2 rfl) rfl ?_
  refine V_iconst (v := 1) (sx_di dL_q32 3 rfl) (by decide) ?_
  refine V_iadd (sx_di dL_q32 4 rfl) ?_
  refine V_ialdO (N := n) (f := f) (sx_di dL_q32 5 rfl) hS (scr_in (k := 1) hn hi (by decide)) ?_
  refine V_aload_n (i := 0) (sx_di dL_q32 6 rfl) rfl rfl ?_
  refine V_iload (sx_di dL_q32 7 rfl) rfl ?_
  refine V_iconst (v := 2) (sx_di dL_q32 8 rfl) (by decide) ?_
  refine V_iadd (sx_di dL_q32 9 rfl) ?_
  refine V_ialdO (N := n) (f := f) (sx_di dL_q32 10 rfl) hS (scr_in (k := 2) hn hi (by decide)) ?_
  refine V_cV2 (mc' := 0) (ms' := 0) (M' := mX11_who) 8 (sx_di dL_q32 11 rfl) lL_161 vX11_who (HC.1.k 16 rfl) (by decide) rfl (Nat.le_of_ble_eq_true rfl) ⟨Nat.le_of_ble_eq_true rfl, Nat.le_of_ble_eq_true rfl⟩ hce ?_
  refine (oC_who VA HC _ _) _ (fun w1 C1 f1 => ?_)
  have R1 := RR_fR f1 C1.1 HR
  refine V_aload_n (i := 2) (sx_di dL_q32 12 rfl) rfl rfl ?_
  refine V_aload_n (i := 0) (sx_di dL_q32 13 rfl) rfl rfl ?_
  refine V_iload (sx_di dL_q32 14 rfl) rfl ?_
  refine V_iconst (v := 1) (sx_di dL_q32 15 rfl) (by decide) ?_
  refine V_iadd (sx_di dL_q32 16 rfl) ?_
  refine V_ialdO (N := n) (f := f) (sx_di dL_q32 17 rfl) hS (scr_in (k := 1) hn hi (by decide)) ?_
  refine V_aload_n (i := 0) (sx_di dL_q32 18 rfl) rfl rfl ?_
  refine V_iload (sx_di dL_q32 19 rfl) rfl ?_
  refine V_iconst (v := 2) (sx_di dL_q32 20 rfl) (by decide) ?_
  refine V_iadd (sx_di dL_q32 21 rfl) ?_
  refine V_ialdO (N := n) (f := f) (sx_di dL_q32 22 rfl) hS (scr_in (k := 2) hn hi (by decide)) ?_
  refine V_cV2 (mc' := 0) (ms' := 0) (M' := mX12_who) 10 (sx_di dL_q32 23 rfl) lL_164 vX12_who (R1.1.k 381 rfl) (by decide) rfl (Nat.le_of_ble_eq_true rfl) ⟨Nat.le_of_ble_eq_true rfl, Nat.le_of_ble_eq_true rfl⟩ hce ?_
  refine (oR_who VA R1 _ _) _ (fun w2 R2 f2 => ?_)
  refine V_icmp_eq (tgt := 1749) (sx_di dL_q32 24 rfl) (by decide) (fun _ => ?_) (fun hne => absurd rfl hne)
  exact K _ w2 VA (CR_fC VA f2 R2.1 C1) R2
set_option maxHeartbeats 2000000 in
set_option maxRecDepth 20000 in
theorem cs_best {E : sxE} {n : Nat} {f : Nat → Int32} (hX : XO E) (hS : scr9 E n f) : cs9 E n f 1384 := by
  intro I ce sl A w Q hn hi hce VA HC HR K
  refine V_aload_n (i := 1) (sx_di dL_q33 0 rfl) rfl rfl ?_
  refine V_aload_n (i := 0) (sx_di dL_q33 1 rfl) rfl rfl ?_
  refine V_iload (sx_di dL_q33 2 rfl) rfl ?_
  refine V_iconst (v := 1) (sx_di dL_q33 3 rfl) (by decide) ?_
  refine V_iadd (sx_di dL_q33 4 rfl) ?_
  refine V_ialdO (N := n) (f := f) (sx_di dL_q33 5 rfl) hS (scr_in (k := 1) hn hi (by decide)) ?_
  refine V_cV1 (mc' := 0) (ms' := 0) (M' := mX11_best) 8 (sx_di dL_q33 6 rfl) lL_165 vX11_best (HC.1.k 16 rfl) (by decide) rfl (Nat.le_of_ble_eq_true rfl) ⟨Nat.le_of_ble_eq_true rfl, Nat.le_of_ble_eq_true rfl⟩ hce ?_
  refine (oC_best VA HC _) _ (fun w1 C1 f1 => ?_)
  have R1 := RR_fR f1 C1.1 HR
  refine V_aload_n (i := 2) (sx_di dL_q33 7 rfl) rfl rfl ?_
  refine V_aload_n (i := 0) (sx_di dL_q33 8 rfl) rfl rfl ?_
  refine V_iload (sx_di dL_q33 9 rfl) rfl ?_
  refine V_iconst (v := 1) (sx_di dL_q33 10 rfl) (by decide) ?_
  refine V_iadd (sx_di dL_q33 11 rfl) ?_
  refine V_ialdO (N := n) (f := f) (sx_di dL_q33 12 rfl) hS (scr_in (k := 1) hn hi (by decide)) ?_
  refine V_cV1 (mc' := 0) (ms' := 0) (M' := mX12_best) 11 (sx_di dL_q33 13 rfl) lL_168 vX12_best (R1.1.k 381 rfl) (by decide) rfl (Nat.le_of_ble_eq_true rfl) ⟨Nat.le_of_ble_eq_true rfl, Nat.le_of_ble_eq_true rfl⟩ hce ?_
  refine (oR_best VA R1 _) _ (fun w2 R2 f2 => ?_)
  refine V_icmp_eq (tgt := 1749) (sx_di dL_q33 14 rfl) (by decide) (fun _ => ?_) (fun hne => absurd rfl hne)
  exact K _ w2 VA (CR_fC VA f2 R2.1 C1) R2
set_option maxHeartbeats 2000000 in
set_option maxRecDepth 20000 in
theorem cs_follows {E : sxE} {n : Nat} {f : Nat → Int32} (hX : XO E) (hS : scr9 E n f) : cs9 E n f 1409 := by
  intro I ce sl A w Q hn hi hce VA HC HR K
  refine V_aload_n (i := 1) (sx_di dL_q34 0 rfl) rfl rfl ?_
  refine V_aload_n (i := 0) (sx_di dL_q34 1 rfl) rfl rfl ?_
  refine V_iload (sx_di dL_q34 2 rfl) rfl ?_
  refine V_iconst (v := 1) (sx_di dL_q34 3 rfl) (by decide) ?_
  refine V_iadd (sx_di dL_q34 4 rfl) ?_
  refine V_ialdO (N := n) (f := f) (sx_di dL_q34 5 rfl) hS (scr_in (k := 1) hn hi (by decide)) ?_
  refine V_aload_n (i := 0) (sx_di dL_q34 6 rfl) rfl rfl ?_
  refine V_iload (sx_di dL_q34 7 rfl) rfl ?_
  refine V_iconst (v := 2) (sx_di dL_q34 8 rfl) (by decide) ?_
  refine V_iadd (sx_di dL_q34 9 rfl) ?_
  refine V_ialdO (N := n) (f := f) (sx_di dL_q34 10 rfl) hS (scr_in (k := 2) hn hi (by decide)) ?_
  refine V_cV2 (mc' := 0) (ms' := 0) (M' := mX11_follows) 4 (sx_di dL_q34 11 rfl) lL_169 vX11_follows (HC.1.k 16 rfl) (by decide) rfl (Nat.le_of_ble_eq_true rfl) ⟨Nat.le_of_ble_eq_true rfl, Nat.le_of_ble_eq_true rfl⟩ hce ?_
  refine (oC_follows VA HC _ _) _ (fun w1 C1 f1 => ?_)
  have R1 := RR_fR f1 C1.1 HR
  refine V_aload_n (i := 2) (sx_di dL_q34 12 rfl) rfl rfl ?_
  refine V_aload_n (i := 0) (sx_di dL_q34 13 rfl) rfl rfl ?_
  refine V_iload (sx_di dL_q34 14 rfl) rfl ?_
  refine V_iconst (v := 1) (sx_di dL_q34 15 rfl) (by decide) ?_
  refine V_iadd (sx_di dL_q34 16 rfl) ?_
  refine V_ialdO (N := n) (f := f) (sx_di dL_q34 17 rfl) hS (scr_in (k := 1) hn hi (by decide)) ?_
  refine V_aload_n (i := 0) (sx_di dL_q34 18 rfl) rfl rfl ?_
  refine V_iload (sx_di dL_q34 19 rfl) rfl ?_
  refine V_iconst (v := 2) (sx_di dL_q34 20 rfl) (by decide) ?_
  refine V_iadd (sx_di dL_q34 21 rfl) ?_
  refine V_ialdO (N := n) (f := f) (sx_di dL_q34 22 rfl) hS (scr_in (k := 2) hn hi (by decide)) ?_
  refine V_cV2 (mc' := 0) (ms' := 0) (M' := mX12_follows) 3 (sx_di dL_q34 23 rfl) lL_172 vX12_follows (R1.1.k 381 rfl) (by decide) rfl (Nat.le_of_ble_eq_true rfl) ⟨Nat.le_of_ble_eq_true rfl, Nat.le_of_ble_eq_true rfl⟩ hce ?_
  refine (oR_follows VA R1 _ _) _ (fun w2 R2 f2 => ?_)
  refine V_icmp_eq (tgt := 1749) (sx_di dL_q34 24 rfl) (by decide) (fun _ => ?_) (fun hne => absurd rfl hne)
  exact K _ w2 VA (CR_fC VA f2 R2.1 C1) R2
set_option maxHeartbeats 2000000 in
set_option maxRecDepth 20000 in
theorem cs_forms {E : sxE} {n : Nat} {f : Nat → Int32} (hX : XO E) (hS : scr9 E n f) : cs9 E n f 1536 := by
  intro I ce sl A w Q hn hi hce VA HC HR K
  refine V_aload_n (i := 1) (sx_di dL_q37 0 rfl) rfl rfl ?_
  refine V_cV0 (mc' := 0) (ms' := 0) (M' := mX11_forms) 5 (sx_di dL_q37 1 rfl) lL_181 vX11_forms (HC.1.k 16 rfl) (by decide) rfl (Nat.le_of_ble_eq_true rfl) ⟨Nat.le_of_ble_eq_true rfl, Nat.le_of_ble_eq_true rfl⟩ hce ?_
  refine (oC_forms VA HC) _ (fun w1 C1 f1 => ?_)
  have R1 := RR_fR f1 C1.1 HR
  refine V_aload_n (i := 2) (sx_di dL_q37 2 rfl) rfl rfl ?_
  refine V_cV0 (mc' := 0) (ms' := 0) (M' := mX12_forms) 2 (sx_di dL_q37 3 rfl) lL_184 vX12_forms (R1.1.k 381 rfl) (by decide) rfl (Nat.le_of_ble_eq_true rfl) ⟨Nat.le_of_ble_eq_true rfl, Nat.le_of_ble_eq_true rfl⟩ hce ?_
  refine (oR_forms VA R1) _ (fun w2 R2 f2 => ?_)
  refine V_icmp_eq (tgt := 1749) (sx_di dL_q37 4 rfl) (by decide) (fun _ => ?_) (fun hne => absurd rfl hne)
  exact K _ w2 VA (CR_fC VA f2 R2.1 C1) R2
set_option maxHeartbeats 2000000 in
set_option maxRecDepth 20000 in
theorem cs_odds {E : sxE} {n : Nat} {f : Nat → Int32} (hX : XO E) (hS : scr9 E n f) : cs9 E n f 1549 := by
  intro I ce sl A w Q hn hi hce VA HC HR K
  refine V_aload_n (i := 1) (sx_di dL_q38 0 rfl) rfl rfl ?_
  refine V_aload_n (i := 0) (sx_di dL_q38 1 rfl) rfl rfl ?_
  refine V_iload (sx_di dL_q38 2 rfl) rfl ?_
  refine V_iconst (v := 1) (sx_di dL_q38 3 rfl) (by decide) ?_
  refine V_iadd (sx_di dL_q38 4 rfl) ?_
  refine V_ialdO (N := n) (f := f) (sx_di dL_q38 5 rfl) hS (scr_in (k := 1) hn hi (by decide)) ?_
  refine V_aload_n (i := 0) (sx_di dL_q38 6 rfl) rfl rfl ?_
  refine V_iload (sx_di dL_q38 7 rfl) rfl ?_
  refine V_iconst (v := 2) (sx_di dL_q38 8 rfl) (by decide) ?_
  refine V_iadd (sx_di dL_q38 9 rfl) ?_
  refine V_ialdO (N := n) (f := f) (sx_di dL_q38 10 rfl) hS (scr_in (k := 2) hn hi (by decide)) ?_
  refine V_cV2 (mc' := 0) (ms' := 0) (M' := mX11_odds) 6 (sx_di dL_q38 11 rfl) lL_185 vX11_odds (HC.1.k 16 rfl) (by decide) rfl (Nat.le_of_ble_eq_true rfl) ⟨Nat.le_of_ble_eq_true rfl, Nat.le_of_ble_eq_true rfl⟩ hce ?_
  refine (oC_odds VA HC _ _) _ (fun w1 C1 f1 => ?_)
  have R1 := RR_fR f1 C1.1 HR
  refine V_aload_n (i := 2) (sx_di dL_q38 12 rfl) rfl rfl ?_
  refine V_aload_n (i := 0) (sx_di dL_q38 13 rfl) rfl rfl ?_
  refine V_iload (sx_di dL_q38 14 rfl) rfl ?_
  refine V_iconst (v := 1) (sx_di dL_q38 15 rfl) (by decide) ?_
  refine V_iadd (sx_di dL_q38 16 rfl) ?_
  refine V_ialdO (N := n) (f := f) (sx_di dL_q38 17 rfl) hS (scr_in (k := 1) hn hi (by decide)) ?_
  refine V_aload_n (i := 0) (sx_di dL_q38 18 rfl) rfl rfl ?_
  refine V_iload (sx_di dL_q38 19 rfl) rfl ?_
  refine V_iconst (v := 2) (sx_di dL_q38 20 rfl) (by decide) ?_
  refine V_iadd (sx_di dL_q38 21 rfl) ?_
  refine V_ialdO (N := n) (f := f) (sx_di dL_q38 22 rfl) hS (scr_in (k := 2) hn hi (by decide)) ?_
  refine V_cV2 (mc' := 0) (ms' := 0) (M' := mX12_odds) 17 (sx_di dL_q38 23 rfl) lL_188 vX12_odds (R1.1.k 381 rfl) (by decide) rfl (Nat.le_of_ble_eq_true rfl) ⟨Nat.le_of_ble_eq_true rfl, Nat.le_of_ble_eq_true rfl⟩ hce ?_
  refine (oR_odds VA R1 _ _) _ (fun w2 R2 f2 => ?_)
  refine V_icmp_eq (tgt := 1749) (sx_di dL_q38 24 rfl) (by decide) (fun _ => ?_) (fun hne => absurd rfl hne)
  exact K _ w2 VA (CR_fC VA f2 R2.1 C1) R2
set_option maxHeartbeats 2000000 in
set_option maxRecDepth 20000 in
theorem cs_shares {E : sxE} {n : Nat} {f : Nat → Int32} (hX : XO E) (hS : scr9 E n f) : cs9 E n f 1586 := by
  intro I ce sl A w Q hn hi hce VA HC HR K
  refine V_aload_n (i := 1) (sx_di dL_q39 0 rfl) rfl rfl ?_
  refine V_aload_n (i := 0) (sx_di dL_q39 1 rfl) rfl rfl ?_
  refine V_iload (sx_di dL_q39 2 rfl) rfl ?_
  refine V_iconst (v := 1) (sx_di dL_q39 3 rfl) (by decide) ?_
  refine V_iadd (sx_di dL_q39 4 rfl) ?_
  refine V_ialdO (N := n) (f := f) (sx_di dL_q39 5 rfl) hS (scr_in (k := 1) hn hi (by decide)) ?_
  refine V_aload_n (i := 0) (sx_di dL_q39 6 rfl) rfl rfl ?_
  refine V_iload (sx_di dL_q39 7 rfl) rfl ?_
  refine V_iconst (v := 2) (sx_di dL_q39 8 rfl) (by decide) ?_
  refine V_iadd (sx_di dL_q39 9 rfl) ?_
  refine V_ialdO (N := n) (f := f) (sx_di dL_q39 10 rfl) hS (scr_in (k := 2) hn hi (by decide)) ?_
  refine V_cV2 (mc' := 0) (ms' := 0) (M' := mX11_shares) 5 (sx_di dL_q39 11 rfl) lL_189 vX11_shares (HC.1.k 16 rfl) (by decide) rfl (Nat.le_of_ble_eq_true rfl) ⟨Nat.le_of_ble_eq_true rfl, Nat.le_of_ble_eq_true rfl⟩ hce ?_
  refine (oC_shares VA HC _ _) _ (fun w1 C1 f1 => ?_)
  have R1 := RR_fR f1 C1.1 HR
  refine V_aload_n (i := 2) (sx_di dL_q39 12 rfl) rfl rfl ?_
  refine V_aload_n (i := 0) (sx_di dL_q39 13 rfl) rfl rfl ?_
  refine V_iload (sx_di dL_q39 14 rfl) rfl ?_
  refine V_iconst (v := 1) (sx_di dL_q39 15 rfl) (by decide) ?_
  refine V_iadd (sx_di dL_q39 16 rfl) ?_
  refine V_ialdO (N := n) (f := f) (sx_di dL_q39 17 rfl) hS (scr_in (k := 1) hn hi (by decide)) ?_
  refine V_aload_n (i := 0) (sx_di dL_q39 18 rfl) rfl rfl ?_
  refine V_iload (sx_di dL_q39 19 rfl) rfl ?_
  refine V_iconst (v := 2) (sx_di dL_q39 20 rfl) (by decide) ?_
  refine V_iadd (sx_di dL_q39 21 rfl) ?_
  refine V_ialdO (N := n) (f := f) (sx_di dL_q39 22 rfl) hS (scr_in (k := 2) hn hi (by decide)) ?_
  refine V_cV2 (mc' := 0) (ms' := 0) (M' := mX12_shares) 7 (sx_di dL_q39 23 rfl) lL_192 vX12_shares (R1.1.k 381 rfl) (by decide) rfl (Nat.le_of_ble_eq_true rfl) ⟨Nat.le_of_ble_eq_true rfl, Nat.le_of_ble_eq_true rfl⟩ hce ?_
  refine (oR_shares VA R1 _ _) _ (fun w2 R2 f2 => ?_)
  refine V_icmp_eq (tgt := 1749) (sx_di dL_q39 24 rfl) (by decide) (fun _ => ?_) (fun hne => absurd rfl hne)
  exact K _ w2 VA (CR_fC VA f2 R2.1 C1) R2
set_option maxHeartbeats 2000000 in
set_option maxRecDepth 20000 in
theorem cs_most {E : sxE} {n : Nat} {f : Nat → Int32} (hX : XO E) (hS : scr9 E n f) : cs9 E n f 1623 := by
  intro I ce sl A w Q hn hi hce VA HC HR K
  refine V_aload_n (i := 1) (sx_di dL_q40 0 rfl) rfl rfl ?_
  refine V_aload_n (i := 0) (sx_di dL_q40 1 rfl) rfl rfl ?_
  refine V_iload (sx_di dL_q40 2 rfl) rfl ?_
  refine V_iconst (v := 1) (sx_di dL_q40 3 rfl) (by decide) ?_
  refine V_iadd (sx_di dL_q40 4 rfl) ?_
  refine V_ialdO (N := n) (f := f) (sx_di dL_q40 5 rfl) hS (scr_in (k := 1) hn hi (by decide)) ?_
  refine V_cV1 (mc' := 0) (ms' := 0) (M' := mX11_most) 6 (sx_di dL_q40 6 rfl) lL_193 vX11_most (HC.1.k 16 rfl) (by decide) rfl (Nat.le_of_ble_eq_true rfl) ⟨Nat.le_of_ble_eq_true rfl, Nat.le_of_ble_eq_true rfl⟩ hce ?_
  refine (oC_most VA HC _) _ (fun w1 C1 f1 => ?_)
  have R1 := RR_fR f1 C1.1 HR
  refine V_aload_n (i := 2) (sx_di dL_q40 7 rfl) rfl rfl ?_
  refine V_aload_n (i := 0) (sx_di dL_q40 8 rfl) rfl rfl ?_
  refine V_iload (sx_di dL_q40 9 rfl) rfl ?_
  refine V_iconst (v := 1) (sx_di dL_q40 10 rfl) (by decide) ?_
  refine V_iadd (sx_di dL_q40 11 rfl) ?_
  refine V_ialdO (N := n) (f := f) (sx_di dL_q40 12 rfl) hS (scr_in (k := 1) hn hi (by decide)) ?_
  refine V_cV1 (mc' := 0) (ms' := 0) (M' := mX12_most) 9 (sx_di dL_q40 13 rfl) lL_196 vX12_most (R1.1.k 381 rfl) (by decide) rfl (Nat.le_of_ble_eq_true rfl) ⟨Nat.le_of_ble_eq_true rfl, Nat.le_of_ble_eq_true rfl⟩ hce ?_
  refine (oR_most VA R1 _) _ (fun w2 R2 f2 => ?_)
  refine V_icmp_eq (tgt := 1749) (sx_di dL_q40 14 rfl) (by decide) (fun _ => ?_) (fun hne => absurd rfl hne)
  exact K _ w2 VA (CR_fC VA f2 R2.1 C1) R2
set_option maxHeartbeats 2000000 in
set_option maxRecDepth 20000 in
theorem cs_used {E : sxE} {n : Nat} {f : Nat → Int32} (hX : XO E) (hS : scr9 E n f) : cs9 E n f 1648 := by
  intro I ce sl A w Q hn hi hce VA HC HR K
  refine V_aload_n (i := 1) (sx_di dL_q41 0 rfl) rfl rfl ?_
  refine V_aload_n (i := 0) (sx_di dL_q41 1 rfl) rfl rfl ?_
  refine V_iload (sx_di dL_q41 2 rfl) rfl ?_
  refine V_iconst (v := 1) (sx_di dL_q41 3 rfl) (by decide) ?_
  refine V_iadd (sx_di dL_q41 4 rfl) ?_
  refine V_ialdO (N := n) (f := f) (sx_di dL_q41 5 rfl) hS (scr_in (k := 1) hn hi (by decide)) ?_
  refine V_cV1 (mc' := 0) (ms' := 0) (M' := mX11_used) 2 (sx_di dL_q41 6 rfl) lL_197 vX11_used (HC.1.k 16 rfl) (by decide) rfl (Nat.le_of_ble_eq_true rfl) ⟨Nat.le_of_ble_eq_true rfl, Nat.le_of_ble_eq_true rfl⟩ hce ?_
  refine (oC_used VA HC _) _ (fun w1 C1 f1 => ?_)
  have R1 := RR_fR f1 C1.1 HR
  refine V_aload_n (i := 2) (sx_di dL_q41 7 rfl) rfl rfl ?_
  refine V_aload_n (i := 0) (sx_di dL_q41 8 rfl) rfl rfl ?_
  refine V_iload (sx_di dL_q41 9 rfl) rfl ?_
  refine V_iconst (v := 1) (sx_di dL_q41 10 rfl) (by decide) ?_
  refine V_iadd (sx_di dL_q41 11 rfl) ?_
  refine V_ialdO (N := n) (f := f) (sx_di dL_q41 12 rfl) hS (scr_in (k := 1) hn hi (by decide)) ?_
  refine V_cV1 (mc' := 0) (ms' := 0) (M' := mX12_used) 3 (sx_di dL_q41 13 rfl) lL_200 vX12_used (R1.1.k 381 rfl) (by decide) rfl (Nat.le_of_ble_eq_true rfl) ⟨Nat.le_of_ble_eq_true rfl, Nat.le_of_ble_eq_true rfl⟩ hce ?_
  refine (oR_used VA R1 _) _ (fun w2 R2 f2 => ?_)
  refine V_icmp_eq (tgt := 1749) (sx_di dL_q41 14 rfl) (by decide) (fun _ => ?_) (fun hne => absurd rfl hne)
  exact K _ w2 VA (CR_fC VA f2 R2.1 C1) R2
set_option maxHeartbeats 2000000 in
set_option maxRecDepth 20000 in
theorem cs_near {E : sxE} {n : Nat} {f : Nat → Int32} (hX : XO E) (hS : scr9 E n f) : cs9 E n f 1673 := by
  intro I ce sl A w Q hn hi hce VA HC HR K
  refine V_aload_n (i := 1) (sx_di dL_q42 0 rfl) rfl rfl ?_
  refine V_aload_n (i := 0) (sx_di dL_q42 1 rfl) rfl rfl ?_
  refine V_iload (sx_di dL_q42 2 rfl) rfl ?_
  refine V_iconst (v := 1) (sx_di dL_q42 3 rfl) (by decide) ?_
  refine V_iadd (sx_di dL_q42 4 rfl) ?_
  refine V_ialdO (N := n) (f := f) (sx_di dL_q42 5 rfl) hS (scr_in (k := 1) hn hi (by decide)) ?_
  refine V_cV1 (mc' := 0) (ms' := 0) (M' := mX11_near) 2 (sx_di dL_q42 6 rfl) lL_201 vX11_near (HC.1.k 16 rfl) (by decide) rfl (Nat.le_of_ble_eq_true rfl) ⟨Nat.le_of_ble_eq_true rfl, Nat.le_of_ble_eq_true rfl⟩ hce ?_
  refine (oC_near VA HC _) _ (fun w1 C1 f1 => ?_)
  have R1 := RR_fR f1 C1.1 HR
  refine V_aload_n (i := 2) (sx_di dL_q42 7 rfl) rfl rfl ?_
  refine V_aload_n (i := 0) (sx_di dL_q42 8 rfl) rfl rfl ?_
  refine V_iload (sx_di dL_q42 9 rfl) rfl ?_
  refine V_iconst (v := 1) (sx_di dL_q42 10 rfl) (by decide) ?_
  refine V_iadd (sx_di dL_q42 11 rfl) ?_
  refine V_ialdO (N := n) (f := f) (sx_di dL_q42 12 rfl) hS (scr_in (k := 1) hn hi (by decide)) ?_
  refine V_cV1 (mc' := 0) (ms' := 0) (M' := mX12_near) 3 (sx_di dL_q42 13 rfl) lL_204 vX12_near (R1.1.k 381 rfl) (by decide) rfl (Nat.le_of_ble_eq_true rfl) ⟨Nat.le_of_ble_eq_true rfl, Nat.le_of_ble_eq_true rfl⟩ hce ?_
  refine (oR_near VA R1 _) _ (fun w2 R2 f2 => ?_)
  refine V_icmp_eq (tgt := 1749) (sx_di dL_q42 14 rfl) (by decide) (fun _ => ?_) (fun hne => absurd rfl hne)
  exact K _ w2 VA (CR_fC VA f2 R2.1 C1) R2
set_option maxHeartbeats 2000000 in
set_option maxRecDepth 20000 in
theorem cs_image {E : sxE} {n : Nat} {f : Nat → Int32} (hX : XO E) (hS : scr9 E n f) : cs9 E n f 1698 := by
  intro I ce sl A w Q hn hi hce VA HC HR K
  refine V_aload_n (i := 1) (sx_di dL_q43 0 rfl) rfl rfl ?_
  refine V_cV0 (mc' := 0) (ms' := 0) (M' := mX11_image) 4 (sx_di dL_q43 1 rfl) lL_205 vX11_image (HC.1.k 16 rfl) (by decide) rfl (Nat.le_of_ble_eq_true rfl) ⟨Nat.le_of_ble_eq_true rfl, Nat.le_of_ble_eq_true rfl⟩ hce ?_
  refine (oC_image VA HC) _ (fun w1 C1 f1 => ?_)
  have R1 := RR_fR f1 C1.1 HR
  refine V_aload_n (i := 2) (sx_di dL_q43 2 rfl) rfl rfl ?_
  refine V_cV0 (mc' := 0) (ms' := 0) (M' := mX12_image) 1 (sx_di dL_q43 3 rfl) lL_208 vX12_image (R1.1.k 381 rfl) (by decide) rfl (Nat.le_of_ble_eq_true rfl) ⟨Nat.le_of_ble_eq_true rfl, Nat.le_of_ble_eq_true rfl⟩ hce ?_
  refine (oR_image VA R1) _ (fun w2 R2 f2 => ?_)
  refine V_icmp_eq (tgt := 1749) (sx_di dL_q43 4 rfl) (by decide) (fun _ => ?_) (fun hne => absurd rfl hne)
  exact K _ w2 (AV_image VA) (CR_fC (AV_image VA) f2 R2.1 C1) R2
set_option maxHeartbeats 2000000 in
set_option maxRecDepth 20000 in
theorem cs_back {E : sxE} {n : Nat} {f : Nat → Int32} (hX : XO E) (hS : scr9 E n f) : cs9 E n f 1711 := by
  intro I ce sl A w Q hn hi hce VA HC HR K
  refine V_aload_n (i := 1) (sx_di dL_q44 0 rfl) rfl rfl ?_
  refine V_cV0 (mc' := 0) (ms' := 0) (M' := mX11_back) 4 (sx_di dL_q44 1 rfl) lL_209 vX11_back (HC.1.k 16 rfl) (by decide) rfl (Nat.le_of_ble_eq_true rfl) ⟨Nat.le_of_ble_eq_true rfl, Nat.le_of_ble_eq_true rfl⟩ hce ?_
  refine (oC_back VA HC) _ (fun w1 C1 f1 => ?_)
  have R1 := RR_fR f1 C1.1 HR
  refine V_aload_n (i := 2) (sx_di dL_q44 2 rfl) rfl rfl ?_
  refine V_cV0 (mc' := 0) (ms' := 0) (M' := mX12_back) 1 (sx_di dL_q44 3 rfl) lL_212 vX12_back (R1.1.k 381 rfl) (by decide) rfl (Nat.le_of_ble_eq_true rfl) ⟨Nat.le_of_ble_eq_true rfl, Nat.le_of_ble_eq_true rfl⟩ hce ?_
  refine (oR_back VA R1) _ (fun w2 R2 f2 => ?_)
  refine V_icmp_eq (tgt := 1749) (sx_di dL_q44 4 rfl) (by decide) (fun _ => ?_) (fun hne => absurd rfl hne)
  exact K _ w2 (AV_back VA) (CR_fC (AV_back VA) f2 R2.1 C1) R2
set_option maxHeartbeats 2000000 in
set_option maxRecDepth 20000 in
theorem cs_count {E : sxE} {n : Nat} {f : Nat → Int32} (hX : XO E) (hS : scr9 E n f) : cs9 E n f 1724 := by
  intro I ce sl A w Q hn hi hce VA HC HR K
  refine V_aload_n (i := 1) (sx_di dL_q45 0 rfl) rfl rfl ?_
  refine V_aload_n (i := 0) (sx_di dL_q45 1 rfl) rfl rfl ?_
  refine V_iload (sx_di dL_q45 2 rfl) rfl ?_
  refine V_iconst (v := 1) (sx_di dL_q45 3 rfl) (by decide) ?_
  refine V_iadd (sx_di dL_q45 4 rfl) ?_
  refine V_ialdO (N := n) (f := f) (sx_di dL_q45 5 rfl) hS (scr_in (k := 1) hn hi (by decide)) ?_
  refine V_cV1 (mc' := 0) (ms' := 0) (M' := mX11_count) 3 (sx_di dL_q45 6 rfl) lL_213 vX11_count (HC.1.k 16 rfl) (by decide) rfl (Nat.le_of_ble_eq_true rfl) ⟨Nat.le_of_ble_eq_true rfl, Nat.le_of_ble_eq_true rfl⟩ hce ?_
  refine (oC_count VA HC _) _ (fun w1 C1 f1 => ?_)
  have R1 := RR_fR f1 C1.1 HR
  refine V_aload_n (i := 2) (sx_di dL_q45 7 rfl) rfl rfl ?_
  refine V_aload_n (i := 0) (sx_di dL_q45 8 rfl) rfl rfl ?_
  refine V_iload (sx_di dL_q45 9 rfl) rfl ?_
  refine V_iconst (v := 1) (sx_di dL_q45 10 rfl) (by decide) ?_
  refine V_iadd (sx_di dL_q45 11 rfl) ?_
  refine V_ialdO (N := n) (f := f) (sx_di dL_q45 12 rfl) hS (scr_in (k := 1) hn hi (by decide)) ?_
  refine V_cV1 (mc' := 0) (ms' := 0) (M' := mX12_count) 1 (sx_di dL_q45 13 rfl) lL_216 vX12_count (R1.1.k 381 rfl) (by decide) rfl (Nat.le_of_ble_eq_true rfl) ⟨Nat.le_of_ble_eq_true rfl, Nat.le_of_ble_eq_true rfl⟩ hce ?_
  refine (oR_count VA R1 _) _ (fun w2 R2 f2 => ?_)
  refine V_icmp_eq (tgt := 1749) (sx_di dL_q45 14 rfl) (by decide) (fun _ => ?_) (fun hne => absurd rfl hne)
  exact K _ w2 VA (CR_fC VA f2 R2.1 C1) R2

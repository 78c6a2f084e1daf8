/-! the law's cases: ring, years, seen, was -/
theorem op_years {E : sxE} {A : AS} (VA : AV A) : ∃ q : Int32 → Int64 → Int32 × AS, ∀ x z, AV (q x z).2 ∧ (∀ {w : hpW}, CR A w → oC E mX11_years 8 [.ref 16, .int x, .long z] w A (q x z).1 (q x z).2) ∧ ∀ {w : hpW}, RR A w → oR E mX12_years 10 [.ref 381, .int x, .long z] w A (q x z).1 (q x z).2 := ⟨fun x z => qy_ d1r dvr A x z, fun x z => ⟨AVy_ (f := d1r) dvr_ok VA x z, fun H => oCy_ rfl rfl dvr_ok VA H x z, fun H => oRy_ rfl rfl dvr_ok VA H x z⟩⟩
theorem op_ring2 {E : sxE} {A : AS} (V : AV A) : ∃ q : Int32 → Int32, ∀ x, (∀ {w : hpW}, CR A w → oC E mX11_ring 4 [.ref 16, .int x] w A (q x) A) ∧ ∀ {w : hpW}, RR A w → oR E mX12_ring 3 [.ref 381, .int x] w A (q x) A := ⟨fun x => Classical.choose (op_ring (E := E) V x), fun x => Classical.choose_spec (op_ring (E := E) V x)⟩
set_option maxHeartbeats 2000000 in
set_option maxRecDepth 20000 in
theorem cs_ring {E : sxE} {n : Nat} {f : Nat → Int32} (hX : XO E) (hS : scr9 E n f) : cs9 E n f 1446 := by
  intro I ce sl A w Q hn hi hce VA HC HR K
  obtain ⟨q9, hq⟩ := op_ring2 (E := E) VA
  refine V_aload_n (i := 1) (sx_di dL_q35 0 rfl) rfl rfl ?_
  refine V_aload_n (i := 0) (sx_di dL_q35 1 rfl) rfl rfl ?_
  refine V_iload (sx_di dL_q35 2 rfl) rfl ?_
  refine V_iconst (v := 1) (sx_di dL_q35 3 rfl) (by decide) ?_
  refine V_iadd (sx_di dL_q35 4 rfl) ?_
  refine V_ialdO (N := n) (f := f) (sx_di dL_q35 5 rfl) hS (scr_in (k := 1) hn hi (by decide)) ?_
  refine V_cV1 (mc' := 0) (ms' := 0) (M' := mX11_ring) 4 (sx_di dL_q35 6 rfl) lL_173 vX11_ring (HC.1.k 16 rfl) (by decide) rfl (Nat.le_of_ble_eq_true rfl) ⟨Nat.le_of_ble_eq_true rfl, Nat.le_of_ble_eq_true rfl⟩ hce ?_
  refine ((hq _).1 HC) _ (fun w1 C1 f1 => ?_)
  have R1 := RR_fR f1 C1.1 HR
  refine V_aload_n (i := 2) (sx_di dL_q35 7 rfl) rfl rfl ?_
  refine V_aload_n (i := 0) (sx_di dL_q35 8 rfl) rfl rfl ?_
  refine V_iload (sx_di dL_q35 9 rfl) rfl ?_
  refine V_iconst (v := 1) (sx_di dL_q35 10 rfl) (by decide) ?_
  refine V_iadd (sx_di dL_q35 11 rfl) ?_
  refine V_ialdO (N := n) (f := f) (sx_di dL_q35 12 rfl) hS (scr_in (k := 1) hn hi (by decide)) ?_
  refine V_cV1 (mc' := 0) (ms' := 0) (M' := mX12_ring) 3 (sx_di dL_q35 13 rfl) lL_176 vX12_ring (R1.1.k 381 rfl) (by decide) rfl (Nat.le_of_ble_eq_true rfl) ⟨Nat.le_of_ble_eq_true rfl, Nat.le_of_ble_eq_true rfl⟩ hce ?_
  refine ((hq _).2 R1) _ (fun w2 R2 f2 => ?_)
  refine V_icmp_eq (tgt := 1749) (sx_di dL_q35 14 rfl) (by decide) (fun _ => ?_) (fun hne => absurd rfl hne)
  exact K _ w2 VA (CR_fC VA f2 R2.1 C1) R2
set_option maxHeartbeats 2000000 in
set_option maxRecDepth 20000 in
theorem cs_years {E : sxE} {n : Nat} {f : Nat → Int32} (hX : XO E) (hS : scr9 E n f) : cs9 E n f 779 := by
  intro I ce sl A w Q hn hi hce VA HC HR K
  obtain ⟨q9, hq⟩ := op_years (E := E) VA
  refine V_aload_n (i := 1) (sx_di dL_q16 0 rfl) rfl rfl ?_
  refine V_aload_n (i := 0) (sx_di dL_q16 1 rfl) rfl rfl ?_
  refine V_iload (sx_di dL_q16 2 rfl) rfl ?_
  refine V_iconst (v := 1) (sx_di dL_q16 3 rfl) (by decide) ?_
  refine V_iadd (sx_di dL_q16 4 rfl) ?_
  refine V_ialdO (N := n) (f := f) (sx_di dL_q16 5 rfl) hS (scr_in (k := 1) hn hi (by decide)) ?_
  refine V_aload_n (i := 0) (sx_di dL_q16 6 rfl) rfl rfl ?_
  refine V_iload (sx_di dL_q16 7 rfl) rfl ?_
  refine V_iconst (v := 2) (sx_di dL_q16 8 rfl) (by decide) ?_
  refine V_iadd (sx_di dL_q16 9 rfl) ?_
  refine V_ialdO (N := n) (f := f) (sx_di dL_q16 10 rfl) hS (scr_in (k := 2) hn hi (by decide)) ?_
  refine V_i2l (sx_di dL_q16 11 rfl) ?_
  refine V_bipush (v := 32) (sx_di dL_q16 12 rfl) (by decide) ?_
  refine V_lshl (sx_di dL_q16 13 rfl) ?_
  refine V_aload_n (i := 0) (sx_di dL_q16 14 rfl) rfl rfl ?_
  refine V_iload (sx_di dL_q16 15 rfl) rfl ?_
  refine V_iconst (v := 3) (sx_di dL_q16 16 rfl) (by decide) ?_
  refine V_iadd (sx_di dL_q16 17 rfl) ?_
  refine V_ialdO (N := n) (f := f) (sx_di dL_q16 18 rfl) hS (scr_in (k := 3) hn hi (by decide)) ?_
  refine V_i2l (sx_di dL_q16 19 rfl) ?_
  refine V_ldc2 (sx_di dL_q16 20 rfl) kL_92 ?_
  refine V_land (sx_di dL_q16 21 rfl) ?_
  refine V_lor (sx_di dL_q16 22 rfl) ?_
  refine V_cV2 (mc' := 0) (ms' := 0) (M' := mX11_years) 8 (sx_di dL_q16 23 rfl) lL_94 vX11_years (HC.1.k 16 rfl) (by decide) rfl (Nat.le_of_ble_eq_true rfl) ⟨Nat.le_of_ble_eq_true rfl, Nat.le_of_ble_eq_true rfl⟩ hce ?_
  refine ((hq _ _).2.1 HC) _ (fun w1 C1 f1 => ?_)
  have R1 := RR_fR f1 C1.1 HR
  refine V_aload_n (i := 2) (sx_di dL_q16 24 rfl) rfl rfl ?_
  refine V_aload_n (i := 0) (sx_di dL_q16 25 rfl) rfl rfl ?_
  refine V_iload (sx_di dL_q16 26 rfl) rfl ?_
  refine V_iconst (v := 1) (sx_di dL_q16 27 rfl) (by decide) ?_
  refine V_iadd (sx_di dL_q16 28 rfl) ?_
  refine V_ialdO (N := n) (f := f) (sx_di dL_q16 29 rfl) hS (scr_in (k := 1) hn hi (by decide)) ?_
  refine V_aload_n (i := 0) (sx_di dL_q16 30 rfl) rfl rfl ?_
  refine V_iload (sx_di dL_q16 31 rfl) rfl ?_
  refine V_iconst (v := 2) (sx_di dL_q16 32 rfl) (by decide) ?_
  refine V_iadd (sx_di dL_q16 33 rfl) ?_
  refine V_ialdO (N := n) (f := f) (sx_di dL_q16 34 rfl) hS (scr_in (k := 2) hn hi (by decide)) ?_
  refine V_i2l (sx_di dL_q16 35 rfl) ?_
  refine V_bipush (v := 32) (sx_di dL_q16 36 rfl) (by decide) ?_
  refine V_lshl (sx_di dL_q16 37 rfl) ?_
  refine V_aload_n (i := 0) (sx_di dL_q16 38 rfl) rfl rfl ?_
  refine V_iload (sx_di dL_q16 39 rfl) rfl ?_
  refine V_iconst (v := 3) (sx_di dL_q16 40 rfl) (by decide) ?_
  refine V_iadd (sx_di dL_q16 41 rfl) ?_
  refine V_ialdO (N := n) (f := f) (sx_di dL_q16 42 rfl) hS (scr_in (k := 3) hn hi (by decide)) ?_
  refine V_i2l (sx_di dL_q16 43 rfl) ?_
  refine V_ldc2 (sx_di dL_q16 44 rfl) kL_92 ?_
  refine V_land (sx_di dL_q16 45 rfl) ?_
  refine V_lor (sx_di dL_q16 46 rfl) ?_
  refine V_cV2 (mc' := 0) (ms' := 0) (M' := mX12_years) 10 (sx_di dL_q16 47 rfl) lL_98 vX12_years (R1.1.k 381 rfl) (by decide) rfl (Nat.le_of_ble_eq_true rfl) ⟨Nat.le_of_ble_eq_true rfl, Nat.le_of_ble_eq_true rfl⟩ hce ?_
  refine ((hq _ _).2.2 R1) _ (fun w2 R2 f2 => ?_)
  refine V_icmp_eq (tgt := 1749) (sx_di dL_q16 48 rfl) (by decide) (fun _ => ?_) (fun hne => absurd rfl hne)
  exact K _ w2 (hq _ _).1 (CR_fC (hq _ _).1 f2 R2.1 C1) R2
set_option maxHeartbeats 2000000 in
set_option maxRecDepth 20000 in
theorem cs_seen {E : sxE} {n : Nat} {f : Nat → Int32} (hX : XO E) (hS : scr9 E n f) : cs9 E n f 1282 := by
  intro I ce sl A w Q hn hi hce VA HC HR K
  refine V_aload_n (i := 1) (sx_di dL_q31 0 rfl) rfl rfl ?_
  refine V_aload_n (i := 0) (sx_di dL_q31 1 rfl) rfl rfl ?_
  refine V_iload (sx_di dL_q31 2 rfl) rfl ?_
  refine V_iconst (v := 1) (sx_di dL_q31 3 rfl) (by decide) ?_
  refine V_iadd (sx_di dL_q31 4 rfl) ?_
  refine V_ialdO (N := n) (f := f) (sx_di dL_q31 5 rfl) hS (scr_in (k := 1) hn hi (by decide)) ?_
  refine V_aload_n (i := 0) (sx_di dL_q31 6 rfl) rfl rfl ?_
  refine V_iload (sx_di dL_q31 7 rfl) rfl ?_
  refine V_iconst (v := 2) (sx_di dL_q31 8 rfl) (by decide) ?_
  refine V_iadd (sx_di dL_q31 9 rfl) ?_
  refine V_ialdO (N := n) (f := f) (sx_di dL_q31 10 rfl) hS (scr_in (k := 2) hn hi (by decide)) ?_
  refine V_aload_n (i := 0) (sx_di dL_q31 11 rfl) rfl rfl ?_
  refine V_iload (sx_di dL_q31 12 rfl) rfl ?_
  refine V_iconst (v := 3) (sx_di dL_q31 13 rfl) (by decide) ?_
  refine V_iadd (sx_di dL_q31 14 rfl) ?_
  refine V_ialdO (N := n) (f := f) (sx_di dL_q31 15 rfl) hS (scr_in (k := 3) hn hi (by decide)) ?_
  refine V_if_eq (tgt := 1308) (sx_di dL_q31 16 rfl) (by decide) (fun h1301 => ?_) (fun h1301 => ?_)
  · have b9 : b01 0 := Or.inl rfl
    refine V_iconst (v := 0) (sx_di dL_q31 19 rfl) (by decide) ?_
    refine V_cV3 (mc' := 0) (ms' := 0) (M' := mX11_seen) 2 (sx_di dL_q31 20 rfl) lL_156 vX11_seen (HC.1.k 16 rfl) (by decide) rfl (Nat.le_of_ble_eq_true rfl) ⟨Nat.le_of_ble_eq_true rfl, Nat.le_of_ble_eq_true rfl⟩ hce ?_
    refine (oC_seen VA HC _ _ _ b9) _ (fun w1 C1 f1 => ?_)
    have R1 := RR_fR f1 C1.1 HR
    refine V_aload_n (i := 2) (sx_di dL_q31 21 rfl) rfl rfl ?_
    refine V_aload_n (i := 0) (sx_di dL_q31 22 rfl) rfl rfl ?_
    refine V_iload (sx_di dL_q31 23 rfl) rfl ?_
    refine V_iconst (v := 1) (sx_di dL_q31 24 rfl) (by decide) ?_
    refine V_iadd (sx_di dL_q31 25 rfl) ?_
    refine V_ialdO (N := n) (f := f) (sx_di dL_q31 26 rfl) hS (scr_in (k := 1) hn hi (by decide)) ?_
    refine V_aload_n (i := 0) (sx_di dL_q31 27 rfl) rfl rfl ?_
    refine V_iload (sx_di dL_q31 28 rfl) rfl ?_
    refine V_iconst (v := 2) (sx_di dL_q31 29 rfl) (by decide) ?_
    refine V_iadd (sx_di dL_q31 30 rfl) ?_
    refine V_ialdO (N := n) (f := f) (sx_di dL_q31 31 rfl) hS (scr_in (k := 2) hn hi (by decide)) ?_
    refine V_aload_n (i := 0) (sx_di dL_q31 32 rfl) rfl rfl ?_
    refine V_iload (sx_di dL_q31 33 rfl) rfl ?_
    refine V_iconst (v := 3) (sx_di dL_q31 34 rfl) (by decide) ?_
    refine V_iadd (sx_di dL_q31 35 rfl) ?_
    refine V_ialdO (N := n) (f := f) (sx_di dL_q31 36 rfl) hS (scr_in (k := 3) hn hi (by decide)) ?_
    refine V_if_eq (tgt := 1338) (sx_di dL_q31 37 rfl) (by decide) (fun _ => ?_) (fun h1331 => absurd h1301 h1331)
    refine V_iconst (v := 0) (sx_di dL_q31 40 rfl) (by decide) ?_
    refine V_cV3 (mc' := 0) (ms' := 0) (M' := mX12_seen) 3 (sx_di dL_q31 41 rfl) lL_160 vX12_seen (R1.1.k 381 rfl) (by decide) rfl (Nat.le_of_ble_eq_true rfl) ⟨Nat.le_of_ble_eq_true rfl, Nat.le_of_ble_eq_true rfl⟩ hce ?_
    refine (oR_seen VA R1 _ _ _ b9) _ (fun w2 R2 f2 => ?_)
    refine V_icmp_eq (tgt := 1749) (sx_di dL_q31 42 rfl) (by decide) (fun _ => ?_) (fun hne => absurd rfl hne)
    exact K _ w2 (AV_seen VA _ _ _ b9) (CR_fC (AV_seen VA _ _ _ b9) f2 R2.1 C1) R2
  · have b9 : b01 1 := Or.inr rfl
    refine V_iconst (v := 1) (sx_di dL_q31 17 rfl) (by decide) ?_
    refine V_goto (tgt := 1309) (sx_di dL_q31 18 rfl) (by decide) ?_
    refine V_cV3 (mc' := 0) (ms' := 0) (M' := mX11_seen) 2 (sx_di dL_q31 20 rfl) lL_156 vX11_seen (HC.1.k 16 rfl) (by decide) rfl (Nat.le_of_ble_eq_true rfl) ⟨Nat.le_of_ble_eq_true rfl, Nat.le_of_ble_eq_true rfl⟩ hce ?_
    refine (oC_seen VA HC _ _ _ b9) _ (fun w1 C1 f1 => ?_)
    have R1 := RR_fR f1 C1.1 HR
    refine V_aload_n (i := 2) (sx_di dL_q31 21 rfl) rfl rfl ?_
    refine V_aload_n (i := 0) (sx_di dL_q31 22 rfl) rfl rfl ?_
    refine V_iload (sx_di dL_q31 23 rfl) rfl ?_
    refine V_iconst (v := 1) (sx_di dL_q31 24 rfl) (by decide) ?_
    refine V_iadd (sx_di dL_q31 25 rfl) ?_
    refine V_ialdO (N := n) (f := f) (sx_di dL_q31 26 rfl) hS (scr_in (k := 1) hn hi (by decide)) ?_
    refine V_aload_n (i := 0) (sx_di dL_q31 27 rfl) rfl rfl ?_
    refine V_iload (sx_di dL_q31 28 rfl) rfl ?_
    refine V_iconst (v := 2) (sx_di dL_q31 29 rfl) (by decide) ?_
    refine V_iadd (sx_di dL_q31 30 rfl) ?_
    refine V_ialdO (N := n) (f := f) (sx_di dL_q31 31 rfl) hS (scr_in (k := 2) hn hi (by decide)) ?_
    refine V_aload_n (i := 0) (sx_di dL_q31 32 rfl) rfl rfl ?_
    refine V_iload (sx_di dL_q31 33 rfl) rfl ?_
    refine V_iconst (v := 3) (sx_di dL_q31 34 rfl) (by decide) ?_
    refine V_iadd (sx_di dL_q31 35 rfl) ?_
    refine V_ialdO (N := n) (f := f) (sx_di dL_q31 36 rfl) hS (scr_in (k := 3) hn hi (by decide)) ?_
    refine V_if_eq (tgt := 1338) (sx_di dL_q31 37 rfl) (by decide) (fun h1331 => absurd h1331 h1301) (fun _ => ?_)
    refine V_iconst (v := 1) (sx_di dL_q31 38 rfl) (by decide) ?_
    refine V_goto (tgt := 1339) (sx_di dL_q31 39 rfl) (by decide) ?_
    refine V_cV3 (mc' := 0) (ms' := 0) (M' := mX12_seen) 3 (sx_di dL_q31 41 rfl) lL_160 vX12_seen (R1.1.k 381 rfl) (by decide) rfl (Nat.le_of_ble_eq_true rfl) ⟨Nat.le_of_ble_eq_true rfl, Nat.le_of_ble_eq_true rfl⟩ hce ?_
    refine (oR_seen VA R1 _ _ _ b9) _ (fun w2 R2 f2 => ?_)
    refine V_icmp_eq (tgt := 1749) (sx_di dL_q31 42 rfl) (by decide) (fun _ => ?_) (fun hne => absurd rfl hne)
    exact K _ w2 (AV_seen VA _ _ _ b9) (CR_fC (AV_seen VA _ _ _ b9) f2 R2.1 C1) R2
set_option maxHeartbeats 2000000 in
set_option maxRecDepth 20000 in
theorem cs_was {E : sxE} {n : Nat} {f : Nat → Int32} (hX : XO E) (hS : scr9 E n f) : cs9 E n f 1471 := by
  intro I ce sl A w Q hn hi hce VA HC HR K
  refine V_aload_n (i := 1) (sx_di dL_q36 0 rfl) rfl rfl ?_
  refine V_aload_n (i := 0) (sx_di dL_q36 1 rfl) rfl rfl ?_
  refine V_iload (sx_di dL_q36 2 rfl) rfl ?_
  refine V_iconst (v := 1) (sx_di dL_q36 3 rfl) (by decide) ?_
  refine V_iadd (sx_di dL_q36 4 rfl) ?_
  refine V_ialdO (N := n) (f := f) (sx_di dL_q36 5 rfl) hS (scr_in (k := 1) hn hi (by decide)) ?_
  refine V_aload_n (i := 0) (sx_di dL_q36 6 rfl) rfl rfl ?_
  refine V_iload (sx_di dL_q36 7 rfl) rfl ?_
  refine V_iconst (v := 2) (sx_di dL_q36 8 rfl) (by decide) ?_
  refine V_iadd (sx_di dL_q36 9 rfl) ?_
  refine V_ialdO (N := n) (f := f) (sx_di dL_q36 10 rfl) hS (scr_in (k := 2) hn hi (by decide)) ?_
  refine V_aload_n (i := 0) (sx_di dL_q36 11 rfl) rfl rfl ?_
  refine V_iload (sx_di dL_q36 12 rfl) rfl ?_
  refine V_iconst (v := 3) (sx_di dL_q36 13 rfl) (by decide) ?_
  refine V_iadd (sx_di dL_q36 14 rfl) ?_
  refine V_ialdO (N := n) (f := f) (sx_di dL_q36 15 rfl) hS (scr_in (k := 3) hn hi (by decide)) ?_
  refine V_if_eq (tgt := 1497) (sx_di dL_q36 16 rfl) (by decide) (fun h1490 => ?_) (fun h1490 => ?_)
  · have b9 : b01 0 := Or.inl rfl
    refine V_iconst (v := 0) (sx_di dL_q36 19 rfl) (by decide) ?_
    refine V_cV3 (mc' := 0) (ms' := 0) (M' := mX11_was) 2 (sx_di dL_q36 20 rfl) lL_177 vX11_was (HC.1.k 16 rfl) (by decide) rfl (Nat.le_of_ble_eq_true rfl) ⟨Nat.le_of_ble_eq_true rfl, Nat.le_of_ble_eq_true rfl⟩ hce ?_
    refine (oC_was VA HC _ _ _ b9) _ (fun w1 C1 f1 => ?_)
    have R1 := RR_fR f1 C1.1 HR
    refine V_aload_n (i := 2) (sx_di dL_q36 21 rfl) rfl rfl ?_
    refine V_aload_n (i := 0) (sx_di dL_q36 22 rfl) rfl rfl ?_
    refine V_iload (sx_di dL_q36 23 rfl) rfl ?_
    refine V_iconst (v := 1) (sx_di dL_q36 24 rfl) (by decide) ?_
    refine V_iadd (sx_di dL_q36 25 rfl) ?_
    refine V_ialdO (N := n) (f := f) (sx_di dL_q36 26 rfl) hS (scr_in (k := 1) hn hi (by decide)) ?_
    refine V_aload_n (i := 0) (sx_di dL_q36 27 rfl) rfl rfl ?_
    refine V_iload (sx_di dL_q36 28 rfl) rfl ?_
    refine V_iconst (v := 2) (sx_di dL_q36 29 rfl) (by decide) ?_
    refine V_iadd (sx_di dL_q36 30 rfl) ?_
    refine V_ialdO (N := n) (f := f) (sx_di dL_q36 31 rfl) hS (scr_in (k := 2) hn hi (by decide)) ?_
    refine V_aload_n (i := 0) (sx_di dL_q36 32 rfl) rfl rfl ?_
    refine V_iload (sx_di dL_q36 33 rfl) rfl ?_
    refine V_iconst (v := 3) (sx_di dL_q36 34 rfl) (by decide) ?_
    refine V_iadd (sx_di dL_q36 35 rfl) ?_
    refine V_ialdO (N := n) (f := f) (sx_di dL_q36 36 rfl) hS (scr_in (k := 3) hn hi (by decide)) ?_
    refine V_if_eq (tgt := 1527) (sx_di dL_q36 37 rfl) (by decide) (fun _ => ?_) (fun h1520 => absurd h1490 h1520)
    refine V_iconst (v := 0) (sx_di dL_q36 40 rfl) (by decide) ?_
    refine V_cV3 (mc' := 0) (ms' := 0) (M' := mX12_was) 3 (sx_di dL_q36 41 rfl) lL_180 vX12_was (R1.1.k 381 rfl) (by decide) rfl (Nat.le_of_ble_eq_true rfl) ⟨Nat.le_of_ble_eq_true rfl, Nat.le_of_ble_eq_true rfl⟩ hce ?_
    refine (oR_was VA R1 _ _ _ b9) _ (fun w2 R2 f2 => ?_)
    refine V_icmp_eq (tgt := 1749) (sx_di dL_q36 42 rfl) (by decide) (fun _ => ?_) (fun hne => absurd rfl hne)
    exact K _ w2 (AV_was VA _ _ _ b9) (CR_fC (AV_was VA _ _ _ b9) f2 R2.1 C1) R2
  · have b9 : b01 1 := Or.inr rfl
    refine V_iconst (v := 1) (sx_di dL_q36 17 rfl) (by decide) ?_
    refine V_goto (tgt := 1498) (sx_di dL_q36 18 rfl) (by decide) ?_
    refine V_cV3 (mc' := 0) (ms' := 0) (M' := mX11_was) 2 (sx_di dL_q36 20 rfl) lL_177 vX11_was (HC.1.k 16 rfl) (by decide) rfl (Nat.le_of_ble_eq_true rfl) ⟨Nat.le_of_ble_eq_true rfl, Nat.le_of_ble_eq_true rfl⟩ hce ?_
    refine (oC_was VA HC _ _ _ b9) _ (fun w1 C1 f1 => ?_)
    have R1 := RR_fR f1 C1.1 HR
    refine V_aload_n (i := 2) (sx_di dL_q36 21 rfl) rfl rfl ?_
    refine V_aload_n (i := 0) (sx_di dL_q36 22 rfl) rfl rfl ?_
    refine V_iload (sx_di dL_q36 23 rfl) rfl ?_
    refine V_iconst (v := 1) (sx_di dL_q36 24 rfl) (by decide) ?_
    refine V_iadd (sx_di dL_q36 25 rfl) ?_
    refine V_ialdO (N := n) (f := f) (sx_di dL_q36 26 rfl) hS (scr_in (k := 1) hn hi (by decide)) ?_
    refine V_aload_n (i := 0) (sx_di dL_q36 27 rfl) rfl rfl ?_
    refine V_iload (sx_di dL_q36 28 rfl) rfl ?_
    refine V_iconst (v := 2) (sx_di dL_q36 29 rfl) (by decide) ?_
    refine V_iadd (sx_di dL_q36 30 rfl) ?_
    refine V_ialdO (N := n) (f := f) (sx_di dL_q36 31 rfl) hS (scr_in (k := 2) hn hi (by decide)) ?_
    refine V_aload_n (i := 0) (sx_di dL_q36 32 rfl) rfl rfl ?_
    refine V_iload (sx_di dL_q36 33 rfl) rfl ?_
    refine V_iconst (v := 3) (sx_di dL_q36 34 rfl) (by decide) ?_
    refine V_iadd (sx_di dL_q36 35 rfl) ?_
    refine V_ialdO (N := n) (f := f) (sx_di dL_q36 36 rfl) hS (scr_in (k := 3) hn hi (by decide)) ?_
    refine V_if_eq (tgt := 1527) (sx_di dL_q36 37 rfl) (by decide) (fun h1520 => absurd h1520 h1490) (fun _ => ?_)
    refine V_iconst (v := 1) (sx_di dL_q36 38 rfl) (by decide) ?_
    refine V_goto (tgt := 1528) (sx_di dL_q36 39 rfl) (by decide) ?_
    refine V_cV3 (mc' := 0) (ms' := 0) (M' := mX12_was) 3 (sx_di dL_q36 41 rfl) lL_180 vX12_was (R1.1.k 381 rfl) (by decide) rfl (Nat.le_of_ble_eq_true rfl) ⟨Nat.le_of_ble_eq_true rfl, Nat.le_of_ble_eq_true rfl⟩ hce ?_
    refine (oR_was VA R1 _ _ _ b9) _ (fun w2 R2 f2 => ?_)
    refine V_icmp_eq (tgt := 1749) (sx_di dL_q36 42 rfl) (by decide) (fun _ => ?_) (fun hne => absurd rfl hne)
    exact K _ w2 (AV_was VA _ _ _ b9) (CR_fC (AV_was VA _ _ _ b9) f2 R2.1 C1) R2

set_option maxHeartbeats 2000000 in
set_option maxRecDepth 20000 in
/-! the law from its entry -/
theorem law_run {E : sxE} {n : Nat} {f : Nat → Int32} {Q : Option Value → hpW → Prop} {w : hpW} (hX : XO E) (hA : AO9 E) (hS : scr9 E n f) (hH : hs9 E n f) (hn : n ≤ 3072) (h : ∀ w, Q (some (.int 1)) w) (H : LB 16 (fun _ => False) w) : V E mL_law room_1 601024 7293034 0 0 0 [(0, .ref 0)] [] w Q := by
  refine V_new (c := 11) (sx_di dL_hd 0 rfl) (by decide) (sx_a1 25 rfl rfl) (sx_a1 26 rfl rfl) (sx_a1 1 rfl rfl) (Nat.le_of_ble_eq_true rfl) (Nat.le_of_ble_eq_true rfl) ?_
  refine V_dup (sx_di dL_hd 1 rfl) rfl ?_
  refine V_cI0 (mc' := 364) (ms' := 6436) (M' := mX11_init) 4 (sx_di dL_hd 2 rfl) lL_15 vX11_init (Nat.le_of_ble_eq_true rfl) ⟨Nat.le_of_ble_eq_true rfl, Nat.le_of_ble_eq_true rfl⟩ ⟨Nat.le_of_ble_eq_true rfl, Nat.le_of_ble_eq_true rfl⟩ ?_
  rw [H.1]
  refine k_X11_init (fun _ _ z => z) hA H (fun w1 H1 g1 i1 r4 r5 r57 => ?_)
  refine V_astore_n (i := 1) (sx_di dL_hd 3 rfl) rfl (by decide) (rfl) ?_
  refine V_new (c := 12) (sx_di dL_hd 4 rfl) (by decide) (sx_a5 118 rfl rfl) (sx_a5 119 rfl rfl) (sx_a1 13 rfl rfl) (Nat.le_of_ble_eq_true rfl) (Nat.le_of_ble_eq_true rfl) ?_
  refine V_dup (sx_di dL_hd 5 rfl) rfl ?_
  refine V_cI0 (mc' := 28) (ms' := 17744) (M' := mX12_init) 2 (sx_di dL_hd 6 rfl) lL_18 vX12_init (Nat.le_of_ble_eq_true rfl) ⟨Nat.le_of_ble_eq_true rfl, Nat.le_of_ble_eq_true rfl⟩ ⟨Nat.le_of_ble_eq_true rfl, Nat.le_of_ble_eq_true rfl⟩ ?_
  rw [H1.1]
  refine k_X12_init H1 (fun w2 H2 g2 i2 => ?_)
  refine V_astore_n (i := 2) (sx_di dL_hd 7 rfl) rfl (by decide) (rfl) ?_
  refine V_iconst (v := 1) (sx_di dL_hd 8 rfl) (by decide) ?_
  refine V_newa (c := 17) (sx_di dL_hd 9 rfl) (Or.inr (Or.inr ⟨rfl, rfl⟩)) rfl (sx_a8 48 rfl rfl) (by decide) rfl (by decide) (Nat.le_of_ble_eq_true rfl) (Nat.le_of_ble_eq_true rfl) ?_
  rw [H2.1, show Int32.toNatClampNeg 1 = 1 by decide]
  have H3 := LB_row (c := 17) (N := 1) H2 (by decide +kernel) (by decide +kernel)
  have g3 : ge9 410 w2 (hp_new w2 17 1) := ge9_nw (by have e := H2.1; omega)
  refine V_astore_n (i := 3) (sx_di dL_hd 10 rfl) rfl (by decide) (rfl) ?_
  refine V_iconst (v := 0) (sx_di dL_hd 11 rfl) (by decide) ?_
  refine V_istore (sx_di dL_hd 12 rfl) (by decide) (rfl) ?_
  obtain ⟨C0, R0⟩ := begin_ H3 (by rw [(g3 20 (by decide)).2.2.1, (g2 20 (by decide)).2.2.1]; exact i1) (by rw [(g3 381 (by decide)).2.2.1]; exact i2) (by rw [(g3 16 (by decide)).2.1, (g2 16 (by decide)).2.1]; exact r4) (by rw [(g3 16 (by decide)).2.1, (g2 16 (by decide)).2.1]; exact r5) (by rw [(g3 57 (by decide)).2.1, (g2 57 (by decide)).2.1]; exact r57)
  exact V_subk (law_lp hX hS hH hn h 512 0 A0 _ _ _ (Nat.zero_le _) (by omega) (Nat.le_of_ble_eq_true rfl) (Nat.le_of_ble_eq_true rfl) AV_0 C0 R0) ⟨rfl, rfl, rfl, rfl, rfl, trivial⟩

/-! the class: keeping, a day, days -/
theorem kq_self (w : hpW) (t p : Nat) (I : Nat → Nat → Int32) : kq_ w t p I = hp_wr w (hp_u (hp_r w) (77 + 7 * p) 0 (some t)) I := rfl
theorem k_X6_keep {E : sxE} {Q : Option Value → hpW → Prop} {A : AS} {w : hpW} (V : AV A) (H : CR A w) (h0 : 0 < a_n A) (h : ∀ w', CK (kp2_ A) w' → fR w w' → hp_j w' = hp_j w → Q none w') : sx_C E mX6_keep 3 0 0 [.ref 75, .ref 57] w Q := by
  obtain ⟨t, p, C, c3⟩ := CN_of V H
  have hv := CR_vw H h0
  refine c_X6_keep H.1 C.2.2.2.2.2.1 C.2.2.2.2.2.2.1 C.2.2.2.2.2.2.2.1 C.2.2.2.2.2.2.2.2.1 C.2.2.2.2.2.2.2.2.2.1 ?_
  have z := CR_kp V H C h0 (J := kp_ (hp_i w) p (a_K A).length) (r2 := a_r A) (fun b _ => rfl) (kp_o _ _ _ (by omega) (by omega)) (congrFun (kp_o _ _ _ (by omega) (by omega)) 12) (kp_vw hv) (fun _ _ => rfl)
  exact h _ z.1 z.2 rfl
theorem P_dv {A : AS} {w : hpW} {t : Nat} (V : AV A) (h0 : 0 < a_n A) (C : Cstr w t (a_n A) (a_m A) (a_s A)) : dv_ (F_ A) (fs_ (hp_i w) t) (fo_ (hp_i w) t) (sl_ (hp_i w) t 0) (a_n A) (z_m (a_s A)) (a_r A) = dv_ (F_ A) (z_s (a_s A)) (z_f (a_s A)) (a_s A 0) (a_n A) (z_m (a_s A)) (a_r A) := by
  obtain ⟨f, hf, ef⟩ := V.2.2.2.1.1.1.2.1 h0
  rw [bt_n C]
  exact dv_cg (by rw [ef]; exact fs_n C V.2.2.1.2.1 hf) (by rw [ef]; exact fo_n C V.2.2.1.2.1 hf) V.2.2.1.1 (fun _ _ => rfl)
theorem CK_lv {A : AS} {w : hpW} {J : Nat → Nat → Int32} {r2 : Nat → Int32} {t g2 : Nat} (V : AV A) (h0 : 0 < a_n A) (hB : ly_B w) (c1 : tp_ w 17 1 18 (a_T A)) (c2 : Claws (hp_i w) (a_W A) (a_h A)) (c3 : Cstr w t (a_n A) (a_m A) (a_s A)) (c5 : Cpast (hp_wi w J) t (a_n A) (a_s A) g2 (a_K A)) (c6 : Cimg w t (a_n A) (a_s A) (a_I A)) (c7 : hp_i w 369 3 = nI (a_S A).length) (c8 : nts_ (hp_i w) 370 371 372 (a_S A)) (c9 : hp_i w 373 3 = nI (a_Q A).length) (c10 : nts_ (hp_i w) 374 375 376 (a_Q A)) (c11 : ∀ j, j < 5 → hp_i w 377 j = a_c A j) (c12 : hp_i w 16 14 = a_d A) (f : ∀ b, ¬ (day_S 57 b ∨ b = 72 ∨ b = 73 ∨ b = 74) → J b = hp_i w b) (hN : Cst (hp_wi w J) t (a_n A) (a_s A) 57 71 g2 r2) : CR (pt_r A r2) (hp_wi w J) ∧ fR w (hp_wi w J) := by
  have hB2 : ly_B (hp_wi w J) := ly_wi hB _
  have e : ∀ b, b < 22 ∨ (52 ≤ b ∧ b ≠ 57 ∧ b ≠ 59 ∧ b ≠ 72 ∧ b ≠ 73 ∧ b ≠ 74) → hp_i (hp_wi w J) b = hp_i w b := fun b z => f b (fun q => q.elim (fun q => q.elim (by omega) (fun q => q.elim (by omega) (fun q => sc_no (by omega) q))) (by omega))
  have er : ∀ b, b < 381 → hp_r (hp_wi w J) b = hp_r w b := fun b _ => rfl
  have hnow : Cnow (hp_wi w J) t (a_n A) (a_s A) g2 r2 := ⟨hN.1, hN.2.1.2.1, hN.2.1.2.2.2.2.2, hN.2.2.2.1, hN.2.2.2.2, fun _ => hN⟩
  exact ⟨⟨hB2, tp_mv (by rw [e 17 (by omega)]) (e 18 (by omega)) c1, Claws_mv V.2.1.1 (fun i j hi hj => f _ (fun q => q.elim (fun q => q.elim (by omega) (fun q => q.elim (by omega) (sc_lw hj))) (by omega))) (e 20 (by omega)) c2, t, g2, Cstr_mv (er 16 (by omega)) (fun b b1 b2 => e b (by omega)) c3, hnow, c5, Cimg_mv (er 362 (by omega)) (fun b b1 b2 => e b (by omega)) c6, ⟨by rw [e 369 (by omega)]; exact c7, nts_mv (e 370 (by omega)) (e 371 (by omega)) (e 372 (by omega)) c8⟩, ⟨by rw [e 373 (by omega)]; exact c9, nts_mv (e 374 (by omega)) (e 375 (by omega)) (e 376 (by omega)) c10⟩, fun j hj => by rw [e 377 (by omega)]; exact c11 j hj, by rw [e 16 (by omega)]; exact c12⟩, rfl, fun b hb => ⟨e b (by omega), rfl, rfl⟩, fun _ => rfl⟩
set_option maxHeartbeats 2000000 in
set_option maxRecDepth 20000 in
theorem k_X11_liveDay {E : sxE} {Q : Option Value → hpW → Prop} {A : AS} {w : hpW} (VA : AV A) (H : CK A w) (h0 : 0 < a_n A) {d : Nat} (hd : d < 9999) (ed : a_r A 44 = nI d) (h : ∀ w', CR (pt_r A (P_ A (a_r A))) w' → fR w w' → hp_j w' = hp_j w → Q none w') : sx_C E mX11_liveDay 7 0 0 [.ref 16] w Q := by
  obtain ⟨hB, c1, c2, t, g, c3, c4, c5, c6, ⟨c7, c8⟩, ⟨c9, c10⟩, c11, c12⟩ := id H
  have hN := c4.2.2.2.2.2 h0
  have hn8 := VA.2.2.1.1
  have hst : is_St w t := by
    rcases c3.2.2.1 with rfl | rfl
    · exact st_53 hB
    · exact st_55 hB
  have ht2 : 53 ≤ t ∧ t ≤ 55 := by have := c3.2.2.1; omega
  refine C_of (by decide +kernel) (Nat.le_of_ble_eq_true rfl) ?_
  refine V_aload_n (i := 0) (sx_di dX11_liveDay 0 rfl) rfl rfl ?_
  refine V_getR (sx_di dX11_liveDay 1 rfl) fX11_60 (fun _ => rfl) (hB.k _ rfl) (hB.r _ _ rfl) ?_
  refine V_aload_n (i := 0) (sx_di dX11_liveDay 2 rfl) rfl rfl ?_
  refine V_getR (sx_di dX11_liveDay 3 rfl) fX11_28 (fun _ => rfl) (hB.k _ rfl) (hB.r _ _ rfl) ?_
  refine V_cV0 (mc' := 0) (ms' := 0) (M' := mX2_holding) 1 (sx_di dX11_liveDay 4 rfl) lX11_195 vX2_holding (hB.k _ rfl) (by decide) rfl (Nat.le_of_ble_eq_true rfl) ⟨Nat.le_of_ble_eq_true rfl, Nat.le_of_ble_eq_true rfl⟩ ⟨Nat.le_refl _, Nat.le_refl _⟩ ?_
  refine e_hold hB (hd_of VA c2) (fun lv hl => ?_)
  refine V_cV1 (mc' := 0) (ms' := 0) (M' := mX7_passDay) 6 (sx_di dX11_liveDay 5 rfl) lX11_262 vX7_passDay (hB.k _ rfl) (by decide) rfl (Nat.le_of_ble_eq_true rfl) ⟨Nat.le_of_ble_eq_true rfl, Nat.le_of_ble_eq_true rfl⟩ ⟨Nat.le_refl _, Nat.le_refl _⟩ ?_
  refine e_passDay (ss_57 hB) hN.1 hst hl (by omega) ht2 c3.2.2.2.1 hn8 hN.2.1 hN.2.2.1 (fun I r f hv hm h12 er => ?_)
  rw [P_dv VA h0 c3] at hv
  rw [bt_n c3] at er
  have hB2 := ly_wi hB I
  have eo : ∀ b, 60 ≤ b → I b = hp_i w b := fun b hb => f b (fun q => q.elim (by omega) (fun q => q.elim (by omega) (fun q => sc_no (by omega) q)))
  have e58 : I 58 = hp_i w 58 := f 58 (fun q => q.elim (by omega) (fun q => q.elim (by omega) (fun q => sc_no (by omega) q)))
  have rg1 : rg_ I 71 g (a_r A) := rg_mv (eo _ (by omega)) (eo _ (by omega)) (eo _ (by omega)) hN.2.2.2.2
  have e44 : dv_ (F_ A) (z_s (a_s A)) (z_f (a_s A)) (a_s A 0) (a_n A) (z_m (a_s A)) (a_r A) 44 = nI (d + 1) := by rw [dv_44, ed]; exact nI_add d 1
  obtain ⟨p, hp, p1, p2, G, hG, p3⟩ := id c5
  refine V_if_eq (tgt := 28) (sx_di dX11_liveDay 6 rfl) (by decide) (fun h14 => ?_) (fun h14 => ?_)
  · have hm1 : ¬ (¬ a_s A 0 < 1 ∧ (a_r A 44 + 1) - (a_r A 44 + 1) / a_s A 0 * a_s A 0 = 0) := fun z => by rw [if_pos z] at er; exact absurd (er.symm.trans h14) (by decide)
    have eP : P_ A (a_r A) = dv_ (F_ A) (z_s (a_s A)) (z_f (a_s A)) (a_s A 0) (a_n A) (z_m (a_s A)) (a_r A) := by unfold P_ pd_; rw [if_neg hm1]
    rw [← eP] at hv e44
    have hN2 : Cst (hp_wi w I) t (a_n A) (a_s A) 57 71 g (P_ A (a_r A)) := ⟨hN.1, hv, hm, h12.trans hN.2.2.2.1, rg_dy (by omega) ed e44 (fun j hj => by rw [eP, dv_hi hn8 hj]) rg1⟩
    have cp : Cpast (hp_wi w I) t (a_n A) (a_s A) g (a_K A) := Cpast_mv (w := w) (fun b _ _ => rfl) (fun b b1 b2 => eo b (by omega)) ⟨p, hp, p1, p2, G, hG.1, p3⟩
    have z := CK_lv VA h0 hB c1 c2 c3 cp c6 c7 c8 c9 c10 c11 c12 (fun b hb => f b (fun q => hb (Or.inl q))) hN2
    refine V_vret (sx_di dX11_liveDay 12 rfl) rfl (Nat.le_refl _) (Nat.le_refl _) ?_
    exact h _ z.1 z.2 rfl
  · have hm1 : (¬ a_s A 0 < 1 ∧ (a_r A 44 + 1) - (a_r A 44 + 1) / a_s A 0 * a_s A 0 = 0) := Classical.byContradiction (fun z => h14 (er.trans (if_neg z)))
    have eP : P_ A (a_r A) = la_ (dv_ (F_ A) (z_s (a_s A)) (z_f (a_s A)) (a_s A 0) (a_n A) (z_m (a_s A)) (a_r A)) := by unfold P_ pd_; rw [if_pos hm1]
    have hv2 : vw_ (a_n A) (lw2_ I g) 57 (P_ A (a_r A)) := by
      rw [eP]
      obtain ⟨v0, v7, v8, v9, v10, v11⟩ := hv
      refine ⟨fun k hk => ?_, ?_, ?_, ?_, ?_, ?_⟩
      · rw [lw2_o (by omega) (by omega), lw2_o (by omega) (by omega), lw2_o (by omega) (by omega), lw2_o (by omega) (by omega), lw2_o (by omega) (by omega), la_lo (by omega), la_lo (by omega), la_lo (by omega), la_lo (by omega), la_lo (by omega)]; exact v0 k hk
      all_goals (rw [lw2_57 (by omega), la_lo (by omega)]; assumption)
    have l12 : lw2_ I g 57 12 = nI (g + 1) := by unfold lw2_; rw [hp_u_at]
    have hN2 : Cst (hp_wi w (lw2_ I g)) t (a_n A) (a_s A) 57 71 (g + 1) (P_ A (a_r A)) := ⟨hN.1, hv2, tm_mv (I := I) (lw2_o (I := I) (g := g) (b := 58) (by omega) (by omega)) hm, l12, by rw [eP]; exact rg_la (by omega) ed e44 (fun j hj => dv_hi hn8 hj) rg1 hv.2.2.2.2.2 hv.2.2.2.1 hv.2.2.2.2.1⟩
    have cp : Cpast (hp_wi w (lw2_ I g)) t (a_n A) (a_s A) (g + 1) (a_K A) := by
      have e9 : ∀ b, 75 ≤ b → lw2_ I g b = hp_i w b := fun b hb => (lw2_o (by omega) (by omega)).trans (eo b (by omega))
      refine ⟨p, hp, (congrFun (e9 75 (by omega)) 1).trans p1, (congrFun (e9 75 (by omega)) 2).trans p2, G, hG.2, fun i r2 hr => ?_⟩
      have hl := (List.getElem?_eq_some_iff.mp hr).1
      have hK := VA.2.2.2.1.2.1
      have g1 := gc_le hG.1 i hl
      have g2 := gc_le hG.2 i hl
      obtain ⟨s1, s2, s3, s4, s5⟩ := p3 i r2 hr
      have hq : (p + 39 - i) % 40 < 40 := Nat.mod_lt _ (by omega)
      exact ⟨s1, vw_mv s2 (fun b b1 b2 => e9 b (by omega)), tm_mv (e9 _ (by omega)) s3, (congrFun (e9 _ (by omega)) 12).trans s4, rg_wr (rg_mv (eo _ (by omega)) (eo _ (by omega)) (eo _ (by omega)) s5) g1.1 (by omega)⟩
    have z := CK_lv VA h0 hB c1 c2 c3 cp c6 c7 c8 c9 c10 c11 c12 (fun b hb => (lw2_o (fun q => hb (Or.inl (Or.inl q))) (by omega)).trans (f b (fun q => hb (Or.inl q)))) hN2
    refine V_aload_n (i := 0) (sx_di dX11_liveDay 7 rfl) rfl rfl ?_
    refine V_getR (sx_di dX11_liveDay 8 rfl) fX11_70 (fun _ => rfl) (hB2.k _ rfl) (hB2.r _ _ rfl) ?_
    refine V_aload_n (i := 0) (sx_di dX11_liveDay 9 rfl) rfl rfl ?_
    refine V_getR (sx_di dX11_liveDay 10 rfl) fX11_60 (fun _ => rfl) (hB2.k _ rfl) (hB2.r _ _ rfl) ?_
    refine V_cV1 (mc' := 0) (ms' := 0) (M' := mX4_write) 2 (sx_di dX11_liveDay 11 rfl) lX11_266 vX4_write (hB2.k _ rfl) (by decide) rfl (Nat.le_of_ble_eq_true rfl) ⟨Nat.le_of_ble_eq_true rfl, Nat.le_of_ble_eq_true rfl⟩ ⟨Nat.le_refl _, Nat.le_refl _⟩ ?_
    refine c_X4_write hB2 (h12.trans hN.2.2.2.1) ?_
    refine V_vret (sx_di dX11_liveDay 12 rfl) rfl (Nat.le_refl _) (Nat.le_refl _) ?_
    exact h _ z.1 z.2 rfl
set_option maxHeartbeats 2000000 in
set_option maxRecDepth 20000 in
theorem dC_lp {E : sxE} {Q : Option Value → hpW → Prop} {A : AS} {w : hpW} (VA : AV A) (h0 : 0 < a_n A) {d m : Nat} (ed : a_r A 44 = nI d) (hd : d + m ≤ 9999) (hm : m ≤ 60) (h : ∀ w', CR (dit_ A m) w' → fR w w' → Q (some (.int (if a_r (dit_ A m) 42 = -1 then -2 else a_r (dit_ A m) 42))) w') : ∀ q k w1, k + q = m → CR (dit_ A k) w1 → fR w w1 → V E mX11_days (sx_rm 8 0 0) 0 0 0 0 56 [(2, .int (nI k)), (1, .int (nI m)), (0, .ref 16)] [] w1 Q := by
  intro q
  induction q with
  | zero =>
    intro k w1 hk H1 f1
    have e1 : k = m := by omega
    subst e1
    have hB := H1.1
    have z := h w1 H1 f1
    have e42 : hp_i w1 57 9 = a_r (dit_ A k) 42 := (CR_vw H1 (by rw [dit_n]; exact h0)).2.2.2.1
    refine V_iload_n (i := 2) (sx_di dX11_days 33 rfl) rfl rfl ?_
    refine V_iload_n (i := 1) (sx_di dX11_days 34 rfl) rfl rfl ?_
    refine V_icN_ge (a := k) (b := k) (rfl) (rfl) (by omega) (by omega) (tgt := 82) (sx_di dX11_days 35 rfl) (by decide) (fun _ => ?_) (fun h58 => absurd h58 (by omega))
    refine V_aload_n (i := 0) (sx_di dX11_days 45 rfl) rfl rfl ?_
    refine V_getR (sx_di dX11_days 46 rfl) fX11_60 (fun _ => rfl) (hB.k _ rfl) (hB.r _ _ rfl) ?_
    refine V_getI (sx_di dX11_days 47 rfl) fX11_161 (fun _ => rfl) (hB.k _ rfl) ?_
    refine V_iv (y := a_r (dit_ A k) 42) (e42) ?_
    refine V_iconst (v := -1) (sx_di dX11_days 48 rfl) (by decide) ?_
    refine V_icmp_ne (tgt := 98) (sx_di dX11_days 49 rfl) (by decide) (fun h90 => ?_) (fun h90 => ?_)
    · rw [if_neg h90] at z
      refine V_aload_n (i := 0) (sx_di dX11_days 52 rfl) rfl rfl ?_
      refine V_getR (sx_di dX11_days 53 rfl) fX11_60 (fun _ => rfl) (hB.k _ rfl) (hB.r _ _ rfl) ?_
      refine V_getI (sx_di dX11_days 54 rfl) fX11_161 (fun _ => rfl) (hB.k _ rfl) ?_
      refine V_iv (y := a_r (dit_ A k) 42) (e42) ?_
      refine V_iret (sx_di dX11_days 55 rfl) rfl (Nat.le_refl _) (Nat.le_refl _) ?_
      exact z
    · rw [if_pos h90] at z
      refine V_bipush (v := -2) (sx_di dX11_days 50 rfl) (by decide) ?_
      refine V_goto (tgt := 105) (sx_di dX11_days 51 rfl) (by decide) ?_
      refine V_iret (sx_di dX11_days 55 rfl) rfl (Nat.le_refl _) (Nat.le_refl _) ?_
      exact z
  | succ q ih =>
    intro k w1 hk H1 f1
    have hB := H1.1
    obtain ⟨V1, en1, e41⟩ := dit_ok VA h0 ed k (by omega)
    refine V_iload_n (i := 2) (sx_di dX11_days 33 rfl) rfl rfl ?_
    refine V_iload_n (i := 1) (sx_di dX11_days 34 rfl) rfl rfl ?_
    refine V_icN_ge (a := k) (b := m) (rfl) (rfl) (by omega) (by omega) (tgt := 82) (sx_di dX11_days 35 rfl) (by decide) (fun h58 => absurd h58 (by omega)) (fun _ => ?_)
    refine V_aload_n (i := 0) (sx_di dX11_days 36 rfl) rfl rfl ?_
    refine V_getR (sx_di dX11_days 37 rfl) fX11_77 (fun _ => rfl) (hB.k _ rfl) (hB.r _ _ rfl) ?_
    refine V_aload_n (i := 0) (sx_di dX11_days 38 rfl) rfl rfl ?_
    refine V_getR (sx_di dX11_days 39 rfl) fX11_60 (fun _ => rfl) (hB.k _ rfl) (hB.r _ _ rfl) ?_
    refine V_cV1 (mc' := 0) (ms' := 0) (M' := mX6_keep) 3 (sx_di dX11_days 40 rfl) lX11_252 vX6_keep (hB.k _ rfl) (by decide) rfl (Nat.le_of_ble_eq_true rfl) ⟨Nat.le_of_ble_eq_true rfl, Nat.le_of_ble_eq_true rfl⟩ ⟨Nat.le_refl _, Nat.le_refl _⟩ ?_
    refine k_X6_keep V1 H1 (by omega) (fun w2 H2 f2 _ => ?_)
    have hB2 := H2.1
    refine V_aload_n (i := 0) (sx_di dX11_days 41 rfl) rfl rfl ?_
    refine V_cV0 (mc' := 0) (ms' := 0) (M' := mX11_liveDay) 7 (sx_di dX11_days 42 rfl) lX11_259 vX11_liveDay (hB2.k _ rfl) (by decide) rfl (Nat.le_of_ble_eq_true rfl) ⟨Nat.le_of_ble_eq_true rfl, Nat.le_of_ble_eq_true rfl⟩ ⟨Nat.le_refl _, Nat.le_refl _⟩ ?_
    refine k_X11_liveDay (AV_k V1 (by omega)) H2 (show 0 < a_n (dit_ A k) by omega) (d := d + k) (by omega) e41 (fun w3 H3 f3 _ => ?_)
    have q1 := ih (k + 1) w3 (by omega) H3 (fR_tr f1 (fR_tr f2 f3))
    rw [← nI_1] at q1
    refine V_inc (c := 1) (sx_di dX11_days 43 rfl) (by decide) rfl (by decide) (rfl) ?_
    refine V_goto (tgt := 56) (sx_di dX11_days 44 rfl) (by decide) ?_
    exact V_subk q1 ⟨rfl, rfl, rfl, trivial⟩
set_option maxHeartbeats 2000000 in
set_option maxRecDepth 20000 in
theorem oC_days {E : sxE} {A : AS} {w : hpW} (VA : AV A) (H : CR A w) (x : Int32) : oC E mX11_days 8 [.ref 16, .int x] w A (q_days A x).1 (q_days A x).2 := by
  intro Q h
  obtain ⟨t, p, C, c3⟩ := CN_of VA H
  have hB := H.1
  have hn8 := VA.2.2.1.1
  have e44 : hp_i w 57 11 = a_r A 44 := by
    obtain ⟨_, _, _, t2, g, _, c4, _⟩ := H
    exact c4.2.2.1
  have hrj : ∀ why, wdays (a_n A) x (a_r A 44) = why → ¬ why = -1 → Q (some (.int (-1))) (rf_ w why.toNatClampNeg) := fun why e1 e2 => by
    subst e1
    rw [q_days, if_neg e2] at h
    exact h _ (CR_rj VA H) fR_rj
  refine C_of (by decide +kernel) (Nat.le_of_ble_eq_true rfl) ?_
  refine V_aload_n (i := 0) (sx_di dX11_days 0 rfl) rfl rfl ?_
  refine V_cV0 (mc' := 0) (ms' := 0) (M' := mX11_isStreet) 1 (sx_di dX11_days 1 rfl) lX11_154 vX11_isStreet (hB.k _ rfl) (by decide) rfl (Nat.le_of_ble_eq_true rfl) ⟨Nat.le_of_ble_eq_true rfl, Nat.le_of_ble_eq_true rfl⟩ ⟨Nat.le_refl _, Nat.le_refl _⟩ ?_
  refine c_X11_isStreet hB C.2.1 C.2.2.1 C.2.2.2.1 hn8 ?_
  refine V_if_ne (tgt := 14) (sx_di dX11_days 2 rfl) (by decide) (fun h4 => ?_) (fun h4 => ?_)
  · have h5 : ¬ a_n A = 0 := fun z => h4 (if_pos z)
    refine V_iload_n (i := 1) (sx_di dX11_days 8 rfl) rfl rfl ?_
    refine V_iconst (v := 1) (sx_di dX11_days 9 rfl) (by decide) ?_
    refine V_icmp_lt (tgt := 25) (sx_di dX11_days 10 rfl) (by decide) (fun h16 => ?_) (fun h16 => ?_)
    · refine V_aload_n (i := 0) (sx_di dX11_days 14 rfl) rfl rfl ?_
      refine V_iconst (v := 1) (sx_di dX11_days 15 rfl) (by decide) ?_
      refine V_iconst (v := -1) (sx_di dX11_days 16 rfl) (by decide) ?_
      refine V_cV2 (mc' := 0) (ms' := 0) (M' := mX11_refused) 1 (sx_di dX11_days 17 rfl) lX11_249 vX11_refused (hB.k _ rfl) (by decide) rfl (Nat.le_of_ble_eq_true rfl) ⟨Nat.le_of_ble_eq_true rfl, Nat.le_of_ble_eq_true rfl⟩ ⟨Nat.le_refl _, Nat.le_refl _⟩ ?_
      refine c_X11_refused hB (k := 1) (by omega) ?_
      refine V_iret (sx_di dX11_days 18 rfl) rfl (Nat.le_refl _) (Nat.le_refl _) ?_
      exact hrj 1 (by rw [wdays, if_neg h5, if_pos (Or.inl h16)]) (by decide)
    · refine V_iload_n (i := 1) (sx_di dX11_days 11 rfl) rfl rfl ?_
      refine V_bipush (v := 60) (sx_di dX11_days 12 rfl) (by decide) ?_
      refine V_icmp_le (tgt := 32) (sx_di dX11_days 13 rfl) (by decide) (fun h22 => ?_) (fun h22 => ?_)
      · have h20 : ¬ (x < 1 ∨ 60 < x) := fun z => z.elim h16 (Int32.not_lt.mpr h22)
        refine V_aload_n (i := 0) (sx_di dX11_days 19 rfl) rfl rfl ?_
        refine V_getR (sx_di dX11_days 20 rfl) fX11_60 (fun _ => rfl) (hB.k _ rfl) (hB.r _ _ rfl) ?_
        refine V_getI (sx_di dX11_days 21 rfl) fX11_233 (fun _ => rfl) (hB.k _ rfl) ?_
        refine V_iv (y := a_r A 44) (e44) ?_
        refine V_iload_n (i := 1) (sx_di dX11_days 22 rfl) rfl rfl ?_
        refine V_iadd (sx_di dX11_days 23 rfl) ?_
        refine V_sipush (v := 9999) (sx_di dX11_days 24 rfl) (by decide) ?_
        refine V_icmp_le (tgt := 54) (sx_di dX11_days 25 rfl) (by decide) (fun h44 => ?_) (fun h44 => ?_)
        · have e : wdays (a_n A) x (a_r A 44) = -1 := by rw [wdays, if_neg h5, if_neg h20, if_neg (Int32.not_lt.mpr h44)]
          rw [q_days, if_pos e] at h
          obtain ⟨h00, k, d, hk, rfl, ed, hd⟩ := wdays_ok VA e
          rw [nI_clamp (by omega)] at h
          refine V_iconst (v := 0) (sx_di dX11_days 31 rfl) (by decide) ?_
          refine V_istore_n (i := 2) (sx_di dX11_days 32 rfl) rfl (by decide) (rfl) ?_
          refine V_sub (ls' := [(2, .int (nI 0)), (1, .int (nI k)), (0, .ref 16)]) ⟨rfl, rfl, rfl, trivial⟩ ?_
          exact dC_lp VA h00 ed hd hk h k 0 w (by omega) H fR_rf
        · refine V_aload_n (i := 0) (sx_di dX11_days 26 rfl) rfl rfl ?_
          refine V_iconst (v := 4) (sx_di dX11_days 27 rfl) (by decide) ?_
          refine V_iconst (v := -1) (sx_di dX11_days 28 rfl) (by decide) ?_
          refine V_cV2 (mc' := 0) (ms' := 0) (M' := mX11_refused) 1 (sx_di dX11_days 29 rfl) lX11_249 vX11_refused (hB.k _ rfl) (by decide) rfl (Nat.le_of_ble_eq_true rfl) ⟨Nat.le_of_ble_eq_true rfl, Nat.le_of_ble_eq_true rfl⟩ ⟨Nat.le_refl _, Nat.le_refl _⟩ ?_
          refine c_X11_refused hB (k := 4) (by omega) ?_
          refine V_iret (sx_di dX11_days 30 rfl) rfl (Nat.le_refl _) (Nat.le_refl _) ?_
          exact hrj 4 (by rw [wdays, if_neg h5, if_neg h20, if_pos (Int32.not_le.mp h44)]) (by decide)
      · refine V_aload_n (i := 0) (sx_di dX11_days 14 rfl) rfl rfl ?_
        refine V_iconst (v := 1) (sx_di dX11_days 15 rfl) (by decide) ?_
        refine V_iconst (v := -1) (sx_di dX11_days 16 rfl) (by decide) ?_
        refine V_cV2 (mc' := 0) (ms' := 0) (M' := mX11_refused) 1 (sx_di dX11_days 17 rfl) lX11_249 vX11_refused (hB.k _ rfl) (by decide) rfl (Nat.le_of_ble_eq_true rfl) ⟨Nat.le_of_ble_eq_true rfl, Nat.le_of_ble_eq_true rfl⟩ ⟨Nat.le_refl _, Nat.le_refl _⟩ ?_
        refine c_X11_refused hB (k := 1) (by omega) ?_
        refine V_iret (sx_di dX11_days 18 rfl) rfl (Nat.le_refl _) (Nat.le_refl _) ?_
        exact hrj 1 (by rw [wdays, if_neg h5, if_pos (Or.inr (Int32.not_le.mp h22))]) (by decide)
  · have h5 : a_n A = 0 := Classical.byContradiction (fun z => by rw [if_neg z] at h4; exact absurd h4 (by decide))
    refine V_aload_n (i := 0) (sx_di dX11_days 3 rfl) rfl rfl ?_
    refine V_iconst (v := 0) (sx_di dX11_days 4 rfl) (by decide) ?_
    refine V_iconst (v := -1) (sx_di dX11_days 5 rfl) (by decide) ?_
    refine V_cV2 (mc' := 0) (ms' := 0) (M' := mX11_refused) 1 (sx_di dX11_days 6 rfl) lX11_249 vX11_refused (hB.k _ rfl) (by decide) rfl (Nat.le_of_ble_eq_true rfl) ⟨Nat.le_of_ble_eq_true rfl, Nat.le_of_ble_eq_true rfl⟩ ⟨Nat.le_refl _, Nat.le_refl _⟩ ?_
    refine c_X11_refused hB (k := 0) (by omega) ?_
    refine V_iret (sx_di dX11_days 7 rfl) rfl (Nat.le_refl _) (Nat.le_refl _) ?_
    exact hrj 0 (by rw [wdays, if_pos h5]) (by decide)
theorem AV_days {A : AS} (V : AV A) (x : Int32) : AV (q_days A x).2 := by
  unfold q_days
  split
  · next e =>
    obtain ⟨h0, k, d, hk, ex, ed, hd⟩ := wdays_ok V e
    show AV (dit_ A x.toNatClampNeg)
    rw [ex, nI_clamp (by omega)]
    exact (dit_ok V h0 ed k hd).1
  · exact AV_rj V

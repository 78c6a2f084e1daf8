set_option maxHeartbeats 2000000 in
set_option maxRecDepth 20000 in
theorem c0_X6_takeBack {E : sxE} {w : hpW} {Q : Option Value → hpW → Prop} (hB : ly_B w) (hz : hp_i w 75 2 = nI 0) (h : Q (some (.int 0)) w) : sx_C E mX6_takeBack 3 0 0 [.ref 75, .ref 57] w Q := by
  refine C_of (by decide +kernel) (Nat.le_of_ble_eq_true rfl) ?_
  refine V_aload_n (i := 0) (sx_di dX6_takeBack 0 rfl) rfl rfl ?_
  refine V_getI (sx_di dX6_takeBack 1 rfl) fX6_28 (fun _ => rfl) (hB.k _ rfl) ?_
  refine V_iv (y := nI 0) (hz) ?_
  refine V_iconst (v := 1) (sx_di dX6_takeBack 2 rfl) (by decide) ?_
  refine V_icN_ge (a := 0) (b := 1) (rfl) (rfl) (by omega) (by omega) (tgt := 10) (sx_di dX6_takeBack 3 rfl) (by decide) (fun h5 => absurd h5 (by omega)) (fun _ => ?_)
  refine V_iconst (v := 0) (sx_di dX6_takeBack 4 rfl) (by decide) ?_
  refine V_zret (sx_di dX6_takeBack 5 rfl) rfl (by first | rfl | decide) (Nat.le_refl _) (Nat.le_refl _) ?_
  exact h
/-! undo, image, back: the class -/
theorem ud_o {I : Nat → Nat → Int32} {p z b : Nat} (h : b < 57 ∨ 63 < b) (h2 : b ≠ 75) : ud_ I p z b = I b := by
  unfold ud_
  rw [cp_o (by omega)]
  funext j
  rw [hp_u_nk _ _ (by omega), hp_u_nk _ _ (by omega)]
theorem CR_ud {A : AS} {w : hpW} {t g p : Nat} {G : Nat → Nat} {r : Nat → Int32} {K : List (Nat → Int32)} (V : AV A) (hK : a_K A = r :: K) (hB : ly_B w) (c1 : tp_ w 17 1 18 (a_T A)) (c2 : Claws (hp_i w) (a_W A) (a_h A)) (c3 : Cstr w t (a_n A) (a_m A) (a_s A)) (c6 : Cimg w t (a_n A) (a_s A) (a_I A)) (c7 : hp_i w 369 3 = nI (a_S A).length) (c8 : nts_ (hp_i w) 370 371 372 (a_S A)) (c9 : hp_i w 373 3 = nI (a_Q A).length) (c10 : nts_ (hp_i w) 374 375 376 (a_Q A)) (c11 : ∀ j, j < 5 → hp_i w 377 j = a_c A j) (c12 : hp_i w 16 14 = a_d A) (hp : p < 40) (hL : K.length < 40) (hG : gc_ g G (K.length + 1)) (h0 : Cst w t (a_n A) (a_s A) (77 + 7 * ((p + 39) % 40)) 71 (G 0) r) (hs : ∀ i q, K[i]? = some q → Cst w t (a_n A) (a_s A) (77 + 7 * ((p + 39 - (i + 1)) % 40)) 71 (G (i + 1)) q) : CR (pt_rK A r K) (hp_wr w (hp_u (hp_r w) 57 0 (some t)) (ud_ (hp_i w) (if p = 0 then 39 else p - 1) K.length)) ∧ fR w (hp_wr w (hp_u (hp_r w) 57 0 (some t)) (ud_ (hp_i w) (if p = 0 then 39 else p - 1) K.length)) := by
  have hn := V.2.2.1.1
  have ep : (if p = 0 then 39 else p - 1) = (p + 39) % 40 := by split <;> omega
  rw [ep]
  have hq : (p + 39) % 40 < 40 := Nat.mod_lt _ (by omega)
  generalize hpp : (p + 39) % 40 = p' at *
  have hB2 : ly_B (hp_wr w (hp_u (hp_r w) 57 0 (some t)) (ud_ (hp_i w) p' K.length)) := ly_wr hB (ly_ru hB.2 rfl _) _
  have e : ∀ b, (b < 57 ∨ 63 < b) ∧ b ≠ 75 → hp_i (hp_wr w (hp_u (hp_r w) 57 0 (some t)) (ud_ (hp_i w) p' K.length)) b = hp_i w b := fun b z => ud_o z.1 z.2
  have er : ∀ b, b ≠ 57 → hp_r (hp_wr w (hp_u (hp_r w) 57 0 (some t)) (ud_ (hp_i w) p' K.length)) b = hp_r w b := fun b z => by
    funext j
    exact hp_u_nk _ _ (by omega)
  have h57 : hp_r (hp_wr w (hp_u (hp_r w) 57 0 (some t)) (ud_ (hp_i w) p' K.length)) 57 0 = some t := hp_u_at (hp_r w) 57 0 (some t)
  have ei : ∀ b, b ≠ 75 → hp_u (hp_u (hp_i w) 75 2 (nI K.length)) 75 1 (nI p') b = hp_i w b := fun b z => by
    funext j
    rw [hp_u_nk _ _ (by omega), hp_u_nk _ _ (by omega)]
  have hN2 : Cst (hp_wr w (hp_u (hp_r w) 57 0 (some t)) (ud_ (hp_i w) p' K.length)) t (a_n A) (a_s A) 57 71 (G 0) r := by
    refine ⟨h57, vw_cp hn (vw_mv h0.2.1 (fun b b1 b2 => ei b (by omega))), tm_cp hn (tm_mv (ei _ (by omega)) h0.2.2.1), ?_, rg_mv (e 72 (by omega)) (e 73 (by omega)) (e 74 (by omega)) h0.2.2.2.2⟩
    show ud_ (hp_i w) p' K.length 57 12 = _
    unfold ud_ cp_
    rw [if_pos ⟨rfl, by omega, by omega⟩, ei _ (by omega)]
    exact h0.2.2.2.1
  have hnow : Cnow (hp_wr w (hp_u (hp_r w) 57 0 (some t)) (ud_ (hp_i w) p' K.length)) t (a_n A) (a_s A) (G 0) r := ⟨hN2.1, hN2.2.1.2.1, hN2.2.1.2.2.2.2.2, hN2.2.2.2.1, hN2.2.2.2.2, fun _ => hN2⟩
  have hpast : Cpast (hp_wr w (hp_u (hp_r w) 57 0 (some t)) (ud_ (hp_i w) p' K.length)) t (a_n A) (a_s A) (G 0) K := by
    have e75 : ud_ (hp_i w) p' K.length 75 = hp_u (hp_u (hp_i w) 75 2 (nI K.length)) 75 1 (nI p') 75 := by unfold ud_; rw [cp_o (by omega)]
    refine ⟨p', hq, ?_, ?_, fun i => G (i + 1), ⟨fun z => hG.2 0 (by omega), fun i hi => hG.2 (i + 1) (by omega)⟩, fun i q hqq => ?_⟩
    · show ud_ (hp_i w) p' K.length 75 1 = _
      rw [e75, hp_u_at]
    · show ud_ (hp_i w) p' K.length 75 2 = _
      rw [e75, hp_u_nk _ _ (by omega), hp_u_at]
    · have hl := (List.getElem?_eq_some_iff.mp hqq).1
      have z := hs i q hqq
      rw [show (p + 39 - (i + 1)) % 40 = (p' + 39 - i) % 40 by omega] at z
      have hq2 : (p' + 39 - i) % 40 < 40 := Nat.mod_lt _ (by omega)
      exact Cst_mv (by rw [er _ (by omega)]) (fun b b1 b2 => e b (by omega)) (fun b b1 b2 => e b (by omega)) z
  refine ⟨⟨hB2, tp_mv (by rw [e 17 (by omega)]) (e 18 (by omega)) c1, Claws_mv V.2.1.1 (fun i j hi hj => e _ (by omega)) (e 20 (by omega)) c2, t, G 0, Cstr_mv (er 16 (by omega)) (fun b b1 b2 => e b (by omega)) c3, hnow, hpast, Cimg_mv (er 362 (by omega)) (fun b b1 b2 => e b (by omega)) c6, ⟨by rw [e 369 (by omega)]; exact c7, nts_mv (e 370 (by omega)) (e 371 (by omega)) (e 372 (by omega)) c8⟩, ⟨by rw [e 373 (by omega)]; exact c9, nts_mv (e 374 (by omega)) (e 375 (by omega)) (e 376 (by omega)) c10⟩, fun j hj => by rw [e 377 (by omega)]; exact c11 j hj, by rw [e 16 (by omega)]; exact c12⟩, rfl, fun b hb => ⟨e b (by omega), er b (by omega), rfl⟩, fun _ => rfl⟩
set_option maxHeartbeats 2000000 in
set_option maxRecDepth 20000 in
theorem oC_undo {E : sxE} {A : AS} {w : hpW} (VA : AV A) (H : CR A w) : oC E mX11_undo 4 [.ref 16] w A (q_undo A).1 (q_undo A).2 := by
  intro Q h
  obtain ⟨hB, c1, c2, t, g, c3, c4, c5, c6, ⟨c7, c8⟩, ⟨c9, c10⟩, c11, c12⟩ := id H
  obtain ⟨p, hp, p1, p2, G, hG, p3⟩ := id c5
  have hK4 := VA.2.2.2.1.2.1
  cases hK : a_K A with
  | nil =>
    rw [q_undo_n hK] at h
    rw [hK] at p2
    refine C_of (by decide +kernel) (Nat.le_of_ble_eq_true rfl) ?_
    refine V_aload_n (i := 0) (sx_di dX11_undo 0 rfl) rfl rfl ?_
    refine V_getR (sx_di dX11_undo 1 rfl) fX11_77 (fun _ => rfl) (hB.k _ rfl) (hB.r _ _ rfl) ?_
    refine V_aload_n (i := 0) (sx_di dX11_undo 2 rfl) rfl rfl ?_
    refine V_getR (sx_di dX11_undo 3 rfl) fX11_60 (fun _ => rfl) (hB.k _ rfl) (hB.r _ _ rfl) ?_
    refine V_cV1 (mc' := 0) (ms' := 0) (M' := mX6_takeBack) 3 (sx_di dX11_undo 4 rfl) lX11_283 vX6_takeBack (hB.k _ rfl) (by decide) rfl (Nat.le_of_ble_eq_true rfl) ⟨Nat.le_of_ble_eq_true rfl, Nat.le_of_ble_eq_true rfl⟩ ⟨Nat.le_refl _, Nat.le_refl _⟩ ?_
    refine c0_X6_takeBack hB p2 ?_
    refine V_ifN_eq (a := 0) (rfl) (by omega) (tgt := 24) (sx_di dX11_undo 5 rfl) (by decide) (fun _ => ?_) (fun h11 => absurd h11 (by omega))
    refine V_iconst (v := -1) (sx_di dX11_undo 10 rfl) (by decide) ?_
    refine V_iret (sx_di dX11_undo 11 rfl) rfl (Nat.le_refl _) (Nat.le_refl _) ?_
    exact h w H fR_rf
  | cons r K =>
    rw [q_undo_c hK] at h
    rw [hK] at p2 hK4 hG
    have hL : K.length < 40 := by simp at hK4; omega
    have q0 := p3 0 r (by rw [hK]; rfl)
    have ep : (if p = 0 then 39 else p - 1) = (p + 39) % 40 := by split <;> omega
    have hz := CR_ud VA hK hB c1 c2 c3 c6 c7 c8 c9 c10 c11 c12 hp hL hG q0 (fun i q hq => p3 (i + 1) q (by rw [hK]; exact hq))
    have e2 : ud_ (hp_i w) (if p = 0 then 39 else p - 1) K.length 75 2 = nI K.length := by unfold ud_; rw [cp_o (by omega), hp_u_nk _ _ (by omega), hp_u_at]
    have hB2 := hz.1.1
    refine C_of (by decide +kernel) (Nat.le_of_ble_eq_true rfl) ?_
    refine V_aload_n (i := 0) (sx_di dX11_undo 0 rfl) rfl rfl ?_
    refine V_getR (sx_di dX11_undo 1 rfl) fX11_77 (fun _ => rfl) (hB.k _ rfl) (hB.r _ _ rfl) ?_
    refine V_aload_n (i := 0) (sx_di dX11_undo 2 rfl) rfl rfl ?_
    refine V_getR (sx_di dX11_undo 3 rfl) fX11_60 (fun _ => rfl) (hB.k _ rfl) (hB.r _ _ rfl) ?_
    refine V_cV1 (mc' := 0) (ms' := 0) (M' := mX6_takeBack) 3 (sx_di dX11_undo 4 rfl) lX11_283 vX6_takeBack (hB.k _ rfl) (by decide) rfl (Nat.le_of_ble_eq_true rfl) ⟨Nat.le_of_ble_eq_true rfl, Nat.le_of_ble_eq_true rfl⟩ ⟨Nat.le_refl _, Nat.le_refl _⟩ ?_
    refine c_X6_takeBack hB p1 hp p2 hL (t := t) (by rw [ep]; exact q0.1) ?_
    refine V_ifN_eq (a := 1) (rfl) (by omega) (tgt := 24) (sx_di dX11_undo 5 rfl) (by decide) (fun h11 => absurd h11 (by omega)) (fun _ => ?_)
    refine V_aload_n (i := 0) (sx_di dX11_undo 6 rfl) rfl rfl ?_
    refine V_getR (sx_di dX11_undo 7 rfl) fX11_77 (fun _ => rfl) (hB2.k _ rfl) (hB2.r _ _ rfl) ?_
    refine V_getI (sx_di dX11_undo 8 rfl) fX11_242 (fun _ => rfl) (hB2.k _ rfl) ?_
    refine V_iv (y := nI K.length) (e2) ?_
    refine V_goto (tgt := 25) (sx_di dX11_undo 9 rfl) (by decide) ?_
    refine V_iret (sx_di dX11_undo 11 rfl) rfl (Nat.le_refl _) (Nat.le_refl _) ?_
    exact h _ hz.1 hz.2
theorem im_o {I : Nat → Nat → Int32} {b : Nat} (h : b < 357 ∨ 368 < b) : im_ I b = I b := by
  funext j
  unfold im_
  rw [hp_u_nk _ _ (by omega)]
  unfold lc_
  rw [if_neg (by omega), cp_o (by omega)]
theorem CR_im {A : AS} {w : hpW} {t g : Nat} (V : AV A) (h0 : 0 < a_n A) (hB : ly_B w) (c1 : tp_ w 17 1 18 (a_T A)) (c2 : Claws (hp_i w) (a_W A) (a_h A)) (c3 : Cstr w t (a_n A) (a_m A) (a_s A)) (c4 : Cnow w t (a_n A) (a_s A) g (a_r A)) (c5 : Cpast w t (a_n A) (a_s A) g (a_K A)) (c7 : hp_i w 369 3 = nI (a_S A).length) (c8 : nts_ (hp_i w) 370 371 372 (a_S A)) (c9 : hp_i w 373 3 = nI (a_Q A).length) (c10 : nts_ (hp_i w) 374 375 376 (a_Q A)) (c11 : ∀ j, j < 5 → hp_i w 377 j = a_c A j) (c12 : hp_i w 16 14 = a_d A) : CR (pt_I A (some (a_r A))) (hp_wr w (hp_u (hp_r w) 362 0 (some t)) (im_ (hp_i w))) ∧ fR w (hp_wr w (hp_u (hp_r w) 362 0 (some t)) (im_ (hp_i w))) := by
  have hn := V.2.2.1.1
  have hN := c4.2.2.2.2.2 h0
  have hB2 : ly_B (hp_wr w (hp_u (hp_r w) 362 0 (some t)) (im_ (hp_i w))) := ly_wr hB (ly_ru hB.2 rfl _) _
  have e : ∀ b, b < 357 ∨ 368 < b → hp_i (hp_wr w (hp_u (hp_r w) 362 0 (some t)) (im_ (hp_i w))) b = hp_i w b := fun b z => im_o z
  have er : ∀ b, b ≠ 362 → hp_r (hp_wr w (hp_u (hp_r w) 362 0 (some t)) (im_ (hp_i w))) b = hp_r w b := fun b z => by
    funext j
    exact hp_u_nk _ _ (by omega)
  have ei : ∀ b, 362 ≤ b → b ≤ 368 → hp_i (hp_wr w (hp_u (hp_r w) 362 0 (some t)) (im_ (hp_i w))) b = cp_ (hp_i w) 362 57 6 13 b := fun b b1 b2 => by
    funext j
    show im_ (hp_i w) b j = _
    unfold im_
    rw [hp_u_nk _ _ (by omega)]
    unfold lc_
    rw [if_neg (by omega)]
  have el : ∀ i j, 1 ≤ i → i ≤ 3 → j < 128 → im_ (hp_i w) (358 + i) j = hp_i w (71 + i) j := fun i j i1 i2 hj => by
    unfold im_
    rw [hp_u_nk _ _ (by omega)]
    unfold lc_
    rw [if_pos ⟨by omega, by omega, hj⟩, cp_o (by omega), show 358 + i - 358 = i by omega]
  have himg : Cimg (hp_wr w (hp_u (hp_r w) 362 0 (some t)) (im_ (hp_i w))) t (a_n A) (a_s A) (some (a_r A)) := by
    refine ⟨?_, fun r hr => ?_⟩
    · show im_ (hp_i w) 357 2 = _
      unfold im_
      rw [hp_u_at]
      rfl
    · have er2 := Option.some.inj hr
      rw [← er2]
      refine ⟨g, hp_u_at (hp_r w) 362 0 (some t), vw_mv (vw_cp hn hN.2.1) ei, tm_mv (ei _ (by omega) (by omega)) (tm_cp hn hN.2.2.1), ?_, hN.2.2.2.2.1, hN.2.2.2.2.2.1, fun i hi => ?_⟩
      · rw [ei _ (by omega) (by omega)]
        unfold cp_
        rw [if_pos ⟨rfl, by omega, by omega⟩]
        exact hN.2.2.2.1
      · have z := hN.2.2.2.2.2.2 i hi
        have hm : (g - 1 - i) % 128 < 128 := Nat.mod_lt _ (by omega)
        show im_ (hp_i w) (358 + 1) _ = _ ∧ im_ (hp_i w) (358 + 2) _ = _ ∧ im_ (hp_i w) (358 + 3) _ = _
        rw [el 1 _ (by omega) (by omega) hm, el 2 _ (by omega) (by omega) hm, el 3 _ (by omega) (by omega) hm]
        exact z
  refine ⟨⟨hB2, tp_mv (by rw [e 17 (by omega)]) (e 18 (by omega)) c1, Claws_mv V.2.1.1 (fun i j hi hj => e _ (by omega)) (e 20 (by omega)) c2, t, g, Cstr_mv (er 16 (by omega)) (fun b b1 b2 => e b (by omega)) c3, Cnow_mv (by rw [er 57 (by omega)]) (fun b b1 b2 => e b (by omega)) (fun b b1 b2 => e b (by omega)) c4, Cpast_mv (fun b b1 b2 => er b (by omega)) (fun b b1 b2 => e b (by omega)) c5, himg, ⟨by rw [e 369 (by omega)]; exact c7, nts_mv (e 370 (by omega)) (e 371 (by omega)) (e 372 (by omega)) c8⟩, ⟨by rw [e 373 (by omega)]; exact c9, nts_mv (e 374 (by omega)) (e 375 (by omega)) (e 376 (by omega)) c10⟩, fun j hj => by rw [e 377 (by omega)]; exact c11 j hj, by rw [e 16 (by omega)]; exact c12⟩, rfl, fun b hb => ⟨e b (by omega), er b (by omega), rfl⟩, fun _ => rfl⟩
set_option maxHeartbeats 2000000 in
set_option maxRecDepth 20000 in
theorem oC_image {E : sxE} {A : AS} {w : hpW} (VA : AV A) (H : CR A w) : oC E mX11_image 4 [.ref 16] w A (q_image A).1 (q_image A).2 := by
  intro Q h
  obtain ⟨hB, c1, c2, t, g, c3, c4, c5, c6, ⟨c7, c8⟩, ⟨c9, c10⟩, c11, c12⟩ := id H
  obtain ⟨t9, p9, C, _⟩ := CN_of VA H
  have hn8 := VA.2.2.1.1
  have hB2 : ly_B (hp_wr w (hp_u (hp_r w) 362 0 (some t)) (im_ (hp_i w))) := ly_wr hB (ly_ru hB.2 rfl _) _
  have e11 : im_ (hp_i w) 57 11 = a_r A 44 := (congrFun (im_o (by omega)) 11).trans c4.2.2.1
  refine C_of (by decide +kernel) (Nat.le_of_ble_eq_true rfl) ?_
  refine V_aload_n (i := 0) (sx_di dX11_image 0 rfl) rfl rfl ?_
  refine V_cV0 (mc' := 0) (ms' := 0) (M' := mX11_isStreet) 1 (sx_di dX11_image 1 rfl) lX11_154 vX11_isStreet (hB.k _ rfl) (by decide) rfl (Nat.le_of_ble_eq_true rfl) ⟨Nat.le_of_ble_eq_true rfl, Nat.le_of_ble_eq_true rfl⟩ ⟨Nat.le_refl _, Nat.le_refl _⟩ ?_
  refine c_X11_isStreet hB C.2.1 C.2.2.1 C.2.2.2.1 hn8 ?_
  refine V_if_ne (tgt := 9) (sx_di dX11_image 2 rfl) (by decide) (fun h4 => ?_) (fun h4 => ?_)
  · have h5 : ¬ a_n A = 0 := fun z => h4 (if_pos z)
    have hz := CR_im VA (Nat.pos_of_ne_zero h5) hB c1 c2 c3 c4 c5 c7 c8 c9 c10 c11 c12
    rw [q_image, if_neg h5] at h
    refine V_aload_n (i := 0) (sx_di dX11_image 5 rfl) rfl rfl ?_
    refine V_getR (sx_di dX11_image 6 rfl) fX11_84 (fun _ => rfl) (hB.k _ rfl) (hB.r _ _ rfl) ?_
    refine V_aload_n (i := 0) (sx_di dX11_image 7 rfl) rfl rfl ?_
    refine V_getR (sx_di dX11_image 8 rfl) fX11_60 (fun _ => rfl) (hB.k _ rfl) (hB.r _ _ rfl) ?_
    refine V_aload_n (i := 0) (sx_di dX11_image 9 rfl) rfl rfl ?_
    refine V_getR (sx_di dX11_image 10 rfl) fX11_70 (fun _ => rfl) (hB.k _ rfl) (hB.r _ _ rfl) ?_
    refine V_cV2 (mc' := 0) (ms' := 0) (M' := mX0_keep) 3 (sx_di dX11_image 11 rfl) lX11_287 vX0_keep (hB.k _ rfl) (by decide) rfl (Nat.le_of_ble_eq_true rfl) ⟨Nat.le_of_ble_eq_true rfl, Nat.le_of_ble_eq_true rfl⟩ ⟨Nat.le_refl _, Nat.le_refl _⟩ ?_
    refine c_X0_keep hB c4.1 ?_
    refine V_aload_n (i := 0) (sx_di dX11_image 12 rfl) rfl rfl ?_
    refine V_getR (sx_di dX11_image 13 rfl) fX11_60 (fun _ => rfl) (hB2.k _ rfl) (hB2.r _ _ rfl) ?_
    refine V_getI (sx_di dX11_image 14 rfl) fX11_233 (fun _ => rfl) (hB2.k _ rfl) ?_
    refine V_iv (y := a_r A 44) (e11) ?_
    refine V_iret (sx_di dX11_image 15 rfl) rfl (Nat.le_refl _) (Nat.le_refl _) ?_
    exact h _ hz.1 hz.2
  · have h5 : a_n A = 0 := Classical.byContradiction (fun z => by rw [if_neg z] at h4; exact absurd h4 (by decide))
    rw [q_image, if_pos h5] at h
    refine V_iconst (v := -1) (sx_di dX11_image 3 rfl) (by decide) ?_
    refine V_iret (sx_di dX11_image 4 rfl) rfl (Nat.le_refl _) (Nat.le_refl _) ?_
    exact h w H fR_rf
theorem br_o {I : Nat → Nat → Int32} {b : Nat} (h : b < 57 ∨ (63 < b ∧ b < 72) ∨ 74 < b) : br_ I b = I b := by
  funext j
  unfold br_ lc_
  rw [if_neg (by omega), cp_o (by omega)]
theorem CR_br {A : AS} {w : hpW} {t g p : Nat} {r : Nat → Int32} (V : AV A) (hB : ly_B w) (c1 : tp_ w 17 1 18 (a_T A)) (c2 : Claws (hp_i w) (a_W A) (a_h A)) (c3 : Cstr w t (a_n A) (a_m A) (a_s A)) (c6 : Cimg w t (a_n A) (a_s A) (a_I A)) (hp : p < 40) (p1 : hp_i w 75 1 = nI p) (c7 : hp_i w 369 3 = nI (a_S A).length) (c8 : nts_ (hp_i w) 370 371 372 (a_S A)) (c9 : hp_i w 373 3 = nI (a_Q A).length) (c10 : nts_ (hp_i w) 374 375 376 (a_Q A)) (c11 : ∀ j, j < 5 → hp_i w 377 j = a_c A j) (c12 : hp_i w 16 14 = a_d A) (hN : Cst w t (a_n A) (a_s A) 362 358 g r) : CR (pt_rK A r []) (hp_si (hp_wr w (hp_u (hp_r w) 57 0 (some t)) (br_ (hp_i w))) 75 2 0) ∧ fR w (hp_si (hp_wr w (hp_u (hp_r w) 57 0 (some t)) (br_ (hp_i w))) 75 2 0) := by
  have hn := V.2.2.1.1
  have hB2 : ly_B (hp_si (hp_wr w (hp_u (hp_r w) 57 0 (some t)) (br_ (hp_i w))) 75 2 0) := ly_wr hB (ly_ru hB.2 rfl _) _
  have e : ∀ b, (b < 57 ∨ (63 < b ∧ b < 72) ∨ 74 < b) ∧ b ≠ 75 → hp_i (hp_si (hp_wr w (hp_u (hp_r w) 57 0 (some t)) (br_ (hp_i w))) 75 2 0) b = hp_i w b := fun b z => by
    funext j
    show hp_u (br_ (hp_i w)) 75 2 0 b j = _
    rw [hp_u_nk _ _ (by omega), br_o z.1]
  have er : ∀ b, b ≠ 57 → hp_r (hp_si (hp_wr w (hp_u (hp_r w) 57 0 (some t)) (br_ (hp_i w))) 75 2 0) b = hp_r w b := fun b z => by
    funext j
    exact hp_u_nk _ _ (by omega)
  have e0 : ∀ b, b ≠ 75 → hp_i (hp_si (hp_wr w (hp_u (hp_r w) 57 0 (some t)) (br_ (hp_i w))) 75 2 0) b = br_ (hp_i w) b := fun b z => by
    funext j
    show hp_u (br_ (hp_i w)) 75 2 0 b j = _
    rw [hp_u_nk _ _ (by omega)]
  have ei : ∀ b, 57 ≤ b → b ≤ 63 → hp_i (hp_si (hp_wr w (hp_u (hp_r w) 57 0 (some t)) (br_ (hp_i w))) 75 2 0) b = cp_ (hp_i w) 57 362 6 13 b := fun b b1 b2 => by
    rw [e0 b (by omega)]
    funext j
    unfold br_ lc_
    rw [if_neg (by omega)]
  have el : ∀ i j, 1 ≤ i → i ≤ 3 → j < 128 → hp_i (hp_si (hp_wr w (hp_u (hp_r w) 57 0 (some t)) (br_ (hp_i w))) 75 2 0) (71 + i) j = hp_i w (358 + i) j := fun i j i1 i2 hj => by
    rw [e0 _ (by omega)]
    unfold br_ lc_
    rw [if_pos ⟨by omega, by omega, hj⟩, cp_o (by omega), show 71 + i - 71 = i by omega]
  have hN2 : Cst (hp_si (hp_wr w (hp_u (hp_r w) 57 0 (some t)) (br_ (hp_i w))) 75 2 0) t (a_n A) (a_s A) 57 71 g r := by
    refine ⟨hp_u_at (hp_r w) 57 0 (some t), vw_mv (vw_cp hn hN.2.1) ei, tm_mv (ei _ (by omega) (by omega)) (tm_cp hn hN.2.2.1), ?_, hN.2.2.2.2.1, hN.2.2.2.2.2.1, fun i hi => ?_⟩
    · rw [ei _ (by omega) (by omega)]
      unfold cp_
      rw [if_pos ⟨rfl, by omega, by omega⟩]
      exact hN.2.2.2.1
    · have z := hN.2.2.2.2.2.2 i hi
      have hm : (g - 1 - i) % 128 < 128 := Nat.mod_lt _ (by omega)
      rw [el 1 _ (by omega) (by omega) hm, el 2 _ (by omega) (by omega) hm, el 3 _ (by omega) (by omega) hm]
      exact z
  have hnow : Cnow (hp_si (hp_wr w (hp_u (hp_r w) 57 0 (some t)) (br_ (hp_i w))) 75 2 0) t (a_n A) (a_s A) g r := ⟨hN2.1, hN2.2.1.2.1, hN2.2.1.2.2.2.2.2, hN2.2.2.2.1, hN2.2.2.2.2, fun _ => hN2⟩
  have hpast : Cpast (hp_si (hp_wr w (hp_u (hp_r w) 57 0 (some t)) (br_ (hp_i w))) 75 2 0) t (a_n A) (a_s A) g [] := by
    refine ⟨p, hp, ?_, hp_u_at (br_ (hp_i w)) 75 2 0, fun _ => 0, ⟨fun z => absurd z (by simp), fun i hi => absurd hi (by simp)⟩, fun i q hq => by simp at hq⟩
    show hp_u (br_ (hp_i w)) 75 2 0 75 1 = _
    rw [hp_u_nk _ _ (by omega), br_o (by omega)]
    exact p1
  refine ⟨⟨hB2, tp_mv (by rw [e 17 (by omega)]) (e 18 (by omega)) c1, Claws_mv V.2.1.1 (fun i j hi hj => e _ (by omega)) (e 20 (by omega)) c2, t, g, Cstr_mv (er 16 (by omega)) (fun b b1 b2 => e b (by omega)) c3, hnow, hpast, Cimg_mv (er 362 (by omega)) (fun b b1 b2 => e b (by omega)) c6, ⟨by rw [e 369 (by omega)]; exact c7, nts_mv (e 370 (by omega)) (e 371 (by omega)) (e 372 (by omega)) c8⟩, ⟨by rw [e 373 (by omega)]; exact c9, nts_mv (e 374 (by omega)) (e 375 (by omega)) (e 376 (by omega)) c10⟩, fun j hj => by rw [e 377 (by omega)]; exact c11 j hj, by rw [e 16 (by omega)]; exact c12⟩, rfl, fun b hb => ⟨e b (by omega), er b (by omega), rfl⟩, fun _ => rfl⟩
set_option maxHeartbeats 2000000 in
set_option maxRecDepth 20000 in
theorem oC_back {E : sxE} {A : AS} {w : hpW} (VA : AV A) (H : CR A w) : oC E mX11_back 4 [.ref 16] w A (q_back A).1 (q_back A).2 := by
  intro Q h
  obtain ⟨hB, c1, c2, t, g, c3, c4, c5, c6, ⟨c7, c8⟩, ⟨c9, c10⟩, c11, c12⟩ := id H
  obtain ⟨p, hp, p1, p2, G, hG, p3⟩ := id c5
  have e47 := c6.1
  cases hI : a_I A with
  | none =>
    rw [q_back_n hI] at h
    rw [hI] at e47
    have e47 : hp_i w 357 2 = 0 := e47
    refine C_of (by decide +kernel) (Nat.le_of_ble_eq_true rfl) ?_
    refine V_aload_n (i := 0) (sx_di dX11_back 0 rfl) rfl rfl ?_
    refine V_getR (sx_di dX11_back 1 rfl) fX11_84 (fun _ => rfl) (hB.k _ rfl) (hB.r _ _ rfl) ?_
    refine V_getI (sx_di dX11_back 2 rfl) fX11_146 (fun _ => rfl) (hB.k _ rfl) ?_
    refine V_iv (y := nI 0) (e47) ?_
    refine V_ifN_ne (a := 0) (rfl) (by omega) (tgt := 12) (sx_di dX11_back 3 rfl) (by decide) (fun h7 => absurd h7 (by omega)) (fun _ => ?_)
    refine V_iconst (v := -1) (sx_di dX11_back 4 rfl) (by decide) ?_
    refine V_iret (sx_di dX11_back 5 rfl) rfl (Nat.le_refl _) (Nat.le_refl _) ?_
    exact h w H fR_rf
  | some r =>
    rw [q_back_c hI] at h
    rw [hI] at e47
    have e47 : hp_i w 357 2 = 1 := e47
    obtain ⟨g2, hN⟩ := c6.2 r hI
    have hz := CR_br VA hB c1 c2 c3 c6 hp p1 c7 c8 c9 c10 c11 c12 hN
    have hB2 : ly_B (hp_wr w (hp_u (hp_r w) 57 0 (some t)) (br_ (hp_i w))) := ly_wr hB (ly_ru hB.2 rfl _) _
    have hB3 : ly_B (hp_si (hp_wr w (hp_u (hp_r w) 57 0 (some t)) (br_ (hp_i w))) 75 2 0) := hB2
    have e44 : hp_u (br_ (hp_i w)) 75 2 0 57 11 = r 44 := by
      rw [hp_u_nk _ _ (by omega)]
      unfold br_ lc_
      rw [if_neg (by omega)]
      unfold cp_
      rw [if_pos ⟨rfl, by omega, by omega⟩]
      exact hN.2.1.2.2.2.2.2
    refine C_of (by decide +kernel) (Nat.le_of_ble_eq_true rfl) ?_
    refine V_aload_n (i := 0) (sx_di dX11_back 0 rfl) rfl rfl ?_
    refine V_getR (sx_di dX11_back 1 rfl) fX11_84 (fun _ => rfl) (hB.k _ rfl) (hB.r _ _ rfl) ?_
    refine V_getI (sx_di dX11_back 2 rfl) fX11_146 (fun _ => rfl) (hB.k _ rfl) ?_
    refine V_iv (y := nI 1) (e47) ?_
    refine V_ifN_ne (a := 1) (rfl) (by omega) (tgt := 12) (sx_di dX11_back 3 rfl) (by decide) (fun _ => ?_) (fun h7 => absurd h7 (by omega))
    refine V_aload_n (i := 0) (sx_di dX11_back 6 rfl) rfl rfl ?_
    refine V_getR (sx_di dX11_back 7 rfl) fX11_84 (fun _ => rfl) (hB.k _ rfl) (hB.r _ _ rfl) ?_
    refine V_aload_n (i := 0) (sx_di dX11_back 8 rfl) rfl rfl ?_
    refine V_getR (sx_di dX11_back 9 rfl) fX11_60 (fun _ => rfl) (hB.k _ rfl) (hB.r _ _ rfl) ?_
    refine V_aload_n (i := 0) (sx_di dX11_back 10 rfl) rfl rfl ?_
    refine V_getR (sx_di dX11_back 11 rfl) fX11_70 (fun _ => rfl) (hB.k _ rfl) (hB.r _ _ rfl) ?_
    refine V_cV2 (mc' := 0) (ms' := 0) (M' := mX0_bringBack) 3 (sx_di dX11_back 12 rfl) lX11_290 vX0_bringBack (hB.k _ rfl) (by decide) rfl (Nat.le_of_ble_eq_true rfl) ⟨Nat.le_of_ble_eq_true rfl, Nat.le_of_ble_eq_true rfl⟩ ⟨Nat.le_refl _, Nat.le_refl _⟩ ?_
    refine c_X0_bringBack hB hN.1 ?_
    refine V_aload_n (i := 0) (sx_di dX11_back 13 rfl) rfl rfl ?_
    refine V_getR (sx_di dX11_back 14 rfl) fX11_77 (fun _ => rfl) (hB2.k _ rfl) (hB2.r _ _ rfl) ?_
    refine V_cV0 (mc' := 0) (ms' := 0) (M' := mX6_forget) 1 (sx_di dX11_back 15 rfl) lX11_143 vX6_forget (hB2.k _ rfl) (by decide) rfl (Nat.le_of_ble_eq_true rfl) ⟨Nat.le_of_ble_eq_true rfl, Nat.le_of_ble_eq_true rfl⟩ ⟨Nat.le_refl _, Nat.le_refl _⟩ ?_
    refine c_X6_forget hB2 ?_
    refine V_aload_n (i := 0) (sx_di dX11_back 16 rfl) rfl rfl ?_
    refine V_getR (sx_di dX11_back 17 rfl) fX11_60 (fun _ => rfl) (hB3.k _ rfl) (hB3.r _ _ rfl) ?_
    refine V_getI (sx_di dX11_back 18 rfl) fX11_233 (fun _ => rfl) (hB3.k _ rfl) ?_
    refine V_iv (y := r 44) (e44) ?_
    refine V_iret (sx_di dX11_back 19 rfl) rfl (Nat.le_refl _) (Nat.le_refl _) ?_
    exact h _ hz.1 hz.2

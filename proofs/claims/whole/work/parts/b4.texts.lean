/-! fault and text: what both sides do -/
set_option maxHeartbeats 2000000 in
set_option maxRecDepth 20000 in
theorem rs_st {E : sxE} {T : List Int32} {Q : Option Value → hpW → Prop} : ∀ d k w, k + d = 4 → qP T 0 0 0 w → (∀ j, j < k → hp_i w 392 j = it_us j) → (∀ w', ly_B w' → tp_ w' 381 2 382 T → fT9 w w' → ((str9 T).1 = true → sR9 (str9 T).2.1 w') → Q (some (.int (sres (str9 T)))) w') → V E mX12_readStreet (sx_rm 5 0 0) 0 0 0 0 24 [(2, .int (nI k)), (1, .int 0), (0, .ref 381)] [] w Q := by
  intro d
  induction d with
  | zero =>
    intro k w hk H hu h
    have e : k = 4 := by omega
    subst e
    refine V_iload_n (i := 2) (sx_di dX12_readStreet 16 rfl) rfl rfl ?_
    refine V_iconst (v := 4) (sx_di dX12_readStreet 17 rfl) (by decide) ?_
    refine V_icN_ge (a := 4) (b := 4) (rfl) (rfl) (by omega) (by omega) (tgt := 47) (sx_di dX12_readStreet 18 rfl) (by decide) (fun _ => ?_) (fun h26 => absurd h26 (by omega))
    refine V_iconst (v := 1) (sx_di dX12_readStreet 28 rfl) (by decide) ?_
    refine V_istore_n (i := 2) (sx_di dX12_readStreet 29 rfl) rfl (by decide) (rfl) ?_
    have q1 : _ := rs_lpR (E := E) (Q := Q) (T.length + 1) sr0 0 w H ⟨fun j hj => ?_, fun j hj => absurd hj (Nat.not_lt_zero j), fun j hj => absurd hj (Nat.not_lt_zero j)⟩ sr0_ok (Nat.zero_le _) (by omega) h
    · exact V_subk q1 ⟨rfl, rfl, rfl, trivial⟩
    · rw [← RS_r hj, hu j hj]
      show _ = us9_ 0 4 0 (fun _ => 0) j
      unfold us9_
      rw [if_pos (by omega), Nat.zero_add, Nat.sub_zero]
  | succ d ih =>
    intro k w hk H hu h
    refine V_iload_n (i := 2) (sx_di dX12_readStreet 16 rfl) rfl rfl ?_
    refine V_iconst (v := 4) (sx_di dX12_readStreet 17 rfl) (by decide) ?_
    refine V_icN_ge (a := k) (b := 4) (rfl) (rfl) (by omega) (by omega) (tgt := 47) (sx_di dX12_readStreet 18 rfl) (by decide) (fun h26 => absurd h26 (by omega)) (fun _ => ?_)
    refine V_aload_n (i := 0) (sx_di dX12_readStreet 19 rfl) rfl rfl ?_
    refine V_getR (sx_di dX12_readStreet 20 rfl) fX12_40 (fun _ => rfl) (by first | exact H.1.k _ rfl) (by first | exact H.1.r _ _ rfl) ?_
    refine V_iload_n (i := 2) (sx_di dX12_readStreet 21 rfl) rfl rfl ?_
    refine V_bipush (v := 115) (sx_di dX12_readStreet 22 rfl) (by decide) ?_
    refine V_iload_n (i := 2) (sx_di dX12_readStreet 23 rfl) rfl rfl ?_
    refine V_cS2 (mc' := 0) (ms' := 0) (M' := mX12_usual) 1 (sx_di dX12_readStreet 24 rfl) lX12_218 vX12_usual (Nat.le_of_ble_eq_true rfl) ⟨Nat.le_of_ble_eq_true rfl, Nat.le_of_ble_eq_true rfl⟩ ⟨Nat.le_refl _, Nat.le_refl _⟩ ?_
    refine c_X12_usual (b := 0) (m := 4) (Or.inl ⟨rfl, rfl, rfl⟩) (show k < 4 by omega) ?_
    refine V_iv (y := it_us k) (by rw [Nat.zero_add]) ?_
    refine V_iastN (n := 4) (j := k) (sx_di dX12_readStreet 25 rfl) (by first | exact H.1.k _ rfl) (rfl) (by omega) (by omega) ?_
    refine V_inc (c := 1) (sx_di dX12_readStreet 26 rfl) (by decide) rfl (by decide) (rfl) ?_
    refine V_goto (tgt := 24) (sx_di dX12_readStreet 27 rfl) (by decide) ?_
    have q1 : _ := ih (k + 1) _ (by omega) (qP_ar (ad := 392) (z := 0) (l := 4) (j := k) (v := it_us k) (Or.inl ⟨rfl, rfl, rfl⟩) H) (fun j hj => ?_) (fun w2 B2 t2 f2 s2 => h w2 B2 t2 (fT9_tr (fT9_ar (ad := 392) (z := 0) (l := 4) (Or.inl ⟨rfl, rfl, rfl⟩)) f2) s2)
    · rw [← nI_1 (a := k)] at q1
      exact V_subk q1 ⟨rfl, rfl, rfl, trivial⟩
    · by_cases e : j = k
      · subst e
        rw [hp_i_si, if_pos ⟨rfl, rfl⟩]
      · rw [si_p (by omega)]
        exact hu j (by omega)
set_option maxHeartbeats 2000000 in
set_option maxRecDepth 20000 in
theorem c_rdStreetR {E : sxE} {T : List Int32} {w : hpW} {Q : Option Value → hpW → Prop} (hB : ly_B w) (hT : tp_ w 381 2 382 T) (h : (∀ w', ly_B w' → tp_ w' 381 2 382 T → fT9 w w' → ((str9 T).1 = true → sR9 (str9 T).2.1 w') → Q (some (.int (sres (str9 T)))) w')) : sx_C E mX12_readStreet 5 0 0 [.ref 381] w Q := by
  have H1 : qP T 0 0 0 (hp_si (hp_si (hp_si (hp_si w 381 3 0) 381 4 (-1)) 381 20 0) 381 21 0) := by
    refine ⟨hB, tp_si (by decide) (tp_si (by decide) (tp_si (by decide) (tp_si (by decide) hT))), ?_, ?_, ?_, ?_⟩
    · rw [si_o (by omega), si_o (by omega), si_a]
    · rw [si_o (by omega), si_o (by omega), si_o (by omega), si_a]; rfl
    · rw [si_o (by omega), si_a]; rfl
    · rw [si_a]; rfl
  have f1 : fT9 w (hp_si (hp_si (hp_si (hp_si w 381 3 0) 381 4 (-1)) 381 20 0) 381 21 0) := fT9_tr (fT9_si (Or.inl rfl)) (fT9_tr (fT9_si (Or.inr (Or.inl rfl))) (fT9_tr (fT9_si (Or.inr (Or.inr (Or.inl rfl)))) (fT9_si (Or.inr (Or.inr (Or.inr rfl))))))
  refine C_of (by decide +kernel) (Nat.le_of_ble_eq_true rfl) ?_
  refine V_aload_n (i := 0) (sx_di dX12_readStreet 0 rfl) rfl rfl ?_
  refine V_iconst (v := 0) (sx_di dX12_readStreet 1 rfl) (by decide) ?_
  refine V_putI (sx_di dX12_readStreet 2 rfl) fX12_109 (fun _ => rfl) rfl (hB.k _ rfl) (rfl) (rfl) ?_
  refine V_aload_n (i := 0) (sx_di dX12_readStreet 3 rfl) rfl rfl ?_
  refine V_iconst (v := -1) (sx_di dX12_readStreet 4 rfl) (by decide) ?_
  refine V_putI (sx_di dX12_readStreet 5 rfl) fX12_116 (fun _ => rfl) rfl (hB.k _ rfl) (rfl) (rfl) ?_
  refine V_aload_n (i := 0) (sx_di dX12_readStreet 6 rfl) rfl rfl ?_
  refine V_iconst (v := 0) (sx_di dX12_readStreet 7 rfl) (by decide) ?_
  refine V_putI (sx_di dX12_readStreet 8 rfl) fX12_238 (fun _ => rfl) rfl (hB.k _ rfl) (rfl) (rfl) ?_
  refine V_aload_n (i := 0) (sx_di dX12_readStreet 9 rfl) rfl rfl ?_
  refine V_iconst (v := 0) (sx_di dX12_readStreet 10 rfl) (by decide) ?_
  refine V_putI (sx_di dX12_readStreet 11 rfl) fX12_241 (fun _ => rfl) rfl (hB.k _ rfl) (rfl) (rfl) ?_
  refine V_iconst (v := 0) (sx_di dX12_readStreet 12 rfl) (by decide) ?_
  refine V_istore_n (i := 1) (sx_di dX12_readStreet 13 rfl) rfl (by decide) (rfl) ?_
  refine V_iconst (v := 0) (sx_di dX12_readStreet 14 rfl) (by decide) ?_
  refine V_istore_n (i := 2) (sx_di dX12_readStreet 15 rfl) rfl (by decide) (rfl) ?_
  refine V_sub (ls' := [(2, .int (nI 0)), (1, .int 0), (0, .ref 381)]) ⟨rfl, rfl, rfl, trivial⟩ ?_
  exact rs_st 4 0 _ rfl H1 (fun j hj => absurd hj (Nat.not_lt_zero j)) (fun w2 B2 t2 f2 s2 => h w2 B2 t2 (fT9_tr f1 f2) s2)
noncomputable def q_fault (A : AS) (x : Int32) : Int32 := if x = 0 then sres (str9 (a_T A)) else if x = 1 then lres (law9 (a_T A)) else -2
/-- the class holds A still, whatever was read -/
theorem CR_rd {A : AS} {w w' : hpW} (H : CR A w) (hB : ly_B w') (hT : tp_ w' 17 1 18 (a_T A)) (hr : ∀ b, b ≠ 52 → hp_r w' b = hp_r w b) (e20 : hp_i w' 20 = hp_i w 20) (e16 : hp_i w' 16 = hp_i w 16) (el : ∀ k j, k < (a_W A).length → j < 4 → hp_i w' (22 + 6 * k + j) = hp_i w (22 + 6 * k + j)) (es : ∀ t, a2_ t → hp_r w 16 4 = some t → hp_i w' t = hp_i w t ∧ hp_i w' (t + 1) = hp_i w (t + 1)) (e : ∀ b, 57 ≤ b → b < 381 → hp_i w' b = hp_i w b) : CR A w' := by
  obtain ⟨-, c1, c2, t, g, c3, c4, c5, c6, ⟨c7, c8⟩, ⟨c9, c10⟩, c11, c12⟩ := id H
  obtain ⟨s1, s2⟩ := es t c3.2.2.1 c3.1
  refine ⟨hB, hT, ⟨by rw [e20]; exact c2.1, by rw [e20]; exact c2.2.1, fun k V hV => cl_mv (fun j hj => el k j (List.getElem?_eq_some_iff.mp hV).1 hj) (c2.2.2 k V hV)⟩, t, g, ⟨by rw [hr 16 (by decide)]; exact c3.1, by rw [hr 16 (by decide)]; exact c3.2.1, c3.2.2.1, by rw [s1]; exact c3.2.2.2.1, by rw [s1]; exact c3.2.2.2.2.1, by rw [s2]; exact c3.2.2.2.2.2⟩, Cnow_mv (by rw [hr 57 (by decide)]) (fun b b1 b2 => e b (by omega) (by omega)) (fun b b1 b2 => e b (by omega) (by omega)) c4, Cpast_mv (fun b b1 b2 => hr b (by omega)) (fun b b1 b2 => e b (by omega) (by omega)) c5, Cimg_mv (hr 362 (by decide)) (fun b b1 b2 => e b (by omega) (by omega)) c6, ⟨by rw [e 369 (by omega) (by omega)]; exact c7, nts_mv (e 370 (by omega) (by omega)) (e 371 (by omega) (by omega)) (e 372 (by omega) (by omega)) c8⟩, ⟨by rw [e 373 (by omega) (by omega)]; exact c9, nts_mv (e 374 (by omega) (by omega)) (e 375 (by omega) (by omega)) (e 376 (by omega) (by omega)) c10⟩, fun j hj => by rw [e 377 (by omega) (by omega)]; exact c11 j hj, by rw [e16]; exact c12⟩
theorem CR_t9 {A : AS} {w : hpW} (H : CR A w) : ∃ t, a2_ t ∧ hp_r w 16 4 = some t ∧ hp_r w 16 5 = some (108 - t) := by
  obtain ⟨-, -, -, t, g, c3, -⟩ := H
  exact ⟨t, c3.2.2.1, c3.1, c3.2.1⟩
theorem a2_sp {t : Nat} (h : a2_ t) : a2_ (108 - t) := by unfold a2_ at h ⊢; omega
theorem fS_CR {A : AS} {w w' : hpW} {t : Nat} (H : CR A w) (ht : a2_ t) (h4 : hp_r w 16 4 = some t) (hB : ly_B w') (hT : tp_ w' 17 1 18 (a_T A)) (f : fS (108 - t) w w') (V : AV A) : CR A w' := by
  have hW := V.2.1.1
  have t2 := ht
  unfold a2_ at t2
  refine CR_rd H hB hT (fun b _ => by rw [f.1]; rfl) (f.2.1 20 (by omega) (by omega) (by omega)) (f.2.1 16 (by omega) (by omega) (by omega)) (fun k j hk hj => f.2.1 _ (by omega) (by omega) (by omega)) (fun u hu h5 => ?_) (fun b b1 b2 => f.2.1 b (by omega) (by omega) (by omega))
  have e : u = t := Option.some.inj (h5.symm.trans h4)
  subst e
  exact ⟨f.2.1 _ (by omega) (by omega) (by omega), f.2.1 _ (by omega) (by omega) (by omega)⟩
theorem fS_fR {w w' : hpW} {a : Nat} (ha : a2_ a) (f : fS a w w') : fR w w' := by
  unfold a2_ at ha
  exact ⟨by rw [f.1]; rfl, fun b hb => ⟨f.2.1 b (by omega) (by omega) (by omega), by rw [f.1]; rfl, by rw [f.1]; rfl⟩, fun b => by rw [f.1]; rfl⟩
theorem fK_CR {A : AS} {w w' : hpW} (H : CR A w) (V : AV A) (hB : ly_B w') (hT : tp_ w' 17 1 18 (a_T A)) (f : fK (22 + 6 * (a_W A).length) w w') : CR A w' := by
  have hW := V.2.1.1
  refine CR_rd H hB hT (fun b hb => by funext j; exact f.1.2.2.2 b j (fun z => hb z.1)) (f.2.1 20 (by omega) (by omega)) (f.2.1 16 (by omega) (by omega)) (fun k j hk hj => f.2.1 _ (by omega) (by omega)) (fun u hu h5 => ?_) (fun b b1 b2 => f.2.1 b (by omega) (by omega))
  unfold a2_ at hu
  exact ⟨f.2.1 _ (by omega) (by omega), f.2.1 _ (by omega) (by omega)⟩
theorem fK_fR {w w' : hpW} {k : Nat} (hk : k ≤ 4) (f : fK (22 + 6 * k) w w') : fR w w' := ⟨f.1.1, fun b hb => ⟨f.2.1 b (by omega) (by omega), by funext j; exact f.1.2.2.2 b j (by omega), by rw [f.1.2.2.1]⟩, fun b => by rw [f.1.2.1]⟩
set_option maxHeartbeats 2000000 in
set_option maxRecDepth 20000 in
theorem oC_fault {E : sxE} {A : AS} {w : hpW} (hX : XO E) (VA : AV A) (H : CR A w) (x : Int32) : oC E mX11_fault 41 [.ref 16, .int x] w A (q_fault A x) A := by
  intro Q h
  have hB := H.1
  have hT := H.2.1
  have hW := VA.2.1.1
  obtain ⟨t, ht, h4, h5⟩ := CR_t9 H
  have hn := H.2.2.1.1
  unfold q_fault at h
  refine C_of (by decide +kernel) (Nat.le_of_ble_eq_true rfl) ?_
  refine V_iload_n (i := 1) (sx_di dX11_fault 0 rfl) rfl rfl ?_
  refine V_if_ne (tgt := 16) (sx_di dX11_fault 1 rfl) (by decide) (fun h1 => ?_) (fun h1 => ?_)
  · rw [if_neg h1] at h
    refine V_iload_n (i := 1) (sx_di dX11_fault 8 rfl) rfl rfl ?_
    refine V_iconst (v := 1) (sx_di dX11_fault 9 rfl) (by decide) ?_
    refine V_icmp_ne (tgt := 38) (sx_di dX11_fault 10 rfl) (by decide) (fun h18 => ?_) (fun h18 => ?_)
    · rw [if_neg h18] at h
      refine V_bipush (v := -2) (sx_di dX11_fault 18 rfl) (by decide) ?_
      refine V_iret (sx_di dX11_fault 19 rfl) rfl (Nat.le_refl _) (Nat.le_refl _) ?_
      exact h w H fR_rf
    · rw [if_pos h18] at h
      refine V_aload_n (i := 0) (sx_di dX11_fault 11 rfl) rfl rfl ?_
      refine V_getR (sx_di dX11_fault 12 rfl) fX11_41 (fun _ => rfl) (hB.k _ rfl) (by first | exact hB.r _ _ rfl | exact h5) ?_
      refine V_aload_n (i := 0) (sx_di dX11_fault 13 rfl) rfl rfl ?_
      refine V_getR (sx_di dX11_fault 14 rfl) fX11_28 (fun _ => rfl) (hB.k _ rfl) (by first | exact hB.r _ _ rfl | exact h5) ?_
      refine V_cV0 (mc' := 0) (ms' := 0) (M' := mX2_next) 1 (sx_di dX11_fault 15 rfl) lX11_34 vX2_next (hB.k _ rfl) (by decide) rfl (Nat.le_of_ble_eq_true rfl) ⟨by show 1 + 1 ≤ 41; omega, by show 64 + 64 * (1) ≤ 64 * (41); omega⟩ ⟨Nat.le_refl _, Nat.le_refl _⟩ ?_
      refine c_X2_next hB hn hW ?_
      refine V_cV1 (mc' := 0) (ms' := 0) (M' := mX3_read) 40 (sx_di dX11_fault 16 rfl) lX11_127 vX3_read (hB.k _ rfl) (by decide) rfl (Nat.le_of_ble_eq_true rfl) ⟨by show 40 + 1 ≤ 41; omega, by show 64 + 64 * (40) ≤ 64 * (41); omega⟩ ⟨Nat.le_refl _, Nat.le_refl _⟩ ?_
      refine c_rdLaw hX (show (a_W A).length < 5 by omega) hB hT (fun w1 B1 t1 f1 s1 => ?_)
      refine V_goto (tgt := 40) (sx_di dX11_fault 17 rfl) (by decide) ?_
      refine V_iret (sx_di dX11_fault 19 rfl) rfl (Nat.le_refl _) (Nat.le_refl _) ?_
      exact h w1 (fK_CR H VA B1 t1 f1) (fK_fR hW f1)
  · rw [if_pos h1] at h
    refine V_aload_n (i := 0) (sx_di dX11_fault 2 rfl) rfl rfl ?_
    refine V_getR (sx_di dX11_fault 3 rfl) fX11_21 (fun _ => rfl) (hB.k _ rfl) (by first | exact hB.r _ _ rfl | exact h5) ?_
    refine V_aload_n (i := 0) (sx_di dX11_fault 4 rfl) rfl rfl ?_
    refine V_getR (sx_di dX11_fault 5 rfl) fX11_52 (fun _ => rfl) (hB.k _ rfl) (by first | exact hB.r _ _ rfl | exact h5) ?_
    refine V_cV1 (mc' := 0) (ms' := 0) (M' := mX9_read) 10 (sx_di dX11_fault 6 rfl) lX11_123 vX9_read (hB.k _ rfl) (by decide) rfl (Nat.le_of_ble_eq_true rfl) ⟨by show 10 + 1 ≤ 41; omega, by show 64 + 64 * (10) ≤ 64 * (41); omega⟩ ⟨Nat.le_refl _, Nat.le_refl _⟩ ?_
    refine c_rdStreet hX (a2_sp ht) hB hT (fun w1 B1 t1 f1 s1 => ?_)
    refine V_iret (sx_di dX11_fault 7 rfl) rfl (Nat.le_refl _) (Nat.le_refl _) ?_
    exact h w1 (fS_CR H ht h4 B1 t1 f1 VA) (fS_fR (a2_sp ht) f1)
/-! the reference holds A still -/
theorem rt_fr {I J : Nat → Nat → Int32} {k : Nat} (h : ∀ j, 520 * k ≤ j → j < 520 * k + 520 → J 383 j = I 383 j ∧ J 384 j = I 384 j) : ∀ A b, 520 * k ≤ b → b + A.length ≤ 520 * k + 520 → rt_ I b A → rt_ J b A
  | [], _, _, _, _ => trivial
  | c :: A, b, h1, h2, hr => by
    have l : (c :: A).length = A.length + 1 := rfl
    obtain ⟨e1, e2⟩ := h b h1 (by omega)
    exact ⟨⟨e1.trans hr.1.1, e2.trans hr.1.2⟩, rt_fr h A (b + 1) (by omega) (by omega) hr.2⟩
theorem rw_fr {I J : Nat → Nat → Int32} {k : Nat} (h : ∀ j, 520 * k ≤ j → j < 520 * k + 520 → J 383 j = I 383 j ∧ J 384 j = I 384 j) (h2 : ∀ j, 140 * k ≤ j → j < 140 * k + 140 → J 387 j = I 387 j ∧ J 388 j = I 388 j ∧ J 389 j = I 389 j) : ∀ W c, c + W.length ≤ 140 → rw_ I k c W → rw_ J k c W
  | [], _, _, _ => trivial
  | (A, B) :: W, c, hc, hr => by
    have l : ((A, B) :: W).length = W.length + 1 := rfl
    obtain ⟨⟨i, r1, r2, r3, r4, r5, r6⟩, r7⟩ := hr
    obtain ⟨e1, e2, e3⟩ := h2 (140 * k + c) (by omega) (by omega)
    exact ⟨⟨i, e1.trans r1, e2.trans r2, e3.trans r3, r4, rt_fr h A _ (by omega) (by omega) r5, rt_fr h B _ (by omega) (by omega) r6⟩, rw_fr h h2 W (c + 1) (by omega) r7⟩
theorem rl_fr {I J : Nat → Nat → Int32} {k : Nat} {W : lwT} (h : ∀ j, 520 * k ≤ j → j < 520 * k + 520 → J 383 j = I 383 j ∧ J 384 j = I 384 j) (h2 : ∀ j, 140 * k ≤ j → j < 140 * k + 140 → J 387 j = I 387 j ∧ J 388 j = I 388 j ∧ J 389 j = I 389 j) (h3 : J 386 k = I 386 k) (H : rl_ I k W) : rl_ J k W := ⟨h3.trans H.1, H.2.1, rw_fr h h2 W 0 (by have := H.2.1; omega) H.2.2.1, H.2.2.2⟩
theorem fO_rl {n k : Nat} {W : lwT} {w w' : hpW} (f : fO n w w') (hk : k ≠ n) (H : rl_ (hp_i w) k W) : rl_ (hp_i w') k W := rl_fr (fun j h1 h2 => f.2.2.2.1 j (by omega)) (fun j h1 h2 => f.2.2.2.2.2 j (by omega)) (f.2.2.2.2.1 k hk).2 H
theorem RR_rd {A : AS} {w w' : hpW} (H : RR A w) (hB : ly_B w') (hT : tp_ w' 381 2 382 (a_T A)) (hl : ∀ k V, (a_W A)[k]? = some V → rl_ (hp_i w) k V → rl_ (hp_i w') k V) (g1 : ∀ j, (j = 13 ∨ j = 29 ∨ j = 25 ∨ j = 26 ∨ j = 32 ∨ j = 47 ∨ j = 40 ∨ j = 45 ∨ j = 30) → hp_i w' 381 j = hp_i w 381 j) (e : ∀ b, 395 ≤ b → hp_i w' b = hp_i w b) : RR A w' := by
  obtain ⟨-, h1, h2, h3, h4, h5, h6, ⟨h7, h8⟩, ⟨h9, h10⟩, h11, h12⟩ := id H
  exact ⟨hB, hT, ⟨(g1 13 (by omega)).trans h2.1, (g1 29 (by omega)).trans h2.2.1, fun k V hV => hl k V hV (h2.2.2 k V hV)⟩, Rstr_mv (g1 25 (by omega)) (g1 26 (by omega)) (e 395 (by omega)) (e 396 (by omega)) (e 397 (by omega)) h3, (e 398 (by omega)).trans h4, Rkept_mv (g1 32 (by omega)) (e 400 (by omega)) h5, Rimg_mv (g1 47 (by omega)) (e 409 (by omega)) h6, ⟨(g1 40 (by omega)).trans h7, nts_mv (e 402 (by omega)) (e 403 (by omega)) (e 404 (by omega)) h8⟩, ⟨(g1 45 (by omega)).trans h9, nts_mv (e 406 (by omega)) (e 407 (by omega)) (e 408 (by omega)) h10⟩, fun j hj => by rw [e 399 (by omega)]; exact h11 j hj, (g1 30 (by omega)).trans h12⟩
theorem fO_RR {A : AS} {w w' : hpW} {n : Nat} (H : RR A w) (hn : (a_W A).length ≤ n) (hB : ly_B w') (hT : tp_ w' 381 2 382 (a_T A)) (f : fO n w w') : RR A w' := RR_rd H hB hT (fun k V hV => fO_rl f (by have := (List.getElem?_eq_some_iff.mp hV).1; omega)) (fun j hj => f.2.2.1 j (by omega) (by omega) (by omega) (by omega)) (fun b hb => f.2.1 b (by omega) (by omega))
theorem fO_fC {w w' : hpW} {n : Nat} (f : fO n w w') : fC w w' := ⟨by rw [f.1]; rfl, fun b hb => ⟨f.2.1 b (by omega) (by omega), by rw [f.1]; rfl, by rw [f.1]; rfl⟩, fun b => by rw [f.1]; rfl, by rw [f.1]; rfl⟩
theorem fT_RR {A : AS} {w w' : hpW} (H : RR A w) (hB : ly_B w') (hT : tp_ w' 381 2 382 (a_T A)) (f : fT9 w w') : RR A w' := RR_rd H hB hT (fun k V hV h => rl_mv (fun b b1 b2 => f.2.1 b (by omega) (by omega) (by omega) (by omega)) h) (fun j hj => f.2.2 j (by omega) (by omega) (by omega) (by omega)) (fun b hb => f.2.1 b (by omega) (by omega) (by omega) (by omega))
theorem fT_fC {w w' : hpW} (f : fT9 w w') : fC w w' := ⟨by rw [f.1]; rfl, fun b hb => ⟨f.2.1 b (by omega) (by omega) (by omega) (by omega), by rw [f.1]; rfl, by rw [f.1]; rfl⟩, fun b => by rw [f.1]; rfl, by rw [f.1]; rfl⟩
set_option maxHeartbeats 2000000 in
set_option maxRecDepth 20000 in
theorem oR_fault {E : sxE} {A : AS} {w : hpW} (VA : AV A) (H : RR A w) (x : Int32) : oR E mX12_fault 56 [.ref 381, .int x] w A (q_fault A x) A := by
  intro Q h
  have hB := H.1
  have hT := H.2.1
  have hW := VA.2.1.1
  unfold q_fault at h
  refine C_of (by decide +kernel) (Nat.le_of_ble_eq_true rfl) ?_
  refine V_iload_n (i := 1) (sx_di dX12_fault 0 rfl) rfl rfl ?_
  refine V_if_ne (tgt := 11) (sx_di dX12_fault 1 rfl) (by decide) (fun h1 => ?_) (fun h1 => ?_)
  · rw [if_neg h1] at h
    refine V_iload_n (i := 1) (sx_di dX12_fault 5 rfl) rfl rfl ?_
    refine V_iconst (v := 1) (sx_di dX12_fault 6 rfl) (by decide) ?_
    refine V_icmp_ne (tgt := 24) (sx_di dX12_fault 7 rfl) (by decide) (fun h13 => ?_) (fun h13 => ?_)
    · rw [if_neg h13] at h
      refine V_bipush (v := -2) (sx_di dX12_fault 12 rfl) (by decide) ?_
      refine V_iret (sx_di dX12_fault 13 rfl) rfl (Nat.le_refl _) (Nat.le_refl _) ?_
      exact h w H fC_rf
    · rw [if_pos h13] at h
      refine V_aload_n (i := 0) (sx_di dX12_fault 8 rfl) rfl rfl ?_
      refine V_iconst (v := 4) (sx_di dX12_fault 9 rfl) (by decide) ?_
      refine V_iv (y := nI 4) (rfl) ?_
      refine V_cV1 (mc' := 0) (ms' := 0) (M' := mX12_readLaw) 55 (sx_di dX12_fault 10 rfl) lX12_255 vX12_readLaw (hB.k _ rfl) (by decide) rfl (Nat.le_of_ble_eq_true rfl) ⟨by show 55 + 1 ≤ 56; omega, by show 64 + 64 * (55) ≤ 64 * (56); omega⟩ ⟨Nat.le_refl _, Nat.le_refl _⟩ ?_
      refine c_rdLawR (n := 4) (by decide) hB hT (fun w1 B1 t1 f1 s1 => ?_)
      refine V_goto (tgt := 26) (sx_di dX12_fault 11 rfl) (by decide) ?_
      refine V_iret (sx_di dX12_fault 13 rfl) rfl (Nat.le_refl _) (Nat.le_refl _) ?_
      exact h w1 (fO_RR H hW B1 t1 f1) (fO_fC f1)
  · rw [if_pos h1] at h
    refine V_aload_n (i := 0) (sx_di dX12_fault 2 rfl) rfl rfl ?_
    refine V_cV0 (mc' := 0) (ms' := 0) (M' := mX12_readStreet) 5 (sx_di dX12_fault 3 rfl) lX12_252 vX12_readStreet (hB.k _ rfl) (by decide) rfl (Nat.le_of_ble_eq_true rfl) ⟨by show 5 + 1 ≤ 56; omega, by show 64 + 64 * (5) ≤ 64 * (56); omega⟩ ⟨Nat.le_refl _, Nat.le_refl _⟩ ?_
    refine c_rdStreetR hB hT (fun w1 B1 t1 f1 s1 => ?_)
    refine V_goto (tgt := 26) (sx_di dX12_fault 4 rfl) (by decide) ?_
    refine V_iret (sx_di dX12_fault 13 rfl) rfl (Nat.le_refl _) (Nat.le_refl _) ?_
    exact h w1 (fT_RR H B1 t1 f1) (fT_fC f1)

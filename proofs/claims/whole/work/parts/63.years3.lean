/-! the class: what a day draws, years -/
theorem ih_1 {n a : Nat} (h : a < n) (hn : n ≤ 8) : ih_ n (nI a) = 1 := by
  unfold ih_
  rw [if_neg (fun z => z.elim (nI_pos (by omega)) (fun z => absurd ((nI_leI (by omega) (by omega)).mp z) (by omega)))]
theorem CpK_mv {w w' : hpW} {t n : Nat} {s : Nat → Int32} {g : Nat} {K : List (Nat → Int32)} (h0 : ∀ b, 77 ≤ b → b ≤ 356 → hp_r w' b = hp_r w b) (h1 : ∀ b, 71 ≤ b → b ≤ 356 → hp_i w' b = hp_i w b) (H : CpK w t n s g K) : CpK w' t n s g K := by
  obtain ⟨p, hp, a, b, G, hG, c⟩ := H
  refine ⟨p, hp, by rw [h1 75 (by omega) (by omega)]; exact a, by rw [h1 75 (by omega) (by omega)]; exact b, G, hG, fun i r hr => ?_⟩
  have hq : (p + 39 - i) % 40 < 40 := Nat.mod_lt _ (by omega)
  exact Cst_mv (by rw [h0 _ (by omega) (by omega)]) (fun b b1 b2 => h1 b (by omega) (by omega)) (fun b b1 b2 => h1 b (by omega) (by omega)) (c i r hr)
theorem CK_up {A : AS} {w w2 : hpW} (V : AV A) (h0 : 0 < a_n A) (H : CK A w) (hB2 : ly_B w2) (hr : hp_r w2 = hp_r w) (e : ∀ b, b ≠ 59 ∧ b ≠ 63 ∧ b < 381 → hp_i w2 b = hp_i w b) {r2 : Nat → Int32} (hv : vw_ (a_n A) (hp_i w2) 57 r2) (h44 : ∀ j, 40 ≤ j → r2 j = a_r A j) : CK (pt_r A r2) w2 := by
  obtain ⟨hB, c1, c2, t, g, c3, c4, c5, c6, ⟨c7, c8⟩, ⟨c9, c10⟩, c11, c12⟩ := id H
  have hW := V.2.1.1
  have er : ∀ b, b < 381 → hp_r w2 b = hp_r w b := fun b _ => by rw [hr]
  have hN := c4.2.2.2.2.2 h0
  have hN2 : Cst w2 t (a_n A) (a_s A) 57 71 g r2 := ⟨by rw [er 57 (by omega)]; exact hN.1, hv, tm_mv (e 58 (by omega)) hN.2.2.1, by rw [e 57 (by omega)]; exact hN.2.2.2.1, rg_cg (fun j hj => h44 j (by omega)) (rg_mv (e 72 (by omega)) (e 73 (by omega)) (e 74 (by omega)) hN.2.2.2.2)⟩
  have hnow : Cnow w2 t (a_n A) (a_s A) g r2 := ⟨hN2.1, hN2.2.1.2.1, hN2.2.1.2.2.2.2.2, hN2.2.2.2.1, hN2.2.2.2.2, fun _ => hN2⟩
  exact ⟨hB2, tp_mv (by rw [e 17 (by omega)]) (e 18 (by omega)) c1, Claws_mv V.2.1.1 (fun i j hi hj => e _ (by omega)) (e 20 (by omega)) c2, t, g, Cstr_mv (er 16 (by omega)) (fun b b1 b2 => e b (by omega)) c3, hnow, CpK_mv (fun b b1 b2 => er b (by omega)) (fun b b1 b2 => e b (by omega)) c5, Cimg_mv (er 362 (by omega)) (fun b b1 b2 => e b (by omega)) c6, ⟨by rw [e 369 (by omega)]; exact c7, nts_mv (e 370 (by omega)) (e 371 (by omega)) (e 372 (by omega)) c8⟩, ⟨by rw [e 373 (by omega)]; exact c9, nts_mv (e 374 (by omega)) (e 375 (by omega)) (e 376 (by omega)) c10⟩, fun j hj => by rw [e 377 (by omega)]; exact c11 j hj, by rw [e 16 (by omega)]; exact c12⟩
set_option maxHeartbeats 2000000 in
set_option maxRecDepth 20000 in
theorem sd2_ {E : sxE} {w : hpW} {Q : Option Value → hpW → Prop} {f : Int64 → Int64} {v : Int64 → Int32 → Int32} (hf : f = d1r) (hvv : v = dvr) (ho : ∀ z m, 0 < m → m < 2 ^ 31 → ∃ k, k < m ∧ v z (nI m) = nI k) {t n : Nat} (hB : ly_B w) (ht : hp_r w 16 4 = some t) (hst : is_St w t) (h0 : 0 < n) (hn8 : n ≤ 8) {I : Nat → Nat → Int32} {z : Int64} (hn : I t 0 = nI n) {r : Nat → Int32} (hv : vw_ n I 57 r) (ht2 : t = 53 ∨ t = 55) (h : ∀ J, (∀ b, b ≠ 59 → b ≠ 63 → J b = I b) → vw_ n J 57 (st2 f v n r z).1 → Q none (yw_ w 16 15 J (st2 f v n r z).2)) : V E mX11_stir (sx_rm 2 0 0) 0 0 0 0 52 [(1, .int (nI n)), (0, .ref 16)] [] (yw_ w 16 15 I z) Q := by
  obtain ⟨a, ha, ea⟩ := ho z n h0 (by omega)
  obtain ⟨b, hb, eb⟩ := ho (f z) n h0 (by omega)
  have ra := (hv.1 a ha).2.2.2.2
  have rb := (hv.1 b hb).2.2.2.2
  unfold st2 at h
  rw [ea, eb, nI_clamp (by omega), nI_clamp (by omega)] at h
  refine V_aload_n (i := 0) (sx_di dX11_stir 28 rfl) rfl rfl ?_
  refine V_iload_n (i := 1) (sx_di dX11_stir 29 rfl) rfl rfl ?_
  refine V_cV1 (mc' := 0) (ms' := 0) (M' := mX11_draw) 1 (sx_di dX11_stir 30 rfl) lX11_276 vX11_draw (hB.k _ rfl) (by decide) rfl (Nat.le_of_ble_eq_true rfl) ⟨Nat.le_of_ble_eq_true rfl, Nat.le_of_ble_eq_true rfl⟩ ⟨Nat.le_refl _, Nat.le_refl _⟩ ?_
  refine e_X11_draw hf hvv hB h0 (by omega) ?_
  refine V_iv (y := nI a) (ea) ?_
  refine V_istore_n (i := 2) (sx_di dX11_stir 31 rfl) rfl (by decide) (rfl) ?_
  refine V_aload_n (i := 0) (sx_di dX11_stir 32 rfl) rfl rfl ?_
  refine V_iload_n (i := 1) (sx_di dX11_stir 33 rfl) rfl rfl ?_
  refine V_cV1 (mc' := 0) (ms' := 0) (M' := mX11_draw) 1 (sx_di dX11_stir 34 rfl) lX11_276 vX11_draw (hB.k _ rfl) (by decide) rfl (Nat.le_of_ble_eq_true rfl) ⟨Nat.le_of_ble_eq_true rfl, Nat.le_of_ble_eq_true rfl⟩ ⟨Nat.le_refl _, Nat.le_refl _⟩ ?_
  refine e_X11_draw hf hvv hB h0 (by omega) ?_
  refine V_iv (y := nI b) (eb) ?_
  refine V_istore_n (i := 3) (sx_di dX11_stir 35 rfl) rfl (by decide) (rfl) ?_
  refine V_aload_n (i := 0) (sx_di dX11_stir 36 rfl) rfl rfl ?_
  refine V_iload_n (i := 2) (sx_di dX11_stir 37 rfl) rfl rfl ?_
  refine V_cV1 (mc' := 0) (ms' := 0) (M' := mX11_isHouse) 1 (sx_di dX11_stir 38 rfl) lX11_170 vX11_isHouse (hB.k _ rfl) (by decide) rfl (Nat.le_of_ble_eq_true rfl) ⟨Nat.le_of_ble_eq_true rfl, Nat.le_of_ble_eq_true rfl⟩ ⟨Nat.le_refl _, Nat.le_refl _⟩ ?_
  refine c_X11_isHouse (yw_B hB _ _ _ _) ht hst hn hn8 ?_
  refine V_iv (y := 1) (ih_1 ha hn8) ?_
  refine V_ifN_eq (a := 1) (rfl) (by omega) (tgt := 137) (sx_di dX11_stir 39 rfl) (by decide) (fun h69 => absurd h69 (by omega)) (fun _ => ?_)
  refine V_aload_n (i := 0) (sx_di dX11_stir 40 rfl) rfl rfl ?_
  refine V_iload_n (i := 3) (sx_di dX11_stir 41 rfl) rfl rfl ?_
  refine V_cV1 (mc' := 0) (ms' := 0) (M' := mX11_isHouse) 1 (sx_di dX11_stir 42 rfl) lX11_170 vX11_isHouse (hB.k _ rfl) (by decide) rfl (Nat.le_of_ble_eq_true rfl) ⟨Nat.le_of_ble_eq_true rfl, Nat.le_of_ble_eq_true rfl⟩ ⟨Nat.le_refl _, Nat.le_refl _⟩ ?_
  refine c_X11_isHouse (yw_B hB _ _ _ _) ht hst hn hn8 ?_
  refine V_iv (y := 1) (ih_1 hb hn8) ?_
  refine V_ifN_eq (a := 1) (rfl) (by omega) (tgt := 137) (sx_di dX11_stir 43 rfl) (by decide) (fun h77 => absurd h77 (by omega)) (fun _ => ?_)
  refine V_iload_n (i := 2) (sx_di dX11_stir 44 rfl) rfl rfl ?_
  refine V_iload_n (i := 3) (sx_di dX11_stir 45 rfl) rfl rfl ?_
  refine V_icN_eq (a := a) (b := b) (rfl) (rfl) (by omega) (by omega) (tgt := 137) (sx_di dX11_stir 46 rfl) (by decide) (fun h82 => ?_) (fun h82 => ?_)
  · rw [if_neg (fun q => q.1 (by rw [h82]))] at h
    refine V_vret (sx_di dX11_stir 78 rfl) rfl (Nat.le_refl _) (Nat.le_refl _) ?_
    first | exact h I (fun _ _ _ => rfl) hv | exact h _ (fun q _ hq => by funext j; exact (hp_u_nk _ _ (fun y => hq y.1)).trans (hp_u_nk _ _ (fun y => hq y.1))) (vw_u6 hn8 hb _ (vw_u6 hn8 ha _ hv))
  · refine V_aload_n (i := 0) (sx_di dX11_stir 47 rfl) rfl rfl ?_
    refine V_getR (sx_di dX11_stir 48 rfl) fX11_60 (fun _ => rfl) (hB.k _ rfl) (hB.r _ _ rfl) ?_
    refine V_getR (sx_di dX11_stir 49 rfl) fX11_186 (fun _ => rfl) (hB.k _ rfl) (hB.r _ _ rfl) ?_
    refine V_iload_n (i := 2) (sx_di dX11_stir 50 rfl) rfl rfl ?_
    refine V_ialdN (n := 8) (j := a) (sx_di dX11_stir 51 rfl) (hB.k _ rfl) (rfl) (by omega) (by omega) ?_
    refine V_iv (y := r (32 + a)) (ra) ?_
    refine V_if_le (tgt := 137) (sx_di dX11_stir 52 rfl) (by decide) (fun h94 => ?_) (fun h94 => ?_)
    · rw [if_neg (fun q => absurd q.2.1 (Int32.not_lt.mpr h94))] at h
      refine V_vret (sx_di dX11_stir 78 rfl) rfl (Nat.le_refl _) (Nat.le_refl _) ?_
      first | exact h I (fun _ _ _ => rfl) hv | exact h _ (fun q _ hq => by funext j; exact (hp_u_nk _ _ (fun y => hq y.1)).trans (hp_u_nk _ _ (fun y => hq y.1))) (vw_u6 hn8 hb _ (vw_u6 hn8 ha _ hv))
    · refine V_aload_n (i := 0) (sx_di dX11_stir 53 rfl) rfl rfl ?_
      refine V_getR (sx_di dX11_stir 54 rfl) fX11_60 (fun _ => rfl) (hB.k _ rfl) (hB.r _ _ rfl) ?_
      refine V_getR (sx_di dX11_stir 55 rfl) fX11_186 (fun _ => rfl) (hB.k _ rfl) (hB.r _ _ rfl) ?_
      refine V_iload_n (i := 3) (sx_di dX11_stir 56 rfl) rfl rfl ?_
      refine V_ialdN (n := 8) (j := b) (sx_di dX11_stir 57 rfl) (hB.k _ rfl) (rfl) (by omega) (by omega) ?_
      refine V_iv (y := r (32 + b)) (rb) ?_
      refine V_bipush (v := 9) (sx_di dX11_stir 58 rfl) (by decide) ?_
      refine V_icmp_ge (tgt := 137) (sx_di dX11_stir 59 rfl) (by decide) (fun h108 => ?_) (fun h108 => ?_)
      · rw [if_neg (fun q => absurd q.2.2 (Int32.not_lt.mpr h108))] at h
        refine V_vret (sx_di dX11_stir 78 rfl) rfl (Nat.le_refl _) (Nat.le_refl _) ?_
        first | exact h I (fun _ _ _ => rfl) hv | exact h _ (fun q _ hq => by funext j; exact (hp_u_nk _ _ (fun y => hq y.1)).trans (hp_u_nk _ _ (fun y => hq y.1))) (vw_u6 hn8 hb _ (vw_u6 hn8 ha _ hv))
      · rw [if_pos ⟨fun q => h82 ((nI_eq (by omega) (by omega)).mp q), Int32.not_le.mp h94, Int32.not_le.mp h108⟩] at h
        refine V_aload_n (i := 0) (sx_di dX11_stir 60 rfl) rfl rfl ?_
        refine V_getR (sx_di dX11_stir 61 rfl) fX11_60 (fun _ => rfl) (hB.k _ rfl) (hB.r _ _ rfl) ?_
        refine V_getR (sx_di dX11_stir 62 rfl) fX11_186 (fun _ => rfl) (hB.k _ rfl) (hB.r _ _ rfl) ?_
        refine V_iload_n (i := 2) (sx_di dX11_stir 63 rfl) rfl rfl ?_
        refine V_dup2 (sx_di dX11_stir 64 rfl) rfl rfl ?_
        refine V_ialdN (n := 8) (j := a) (sx_di dX11_stir 65 rfl) (hB.k _ rfl) (rfl) (by omega) (by omega) ?_
        refine V_iv (y := r (32 + a)) (ra) ?_
        refine V_iconst (v := 1) (sx_di dX11_stir 66 rfl) (by decide) ?_
        refine V_isub (sx_di dX11_stir 67 rfl) ?_
        refine V_iastN (n := 8) (j := a) (sx_di dX11_stir 68 rfl) (hB.k _ rfl) (rfl) (by omega) (by omega) ?_
        refine V_aload_n (i := 0) (sx_di dX11_stir 69 rfl) rfl rfl ?_
        refine V_getR (sx_di dX11_stir 70 rfl) fX11_60 (fun _ => rfl) (hB.k _ rfl) (hB.r _ _ rfl) ?_
        refine V_getR (sx_di dX11_stir 71 rfl) fX11_186 (fun _ => rfl) (hB.k _ rfl) (hB.r _ _ rfl) ?_
        refine V_iload_n (i := 3) (sx_di dX11_stir 72 rfl) rfl rfl ?_
        refine V_dup2 (sx_di dX11_stir 73 rfl) rfl rfl ?_
        refine V_ialdN (n := 8) (j := b) (sx_di dX11_stir 74 rfl) (hB.k _ rfl) (rfl) (by omega) (by omega) ?_
        refine V_iv (y := r (32 + b)) ((hp_u_nk _ _ (fun q => h82 q.2.symm)).trans rb) ?_
        refine V_iconst (v := 1) (sx_di dX11_stir 75 rfl) (by decide) ?_
        refine V_iadd (sx_di dX11_stir 76 rfl) ?_
        refine V_iastN (n := 8) (j := b) (sx_di dX11_stir 77 rfl) (hB.k _ rfl) (rfl) (by omega) (by omega) ?_
        refine V_vret (sx_di dX11_stir 78 rfl) rfl (Nat.le_refl _) (Nat.le_refl _) ?_
        first | exact h I (fun _ _ _ => rfl) hv | exact h _ (fun q _ hq => by funext j; exact (hp_u_nk _ _ (fun y => hq y.1)).trans (hp_u_nk _ _ (fun y => hq y.1))) (vw_u6 hn8 hb _ (vw_u6 hn8 ha _ hv))
set_option maxHeartbeats 2000000 in
set_option maxRecDepth 20000 in
theorem sd1_ {E : sxE} {w : hpW} {Q : Option Value → hpW → Prop} {f : Int64 → Int64} {v : Int64 → Int32 → Int32} (hf : f = d1r) (hvv : v = dvr) (ho : ∀ z m, 0 < m → m < 2 ^ 31 → ∃ k, k < m ∧ v z (nI m) = nI k) {t n : Nat} (hB : ly_B w) (ht : hp_r w 16 4 = some t) (hst : is_St w t) (h0 : 0 < n) (hn8 : n ≤ 8) {I : Nat → Nat → Int32} {z : Int64} (hn : I t 0 = nI n) {r : Nat → Int32} (hv : vw_ n I 57 r) (ht2 : t = 53 ∨ t = 55) {md : Int32} (hmd : I 16 14 = md) (h : ∀ J, (∀ b, b ≠ 59 → b ≠ 63 → J b = I b) → vw_ n J 57 (stx f v n md r z).1 → Q none (yw_ w 16 15 J (stx f v n md r z).2)) : sx_C E mX11_stir 2 0 0 [.ref 16] (yw_ w 16 15 I z) Q := by
  obtain ⟨a, ha, ea⟩ := ho (f z) n h0 (by omega)
  unfold stx at h
  refine C_of (by decide +kernel) (Nat.le_of_ble_eq_true rfl) ?_
  refine V_aload_n (i := 0) (sx_di dX11_stir 0 rfl) rfl rfl ?_
  refine V_getR (sx_di dX11_stir 1 rfl) fX11_48 (fun _ => rfl) (hB.k _ rfl) (ht) ?_
  refine V_getI (sx_di dX11_stir 2 rfl) fX11_151 (fun _ => rfl) (hst.1) ?_
  refine V_iv (y := nI n) (hn) ?_
  refine V_istore_n (i := 1) (sx_di dX11_stir 3 rfl) rfl (by decide) (rfl) ?_
  refine V_aload_n (i := 0) (sx_di dX11_stir 4 rfl) rfl rfl ?_
  refine V_bipush (v := 10) (sx_di dX11_stir 5 rfl) (by decide) ?_
  refine V_cV1 (mc' := 0) (ms' := 0) (M' := mX11_draw) 1 (sx_di dX11_stir 6 rfl) lX11_276 vX11_draw (hB.k _ rfl) (by decide) rfl (Nat.le_of_ble_eq_true rfl) ⟨Nat.le_of_ble_eq_true rfl, Nat.le_of_ble_eq_true rfl⟩ ⟨Nat.le_refl _, Nat.le_refl _⟩ ?_
  refine e_X11_draw hf hvv hB (m := 10) (by decide) (by decide) ?_
  refine V_aload_n (i := 0) (sx_di dX11_stir 7 rfl) rfl rfl ?_
  refine V_getI (sx_di dX11_stir 8 rfl) fX11_236 (fun _ => rfl) (hB.k _ rfl) ?_
  refine V_iv (y := md) (hmd) ?_
  refine V_icmp_ge (tgt := 52) (sx_di dX11_stir 9 rfl) (by decide) (fun h18 => ?_) (fun h18 => ?_)
  · have e1 : st1 f v n md r z = (r, f z) := by unfold st1; rw [if_neg (Int32.not_lt.mpr h18)]
    rw [e1] at h
    refine V_sub (ls' := [(1, .int (nI n)), (0, .ref 16)]) ⟨rfl, rfl, trivial⟩ ?_
    first | exact sd2_ hf hvv ho hB ht hst h0 hn8 (I := I) hn hv ht2 h | (refine sd2_ hf hvv ho hB ht hst h0 hn8 (I := hp_u I 59 a (v (f (f z)) (nI 10))) ((hp_u_nk _ _ (by omega)).trans hn) (vw_u2 hn8 ha _ hv) ht2 (fun J f1 f2 => ?_); rw [Nat.zero_add] at f2 ⊢; exact h J (fun b h1 h2 => (f1 b h1 h2).trans (by funext j; exact hp_u_nk _ _ (fun y => h1 y.1))) f2)
  · have e1 : st1 f v n md r z = (up_ r a (v (f (f z)) (nI 10)), f (f (f z))) := by unfold st1; rw [if_pos (Int32.not_le.mp h18), ea, nI_clamp (by omega)]
    rw [e1] at h
    refine V_aload_n (i := 0) (sx_di dX11_stir 10 rfl) rfl rfl ?_
    refine V_iload_n (i := 1) (sx_di dX11_stir 11 rfl) rfl rfl ?_
    refine V_cV1 (mc' := 0) (ms' := 0) (M' := mX11_draw) 1 (sx_di dX11_stir 12 rfl) lX11_276 vX11_draw (hB.k _ rfl) (by decide) rfl (Nat.le_of_ble_eq_true rfl) ⟨Nat.le_of_ble_eq_true rfl, Nat.le_of_ble_eq_true rfl⟩ ⟨Nat.le_refl _, Nat.le_refl _⟩ ?_
    refine e_X11_draw hf hvv hB h0 (by omega) ?_
    refine V_iv (y := nI a) (ea) ?_
    refine V_istore_n (i := 2) (sx_di dX11_stir 13 rfl) rfl (by decide) (rfl) ?_
    refine V_aload_n (i := 0) (sx_di dX11_stir 14 rfl) rfl rfl ?_
    refine V_bipush (v := 10) (sx_di dX11_stir 15 rfl) (by decide) ?_
    refine V_cV1 (mc' := 0) (ms' := 0) (M' := mX11_draw) 1 (sx_di dX11_stir 16 rfl) lX11_276 vX11_draw (hB.k _ rfl) (by decide) rfl (Nat.le_of_ble_eq_true rfl) ⟨Nat.le_of_ble_eq_true rfl, Nat.le_of_ble_eq_true rfl⟩ ⟨Nat.le_refl _, Nat.le_refl _⟩ ?_
    refine e_X11_draw hf hvv hB (m := 10) (by decide) (by decide) ?_
    refine V_istore_n (i := 3) (sx_di dX11_stir 17 rfl) rfl (by decide) (rfl) ?_
    refine V_aload_n (i := 0) (sx_di dX11_stir 18 rfl) rfl rfl ?_
    refine V_iload_n (i := 2) (sx_di dX11_stir 19 rfl) rfl rfl ?_
    refine V_cV1 (mc' := 0) (ms' := 0) (M' := mX11_isHouse) 1 (sx_di dX11_stir 20 rfl) lX11_170 vX11_isHouse (hB.k _ rfl) (by decide) rfl (Nat.le_of_ble_eq_true rfl) ⟨Nat.le_of_ble_eq_true rfl, Nat.le_of_ble_eq_true rfl⟩ ⟨Nat.le_refl _, Nat.le_refl _⟩ ?_
    refine c_X11_isHouse (yw_B hB _ _ _ _) ht hst hn hn8 ?_
    refine V_iv (y := 1) (ih_1 ha hn8) ?_
    refine V_ifN_eq (a := 1) (rfl) (by omega) (tgt := 52) (sx_di dX11_stir 21 rfl) (by decide) (fun h39 => absurd h39 (by omega)) (fun _ => ?_)
    refine V_aload_n (i := 0) (sx_di dX11_stir 22 rfl) rfl rfl ?_
    refine V_getR (sx_di dX11_stir 23 rfl) fX11_60 (fun _ => rfl) (hB.k _ rfl) (hB.r _ _ rfl) ?_
    refine V_getR (sx_di dX11_stir 24 rfl) fX11_177 (fun _ => rfl) (hB.k _ rfl) (hB.r _ _ rfl) ?_
    refine V_iload_n (i := 2) (sx_di dX11_stir 25 rfl) rfl rfl ?_
    refine V_iload_n (i := 3) (sx_di dX11_stir 26 rfl) rfl rfl ?_
    refine V_iastN (n := 8) (j := a) (sx_di dX11_stir 27 rfl) (hB.k _ rfl) (rfl) (by omega) (by omega) ?_
    refine V_sub (ls' := [(1, .int (nI n)), (0, .ref 16)]) ⟨rfl, rfl, trivial⟩ ?_
    first | exact sd2_ hf hvv ho hB ht hst h0 hn8 (I := I) hn hv ht2 h | (refine sd2_ hf hvv ho hB ht hst h0 hn8 (I := hp_u I 59 a (v (f (f z)) (nI 10))) ((hp_u_nk _ _ (by omega)).trans hn) (vw_u2 hn8 ha _ hv) ht2 (fun J f1 f2 => ?_); rw [Nat.zero_add] at f2 ⊢; exact h J (fun b h1 h2 => (f1 b h1 h2).trans (by funext j; exact hp_u_nk _ _ (fun y => h1 y.1))) f2)
theorem k_X11_stir {E : sxE} {Q : Option Value → hpW → Prop} {f : Int64 → Int64} {v : Int64 → Int32 → Int32} (hf : f = d1r) (hvv : v = dvr) (ho : ∀ z m, 0 < m → m < 2 ^ 31 → ∃ k, k < m ∧ v z (nI m) = nI k) {A : AS} {w : hpW} (V : AV A) (H : CK A w) (h0 : 0 < a_n A) {z : Int64} (ez : hp_j w 16 15 = z) (h : ∀ w', CK (pt_r A (stx f v (a_n A) (a_d A) (a_r A) z).1) w' → fR w w' → hp_j w' 16 15 = (stx f v (a_n A) (a_d A) (a_r A) z).2 → Q none w') : sx_C E mX11_stir 2 0 0 [.ref 16] w Q := by
  have e := yw_of ez
  rw [← e]
  have H1 := CK_CR H
  obtain ⟨t, p, C, c3⟩ := CN_of V H1
  have hmd : hp_i w 16 14 = a_d A := by
    obtain ⟨_, _, _, _, _, _, _, _, _, _, _, _, q⟩ := H1
    exact q
  refine sd1_ hf hvv ho H.1 C.2.1 C.2.2.1 h0 V.2.2.1.1 C.2.2.2.1 (CR_vw H1 h0) C.2.2.2.2.2.2.2.2.2.2 hmd (fun J f1 f2 => ?_)
  exact h _ (CK_up V h0 H (yw_B H.1 _ _ _ _) rfl (fun b hb => f1 b hb.1 hb.2.1) f2 (OKF_stx (f := f) ho V.2.2.1.1 h0 V.2.2.2.1.1 _ _).2) (fR_yw (fun b hb => f1 b (by omega) (by omega))) (yw_j _ _ _ _ _)
theorem CR_w {A : AS} {w w2 : hpW} (V : AV A) (H : CR A w) (hB2 : ly_B w2) (hr : hp_r w2 = hp_r w) (f : hp_i w2 = hp_i w) : CR A w2 := CR_mv V.2.1.1 hB2 (fun b _ _ => by rw [hr]) (fun b _ _ => by rw [f]) H
set_option maxHeartbeats 2000000 in
set_option maxRecDepth 20000 in
theorem yC_lp {E : sxE} {Q : Option Value → hpW → Prop} {f : Int64 → Int64} {v : Int64 → Int32 → Int32} (hf : f = d1r) (hvv : v = dvr) (ho : ∀ z m, 0 < m → m < 2 ^ 31 → ∃ k, k < m ∧ v z (nI m) = nI k) {A : AS} {w : hpW} {z : Int64} {y : Int64} (VA : AV A) (h0 : 0 < a_n A) {d m : Nat} (ed : a_r A 44 = nI d) (hd : d + m ≤ 9999) (hm : m ≤ 60) (h : ∀ w', CR (yit_ f v A z m).1 w' → fR w w' → Q (some (.int (a_r (yit_ f v A z m).1 44))) w') : ∀ q k w1, k + q = m → CR (yit_ f v A z k).1 w1 → fR w w1 → hp_j w1 16 15 = (yit_ f v A z k).2 → V E mX11_years (sx_rm 8 0 0) 0 0 0 0 43 [(4, .int (nI k)), (2, .long y), (1, .int (nI m)), (0, .ref 16)] [] w1 Q := by
  intro q
  induction q with
  | zero =>
    intro k w1 hk H1 f1 ez
    have e1 : k = m := by omega
    subst e1
    have hB := H1.1
    have z1 := h w1 H1 f1
    have e44 : hp_i w1 57 11 = a_r (yit_ f v A z k).1 44 := (CR_vw H1 (by rw [yit_n]; exact h0)).2.2.2.2.2
    refine V_iload (sx_di dX11_years 23 rfl) rfl ?_
    refine V_iload_n (i := 1) (sx_di dX11_years 24 rfl) rfl rfl ?_
    refine V_icN_ge (a := k) (b := k) (rfl) (rfl) (by omega) (by omega) (tgt := 74) (sx_di dX11_years 25 rfl) (by decide) (fun _ => ?_) (fun h46 => absurd h46 (by omega))
    refine V_aload_n (i := 0) (sx_di dX11_years 37 rfl) rfl rfl ?_
    refine V_getR (sx_di dX11_years 38 rfl) fX11_60 (fun _ => rfl) (hB.k _ rfl) (hB.r _ _ rfl) ?_
    refine V_getI (sx_di dX11_years 39 rfl) fX11_233 (fun _ => rfl) (hB.k _ rfl) ?_
    refine V_iv (y := a_r (yit_ f v A z k).1 44) (e44) ?_
    refine V_iret (sx_di dX11_years 40 rfl) rfl (Nat.le_refl _) (Nat.le_refl _) ?_
    exact z1
  | succ q ih =>
    intro k w1 hk H1 f1 ez
    have hB := H1.1
    obtain ⟨V1, en1, e41⟩ := yit_ok (f := f) ho VA h0 ed z k (by omega)
    have hsx := OKF_stx (f := f) ho V1.2.2.1.1 (by omega) V1.2.2.2.1.1 (a_d (yit_ f v A z k).1) (yit_ f v A z k).2
    refine V_iload (sx_di dX11_years 23 rfl) rfl ?_
    refine V_iload_n (i := 1) (sx_di dX11_years 24 rfl) rfl rfl ?_
    refine V_icN_ge (a := k) (b := m) (rfl) (rfl) (by omega) (by omega) (tgt := 74) (sx_di dX11_years 25 rfl) (by decide) (fun h46 => absurd h46 (by omega)) (fun _ => ?_)
    refine V_aload_n (i := 0) (sx_di dX11_years 26 rfl) rfl rfl ?_
    refine V_getR (sx_di dX11_years 27 rfl) fX11_77 (fun _ => rfl) (hB.k _ rfl) (hB.r _ _ rfl) ?_
    refine V_aload_n (i := 0) (sx_di dX11_years 28 rfl) rfl rfl ?_
    refine V_getR (sx_di dX11_years 29 rfl) fX11_60 (fun _ => rfl) (hB.k _ rfl) (hB.r _ _ rfl) ?_
    refine V_cV1 (mc' := 0) (ms' := 0) (M' := mX6_keep) 3 (sx_di dX11_years 30 rfl) lX11_252 vX6_keep (hB.k _ rfl) (by decide) rfl (Nat.le_of_ble_eq_true rfl) ⟨Nat.le_of_ble_eq_true rfl, Nat.le_of_ble_eq_true rfl⟩ ⟨Nat.le_refl _, Nat.le_refl _⟩ ?_
    refine k_X6_keep V1 H1 (by omega) (fun w2 H2 f2 j2 => ?_)
    have hB2 := H2.1
    refine V_aload_n (i := 0) (sx_di dX11_years 31 rfl) rfl rfl ?_
    refine V_cV0 (mc' := 0) (ms' := 0) (M' := mX11_stir) 2 (sx_di dX11_years 32 rfl) lX11_273 vX11_stir (hB2.k _ rfl) (by decide) rfl (Nat.le_of_ble_eq_true rfl) ⟨Nat.le_of_ble_eq_true rfl, Nat.le_of_ble_eq_true rfl⟩ ⟨Nat.le_refl _, Nat.le_refl _⟩ ?_
    refine k_X11_stir hf hvv ho (AV_k V1 (by omega)) H2 (show 0 < a_n (yit_ f v A z k).1 by omega) ((congrFun (congrFun j2 16) 15).trans ez) (fun w3 H3 f3 j3 => ?_)
    have hB3 := H3.1
    refine V_aload_n (i := 0) (sx_di dX11_years 33 rfl) rfl rfl ?_
    refine V_cV0 (mc' := 0) (ms' := 0) (M' := mX11_liveDay) 7 (sx_di dX11_years 34 rfl) lX11_259 vX11_liveDay (hB3.k _ rfl) (by decide) rfl (Nat.le_of_ble_eq_true rfl) ⟨Nat.le_of_ble_eq_true rfl, Nat.le_of_ble_eq_true rfl⟩ ⟨Nat.le_refl _, Nat.le_refl _⟩ ?_
    refine k_X11_liveDay (AV_r (AV_k V1 (by omega)) hsx.1) H3 (show 0 < a_n (yit_ f v A z k).1 by omega) (d := d + k) (by omega) ((hsx.2 44 (by omega)).trans e41) (fun w4 H4 f4 j4 => ?_)
    have q1 := ih (k + 1) w4 (by omega) H4 (fR_tr f1 (fR_tr f2 (fR_tr f3 f4))) ((congrFun (congrFun j4 16) 15).trans j3)
    rw [← nI_1] at q1
    refine V_inc (c := 1) (sx_di dX11_years 35 rfl) (by decide) rfl (by decide) (rfl) ?_
    refine V_goto (tgt := 43) (sx_di dX11_years 36 rfl) (by decide) ?_
    exact V_subk q1 ⟨rfl, rfl, rfl, rfl, trivial⟩
set_option maxHeartbeats 2000000 in
set_option maxRecDepth 20000 in
theorem oCy_ {E : sxE} {f : Int64 → Int64} {v : Int64 → Int32 → Int32} (hf : f = d1r) (hvv : v = dvr) (ho : ∀ z m, 0 < m → m < 2 ^ 31 → ∃ k, k < m ∧ v z (nI m) = nI k) {A : AS} {w : hpW} (VA : AV A) (H : CR A w) (x : Int32) (z : Int64) : oC E mX11_years 8 [.ref 16, .int x, .long z] w A (qy_ f v A x z).1 (qy_ f v A x z).2 := by
  intro Q h
  obtain ⟨t, p, C, c3⟩ := CN_of VA H
  have hB := H.1
  have hn8 := VA.2.2.1.1
  have e44 : hp_i w 57 11 = a_r A 44 := by
    obtain ⟨_, _, _, t2, g, _, c4, _⟩ := H
    exact c4.2.2.1
  have hno : ¬ wdays (a_n A) x (a_r A 44) = -1 → Q (some (.int (-1))) w := fun e => by
    rw [qy_, if_neg e] at h
    exact h w H fR_rf
  rw [wd_y VA] at hno
  refine C_of (by decide +kernel) (Nat.le_of_ble_eq_true rfl) ?_
  refine V_aload_n (i := 0) (sx_di dX11_years 0 rfl) rfl rfl ?_
  refine V_cV0 (mc' := 0) (ms' := 0) (M' := mX11_isStreet) 1 (sx_di dX11_years 1 rfl) lX11_154 vX11_isStreet (hB.k _ rfl) (by decide) rfl (Nat.le_of_ble_eq_true rfl) ⟨Nat.le_of_ble_eq_true rfl, Nat.le_of_ble_eq_true rfl⟩ ⟨Nat.le_refl _, Nat.le_refl _⟩ ?_
  refine c_X11_isStreet hB C.2.1 C.2.2.1 C.2.2.2.1 hn8 ?_
  refine V_if_eq (tgt := 33) (sx_di dX11_years 2 rfl) (by decide) (fun h4 => ?_) (fun h4 => ?_)
  · have h5 : a_n A = 0 := Classical.byContradiction (fun z => by rw [if_neg z] at h4; exact absurd h4 (by decide))
    refine V_iconst (v := -1) (sx_di dX11_years 16 rfl) (by decide) ?_
    refine V_iret (sx_di dX11_years 17 rfl) rfl (Nat.le_refl _) (Nat.le_refl _) ?_
    exact hno (fun q => q.1 h5)
  · have h5 : ¬ a_n A = 0 := fun z => h4 (if_pos z)
    refine V_iload_n (i := 1) (sx_di dX11_years 3 rfl) rfl rfl ?_
    refine V_iconst (v := 1) (sx_di dX11_years 4 rfl) (by decide) ?_
    refine V_icmp_lt (tgt := 33) (sx_di dX11_years 5 rfl) (by decide) (fun h9 => ?_) (fun h9 => ?_)
    · refine V_iconst (v := -1) (sx_di dX11_years 16 rfl) (by decide) ?_
      refine V_iret (sx_di dX11_years 17 rfl) rfl (Nat.le_refl _) (Nat.le_refl _) ?_
      exact hno (fun q => q.2.1 (Or.inl h9))
    · refine V_iload_n (i := 1) (sx_di dX11_years 6 rfl) rfl rfl ?_
      refine V_bipush (v := 60) (sx_di dX11_years 7 rfl) (by decide) ?_
      refine V_icmp_gt (tgt := 33) (sx_di dX11_years 8 rfl) (by decide) (fun h15 => ?_) (fun h15 => ?_)
      · refine V_iconst (v := -1) (sx_di dX11_years 16 rfl) (by decide) ?_
        refine V_iret (sx_di dX11_years 17 rfl) rfl (Nat.le_refl _) (Nat.le_refl _) ?_
        exact hno (fun q => q.2.1 (Or.inr h15))
      · refine V_aload_n (i := 0) (sx_di dX11_years 9 rfl) rfl rfl ?_
        refine V_getR (sx_di dX11_years 10 rfl) fX11_60 (fun _ => rfl) (hB.k _ rfl) (hB.r _ _ rfl) ?_
        refine V_getI (sx_di dX11_years 11 rfl) fX11_233 (fun _ => rfl) (hB.k _ rfl) ?_
        refine V_iv (y := a_r A 44) (e44) ?_
        refine V_iload_n (i := 1) (sx_di dX11_years 12 rfl) rfl rfl ?_
        refine V_iadd (sx_di dX11_years 13 rfl) ?_
        refine V_sipush (v := 9999) (sx_di dX11_years 14 rfl) (by decide) ?_
        refine V_icmp_le (tgt := 35) (sx_di dX11_years 15 rfl) (by decide) (fun h30 => ?_) (fun h30 => ?_)
        · have e : wdays (a_n A) x (a_r A 44) = -1 := (wd_y VA).mpr ⟨h5, fun q => q.elim h9 h15, Int32.not_lt.mpr h30⟩
          rw [qy_, if_pos e] at h
          obtain ⟨h00, k, d, hk, rfl, ed, hd⟩ := wdays_ok VA e
          rw [nI_clamp (by omega)] at h
          refine V_aload_n (i := 0) (sx_di dX11_years 18 rfl) rfl rfl ?_
          refine V_lload_n (i := 2) (sx_di dX11_years 19 rfl) rfl rfl ?_
          refine V_putJ (sx_di dX11_years 20 rfl) fX11_269 (fun _ => rfl) rfl (hB.k _ rfl) rfl rfl ?_
          refine V_iconst (v := 0) (sx_di dX11_years 21 rfl) (by decide) ?_
          refine V_istore (sx_di dX11_years 22 rfl) (by decide) (rfl) ?_
          refine V_sub (ls' := [(4, .int (nI 0)), (2, .long z), (1, .int (nI k)), (0, .ref 16)]) ⟨rfl, rfl, rfl, rfl, trivial⟩ ?_
          have e9 := yw_sj w 16 15 (hp_i w) (hp_j w 16 15) z
          rw [yw_of rfl] at e9
          rw [e9]
          exact yC_lp hf hvv ho VA h00 ed hd hk h k 0 _ (by omega) (CR_w VA H (yw_B hB _ _ _ _) rfl rfl) (fR_yw (fun _ _ => rfl)) (yw_j _ _ _ _ _)
        · refine V_iconst (v := -1) (sx_di dX11_years 16 rfl) (by decide) ?_
          refine V_iret (sx_di dX11_years 17 rfl) rfl (Nat.le_refl _) (Nat.le_refl _) ?_
          exact hno (fun q => q.2.2 (Int32.not_le.mp h30))
theorem dvr_ok : ∀ z m, 0 < m → m < 2 ^ 31 → ∃ k, k < m ∧ dvr z (nI m) = nI k := fun z m h0 hm => dvr_n z h0 hm
theorem yr_oR {A : AS} {w : hpW} (VA : AV A) (H : RR A w) (x : Int32) (z : Int64) {E : sxE} : ∃ q : Int32 × AS, AV q.2 ∧ oR E mX12_years 10 [.ref 381, .int x, .long z] w A q.1 q.2 ∧ ∀ {w2 : hpW}, CR A w2 → oC E mX11_years 8 [.ref 16, .int x, .long z] w2 A q.1 q.2 := ⟨qy_ d1r dvr A x z, AVy_ (f := d1r) dvr_ok VA x z, oRy_ rfl rfl dvr_ok VA H x z, fun H2 => oCy_ rfl rfl dvr_ok VA H2 x z⟩

/-! the class reads a law: rows of conditions -/
def wb9 (x v : Int32) : Prop := (x = 0 ∧ v = 0) ∨ (x = 1 ∧ v = 124)
set_option maxHeartbeats 2000000 in
set_option maxRecDepth 20000 in
theorem rc_end {E : sxE} {T : List Int32} {k D q : Nat} {x v : Int32} {X : List Int32} {w : hpW} {Q : Option Value → hpW → Prop} (hk : k < 5) (hD : 4 ≤ D) (hv : wb9 x v) (H : lrP T (22 + 6 * k) q w) (hx : lrX (22 + 6 * k) X w) (hl : X.length + (wt_ v).length ≤ 240) (h : ∀ w', lrP T (22 + 6 * k) q w' → fL (22 + 6 * k) w w' → lrX (22 + 6 * k) (X ++ wt_ v) w' → Q (some (.int 1)) w') : V E mX3_readCondition (sx_rm (D + 1) 0 0) 0 0 0 0 118 [(3, .int x), (0, .ref 52)] [] w Q := by
  refine V_iload_n (i := 3) (sx_di dX3_readCondition 59 rfl) rfl rfl ?_
  refine V_if_eq (tgt := 131) (sx_di dX3_readCondition 60 rfl) (by decide) (fun h119 => ?_) (fun h119 => ?_)
  · have v0 : v = 0 := hv.elim (fun z => z.2) (fun z => absurd (z.1.symm.trans h119) (by decide))
    rw [v0, wt_0, List.append_nil] at h
    refine V_iconst (v := 1) (sx_di dX3_readCondition 65 rfl) (by decide) ?_
    refine V_zret (sx_di dX3_readCondition 66 rfl) rfl (by first | rfl | decide) (Nat.le_refl _) (Nat.le_refl _) ?_
    exact h w H fL_rf hx
  · have v1 : v = 124 := hv.elim (fun z => absurd z.1 h119) (fun z => z.2)
    subst v1
    have hl2 : X.length < 240 := hl
    refine V_aload_n (i := 0) (sx_di dX3_readCondition 61 rfl) rfl rfl ?_
    refine V_getR (sx_di dX3_readCondition 62 rfl) fX3_15 (fun _ => rfl) (by first | exact H.1.k _ rfl) (by first | exact H.1.r _ _ rfl | exact H.2.2.1) ?_
    refine V_bipush (v := -124) (sx_di dX3_readCondition 63 rfl) (by decide) ?_
    refine V_cV1 (mc' := 0) (ms' := 0) (M' := mX1_add) 1 (sx_di dX3_readCondition 64 rfl) lX3_58 vX1_add ((lw_law H.1 hk).1) (by decide) rfl (Nat.le_of_ble_eq_true rfl) ⟨by show 1 + 1 ≤ D + 1; omega, by show 64 + 64 * (1) ≤ 64 * (D + 1); omega⟩ ⟨Nat.le_refl _, Nat.le_refl _⟩ ?_
    refine c_add9 hk H hx hl2 (fun w1 H1 f1 x1 => ?_)
    refine V_iconst (v := 1) (sx_di dX3_readCondition 65 rfl) (by decide) ?_
    refine V_zret (sx_di dX3_readCondition 66 rfl) rfl (by first | rfl | decide) (Nat.le_refl _) (Nat.le_refl _) ?_
    exact h w1 H1 f1 x1
set_option maxHeartbeats 2000000 in
set_option maxRecDepth 20000 in
theorem rc_lp {E : sxE} {T : List Int32} {k d D : Nat} {u : Nat → prT} {Q : Option Value → hpW → Prop} (hk : k < 5) (hD : 4 ≤ D) (hu : goS T u) (hA : kU E T k d 0 D mX3_readUnit u) : ∀ f i x v X p w, i ≤ p → T.length ≤ p + f → p ≤ T.length → wb9 x v → X.length + (wt_ v).length ≤ p → lrP T (22 + 6 * k) p w → lrX (22 + 6 * k) X w → (∀ w', lrP T (22 + 6 * k) (flF T hiC loC u f v X p).2.2 w' → fL (22 + 6 * k) w w' → ((flF T hiC loC u f v X p).1 = true → lrX (22 + 6 * k) (flF T hiC loC u f v X p).2.1 w') → Q (some (.int (bz9 (flF T hiC loC u f v X p).1))) w') → V E mX3_readCondition (sx_rm (D + 1) 0 0) 0 0 0 0 16 [(4, .int (nI i)), (3, .int x), (1, .int (nI d)), (0, .ref 52)] [] w Q := by
  intro f
  have stop : ∀ f i x v X p w, i ≤ p → p ≤ T.length → wb9 x v → X.length + (wt_ v).length ≤ p → lrP T (22 + 6 * k) p w → lrX (22 + 6 * k) X w → T.length ≤ p → (∀ w', lrP T (22 + 6 * k) (flF T hiC loC u f v X p).2.2 w' → fL (22 + 6 * k) w w' → ((flF T hiC loC u f v X p).1 = true → lrX (22 + 6 * k) (flF T hiC loC u f v X p).2.1 w') → Q (some (.int (bz9 (flF T hiC loC u f v X p).1))) w') → V E mX3_readCondition (sx_rm (D + 1) 0 0) 0 0 0 0 16 [(4, .int (nI i)), (3, .int x), (1, .int (nI d)), (0, .ref 52)] [] w Q := by
    intro f i x v X p w hi hp hv hl H hx hpl h
    have hT := H.2.1.1
    have ec := cz_end hpl
    rw [flF_stop (by rw [ec]; decide) (by rw [ec]; decide)] at h
    have h2 : ∀ q, q = skp_ T p → ∀ w2, lrP T (22 + 6 * k) q w2 → fL (22 + 6 * k) w w2 → lrX (22 + 6 * k) X w2 → V E mX3_readCondition (sx_rm (D + 1) 0 0) 0 0 0 0 118 [(3, .int x), (0, .ref 52)] [] w2 Q := fun q e w2 H2 f2 x2 => rc_end hk hD hv H2 x2 (by omega) (fun w3 H3 f3 x3 => h w3 (e ▸ H3) (fL_tr f2 f3) (fun _ => x3))
    refine V_iload (sx_di dX3_readCondition 11 rfl) rfl ?_
    refine V_sipush (v := 240) (sx_di dX3_readCondition 12 rfl) (by decide) ?_
    refine V_icN_ge (a := i) (b := 240) (rfl) (rfl) (by omega) (by omega) (tgt := 118) (sx_di dX3_readCondition 13 rfl) (by decide) (fun h21 => ?_) (fun h21 => ?_)
    · exact V_subk (h2 p (skp_end hpl).symm w H fL_rf hx) ⟨rfl, rfl, trivial⟩
    · refine V_aload_n (i := 0) (sx_di dX3_readCondition 14 rfl) rfl rfl ?_
      refine V_getR (sx_di dX3_readCondition 15 rfl) fX3_9 (fun _ => rfl) (by first | exact H.1.k _ rfl | exact H1.1.k _ rfl) (by first | exact H.1.r _ _ rfl | exact H1.1.r _ _ rfl | exact H.2.2.1 | exact H1.2.2.1) ?_
      refine V_cV0 (mc' := 0) (ms' := 0) (M' := mX10_sign) 1 (sx_di dX3_readCondition 16 rfl) lX3_34 vX10_sign (by first | exact H.1.k _ rfl | exact H1.1.k _ rfl) (by decide) rfl (Nat.le_of_ble_eq_true rfl) ⟨by show 1 + 1 ≤ D + 1; omega, by show 64 + 64 * (1) ≤ 64 * (D + 1); omega⟩ ⟨Nat.le_refl _, Nat.le_refl _⟩ ?_
      refine c_sign9 (by omega) H hp (fun w1 H1 f1 x1 => ?_)
      rw [ec]
      refine V_istore (sx_di dX3_readCondition 17 rfl) (by decide) (rfl) ?_
      refine V_iload (sx_di dX3_readCondition 18 rfl) rfl ?_
      refine V_bipush (v := 38) (sx_di dX3_readCondition 19 rfl) (by decide) ?_
      refine V_icmp_eq (tgt := 50) (sx_di dX3_readCondition 20 rfl) (by decide) (fun h37 => absurd h37 (by decide)) (fun _ => ?_)
      refine V_iload (sx_di dX3_readCondition 21 rfl) rfl ?_
      refine V_bipush (v := 124) (sx_di dX3_readCondition 22 rfl) (by decide) ?_
      refine V_icmp_eq (tgt := 50) (sx_di dX3_readCondition 23 rfl) (by decide) (fun h44 => absurd h44 (by decide)) (fun _ => ?_)
      refine V_goto (tgt := 118) (sx_di dX3_readCondition 24 rfl) (by decide) ?_
      exact V_subk (h2 _ rfl w1 H1 f1 (x1 X hx)) ⟨rfl, rfl, trivial⟩
  induction f with
  | zero =>
    intro i x v X p w hi hf hp hv hl H hx h
    exact stop 0 i x v X p w hi hp hv hl H hx (by omega) h
  | succ f ih =>
    intro i x v X p w hi hf hp hv hl H hx h
    have hT := H.2.1.1
    by_cases hpl : T.length ≤ p
    · exact stop (f + 1) i x v X p w hi hp hv hl H hx hpl h
    · have g1 := skp_ge T p
      have g2 := skq_le (T := T) hp
      unfold flF at h
      refine V_iload (sx_di dX3_readCondition 11 rfl) rfl ?_
      refine V_sipush (v := 240) (sx_di dX3_readCondition 12 rfl) (by decide) ?_
      refine V_icN_ge (a := i) (b := 240) (rfl) (rfl) (by omega) (by omega) (tgt := 118) (sx_di dX3_readCondition 13 rfl) (by decide) (fun h21 => absurd h21 (by omega)) (fun _ => ?_)
      refine V_aload_n (i := 0) (sx_di dX3_readCondition 14 rfl) rfl rfl ?_
      refine V_getR (sx_di dX3_readCondition 15 rfl) fX3_9 (fun _ => rfl) (by first | exact H.1.k _ rfl | exact H1.1.k _ rfl) (by first | exact H.1.r _ _ rfl | exact H1.1.r _ _ rfl | exact H.2.2.1 | exact H1.2.2.1) ?_
      refine V_cV0 (mc' := 0) (ms' := 0) (M' := mX10_sign) 1 (sx_di dX3_readCondition 16 rfl) lX3_34 vX10_sign (by first | exact H.1.k _ rfl | exact H1.1.k _ rfl) (by decide) rfl (Nat.le_of_ble_eq_true rfl) ⟨by show 1 + 1 ≤ D + 1; omega, by show 64 + 64 * (1) ≤ 64 * (D + 1); omega⟩ ⟨Nat.le_refl _, Nat.le_refl _⟩ ?_
      refine c_sign9 (by omega) H hp (fun w1 H1 f1 x1 => ?_)
      have hHi : hiC (cz_ T p) = true → V E mX3_readCondition (sx_rm (D + 1) 0 0) 0 0 0 0 50 [(5, .int (cz_ T p)), (4, .int (nI i)), (3, .int x), (1, .int (nI d)), (0, .ref 52)] [] w1 Q := by
        intro hc
        have hc9 : cz_ T p = 124 := of_decide_eq_true hc
        have hq1 := cz_p1 hc9 (by decide)
        have hg := hu (skp_ T p + 1) hq1
        rw [if_pos hc] at h
        refine V_aload_n (i := 0) (sx_di dX3_readCondition 25 rfl) rfl rfl ?_
        refine V_getR (sx_di dX3_readCondition 26 rfl) fX3_9 (fun _ => rfl) (by first | exact H.1.k _ rfl | exact H1.1.k _ rfl | exact H2.1.k _ rfl | exact H3.1.k _ rfl | exact H4.1.k _ rfl | exact H5.1.k _ rfl) (by first | exact H.1.r _ _ rfl | exact H1.1.r _ _ rfl | exact H2.1.r _ _ rfl | exact H3.1.r _ _ rfl | exact H4.1.r _ _ rfl | exact H5.1.r _ _ rfl | exact H.2.2.1 | exact H1.2.2.1 | exact H2.2.2.1 | exact H3.2.2.1 | exact H4.2.2.1 | exact H5.2.2.1) ?_
        refine V_dup (sx_di dX3_readCondition 27 rfl) rfl ?_
        refine V_getI (sx_di dX3_readCondition 28 rfl) fX3_24 (fun _ => rfl) (by first | exact H.1.k _ rfl | exact H1.1.k _ rfl | exact H2.1.k _ rfl | exact H3.1.k _ rfl | exact H4.1.k _ rfl | exact H5.1.k _ rfl) ?_
        refine V_iv (y := nI (skp_ T p)) (H1.2.2.2) ?_
        refine V_iconst (v := 1) (sx_di dX3_readCondition 29 rfl) (by decide) ?_
        refine V_iadd (sx_di dX3_readCondition 30 rfl) ?_
        refine V_iv (y := nI (skp_ T p + 1)) (nI_add _ 1) ?_
        refine V_putI (sx_di dX3_readCondition 31 rfl) fX3_24 (fun _ => rfl) rfl (by first | exact H.1.k _ rfl | exact H1.1.k _ rfl | exact H2.1.k _ rfl | exact H3.1.k _ rfl | exact H4.1.k _ rfl | exact H5.1.k _ rfl) (rfl) (rfl) ?_
        refine V_hd9 (by omega) H1 (fun w2 H2 f2 x2 => ?_)
        refine V_iload (sx_di dX3_readCondition 32 rfl) rfl ?_
        refine V_bipush (v := 124) (sx_di dX3_readCondition 33 rfl) (by decide) ?_
        refine V_icmp_ne (tgt := 85) (sx_di dX3_readCondition 34 rfl) (by decide) (fun h67 => absurd hc9 h67) (fun _ => ?_)
        refine V_iload_n (i := 3) (sx_di dX3_readCondition 35 rfl) rfl rfl ?_
        refine V_if_eq (tgt := 83) (sx_di dX3_readCondition 36 rfl) (by decide) (fun h71 => ?_) (fun h71 => ?_)
        · have v0 : v = 0 := hv.elim (fun z => z.2) (fun z => absurd (z.1.symm.trans h71) (by decide))
          have eX : X ++ wt_ v = X := by rw [v0, wt_0, List.append_nil]
          refine V_iconst (v := 1) (sx_di dX3_readCondition 41 rfl) (by decide) ?_
          refine V_istore_n (i := 3) (sx_di dX3_readCondition 42 rfl) rfl (by decide) (rfl) ?_
          refine V_aload_n (i := 0) (sx_di dX3_readCondition 43 rfl) rfl rfl ?_
          refine V_iload_n (i := 1) (sx_di dX3_readCondition 44 rfl) rfl rfl ?_
          refine V_iconst (v := 0) (sx_di dX3_readCondition 45 rfl) (by decide) ?_
          refine V_cV2 (mc' := 0) (ms' := 0) (M' := mX3_readUnit) D (sx_di dX3_readCondition 46 rfl) lX3_55 vX3_readUnit (by first | exact H.1.k _ rfl | exact H1.1.k _ rfl | exact H2.1.k _ rfl | exact H3.1.k _ rfl | exact H4.1.k _ rfl | exact H5.1.k _ rfl) (by decide) rfl (Nat.le_of_ble_eq_true rfl) ⟨by show D + 1 ≤ D + 1; omega, by show 64 + 64 * (D) ≤ 64 * (D + 1); omega⟩ ⟨Nat.le_refl _, Nat.le_refl _⟩ ?_
          refine hA (X ++ wt_ v) (skp_ T p + 1) w2 _ H2 (by rw [eX]; exact x2 _ (x1 _ hx)) (by rw [List.length_append]; omega) hq1 (fun w4 H4 f4 x4 => ?_)
          refine V_if_ne (tgt := 96) (sx_di dX3_readCondition 47 rfl) (by decide) (fun h91 => ?_) (fun h91 => ?_)
          · have b91 := bz9t h91
            rw [if_pos b91] at h
            refine V_iload (sx_di dX3_readCondition 50 rfl) rfl ?_
            refine V_bipush (v := 38) (sx_di dX3_readCondition 51 rfl) (by decide) ?_
            refine V_icmp_ne (tgt := 112) (sx_di dX3_readCondition 52 rfl) (by decide) (fun _ => ?_) (fun h100 => absurd (h100.symm.trans hc9) (by decide))
            refine V_inc (c := 1) (sx_di dX3_readCondition 57 rfl) (by decide) rfl (by decide) (rfl) ?_
            refine V_goto (tgt := 16) (sx_di dX3_readCondition 58 rfl) (by decide) ?_
            have q1 := ih (i + 1) 1 (cz_ T p) (X ++ wt_ v ++ (u (skp_ T p + 1)).2.1) (u (skp_ T p + 1)).2.2 w4 (by omega) (by omega) hg.2.1 (Or.inr ⟨rfl, hc9⟩) (by rw [List.length_append, List.length_append]; have := wt_len (cz_ T p); have := hg.2.2 b91; omega) H4 (x4 b91) (fun w5 H5 f5 x5 => h w5 H5 (fL_tr (fL_tr f1 (fL_tr f2 f4)) f5) x5)
            rw [← nI_1 (a := i)] at q1
            exact V_subk q1 ⟨rfl, rfl, rfl, rfl, trivial⟩
          · rw [if_neg (bz9f h91)] at h
            refine V_iconst (v := 0) (sx_di dX3_readCondition 48 rfl) (by decide) ?_
            refine V_zret (sx_di dX3_readCondition 49 rfl) rfl (by first | rfl | decide) (Nat.le_refl _) (Nat.le_refl _) ?_
            exact h w4 H4 (fL_tr f1 (fL_tr f2 f4)) (fun z => absurd z Bool.false_ne_true)
        · have v1 : v = 124 := hv.elim (fun z => absurd z.1 h71) (fun z => z.2)
          have eX : X ++ wt_ v = X ++ [-124] := by rw [v1]; rfl
          refine V_aload_n (i := 0) (sx_di dX3_readCondition 37 rfl) rfl rfl ?_
          refine V_getR (sx_di dX3_readCondition 38 rfl) fX3_15 (fun _ => rfl) (by first | exact H.1.k _ rfl | exact H1.1.k _ rfl | exact H2.1.k _ rfl | exact H3.1.k _ rfl | exact H4.1.k _ rfl | exact H5.1.k _ rfl) (by first | exact H.1.r _ _ rfl | exact H1.1.r _ _ rfl | exact H2.1.r _ _ rfl | exact H3.1.r _ _ rfl | exact H4.1.r _ _ rfl | exact H5.1.r _ _ rfl | exact H.2.2.1 | exact H1.2.2.1 | exact H2.2.2.1 | exact H3.2.2.1 | exact H4.2.2.1 | exact H5.2.2.1) ?_
          refine V_bipush (v := -124) (sx_di dX3_readCondition 39 rfl) (by decide) ?_
          refine V_cV1 (mc' := 0) (ms' := 0) (M' := mX1_add) 1 (sx_di dX3_readCondition 40 rfl) lX3_58 vX1_add ((lw_law H2.1 hk).1) (by decide) rfl (Nat.le_of_ble_eq_true rfl) ⟨by show 1 + 1 ≤ D + 1; omega, by show 64 + 64 * (1) ≤ 64 * (D + 1); omega⟩ ⟨Nat.le_refl _, Nat.le_refl _⟩ ?_
          refine c_add9 hk H2 (x2 X (x1 X hx)) (by omega) (fun w3 H3 f3 x3 => ?_)
          refine V_iconst (v := 1) (sx_di dX3_readCondition 41 rfl) (by decide) ?_
          refine V_istore_n (i := 3) (sx_di dX3_readCondition 42 rfl) rfl (by decide) (rfl) ?_
          refine V_aload_n (i := 0) (sx_di dX3_readCondition 43 rfl) rfl rfl ?_
          refine V_iload_n (i := 1) (sx_di dX3_readCondition 44 rfl) rfl rfl ?_
          refine V_iconst (v := 0) (sx_di dX3_readCondition 45 rfl) (by decide) ?_
          refine V_cV2 (mc' := 0) (ms' := 0) (M' := mX3_readUnit) D (sx_di dX3_readCondition 46 rfl) lX3_55 vX3_readUnit (by first | exact H.1.k _ rfl | exact H1.1.k _ rfl | exact H2.1.k _ rfl | exact H3.1.k _ rfl | exact H4.1.k _ rfl | exact H5.1.k _ rfl) (by decide) rfl (Nat.le_of_ble_eq_true rfl) ⟨by show D + 1 ≤ D + 1; omega, by show 64 + 64 * (D) ≤ 64 * (D + 1); omega⟩ ⟨Nat.le_refl _, Nat.le_refl _⟩ ?_
          refine hA (X ++ wt_ v) (skp_ T p + 1) w3 _ H3 (by rw [eX]; exact x3) (by rw [List.length_append]; omega) hq1 (fun w4 H4 f4 x4 => ?_)
          refine V_if_ne (tgt := 96) (sx_di dX3_readCondition 47 rfl) (by decide) (fun h91 => ?_) (fun h91 => ?_)
          · have b91 := bz9t h91
            rw [if_pos b91] at h
            refine V_iload (sx_di dX3_readCondition 50 rfl) rfl ?_
            refine V_bipush (v := 38) (sx_di dX3_readCondition 51 rfl) (by decide) ?_
            refine V_icmp_ne (tgt := 112) (sx_di dX3_readCondition 52 rfl) (by decide) (fun _ => ?_) (fun h100 => absurd (h100.symm.trans hc9) (by decide))
            refine V_inc (c := 1) (sx_di dX3_readCondition 57 rfl) (by decide) rfl (by decide) (rfl) ?_
            refine V_goto (tgt := 16) (sx_di dX3_readCondition 58 rfl) (by decide) ?_
            have q1 := ih (i + 1) 1 (cz_ T p) (X ++ wt_ v ++ (u (skp_ T p + 1)).2.1) (u (skp_ T p + 1)).2.2 w4 (by omega) (by omega) hg.2.1 (Or.inr ⟨rfl, hc9⟩) (by rw [List.length_append, List.length_append]; have := wt_len (cz_ T p); have := hg.2.2 b91; omega) H4 (x4 b91) (fun w5 H5 f5 x5 => h w5 H5 (fL_tr (fL_tr f1 (fL_tr f2 (fL_tr f3 f4))) f5) x5)
            rw [← nI_1 (a := i)] at q1
            exact V_subk q1 ⟨rfl, rfl, rfl, rfl, trivial⟩
          · rw [if_neg (bz9f h91)] at h
            refine V_iconst (v := 0) (sx_di dX3_readCondition 48 rfl) (by decide) ?_
            refine V_zret (sx_di dX3_readCondition 49 rfl) rfl (by first | rfl | decide) (Nat.le_refl _) (Nat.le_refl _) ?_
            exact h w4 H4 (fL_tr f1 (fL_tr f2 (fL_tr f3 f4))) (fun z => absurd z Bool.false_ne_true)
      have hLo : loC (cz_ T p) = true → V E mX3_readCondition (sx_rm (D + 1) 0 0) 0 0 0 0 50 [(5, .int (cz_ T p)), (4, .int (nI i)), (3, .int x), (1, .int (nI d)), (0, .ref 52)] [] w1 Q := by
        intro hc
        have hc9 : cz_ T p = 38 := of_decide_eq_true hc
        have hq1 := cz_p1 hc9 (by decide)
        have hg := hu (skp_ T p + 1) hq1
        rw [if_neg (by rw [hc9]; decide), if_pos hc] at h
        refine V_aload_n (i := 0) (sx_di dX3_readCondition 25 rfl) rfl rfl ?_
        refine V_getR (sx_di dX3_readCondition 26 rfl) fX3_9 (fun _ => rfl) (by first | exact H.1.k _ rfl | exact H1.1.k _ rfl | exact H2.1.k _ rfl | exact H3.1.k _ rfl | exact H4.1.k _ rfl | exact H5.1.k _ rfl) (by first | exact H.1.r _ _ rfl | exact H1.1.r _ _ rfl | exact H2.1.r _ _ rfl | exact H3.1.r _ _ rfl | exact H4.1.r _ _ rfl | exact H5.1.r _ _ rfl | exact H.2.2.1 | exact H1.2.2.1 | exact H2.2.2.1 | exact H3.2.2.1 | exact H4.2.2.1 | exact H5.2.2.1) ?_
        refine V_dup (sx_di dX3_readCondition 27 rfl) rfl ?_
        refine V_getI (sx_di dX3_readCondition 28 rfl) fX3_24 (fun _ => rfl) (by first | exact H.1.k _ rfl | exact H1.1.k _ rfl | exact H2.1.k _ rfl | exact H3.1.k _ rfl | exact H4.1.k _ rfl | exact H5.1.k _ rfl) ?_
        refine V_iv (y := nI (skp_ T p)) (H1.2.2.2) ?_
        refine V_iconst (v := 1) (sx_di dX3_readCondition 29 rfl) (by decide) ?_
        refine V_iadd (sx_di dX3_readCondition 30 rfl) ?_
        refine V_iv (y := nI (skp_ T p + 1)) (nI_add _ 1) ?_
        refine V_putI (sx_di dX3_readCondition 31 rfl) fX3_24 (fun _ => rfl) rfl (by first | exact H.1.k _ rfl | exact H1.1.k _ rfl | exact H2.1.k _ rfl | exact H3.1.k _ rfl | exact H4.1.k _ rfl | exact H5.1.k _ rfl) (rfl) (rfl) ?_
        refine V_hd9 (by omega) H1 (fun w2 H2 f2 x2 => ?_)
        refine V_iload (sx_di dX3_readCondition 32 rfl) rfl ?_
        refine V_bipush (v := 124) (sx_di dX3_readCondition 33 rfl) (by decide) ?_
        refine V_icmp_ne (tgt := 85) (sx_di dX3_readCondition 34 rfl) (by decide) (fun _ => ?_) (fun h67 => absurd (h67.symm.trans hc9) (by decide))
        refine V_aload_n (i := 0) (sx_di dX3_readCondition 43 rfl) rfl rfl ?_
        refine V_iload_n (i := 1) (sx_di dX3_readCondition 44 rfl) rfl rfl ?_
        refine V_iconst (v := 0) (sx_di dX3_readCondition 45 rfl) (by decide) ?_
        refine V_cV2 (mc' := 0) (ms' := 0) (M' := mX3_readUnit) D (sx_di dX3_readCondition 46 rfl) lX3_55 vX3_readUnit (by first | exact H.1.k _ rfl | exact H1.1.k _ rfl | exact H2.1.k _ rfl | exact H3.1.k _ rfl | exact H4.1.k _ rfl | exact H5.1.k _ rfl) (by decide) rfl (Nat.le_of_ble_eq_true rfl) ⟨by show D + 1 ≤ D + 1; omega, by show 64 + 64 * (D) ≤ 64 * (D + 1); omega⟩ ⟨Nat.le_refl _, Nat.le_refl _⟩ ?_
        refine hA X (skp_ T p + 1) w2 _ H2 (x2 _ (x1 _ hx)) (by omega) hq1 (fun w4 H4 f4 x4 => ?_)
        refine V_if_ne (tgt := 96) (sx_di dX3_readCondition 47 rfl) (by decide) (fun h91 => ?_) (fun h91 => ?_)
        · have b91 := bz9t h91
          rw [if_pos b91] at h
          refine V_iload (sx_di dX3_readCondition 50 rfl) rfl ?_
          refine V_bipush (v := 38) (sx_di dX3_readCondition 51 rfl) (by decide) ?_
          refine V_icmp_ne (tgt := 112) (sx_di dX3_readCondition 52 rfl) (by decide) (fun h100 => absurd hc9 h100) (fun _ => ?_)
          refine V_aload_n (i := 0) (sx_di dX3_readCondition 53 rfl) rfl rfl ?_
          refine V_getR (sx_di dX3_readCondition 54 rfl) fX3_15 (fun _ => rfl) (by first | exact H.1.k _ rfl | exact H1.1.k _ rfl | exact H2.1.k _ rfl | exact H3.1.k _ rfl | exact H4.1.k _ rfl | exact H5.1.k _ rfl) (by first | exact H.1.r _ _ rfl | exact H1.1.r _ _ rfl | exact H2.1.r _ _ rfl | exact H3.1.r _ _ rfl | exact H4.1.r _ _ rfl | exact H5.1.r _ _ rfl | exact H.2.2.1 | exact H1.2.2.1 | exact H2.2.2.1 | exact H3.2.2.1 | exact H4.2.2.1 | exact H5.2.2.1) ?_
          refine V_bipush (v := -38) (sx_di dX3_readCondition 55 rfl) (by decide) ?_
          refine V_cV1 (mc' := 0) (ms' := 0) (M' := mX1_add) 1 (sx_di dX3_readCondition 56 rfl) lX3_58 vX1_add ((lw_law H4.1 hk).1) (by decide) rfl (Nat.le_of_ble_eq_true rfl) ⟨by show 1 + 1 ≤ D + 1; omega, by show 64 + 64 * (1) ≤ 64 * (D + 1); omega⟩ ⟨Nat.le_refl _, Nat.le_refl _⟩ ?_
          refine c_add9 hk H4 (x4 b91) (by rw [List.length_append]; have := hg.2.2 b91; omega) (fun w5 H5 f5 x5 => ?_)
          refine V_inc (c := 1) (sx_di dX3_readCondition 57 rfl) (by decide) rfl (by decide) (rfl) ?_
          refine V_goto (tgt := 16) (sx_di dX3_readCondition 58 rfl) (by decide) ?_
          have q1 := ih (i + 1) x v (X ++ (u (skp_ T p + 1)).2.1 ++ [-cz_ T p]) (u (skp_ T p + 1)).2.2 w5 (by omega) (by omega) hg.2.1 hv (by rw [List.length_append, List.length_append, List.length_singleton]; have := hg.2.2 b91; omega) H5 (by rw [hc9]; exact x5) (fun w6 H6 f6 x6 => h w6 H6 (fL_tr (fL_tr f1 (fL_tr f2 (fL_tr f4 f5))) f6) x6)
          rw [← nI_1 (a := i)] at q1
          exact V_subk q1 ⟨rfl, rfl, rfl, rfl, trivial⟩
        · rw [if_neg (bz9f h91)] at h
          refine V_iconst (v := 0) (sx_di dX3_readCondition 48 rfl) (by decide) ?_
          refine V_zret (sx_di dX3_readCondition 49 rfl) rfl (by first | rfl | decide) (Nat.le_refl _) (Nat.le_refl _) ?_
          exact h w4 H4 (fL_tr f1 (fL_tr f2 f4)) (fun z => absurd z Bool.false_ne_true)
      have hEn : ¬ hiC (cz_ T p) = true → ¬ loC (cz_ T p) = true → V E mX3_readCondition (sx_rm (D + 1) 0 0) 0 0 0 0 118 [(3, .int x), (0, .ref 52)] [] w1 Q := by
        intro hc1 hc
        rw [if_neg hc1, if_neg hc] at h
        exact rc_end hk hD hv H1 (x1 X hx) (by omega) (fun w3 H3 f3 x3 => h w3 H3 (fL_tr f1 f3) (fun _ => x3))
      refine V_istore (sx_di dX3_readCondition 17 rfl) (by decide) (rfl) ?_
      refine V_iload (sx_di dX3_readCondition 18 rfl) rfl ?_
      refine V_bipush (v := 38) (sx_di dX3_readCondition 19 rfl) (by decide) ?_
      refine V_icmp_eq (tgt := 50) (sx_di dX3_readCondition 20 rfl) (by decide) (fun h37 => ?_) (fun h37 => ?_)
      · exact V_subk (hLo (decide_eq_true h37)) ⟨rfl, rfl, rfl, rfl, rfl, trivial⟩
      · refine V_iload (sx_di dX3_readCondition 21 rfl) rfl ?_
        refine V_bipush (v := 124) (sx_di dX3_readCondition 22 rfl) (by decide) ?_
        refine V_icmp_eq (tgt := 50) (sx_di dX3_readCondition 23 rfl) (by decide) (fun h44 => ?_) (fun h44 => ?_)
        · exact V_subk (hHi (decide_eq_true h44)) ⟨rfl, rfl, rfl, rfl, rfl, trivial⟩
        · refine V_goto (tgt := 118) (sx_di dX3_readCondition 24 rfl) (by decide) ?_
          exact V_subk (hEn (fun z => h44 (of_decide_eq_true z)) (fun z => h37 (of_decide_eq_true z))) ⟨rfl, rfl, trivial⟩
set_option maxHeartbeats 2000000 in
set_option maxRecDepth 20000 in
theorem c_rdCond {E : sxE} {T : List Int32} {k d D : Nat} {u : Nat → prT} (hk : k < 5) (hD : 4 ≤ D) (hu : goS T u) (hA : kU E T k d 0 D mX3_readUnit u) : kU E T k d 0 (D + 1) mX3_readCondition (fl_ T hiC loC u) := by
  intro X p w Q H hx hXl hp h
  have hT := H.2.1.1
  have hg := hu p hp
  unfold fl_ at h
  refine C_of (by decide +kernel) (Nat.le_of_ble_eq_true rfl) ?_
  refine V_aload_n (i := 0) (sx_di dX3_readCondition 0 rfl) rfl rfl ?_
  refine V_iload_n (i := 1) (sx_di dX3_readCondition 1 rfl) rfl rfl ?_
  refine V_iload_n (i := 2) (sx_di dX3_readCondition 2 rfl) rfl rfl ?_
  refine V_cV2 (mc' := 0) (ms' := 0) (M' := mX3_readUnit) D (sx_di dX3_readCondition 3 rfl) lX3_55 vX3_readUnit (by first | exact H.1.k _ rfl) (by decide) rfl (Nat.le_of_ble_eq_true rfl) ⟨by show D + 1 ≤ D + 1; omega, by show 64 + 64 * (D) ≤ 64 * (D + 1); omega⟩ ⟨Nat.le_refl _, Nat.le_refl _⟩ ?_
  refine hA X p w _ H hx hXl hp (fun w1 H1 f1 x1 => ?_)
  refine V_if_ne (tgt := 11) (sx_di dX3_readCondition 4 rfl) (by decide) (fun h6 => ?_) (fun h6 => ?_)
  · have b6 := bz9t h6
    rw [if_pos b6] at h
    refine V_iconst (v := 0) (sx_di dX3_readCondition 7 rfl) (by decide) ?_
    refine V_istore_n (i := 3) (sx_di dX3_readCondition 8 rfl) rfl (by decide) (rfl) ?_
    refine V_iconst (v := 0) (sx_di dX3_readCondition 9 rfl) (by decide) ?_
    refine V_istore (sx_di dX3_readCondition 10 rfl) (by decide) (rfl) ?_
    refine V_sub (ls' := [(4, .int (nI 0)), (3, .int 0), (1, .int (nI d)), (0, .ref 52)]) ⟨rfl, rfl, rfl, rfl, trivial⟩ ?_
    obtain ⟨e1, e2, e3⟩ := flF_pre (T := T) (hi := hiC) (lo := loC) (u := u) X T.length 0 (u p).2.1 (u p).2.2
    refine rc_lp hk hD hu hA T.length 0 0 0 (X ++ (u p).2.1) (u p).2.2 w1 (by omega) (by omega) hg.2.1 (Or.inl ⟨rfl, rfl⟩) (by rw [wt_0, List.length_append]; have := hg.2.2 b6; show _ + 0 ≤ _; omega) H1 (x1 b6) (fun w2 H2 f2 x2 => ?_)
    rw [e2] at H2
    rw [e1] at x2 ⊢
    exact h w2 H2 (fL_tr f1 f2) (fun z => by rw [← e3 z]; exact x2 z)
  · rw [if_neg (bz9f h6)] at h
    refine V_iconst (v := 0) (sx_di dX3_readCondition 5 rfl) (by decide) ?_
    refine V_zret (sx_di dX3_readCondition 6 rfl) rfl (by first | rfl | decide) (Nat.le_refl _) (Nat.le_refl _) ?_
    exact h w1 H1 f1 (fun z => absurd z Bool.false_ne_true)
/-- a condition whose first sum has been read, without it -/
def cb0_ (T : List Int32) (s u : Nat → prT) (p : Nat) : prT := if (cm_ T s [] p).1 = true then flF T hiC loC u T.length 0 (cm_ T s [] p).2.1 (cm_ T s [] p).2.2 else pf_ (cm_ T s [] p).2.2
set_option maxHeartbeats 2000000 in
set_option maxRecDepth 20000 in
theorem c_rdCondB {E : sxE} {T : List Int32} {k d D : Nat} {u s : Nat → prT} (hk : k < 5) (hD : 4 ≤ D) (hu : goS T u) (hA : kU E T k d 0 D mX3_readUnit u) (hs : goS T s) (hB : kU E T k d 1 D mX3_readUnit (cm_ T s [])) : kU E T k d 1 (D + 1) mX3_readCondition (cb0_ T s u) := by
  intro X p w Q H hx hXl hp h
  have hT := H.2.1.1
  have hg := cm_go hs [] hp
  unfold cb0_ at h
  refine C_of (by decide +kernel) (Nat.le_of_ble_eq_true rfl) ?_
  refine V_aload_n (i := 0) (sx_di dX3_readCondition 0 rfl) rfl rfl ?_
  refine V_iload_n (i := 1) (sx_di dX3_readCondition 1 rfl) rfl rfl ?_
  refine V_iload_n (i := 2) (sx_di dX3_readCondition 2 rfl) rfl rfl ?_
  refine V_cV2 (mc' := 0) (ms' := 0) (M' := mX3_readUnit) D (sx_di dX3_readCondition 3 rfl) lX3_55 vX3_readUnit (by first | exact H.1.k _ rfl) (by decide) rfl (Nat.le_of_ble_eq_true rfl) ⟨by show D + 1 ≤ D + 1; omega, by show 64 + 64 * (D) ≤ 64 * (D + 1); omega⟩ ⟨Nat.le_refl _, Nat.le_refl _⟩ ?_
  refine hB X p w _ H hx hXl hp (fun w1 H1 f1 x1 => ?_)
  refine V_if_ne (tgt := 11) (sx_di dX3_readCondition 4 rfl) (by decide) (fun h6 => ?_) (fun h6 => ?_)
  · have b6 := bz9t h6
    rw [if_pos b6] at h
    refine V_iconst (v := 0) (sx_di dX3_readCondition 7 rfl) (by decide) ?_
    refine V_istore_n (i := 3) (sx_di dX3_readCondition 8 rfl) rfl (by decide) (rfl) ?_
    refine V_iconst (v := 0) (sx_di dX3_readCondition 9 rfl) (by decide) ?_
    refine V_istore (sx_di dX3_readCondition 10 rfl) (by decide) (rfl) ?_
    refine V_sub (ls' := [(4, .int (nI 0)), (3, .int 0), (1, .int (nI d)), (0, .ref 52)]) ⟨rfl, rfl, rfl, rfl, trivial⟩ ?_
    obtain ⟨e1, e2, e3⟩ := flF_pre (T := T) (hi := hiC) (lo := loC) (u := u) X T.length 0 (cm_ T s [] p).2.1 (cm_ T s [] p).2.2
    refine rc_lp hk hD hu hA T.length 0 0 0 (X ++ (cm_ T s [] p).2.1) (cm_ T s [] p).2.2 w1 (by omega) (by omega) hg.2.1 (Or.inl ⟨rfl, rfl⟩) (by rw [wt_0, List.length_append]; have := hg.2.2 b6; show _ + 0 ≤ _; have : ([] : List Int32).length = 0 := rfl; omega) H1 (x1 b6) (fun w2 H2 f2 x2 => ?_)
    rw [e2] at H2
    rw [e1] at x2 ⊢
    exact h w2 H2 (fL_tr f1 f2) (fun z => by rw [← e3 z]; exact x2 z)
  · rw [if_neg (bz9f h6)] at h
    refine V_iconst (v := 0) (sx_di dX3_readCondition 5 rfl) (by decide) ?_
    refine V_zret (sx_di dX3_readCondition 6 rfl) rfl (by first | rfl | decide) (Nat.le_refl _) (Nat.le_refl _) ?_
    exact h w1 H1 f1 (fun z => absurd z Bool.false_ne_true)
theorem k_unit {E : sxE} {T : List Int32} {k : Nat} (hX : XO E) (hk : k < 5) : ∀ r d, d + r = 6 → kU E T k d 0 (19 + 3 * r) mX3_readUnit (uR T r)
  | 0, d, hd => c_rdUnit (Do := 0) hk hd (Nat.le_refl 6) (by decide) (by decide) (smR_go T 0) (k_sum hX hk hd) (Or.inl rfl)
  | r + 1, d, hd => by
    have hu := k_unit (T := T) hX hk r (d + 1) (by omega)
    have hc := c_rdCond hk (by omega) (uR_go T r) hu
    exact c_rdUnit (Ds := 6 + 2 * (r + 1)) (Do := 19 + 3 * r + 2) hk hd (by omega) (by omega) (by omega) (smR_go T (r + 1)) (k_sum hX hk hd) (Or.inr (c_rdOpened hk (by omega) (by omega) (by omega) (uR_go T r) (cdR_go T r) hu hc))
theorem k_cond {E : sxE} {T : List Int32} {k : Nat} (hX : XO E) (hk : k < 5) : kU E T k 0 0 38 mX3_readCondition (cdR T 6) := c_rdCond hk (by decide) (uR_go T 6) (k_unit hX hk 6 0 rfl)
theorem k_condB {E : sxE} {T : List Int32} {k : Nat} (hX : XO E) (hk : k < 5) : kU E T k 0 1 38 mX3_readCondition (cb0_ T (smR T 6) (uR T 6)) := c_rdCondB hk (by decide) (uR_go T 6) (k_unit hX hk 6 0 rfl) (smR_go T 6) (c_rdBegun (Ds := 18) hk (by decide) (by decide) (smR_go T 6) (k_sum hX hk rfl))

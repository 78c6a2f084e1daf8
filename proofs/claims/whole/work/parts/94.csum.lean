/-! the class reads a law: sums -/
theorem flF_pre {T : List Int32} {hi lo : Int32 → Bool} {u : Nat → prT} (Z : List Int32) : ∀ f w X p, (flF T hi lo u f w (Z ++ X) p).1 = (flF T hi lo u f w X p).1 ∧ (flF T hi lo u f w (Z ++ X) p).2.2 = (flF T hi lo u f w X p).2.2 ∧ ((flF T hi lo u f w X p).1 = true → (flF T hi lo u f w (Z ++ X) p).2.1 = Z ++ (flF T hi lo u f w X p).2.1)
  | 0, w, X, p => ⟨rfl, rfl, fun _ => List.append_assoc _ _ _⟩
  | f + 1, w, X, p => by
    unfold flF
    by_cases c1 : hi (cz_ T p) = true
    · rw [if_pos c1, if_pos c1]
      by_cases c2 : (u (skp_ T p + 1)).1 = true
      · rw [if_pos c2, if_pos c2, List.append_assoc Z, List.append_assoc Z]
        exact flF_pre Z f _ _ _
      · rw [if_neg c2, if_neg c2]
        exact ⟨rfl, rfl, fun z => absurd z Bool.false_ne_true⟩
    · rw [if_neg c1, if_neg c1]
      by_cases c3 : lo (cz_ T p) = true
      · rw [if_pos c3, if_pos c3]
        by_cases c2 : (u (skp_ T p + 1)).1 = true
        · rw [if_pos c2, if_pos c2, List.append_assoc Z, List.append_assoc Z]
          exact flF_pre Z f _ _ _
        · rw [if_neg c2, if_neg c2]
          exact ⟨rfl, rfl, fun z => absurd z Bool.false_ne_true⟩
      · rw [if_neg c3, if_neg c3]
        exact ⟨rfl, rfl, fun _ => List.append_assoc _ _ _⟩
set_option maxHeartbeats 2000000 in
set_option maxRecDepth 20000 in
theorem rs_end {E : sxE} {T : List Int32} {k D q : Nat} {v : Int32} {X : List Int32} {w : hpW} {Q : Option Value → hpW → Prop} (hk : k < 5) (hD : 4 ≤ D) (H : lrP T (22 + 6 * k) q w) (hx : lrX (22 + 6 * k) X w) (hl : X.length + (wt_ v).length ≤ 240) (h : ∀ w', lrP T (22 + 6 * k) q w' → fL (22 + 6 * k) w w' → lrX (22 + 6 * k) (X ++ wt_ v) w' → Q (some (.int 1)) w') : V E mX3_readSum (sx_rm (D + 1) 0 0) 0 0 0 0 138 [(2, .int v), (0, .ref 52)] [] w Q := by
  refine V_iload_n (i := 2) (sx_di dX3_readSum 69 rfl) rfl rfl ?_
  refine V_if_eq (tgt := 151) (sx_di dX3_readSum 70 rfl) (by decide) (fun h139 => ?_) (fun h139 => ?_)
  · rw [h139, wt_0, List.append_nil] at h
    refine V_iconst (v := 1) (sx_di dX3_readSum 76 rfl) (by decide) ?_
    refine V_zret (sx_di dX3_readSum 77 rfl) rfl (by first | rfl | decide) (Nat.le_refl _) (Nat.le_refl _) ?_
    exact h w H fL_rf hx
  · rw [wt_n h139] at h hl
    have hl2 : X.length < 240 := hl
    refine V_aload_n (i := 0) (sx_di dX3_readSum 71 rfl) rfl rfl ?_
    refine V_getR (sx_di dX3_readSum 72 rfl) fX3_15 (fun _ => rfl) (by first | exact H.1.k _ rfl) (by first | exact H.1.r _ _ rfl | exact H.2.2.1) ?_
    refine V_iload_n (i := 2) (sx_di dX3_readSum 73 rfl) rfl rfl ?_
    refine V_ineg (sx_di dX3_readSum 74 rfl) ?_
    refine V_cV1 (mc' := 0) (ms' := 0) (M' := mX1_add) 1 (sx_di dX3_readSum 75 rfl) lX3_58 vX1_add ((lw_law H.1 hk).1) (by decide) rfl (Nat.le_of_ble_eq_true rfl) ⟨by show 1 + 1 ≤ D + 1; omega, by show 64 + 64 * (1) ≤ 64 * (D + 1); omega⟩ ⟨Nat.le_refl _, Nat.le_refl _⟩ ?_
    refine c_add9 hk H hx hl2 (fun w1 H1 f1 x1 => ?_)
    refine V_iconst (v := 1) (sx_di dX3_readSum 76 rfl) (by decide) ?_
    refine V_zret (sx_di dX3_readSum 77 rfl) rfl (by first | rfl | decide) (Nat.le_refl _) (Nat.le_refl _) ?_
    exact h w1 H1 f1 x1
set_option maxHeartbeats 2000000 in
set_option maxRecDepth 20000 in
theorem rs_lp {E : sxE} {T : List Int32} {k d D : Nat} {u : Nat → prT} {Q : Option Value → hpW → Prop} (hk : k < 5) (hD : 4 ≤ D) (hu : goS T u) (hA : kA E T k d D mX3_readAtom u) : ∀ f i v X p w, i ≤ p → T.length ≤ p + f → p ≤ T.length → X.length + (wt_ v).length ≤ p → lrP T (22 + 6 * k) p w → lrX (22 + 6 * k) X w → (∀ w', lrP T (22 + 6 * k) (flF T hiS loS u f v X p).2.2 w' → fL (22 + 6 * k) w w' → ((flF T hiS loS u f v X p).1 = true → lrX (22 + 6 * k) (flF T hiS loS u f v X p).2.1 w') → Q (some (.int (bz9 (flF T hiS loS u f v X p).1))) w') → V E mX3_readSum (sx_rm (D + 1) 0 0) 0 0 0 0 14 [(3, .int (nI i)), (2, .int v), (1, .int (nI d)), (0, .ref 52)] [] w Q := by
  intro f
  have stop : ∀ f i v X p w, i ≤ p → p ≤ T.length → X.length + (wt_ v).length ≤ p → lrP T (22 + 6 * k) p w → lrX (22 + 6 * k) X w → T.length ≤ p → (∀ w', lrP T (22 + 6 * k) (flF T hiS loS u f v X p).2.2 w' → fL (22 + 6 * k) w w' → ((flF T hiS loS u f v X p).1 = true → lrX (22 + 6 * k) (flF T hiS loS u f v X p).2.1 w') → Q (some (.int (bz9 (flF T hiS loS u f v X p).1))) w') → V E mX3_readSum (sx_rm (D + 1) 0 0) 0 0 0 0 14 [(3, .int (nI i)), (2, .int v), (1, .int (nI d)), (0, .ref 52)] [] w Q := by
    intro f i v X p w hi hp hl H hx hpl h
    have hT := H.2.1.1
    have ec := cz_end hpl
    rw [flF_stop (by rw [ec]; decide) (by rw [ec]; decide)] at h
    have h2 : ∀ q, q = skp_ T p → ∀ w2, lrP T (22 + 6 * k) q w2 → fL (22 + 6 * k) w w2 → lrX (22 + 6 * k) X w2 → V E mX3_readSum (sx_rm (D + 1) 0 0) 0 0 0 0 138 [(2, .int v), (0, .ref 52)] [] w2 Q := fun q e w2 H2 f2 x2 => rs_end hk hD H2 x2 (by omega) (fun w3 H3 f3 x3 => h w3 (e ▸ H3) (fL_tr f2 f3) (fun _ => x3))
    refine V_iload_n (i := 3) (sx_di dX3_readSum 10 rfl) rfl rfl ?_
    refine V_sipush (v := 240) (sx_di dX3_readSum 11 rfl) (by decide) ?_
    refine V_icN_ge (a := i) (b := 240) (rfl) (rfl) (by omega) (by omega) (tgt := 138) (sx_di dX3_readSum 12 rfl) (by decide) (fun h18 => ?_) (fun h18 => ?_)
    · exact V_subk (h2 p (skp_end hpl).symm w H fL_rf hx) ⟨rfl, rfl, trivial⟩
    · refine V_aload_n (i := 0) (sx_di dX3_readSum 13 rfl) rfl rfl ?_
      refine V_getR (sx_di dX3_readSum 14 rfl) fX3_9 (fun _ => rfl) (by first | exact H.1.k _ rfl | exact H1.1.k _ rfl) (by first | exact H.1.r _ _ rfl | exact H1.1.r _ _ rfl | exact H.2.2.1 | exact H1.2.2.1) ?_
      refine V_cV0 (mc' := 0) (ms' := 0) (M' := mX10_sign) 1 (sx_di dX3_readSum 15 rfl) lX3_34 vX10_sign (by first | exact H.1.k _ rfl | exact H1.1.k _ rfl) (by decide) rfl (Nat.le_of_ble_eq_true rfl) ⟨by show 1 + 1 ≤ D + 1; omega, by show 64 + 64 * (1) ≤ 64 * (D + 1); omega⟩ ⟨Nat.le_refl _, Nat.le_refl _⟩ ?_
      refine c_sign9 (by omega) H hp (fun w1 H1 f1 x1 => ?_)
      rw [ec]
      refine V_istore (sx_di dX3_readSum 16 rfl) (by decide) (rfl) ?_
      refine V_iload (sx_di dX3_readSum 17 rfl) rfl ?_
      refine V_bipush (v := 43) (sx_di dX3_readSum 18 rfl) (by decide) ?_
      refine V_icmp_eq (tgt := 44) (sx_di dX3_readSum 19 rfl) (by decide) (fun h34 => absurd h34 (by decide)) (fun _ => ?_)
      refine V_iload (sx_di dX3_readSum 20 rfl) rfl ?_
      refine V_bipush (v := 45) (sx_di dX3_readSum 21 rfl) (by decide) ?_
      refine V_icmp_ne (tgt := 48) (sx_di dX3_readSum 22 rfl) (by decide) (fun _ => ?_) (fun h41 => absurd h41 (by decide))
      refine V_iconst (v := 0) (sx_di dX3_readSum 25 rfl) (by decide) ?_
      refine V_istore (sx_di dX3_readSum 26 rfl) (by decide) (rfl) ?_
      refine V_iload (sx_di dX3_readSum 27 rfl) rfl ?_
      refine V_ifN_ne (a := 0) (rfl) (by omega) (tgt := 73) (sx_di dX3_readSum 28 rfl) (by decide) (fun h53 => absurd rfl h53) (fun _ => ?_)
      refine V_iload (sx_di dX3_readSum 29 rfl) rfl ?_
      refine V_bipush (v := 42) (sx_di dX3_readSum 30 rfl) (by decide) ?_
      refine V_icmp_eq (tgt := 73) (sx_di dX3_readSum 31 rfl) (by decide) (fun h60 => absurd h60 (by decide)) (fun _ => ?_)
      refine V_iload (sx_di dX3_readSum 32 rfl) rfl ?_
      refine V_bipush (v := 47) (sx_di dX3_readSum 33 rfl) (by decide) ?_
      refine V_icmp_eq (tgt := 73) (sx_di dX3_readSum 34 rfl) (by decide) (fun h67 => absurd h67 (by decide)) (fun _ => ?_)
      refine V_goto (tgt := 138) (sx_di dX3_readSum 35 rfl) (by decide) ?_
      exact V_subk (h2 _ rfl w1 H1 f1 (x1 X hx)) ⟨rfl, rfl, trivial⟩
  induction f with
  | zero =>
    intro i v X p w hi hf hp hl H hx h
    exact stop 0 i v X p w hi hp hl H hx (by omega) h
  | succ f ih =>
    intro i v X p w hi hf hp hl H hx h
    have hT := H.2.1.1
    by_cases hpl : T.length ≤ p
    · exact stop (f + 1) i v X p w hi hp hl H hx hpl h
    · have g1 := skp_ge T p
      have g2 := skq_le (T := T) hp
      unfold flF at h
      refine V_iload_n (i := 3) (sx_di dX3_readSum 10 rfl) rfl rfl ?_
      refine V_sipush (v := 240) (sx_di dX3_readSum 11 rfl) (by decide) ?_
      refine V_icN_ge (a := i) (b := 240) (rfl) (rfl) (by omega) (by omega) (tgt := 138) (sx_di dX3_readSum 12 rfl) (by decide) (fun h18 => absurd h18 (by omega)) (fun _ => ?_)
      refine V_aload_n (i := 0) (sx_di dX3_readSum 13 rfl) rfl rfl ?_
      refine V_getR (sx_di dX3_readSum 14 rfl) fX3_9 (fun _ => rfl) (by first | exact H.1.k _ rfl | exact H1.1.k _ rfl) (by first | exact H.1.r _ _ rfl | exact H1.1.r _ _ rfl | exact H.2.2.1 | exact H1.2.2.1) ?_
      refine V_cV0 (mc' := 0) (ms' := 0) (M' := mX10_sign) 1 (sx_di dX3_readSum 15 rfl) lX3_34 vX10_sign (by first | exact H.1.k _ rfl | exact H1.1.k _ rfl) (by decide) rfl (Nat.le_of_ble_eq_true rfl) ⟨by show 1 + 1 ≤ D + 1; omega, by show 64 + 64 * (1) ≤ 64 * (D + 1); omega⟩ ⟨Nat.le_refl _, Nat.le_refl _⟩ ?_
      refine c_sign9 (by omega) H hp (fun w1 H1 f1 x1 => ?_)
      have hHi : hiS (cz_ T p) = true → V E mX3_readSum (sx_rm (D + 1) 0 0) 0 0 0 0 73 [(5, .int 1), (4, .int (cz_ T p)), (3, .int (nI i)), (2, .int v), (1, .int (nI d)), (0, .ref 52)] [] w1 Q := by
        intro hc
        have hq1 := cz_lt (T := T) (p := p) (fun q => by rw [q] at hc; exact absurd hc (by decide))
        have hg := hu (skp_ T p + 1) hq1
        rw [if_pos hc] at h
        refine V_aload_n (i := 0) (sx_di dX3_readSum 36 rfl) rfl rfl ?_
        refine V_getR (sx_di dX3_readSum 37 rfl) fX3_9 (fun _ => rfl) (by first | exact H.1.k _ rfl | exact H1.1.k _ rfl | exact H2.1.k _ rfl | exact H3.1.k _ rfl | exact H4.1.k _ rfl | exact H5.1.k _ rfl) (by first | exact H.1.r _ _ rfl | exact H1.1.r _ _ rfl | exact H2.1.r _ _ rfl | exact H3.1.r _ _ rfl | exact H4.1.r _ _ rfl | exact H5.1.r _ _ rfl | exact H.2.2.1 | exact H1.2.2.1 | exact H2.2.2.1 | exact H3.2.2.1 | exact H4.2.2.1 | exact H5.2.2.1) ?_
        refine V_dup (sx_di dX3_readSum 38 rfl) rfl ?_
        refine V_getI (sx_di dX3_readSum 39 rfl) fX3_24 (fun _ => rfl) (by first | exact H.1.k _ rfl | exact H1.1.k _ rfl | exact H2.1.k _ rfl | exact H3.1.k _ rfl | exact H4.1.k _ rfl | exact H5.1.k _ rfl) ?_
        refine V_iv (y := nI (skp_ T p)) (H1.2.2.2) ?_
        refine V_iconst (v := 1) (sx_di dX3_readSum 40 rfl) (by decide) ?_
        refine V_iadd (sx_di dX3_readSum 41 rfl) ?_
        refine V_iv (y := nI (skp_ T p + 1)) (nI_add _ 1) ?_
        refine V_putI (sx_di dX3_readSum 42 rfl) fX3_24 (fun _ => rfl) rfl (by first | exact H.1.k _ rfl | exact H1.1.k _ rfl | exact H2.1.k _ rfl | exact H3.1.k _ rfl | exact H4.1.k _ rfl | exact H5.1.k _ rfl) (rfl) (rfl) ?_
        refine V_hd9 (by omega) H1 (fun w2 H2 f2 x2 => ?_)
        refine V_iload (sx_di dX3_readSum 43 rfl) rfl ?_
        refine V_ifN_eq (a := 1) (rfl) (by omega) (tgt := 107) (sx_di dX3_readSum 44 rfl) (by decide) (fun h88 => absurd h88 (by omega)) (fun _ => ?_)
        refine V_iload_n (i := 2) (sx_di dX3_readSum 45 rfl) rfl rfl ?_
        refine V_if_eq (tgt := 104) (sx_di dX3_readSum 46 rfl) (by decide) (fun h92 => ?_) (fun h92 => ?_)
        · have eX : X ++ wt_ v = X := by rw [h92, wt_0, List.append_nil]
          refine V_iload (sx_di dX3_readSum 52 rfl) rfl ?_
          refine V_istore_n (i := 2) (sx_di dX3_readSum 53 rfl) rfl (by decide) (rfl) ?_
          refine V_aload_n (i := 0) (sx_di dX3_readSum 54 rfl) rfl rfl ?_
          refine V_iload_n (i := 1) (sx_di dX3_readSum 55 rfl) rfl rfl ?_
          refine V_cV1 (mc' := 0) (ms' := 0) (M' := mX3_readAtom) D (sx_di dX3_readSum 56 rfl) lX3_66 vX3_readAtom (by first | exact H.1.k _ rfl | exact H1.1.k _ rfl | exact H2.1.k _ rfl | exact H3.1.k _ rfl | exact H4.1.k _ rfl | exact H5.1.k _ rfl) (by decide) rfl (Nat.le_of_ble_eq_true rfl) ⟨by show D + 1 ≤ D + 1; omega, by show 64 + 64 * (D) ≤ 64 * (D + 1); omega⟩ ⟨Nat.le_refl _, Nat.le_refl _⟩ ?_
          refine hA (X ++ wt_ v) (skp_ T p + 1) w2 _ H2 (by rw [eX]; exact x2 _ (x1 _ hx)) (by rw [List.length_append]; omega) hq1 (fun w4 H4 f4 x4 => ?_)
          refine V_if_ne (tgt := 117) (sx_di dX3_readSum 57 rfl) (by decide) (fun h112 => ?_) (fun h112 => ?_)
          · have b112 := bz9t h112
            rw [if_pos b112] at h
            refine V_iload (sx_di dX3_readSum 60 rfl) rfl ?_
            refine V_ifN_ne (a := 1) (rfl) (by omega) (tgt := 132) (sx_di dX3_readSum 61 rfl) (by decide) (fun _ => ?_) (fun h119 => absurd h119 (by omega))
            refine V_inc (c := 1) (sx_di dX3_readSum 67 rfl) (by decide) rfl (by decide) (rfl) ?_
            refine V_goto (tgt := 14) (sx_di dX3_readSum 68 rfl) (by decide) ?_
            have q1 := ih (i + 1) (cz_ T p) (X ++ wt_ v ++ (u (skp_ T p + 1)).2.1) (u (skp_ T p + 1)).2.2 w4 (by omega) (by omega) hg.2.1 (by rw [List.length_append, List.length_append]; have := wt_len (cz_ T p); have := hg.2.2 b112; omega) H4 (x4 b112) (fun w5 H5 f5 x5 => h w5 H5 (fL_tr (fL_tr f1 (fL_tr f2 f4)) f5) x5)
            rw [← nI_1 (a := i)] at q1
            exact V_subk q1 ⟨rfl, rfl, rfl, rfl, trivial⟩
          · rw [if_neg (bz9f h112)] at h
            refine V_iconst (v := 0) (sx_di dX3_readSum 58 rfl) (by decide) ?_
            refine V_zret (sx_di dX3_readSum 59 rfl) rfl (by first | rfl | decide) (Nat.le_refl _) (Nat.le_refl _) ?_
            exact h w4 H4 (fL_tr f1 (fL_tr f2 f4)) (fun z => absurd z Bool.false_ne_true)
        · have eX : X ++ wt_ v = X ++ [-v] := by rw [wt_n h92]
          refine V_aload_n (i := 0) (sx_di dX3_readSum 47 rfl) rfl rfl ?_
          refine V_getR (sx_di dX3_readSum 48 rfl) fX3_15 (fun _ => rfl) (by first | exact H.1.k _ rfl | exact H1.1.k _ rfl | exact H2.1.k _ rfl | exact H3.1.k _ rfl | exact H4.1.k _ rfl | exact H5.1.k _ rfl) (by first | exact H.1.r _ _ rfl | exact H1.1.r _ _ rfl | exact H2.1.r _ _ rfl | exact H3.1.r _ _ rfl | exact H4.1.r _ _ rfl | exact H5.1.r _ _ rfl | exact H.2.2.1 | exact H1.2.2.1 | exact H2.2.2.1 | exact H3.2.2.1 | exact H4.2.2.1 | exact H5.2.2.1) ?_
          refine V_iload_n (i := 2) (sx_di dX3_readSum 49 rfl) rfl rfl ?_
          refine V_ineg (sx_di dX3_readSum 50 rfl) ?_
          refine V_cV1 (mc' := 0) (ms' := 0) (M' := mX1_add) 1 (sx_di dX3_readSum 51 rfl) lX3_58 vX1_add ((lw_law H2.1 hk).1) (by decide) rfl (Nat.le_of_ble_eq_true rfl) ⟨by show 1 + 1 ≤ D + 1; omega, by show 64 + 64 * (1) ≤ 64 * (D + 1); omega⟩ ⟨Nat.le_refl _, Nat.le_refl _⟩ ?_
          refine c_add9 hk H2 (x2 X (x1 X hx)) (by omega) (fun w3 H3 f3 x3 => ?_)
          refine V_iload (sx_di dX3_readSum 52 rfl) rfl ?_
          refine V_istore_n (i := 2) (sx_di dX3_readSum 53 rfl) rfl (by decide) (rfl) ?_
          refine V_aload_n (i := 0) (sx_di dX3_readSum 54 rfl) rfl rfl ?_
          refine V_iload_n (i := 1) (sx_di dX3_readSum 55 rfl) rfl rfl ?_
          refine V_cV1 (mc' := 0) (ms' := 0) (M' := mX3_readAtom) D (sx_di dX3_readSum 56 rfl) lX3_66 vX3_readAtom (by first | exact H.1.k _ rfl | exact H1.1.k _ rfl | exact H2.1.k _ rfl | exact H3.1.k _ rfl | exact H4.1.k _ rfl | exact H5.1.k _ rfl) (by decide) rfl (Nat.le_of_ble_eq_true rfl) ⟨by show D + 1 ≤ D + 1; omega, by show 64 + 64 * (D) ≤ 64 * (D + 1); omega⟩ ⟨Nat.le_refl _, Nat.le_refl _⟩ ?_
          refine hA (X ++ wt_ v) (skp_ T p + 1) w3 _ H3 (by rw [eX]; exact x3) (by rw [List.length_append]; omega) hq1 (fun w4 H4 f4 x4 => ?_)
          refine V_if_ne (tgt := 117) (sx_di dX3_readSum 57 rfl) (by decide) (fun h112 => ?_) (fun h112 => ?_)
          · have b112 := bz9t h112
            rw [if_pos b112] at h
            refine V_iload (sx_di dX3_readSum 60 rfl) rfl ?_
            refine V_ifN_ne (a := 1) (rfl) (by omega) (tgt := 132) (sx_di dX3_readSum 61 rfl) (by decide) (fun _ => ?_) (fun h119 => absurd h119 (by omega))
            refine V_inc (c := 1) (sx_di dX3_readSum 67 rfl) (by decide) rfl (by decide) (rfl) ?_
            refine V_goto (tgt := 14) (sx_di dX3_readSum 68 rfl) (by decide) ?_
            have q1 := ih (i + 1) (cz_ T p) (X ++ wt_ v ++ (u (skp_ T p + 1)).2.1) (u (skp_ T p + 1)).2.2 w4 (by omega) (by omega) hg.2.1 (by rw [List.length_append, List.length_append]; have := wt_len (cz_ T p); have := hg.2.2 b112; omega) H4 (x4 b112) (fun w5 H5 f5 x5 => h w5 H5 (fL_tr (fL_tr f1 (fL_tr f2 (fL_tr f3 f4))) f5) x5)
            rw [← nI_1 (a := i)] at q1
            exact V_subk q1 ⟨rfl, rfl, rfl, rfl, trivial⟩
          · rw [if_neg (bz9f h112)] at h
            refine V_iconst (v := 0) (sx_di dX3_readSum 58 rfl) (by decide) ?_
            refine V_zret (sx_di dX3_readSum 59 rfl) rfl (by first | rfl | decide) (Nat.le_refl _) (Nat.le_refl _) ?_
            exact h w4 H4 (fL_tr f1 (fL_tr f2 (fL_tr f3 f4))) (fun z => absurd z Bool.false_ne_true)
      have hLo : ¬ hiS (cz_ T p) = true → loS (cz_ T p) = true → V E mX3_readSum (sx_rm (D + 1) 0 0) 0 0 0 0 73 [(5, .int 0), (4, .int (cz_ T p)), (3, .int (nI i)), (2, .int v), (1, .int (nI d)), (0, .ref 52)] [] w1 Q := by
        intro hc1 hc
        have hq1 := cz_lt (T := T) (p := p) (fun q => by rw [q] at hc; exact absurd hc (by decide))
        have hg := hu (skp_ T p + 1) hq1
        rw [if_neg hc1, if_pos hc] at h
        refine V_aload_n (i := 0) (sx_di dX3_readSum 36 rfl) rfl rfl ?_
        refine V_getR (sx_di dX3_readSum 37 rfl) fX3_9 (fun _ => rfl) (by first | exact H.1.k _ rfl | exact H1.1.k _ rfl | exact H2.1.k _ rfl | exact H3.1.k _ rfl | exact H4.1.k _ rfl | exact H5.1.k _ rfl) (by first | exact H.1.r _ _ rfl | exact H1.1.r _ _ rfl | exact H2.1.r _ _ rfl | exact H3.1.r _ _ rfl | exact H4.1.r _ _ rfl | exact H5.1.r _ _ rfl | exact H.2.2.1 | exact H1.2.2.1 | exact H2.2.2.1 | exact H3.2.2.1 | exact H4.2.2.1 | exact H5.2.2.1) ?_
        refine V_dup (sx_di dX3_readSum 38 rfl) rfl ?_
        refine V_getI (sx_di dX3_readSum 39 rfl) fX3_24 (fun _ => rfl) (by first | exact H.1.k _ rfl | exact H1.1.k _ rfl | exact H2.1.k _ rfl | exact H3.1.k _ rfl | exact H4.1.k _ rfl | exact H5.1.k _ rfl) ?_
        refine V_iv (y := nI (skp_ T p)) (H1.2.2.2) ?_
        refine V_iconst (v := 1) (sx_di dX3_readSum 40 rfl) (by decide) ?_
        refine V_iadd (sx_di dX3_readSum 41 rfl) ?_
        refine V_iv (y := nI (skp_ T p + 1)) (nI_add _ 1) ?_
        refine V_putI (sx_di dX3_readSum 42 rfl) fX3_24 (fun _ => rfl) rfl (by first | exact H.1.k _ rfl | exact H1.1.k _ rfl | exact H2.1.k _ rfl | exact H3.1.k _ rfl | exact H4.1.k _ rfl | exact H5.1.k _ rfl) (rfl) (rfl) ?_
        refine V_hd9 (by omega) H1 (fun w2 H2 f2 x2 => ?_)
        refine V_iload (sx_di dX3_readSum 43 rfl) rfl ?_
        refine V_ifN_eq (a := 0) (rfl) (by omega) (tgt := 107) (sx_di dX3_readSum 44 rfl) (by decide) (fun _ => ?_) (fun h88 => absurd h88 (by omega))
        refine V_aload_n (i := 0) (sx_di dX3_readSum 54 rfl) rfl rfl ?_
        refine V_iload_n (i := 1) (sx_di dX3_readSum 55 rfl) rfl rfl ?_
        refine V_cV1 (mc' := 0) (ms' := 0) (M' := mX3_readAtom) D (sx_di dX3_readSum 56 rfl) lX3_66 vX3_readAtom (by first | exact H.1.k _ rfl | exact H1.1.k _ rfl | exact H2.1.k _ rfl | exact H3.1.k _ rfl | exact H4.1.k _ rfl | exact H5.1.k _ rfl) (by decide) rfl (Nat.le_of_ble_eq_true rfl) ⟨by show D + 1 ≤ D + 1; omega, by show 64 + 64 * (D) ≤ 64 * (D + 1); omega⟩ ⟨Nat.le_refl _, Nat.le_refl _⟩ ?_
        refine hA X (skp_ T p + 1) w2 _ H2 (x2 _ (x1 _ hx)) (by omega) hq1 (fun w4 H4 f4 x4 => ?_)
        refine V_if_ne (tgt := 117) (sx_di dX3_readSum 57 rfl) (by decide) (fun h112 => ?_) (fun h112 => ?_)
        · have b112 := bz9t h112
          rw [if_pos b112] at h
          refine V_iload (sx_di dX3_readSum 60 rfl) rfl ?_
          refine V_ifN_ne (a := 0) (rfl) (by omega) (tgt := 132) (sx_di dX3_readSum 61 rfl) (by decide) (fun h119 => absurd h119 (by omega)) (fun _ => ?_)
          refine V_aload_n (i := 0) (sx_di dX3_readSum 62 rfl) rfl rfl ?_
          refine V_getR (sx_di dX3_readSum 63 rfl) fX3_15 (fun _ => rfl) (by first | exact H.1.k _ rfl | exact H1.1.k _ rfl | exact H2.1.k _ rfl | exact H3.1.k _ rfl | exact H4.1.k _ rfl | exact H5.1.k _ rfl) (by first | exact H.1.r _ _ rfl | exact H1.1.r _ _ rfl | exact H2.1.r _ _ rfl | exact H3.1.r _ _ rfl | exact H4.1.r _ _ rfl | exact H5.1.r _ _ rfl | exact H.2.2.1 | exact H1.2.2.1 | exact H2.2.2.1 | exact H3.2.2.1 | exact H4.2.2.1 | exact H5.2.2.1) ?_
          refine V_iload (sx_di dX3_readSum 64 rfl) rfl ?_
          refine V_ineg (sx_di dX3_readSum 65 rfl) ?_
          refine V_cV1 (mc' := 0) (ms' := 0) (M' := mX1_add) 1 (sx_di dX3_readSum 66 rfl) lX3_58 vX1_add ((lw_law H4.1 hk).1) (by decide) rfl (Nat.le_of_ble_eq_true rfl) ⟨by show 1 + 1 ≤ D + 1; omega, by show 64 + 64 * (1) ≤ 64 * (D + 1); omega⟩ ⟨Nat.le_refl _, Nat.le_refl _⟩ ?_
          refine c_add9 hk H4 (x4 b112) (by rw [List.length_append]; have := hg.2.2 b112; omega) (fun w5 H5 f5 x5 => ?_)
          refine V_inc (c := 1) (sx_di dX3_readSum 67 rfl) (by decide) rfl (by decide) (rfl) ?_
          refine V_goto (tgt := 14) (sx_di dX3_readSum 68 rfl) (by decide) ?_
          have q1 := ih (i + 1) v (X ++ (u (skp_ T p + 1)).2.1 ++ [-cz_ T p]) (u (skp_ T p + 1)).2.2 w5 (by omega) (by omega) hg.2.1 (by rw [List.length_append, List.length_append, List.length_singleton]; have := hg.2.2 b112; omega) H5 x5 (fun w6 H6 f6 x6 => h w6 H6 (fL_tr (fL_tr f1 (fL_tr f2 (fL_tr f4 f5))) f6) x6)
          rw [← nI_1 (a := i)] at q1
          exact V_subk q1 ⟨rfl, rfl, rfl, rfl, trivial⟩
        · rw [if_neg (bz9f h112)] at h
          refine V_iconst (v := 0) (sx_di dX3_readSum 58 rfl) (by decide) ?_
          refine V_zret (sx_di dX3_readSum 59 rfl) rfl (by first | rfl | decide) (Nat.le_refl _) (Nat.le_refl _) ?_
          exact h w4 H4 (fL_tr f1 (fL_tr f2 f4)) (fun z => absurd z Bool.false_ne_true)
      have hEn : ¬ hiS (cz_ T p) = true → ¬ loS (cz_ T p) = true → V E mX3_readSum (sx_rm (D + 1) 0 0) 0 0 0 0 138 [(2, .int v), (0, .ref 52)] [] w1 Q := by
        intro hc1 hc
        rw [if_neg hc1, if_neg hc] at h
        exact rs_end hk hD H1 (x1 X hx) (by omega) (fun w3 H3 f3 x3 => h w3 H3 (fL_tr f1 f3) (fun _ => x3))
      refine V_istore (sx_di dX3_readSum 16 rfl) (by decide) (rfl) ?_
      refine V_iload (sx_di dX3_readSum 17 rfl) rfl ?_
      refine V_bipush (v := 43) (sx_di dX3_readSum 18 rfl) (by decide) ?_
      refine V_icmp_eq (tgt := 44) (sx_di dX3_readSum 19 rfl) (by decide) (fun h34 => ?_) (fun h34 => ?_)
      · refine V_iconst (v := 1) (sx_di dX3_readSum 23 rfl) (by decide) ?_
        refine V_goto (tgt := 49) (sx_di dX3_readSum 24 rfl) (by decide) ?_
        refine V_istore (sx_di dX3_readSum 26 rfl) (by decide) (rfl) ?_
        refine V_iload (sx_di dX3_readSum 27 rfl) rfl ?_
        refine V_ifN_ne (a := 1) (rfl) (by omega) (tgt := 73) (sx_di dX3_readSum 28 rfl) (by decide) (fun _ => ?_) (fun h53 => absurd h53 (by decide))
        exact V_subk (hHi (decide_eq_true (Or.inl h34))) ⟨rfl, rfl, rfl, rfl, rfl, rfl, trivial⟩
      · refine V_iload (sx_di dX3_readSum 20 rfl) rfl ?_
        refine V_bipush (v := 45) (sx_di dX3_readSum 21 rfl) (by decide) ?_
        refine V_icmp_ne (tgt := 48) (sx_di dX3_readSum 22 rfl) (by decide) (fun h41 => ?_) (fun h41 => ?_)
        · have n1 : ¬ hiS (cz_ T p) = true := fun z => (of_decide_eq_true z).elim h34 h41
          refine V_iconst (v := 0) (sx_di dX3_readSum 25 rfl) (by decide) ?_
          refine V_istore (sx_di dX3_readSum 26 rfl) (by decide) (rfl) ?_
          refine V_iload (sx_di dX3_readSum 27 rfl) rfl ?_
          refine V_ifN_ne (a := 0) (rfl) (by omega) (tgt := 73) (sx_di dX3_readSum 28 rfl) (by decide) (fun h53 => absurd rfl h53) (fun _ => ?_)
          refine V_iload (sx_di dX3_readSum 29 rfl) rfl ?_
          refine V_bipush (v := 42) (sx_di dX3_readSum 30 rfl) (by decide) ?_
          refine V_icmp_eq (tgt := 73) (sx_di dX3_readSum 31 rfl) (by decide) (fun h60 => ?_) (fun h60 => ?_)
          · exact V_subk (hLo n1 (decide_eq_true (Or.inl h60))) ⟨rfl, rfl, rfl, rfl, rfl, rfl, trivial⟩
          · refine V_iload (sx_di dX3_readSum 32 rfl) rfl ?_
            refine V_bipush (v := 47) (sx_di dX3_readSum 33 rfl) (by decide) ?_
            refine V_icmp_eq (tgt := 73) (sx_di dX3_readSum 34 rfl) (by decide) (fun h67 => ?_) (fun h67 => ?_)
            · exact V_subk (hLo n1 (decide_eq_true (Or.inr h67))) ⟨rfl, rfl, rfl, rfl, rfl, rfl, trivial⟩
            · refine V_goto (tgt := 138) (sx_di dX3_readSum 35 rfl) (by decide) ?_
              exact V_subk (hEn n1 (fun z => (of_decide_eq_true z).elim h60 h67)) ⟨rfl, rfl, trivial⟩
        · refine V_iconst (v := 1) (sx_di dX3_readSum 23 rfl) (by decide) ?_
          refine V_goto (tgt := 49) (sx_di dX3_readSum 24 rfl) (by decide) ?_
          refine V_istore (sx_di dX3_readSum 26 rfl) (by decide) (rfl) ?_
          refine V_iload (sx_di dX3_readSum 27 rfl) rfl ?_
          refine V_ifN_ne (a := 1) (rfl) (by omega) (tgt := 73) (sx_di dX3_readSum 28 rfl) (by decide) (fun _ => ?_) (fun h53 => absurd h53 (by decide))
          exact V_subk (hHi (decide_eq_true (Or.inr h41))) ⟨rfl, rfl, rfl, rfl, rfl, rfl, trivial⟩
set_option maxHeartbeats 2000000 in
set_option maxRecDepth 20000 in
theorem c_rdSum {E : sxE} {T : List Int32} {k d D : Nat} {u : Nat → prT} (hk : k < 5) (hD : 4 ≤ D) (hu : goS T u) (hA : kA E T k d D mX3_readAtom u) : kA E T k d (D + 1) mX3_readSum (fl_ T hiS loS u) := by
  intro X p w Q H hx hXl hp h
  have hT := H.2.1.1
  have hg := hu p hp
  unfold fl_ at h
  refine C_of (by decide +kernel) (Nat.le_of_ble_eq_true rfl) ?_
  refine V_aload_n (i := 0) (sx_di dX3_readSum 0 rfl) rfl rfl ?_
  refine V_iload_n (i := 1) (sx_di dX3_readSum 1 rfl) rfl rfl ?_
  refine V_cV1 (mc' := 0) (ms' := 0) (M' := mX3_readAtom) D (sx_di dX3_readSum 2 rfl) lX3_66 vX3_readAtom (by first | exact H.1.k _ rfl) (by decide) rfl (Nat.le_of_ble_eq_true rfl) ⟨by show D + 1 ≤ D + 1; omega, by show 64 + 64 * (D) ≤ 64 * (D + 1); omega⟩ ⟨Nat.le_refl _, Nat.le_refl _⟩ ?_
  refine hA X p w _ H hx hXl hp (fun w1 H1 f1 x1 => ?_)
  refine V_if_ne (tgt := 10) (sx_di dX3_readSum 3 rfl) (by decide) (fun h5 => ?_) (fun h5 => ?_)
  · have b5 := bz9t h5
    rw [if_pos b5] at h
    refine V_iconst (v := 0) (sx_di dX3_readSum 6 rfl) (by decide) ?_
    refine V_istore_n (i := 2) (sx_di dX3_readSum 7 rfl) rfl (by decide) (rfl) ?_
    refine V_iconst (v := 0) (sx_di dX3_readSum 8 rfl) (by decide) ?_
    refine V_istore_n (i := 3) (sx_di dX3_readSum 9 rfl) rfl (by decide) (rfl) ?_
    refine V_sub (ls' := [(3, .int (nI 0)), (2, .int 0), (1, .int (nI d)), (0, .ref 52)]) ⟨rfl, rfl, rfl, rfl, trivial⟩ ?_
    obtain ⟨e1, e2, e3⟩ := flF_pre (T := T) (hi := hiS) (lo := loS) (u := u) X T.length 0 (u p).2.1 (u p).2.2
    refine rs_lp hk hD hu hA T.length 0 0 (X ++ (u p).2.1) (u p).2.2 w1 (by omega) (by omega) hg.2.1 (by rw [wt_0, List.length_append]; have := hg.2.2 b5; show _ + 0 ≤ _; omega) H1 (x1 b5) (fun w2 H2 f2 x2 => ?_)
    rw [e2] at H2
    rw [e1] at x2 ⊢
    exact h w2 H2 (fL_tr f1 f2) (fun z => by rw [← e3 z]; exact x2 z)
  · rw [if_neg (bz9f h5)] at h
    refine V_iconst (v := 0) (sx_di dX3_readSum 4 rfl) (by decide) ?_
    refine V_zret (sx_di dX3_readSum 5 rfl) rfl (by first | rfl | decide) (Nat.le_refl _) (Nat.le_refl _) ?_
    exact h w1 H1 f1 (fun z => absurd z Bool.false_ne_true)
/-- atoms and sums, at every depth -/
theorem k_atom {E : sxE} {T : List Int32} {k : Nat} (hX : XO E) (hk : k < 5) : ∀ r d, d + r = 6 → kA E T k d (5 + 2 * r) mX3_readAtom (atR T r)
  | 0, d, hd => c_rdAtom hX hk hd (by decide) (Or.inl rfl) (Or.inl rfl)
  | r + 1, d, hd => c_rdAtom (D := 5 + 2 * r + 1) hX hk hd (by omega) (Or.inr (smR_go T r)) (Or.inr (c_rdSum hk (by omega) (atR_go T r) (k_atom hX hk r (d + 1) (by omega))))
theorem k_sum {E : sxE} {T : List Int32} {k : Nat} (hX : XO E) (hk : k < 5) {r d : Nat} (hd : d + r = 6) : kA E T k d (6 + 2 * r) mX3_readSum (smR T r) := by
  have e : 6 + 2 * r = 5 + 2 * r + 1 := by omega
  rw [e]
  exact c_rdSum hk (by omega) (atR_go T r) (k_atom hX hk r d hd)

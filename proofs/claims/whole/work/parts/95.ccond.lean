/-! the class reads a law: conditions -/
set_option maxHeartbeats 2000000 in
set_option maxRecDepth 20000 in
theorem c_X3_isComparing {E : sxE} {w : hpW} {Q : Option Value → hpW → Prop} {c : Int32} (h : Q (some (.int (bz9 (isC c)))) w) : sx_C E mX3_isComparing 1 0 0 [.int c] w Q := by
  refine C_of (by decide +kernel) (Nat.le_of_ble_eq_true rfl) ?_
  refine V_iload_n (i := 0) (sx_di dX3_isComparing 0 rfl) rfl rfl ?_
  refine V_bipush (v := 61) (sx_di dX3_isComparing 1 rfl) (by decide) ?_
  refine V_icmp_eq (tgt := 18) (sx_di dX3_isComparing 2 rfl) (by decide) (fun h3 => ?_) (fun h3 => ?_)
  · refine V_iconst (v := 1) (sx_di dX3_isComparing 9 rfl) (by decide) ?_
    refine V_goto (tgt := 23) (sx_di dX3_isComparing 10 rfl) (by decide) ?_
    refine V_zret (sx_di dX3_isComparing 12 rfl) rfl (by first | rfl | decide) (Nat.le_refl _) (Nat.le_refl _) ?_
    rw [show isC c = true from decide_eq_true (Or.inl h3)] at h
    exact h
  · refine V_iload_n (i := 0) (sx_di dX3_isComparing 3 rfl) rfl rfl ?_
    refine V_bipush (v := 60) (sx_di dX3_isComparing 4 rfl) (by decide) ?_
    refine V_icmp_eq (tgt := 18) (sx_di dX3_isComparing 5 rfl) (by decide) (fun h9 => ?_) (fun h9 => ?_)
    · refine V_iconst (v := 1) (sx_di dX3_isComparing 9 rfl) (by decide) ?_
      refine V_goto (tgt := 23) (sx_di dX3_isComparing 10 rfl) (by decide) ?_
      refine V_zret (sx_di dX3_isComparing 12 rfl) rfl (by first | rfl | decide) (Nat.le_refl _) (Nat.le_refl _) ?_
      rw [show isC c = true from decide_eq_true (Or.inr (Or.inl h9))] at h
      exact h
    · refine V_iload_n (i := 0) (sx_di dX3_isComparing 6 rfl) rfl rfl ?_
      refine V_bipush (v := 62) (sx_di dX3_isComparing 7 rfl) (by decide) ?_
      refine V_icmp_ne (tgt := 22) (sx_di dX3_isComparing 8 rfl) (by decide) (fun h15 => ?_) (fun h15 => ?_)
      · refine V_iconst (v := 0) (sx_di dX3_isComparing 11 rfl) (by decide) ?_
        refine V_zret (sx_di dX3_isComparing 12 rfl) rfl (by first | rfl | decide) (Nat.le_refl _) (Nat.le_refl _) ?_
        rw [show isC c = false from decide_eq_false (fun z => z.elim h3 (fun z => z.elim h9 h15))] at h
        exact h
      · refine V_iconst (v := 1) (sx_di dX3_isComparing 9 rfl) (by decide) ?_
        refine V_goto (tgt := 23) (sx_di dX3_isComparing 10 rfl) (by decide) ?_
        refine V_zret (sx_di dX3_isComparing 12 rfl) rfl (by first | rfl | decide) (Nat.le_refl _) (Nat.le_refl _) ?_
        rw [show isC c = true from decide_eq_true (Or.inr (Or.inr h15))] at h
        exact h
def kU (E : sxE) (T : List Int32) (k d : Nat) (b : Int32) (D : Nat) (M : sxM) (u : Nat → prT) : Prop := ∀ (X : List Int32) (p : Nat) (w : hpW) (Q : Option Value → hpW → Prop), lrP T (22 + 6 * k) p w → lrX (22 + 6 * k) X w → X.length ≤ p → p ≤ T.length → (∀ w', lrP T (22 + 6 * k) (u p).2.2 w' → fL (22 + 6 * k) w w' → ((u p).1 = true → lrX (22 + 6 * k) (X ++ (u p).2.1) w') → Q (some (.int (bz9 (u p).1))) w') → sx_C E M D 0 0 [.ref 52, .int (nI d), .int b] w Q
/-- what stands behind an opening sign at q -/
def op9 (T : List Int32) (c : Int32) (u cn : Nat → prT) (q : Nat) : prT := if c = 33 then (if (u (q + 1)).1 = true then (true, (u (q + 1)).2.1 ++ [-33], (u (q + 1)).2.2) else pf_ (u (q + 1)).2.2) else clo_ T 41 (cn (q + 1))
def kO (E : sxE) (T : List Int32) (k d D : Nat) (u cn : Nat → prT) : Prop := ∀ (c : Int32) (X : List Int32) (p : Nat) (w : hpW) (Q : Option Value → hpW → Prop), lrP T (22 + 6 * k) p w → lrX (22 + 6 * k) X w → X.length ≤ p → p + 1 ≤ T.length → (∀ w', lrP T (22 + 6 * k) (op9 T c u cn p).2.2 w' → fL (22 + 6 * k) w w' → ((op9 T c u cn p).1 = true → lrX (22 + 6 * k) (X ++ (op9 T c u cn p).2.1) w') → Q (some (.int (bz9 (op9 T c u cn p).1))) w') → sx_C E mX3_readOpened D 0 0 [.ref 52, .int (nI d), .int c] w Q
theorem cm_skp {T : List Int32} {s : Nat → prT} {X : List Int32} {p : Nat} : cm_ T s X (skp_ T p) = cm_ T s X p := by unfold cm_; rw [cz_id, skp_id]
theorem cm_pre {T : List Int32} {s : Nat → prT} (Z : List Int32) (p : Nat) : (cm_ T s Z p).1 = (cm_ T s [] p).1 ∧ (cm_ T s Z p).2.2 = (cm_ T s [] p).2.2 ∧ ((cm_ T s [] p).1 = true → (cm_ T s Z p).2.1 = Z ++ (cm_ T s [] p).2.1) := by
  unfold cm_
  by_cases c1 : isC (cz_ T p) = true
  · rw [if_pos c1, if_pos c1]
    by_cases c2 : (s (skp_ T p + 1)).1 = true
    · rw [if_pos c2, if_pos c2]
      exact ⟨rfl, rfl, fun _ => List.append_assoc _ _ _⟩
    · rw [if_neg c2, if_neg c2]
      exact ⟨rfl, rfl, fun z => absurd z Bool.false_ne_true⟩
  · rw [if_neg c1, if_neg c1]
    exact ⟨rfl, rfl, fun z => absurd z Bool.false_ne_true⟩
set_option maxHeartbeats 2000000 in
set_option maxRecDepth 20000 in
theorem ru_61 {E : sxE} {T : List Int32} {k d Ds Du p : Nat} {s : Nat → prT} {X : List Int32} {w : hpW} {Q : Option Value → hpW → Prop} (hk : k < 5) (h6 : 6 ≤ Ds) (h1 : Ds + 1 ≤ Du) (hg : goS T s) (hs : kA E T k d Ds mX3_readSum s) (H : lrP T (22 + 6 * k) p w) (hx : lrX (22 + 6 * k) X w) (hXl : X.length ≤ p) (hp : p ≤ T.length) (h : (∀ w', lrP T (22 + 6 * k) (cm_ T s [] p).2.2 w' → fL (22 + 6 * k) w w' → ((cm_ T s [] p).1 = true → lrX (22 + 6 * k) (X ++ (cm_ T s [] p).2.1) w') → Q (some (.int (bz9 (cm_ T s [] p).1))) w')) : V E mX3_readUnit (sx_rm Du 0 0) 0 0 0 0 61 [(1, .int (nI d)), (0, .ref 52)] [] w Q := by
  have hT := H.2.1.1
  have g1 := skp_ge T p
  have g2 := skq_le (T := T) hp
  unfold cm_ at h
  refine V_aload_n (i := 0) (sx_di dX3_readUnit 34 rfl) rfl rfl ?_
  refine V_getR (sx_di dX3_readUnit 35 rfl) fX3_9 (fun _ => rfl) (by first | exact H.1.k _ rfl | exact H1.1.k _ rfl | exact H2.1.k _ rfl | exact H3.1.k _ rfl | exact H4.1.k _ rfl | exact H5.1.k _ rfl) (by first | exact H.1.r _ _ rfl | exact H1.1.r _ _ rfl | exact H2.1.r _ _ rfl | exact H3.1.r _ _ rfl | exact H4.1.r _ _ rfl | exact H5.1.r _ _ rfl | exact H.2.2.1 | exact H1.2.2.1 | exact H2.2.2.1 | exact H3.2.2.1 | exact H4.2.2.1 | exact H5.2.2.1) ?_
  refine V_cV0 (mc' := 0) (ms' := 0) (M' := mX10_sign) 1 (sx_di dX3_readUnit 36 rfl) lX3_34 vX10_sign (by first | exact H.1.k _ rfl | exact H1.1.k _ rfl | exact H2.1.k _ rfl | exact H3.1.k _ rfl | exact H4.1.k _ rfl | exact H5.1.k _ rfl) (by decide) rfl (Nat.le_of_ble_eq_true rfl) ⟨by show 1 + 1 ≤ Du; omega, by show 64 + 64 * (1) ≤ 64 * (Du); omega⟩ ⟨Nat.le_refl _, Nat.le_refl _⟩ ?_
  refine c_sign9 (by omega) H hp (fun w1 H1 f1 x1 => ?_)
  refine V_istore (sx_di dX3_readUnit 37 rfl) (by decide) (rfl) ?_
  refine V_iload (sx_di dX3_readUnit 38 rfl) rfl ?_
  refine V_cS1 (mc' := 0) (ms' := 0) (M' := mX3_isComparing) 1 (sx_di dX3_readUnit 39 rfl) lX3_45 vX3_isComparing (Nat.le_of_ble_eq_true rfl) ⟨by show 1 + 1 ≤ Du; omega, by show 64 + 64 * (1) ≤ 64 * (Du); omega⟩ ⟨Nat.le_refl _, Nat.le_refl _⟩ ?_
  refine c_X3_isComparing ?_
  refine V_if_ne (tgt := 80) (sx_di dX3_readUnit 40 rfl) (by decide) (fun h75 => ?_) (fun h75 => ?_)
  · have b75 := bz9t h75
    rw [if_pos b75] at h
    have hq1 := cz_lt (isC_n b75)
    have hg2 := hg (skp_ T p + 1) hq1
    refine V_aload_n (i := 0) (sx_di dX3_readUnit 43 rfl) rfl rfl ?_
    refine V_getR (sx_di dX3_readUnit 44 rfl) fX3_9 (fun _ => rfl) (by first | exact H.1.k _ rfl | exact H1.1.k _ rfl | exact H2.1.k _ rfl | exact H3.1.k _ rfl | exact H4.1.k _ rfl | exact H5.1.k _ rfl) (by first | exact H.1.r _ _ rfl | exact H1.1.r _ _ rfl | exact H2.1.r _ _ rfl | exact H3.1.r _ _ rfl | exact H4.1.r _ _ rfl | exact H5.1.r _ _ rfl | exact H.2.2.1 | exact H1.2.2.1 | exact H2.2.2.1 | exact H3.2.2.1 | exact H4.2.2.1 | exact H5.2.2.1) ?_
    refine V_dup (sx_di dX3_readUnit 45 rfl) rfl ?_
    refine V_getI (sx_di dX3_readUnit 46 rfl) fX3_24 (fun _ => rfl) (by first | exact H.1.k _ rfl | exact H1.1.k _ rfl | exact H2.1.k _ rfl | exact H3.1.k _ rfl | exact H4.1.k _ rfl | exact H5.1.k _ rfl) ?_
    refine V_iv (y := nI (skp_ T p)) (H1.2.2.2) ?_
    refine V_iconst (v := 1) (sx_di dX3_readUnit 47 rfl) (by decide) ?_
    refine V_iadd (sx_di dX3_readUnit 48 rfl) ?_
    refine V_iv (y := nI (skp_ T p + 1)) (nI_add _ 1) ?_
    refine V_putI (sx_di dX3_readUnit 49 rfl) fX3_24 (fun _ => rfl) rfl (by first | exact H.1.k _ rfl | exact H1.1.k _ rfl | exact H2.1.k _ rfl | exact H3.1.k _ rfl | exact H4.1.k _ rfl | exact H5.1.k _ rfl) (rfl) (rfl) ?_
    refine V_hd9 (by omega) H1 (fun w2 H2 f2 x2 => ?_)
    refine V_aload_n (i := 0) (sx_di dX3_readUnit 50 rfl) rfl rfl ?_
    refine V_iload_n (i := 1) (sx_di dX3_readUnit 51 rfl) rfl rfl ?_
    refine V_cV1 (mc' := 0) (ms' := 0) (M' := mX3_readSum) Ds (sx_di dX3_readUnit 52 rfl) lX3_41 vX3_readSum (by first | exact H.1.k _ rfl | exact H1.1.k _ rfl | exact H2.1.k _ rfl | exact H3.1.k _ rfl | exact H4.1.k _ rfl | exact H5.1.k _ rfl) (by decide) rfl (Nat.le_of_ble_eq_true rfl) ⟨by show Ds + 1 ≤ Du; omega, by show 64 + 64 * (Ds) ≤ 64 * (Du); omega⟩ ⟨Nat.le_refl _, Nat.le_refl _⟩ ?_
    refine hs X (skp_ T p + 1) w2 _ H2 (x2 X (x1 X hx)) (by omega) hq1 (fun w3 H3 f3 x3 => ?_)
    refine V_if_ne (tgt := 103) (sx_di dX3_readUnit 53 rfl) (by decide) (fun h98 => ?_) (fun h98 => ?_)
    · have b98 := bz9t h98
      rw [if_pos b98] at h
      refine V_aload_n (i := 0) (sx_di dX3_readUnit 56 rfl) rfl rfl ?_
      refine V_getR (sx_di dX3_readUnit 57 rfl) fX3_15 (fun _ => rfl) (by first | exact H.1.k _ rfl | exact H1.1.k _ rfl | exact H2.1.k _ rfl | exact H3.1.k _ rfl | exact H4.1.k _ rfl | exact H5.1.k _ rfl) (by first | exact H.1.r _ _ rfl | exact H1.1.r _ _ rfl | exact H2.1.r _ _ rfl | exact H3.1.r _ _ rfl | exact H4.1.r _ _ rfl | exact H5.1.r _ _ rfl | exact H.2.2.1 | exact H1.2.2.1 | exact H2.2.2.1 | exact H3.2.2.1 | exact H4.2.2.1 | exact H5.2.2.1) ?_
      refine V_iload (sx_di dX3_readUnit 58 rfl) rfl ?_
      refine V_ineg (sx_di dX3_readUnit 59 rfl) ?_
      refine V_cV1 (mc' := 0) (ms' := 0) (M' := mX1_add) 1 (sx_di dX3_readUnit 60 rfl) lX3_58 vX1_add ((lw_law H3.1 hk).1) (by decide) rfl (Nat.le_of_ble_eq_true rfl) ⟨by show 1 + 1 ≤ Du; omega, by show 64 + 64 * (1) ≤ 64 * (Du); omega⟩ ⟨Nat.le_refl _, Nat.le_refl _⟩ ?_
      refine c_add9 hk H3 (x3 b98) (by rw [List.length_append]; have := hg2.2.2 b98; omega) (fun w4 H4 f4 x4 => ?_)
      refine V_iconst (v := 1) (sx_di dX3_readUnit 61 rfl) (by decide) ?_
      refine V_zret (sx_di dX3_readUnit 62 rfl) rfl (by first | rfl | decide) (Nat.le_refl _) (Nat.le_refl _) ?_
      exact h w4 H4 (fL_tr f1 (fL_tr f2 (fL_tr f3 f4))) (fun _ => by show lrX _ (X ++ ([] ++ (s (skp_ T p + 1)).2.1 ++ [-cz_ T p])) w4; rw [List.nil_append, ← List.append_assoc]; exact x4)
    · rw [if_neg (bz9f h98)] at h
      refine V_iconst (v := 0) (sx_di dX3_readUnit 54 rfl) (by decide) ?_
      refine V_zret (sx_di dX3_readUnit 55 rfl) rfl (by first | rfl | decide) (Nat.le_refl _) (Nat.le_refl _) ?_
      exact h w3 H3 (fL_tr f1 (fL_tr f2 f3)) (fun z => absurd z Bool.false_ne_true)
  · rw [if_neg (bz9f h75)] at h
    refine V_iconst (v := 0) (sx_di dX3_readUnit 41 rfl) (by decide) ?_
    refine V_zret (sx_di dX3_readUnit 42 rfl) rfl (by first | rfl | decide) (Nat.le_refl _) (Nat.le_refl _) ?_
    exact h w1 H1 f1 (fun z => absurd z Bool.false_ne_true)
set_option maxHeartbeats 2000000 in
set_option maxRecDepth 20000 in
theorem c_rdBegun {E : sxE} {T : List Int32} {k d Ds Du : Nat} {s : Nat → prT} (hk : k < 5) (h6 : 6 ≤ Ds) (h1 : Ds + 1 ≤ Du) (hg : goS T s) (hs : kA E T k d Ds mX3_readSum s) : kU E T k d 1 Du mX3_readUnit (cm_ T s []) := by
  intro X p w Q H hx hXl hp h
  have hT := H.2.1.1
  have g1 := skp_ge T p
  have g2 := skq_le (T := T) hp
  refine C_of (by decide +kernel) (Nat.le_of_ble_eq_true rfl) ?_
  refine V_aload_n (i := 0) (sx_di dX3_readUnit 0 rfl) rfl rfl ?_
  refine V_getR (sx_di dX3_readUnit 1 rfl) fX3_9 (fun _ => rfl) (by first | exact H.1.k _ rfl | exact H1.1.k _ rfl | exact H2.1.k _ rfl | exact H3.1.k _ rfl | exact H4.1.k _ rfl | exact H5.1.k _ rfl) (by first | exact H.1.r _ _ rfl | exact H1.1.r _ _ rfl | exact H2.1.r _ _ rfl | exact H3.1.r _ _ rfl | exact H4.1.r _ _ rfl | exact H5.1.r _ _ rfl | exact H.2.2.1 | exact H1.2.2.1 | exact H2.2.2.1 | exact H3.2.2.1 | exact H4.2.2.1 | exact H5.2.2.1) ?_
  refine V_cV0 (mc' := 0) (ms' := 0) (M' := mX10_sign) 1 (sx_di dX3_readUnit 2 rfl) lX3_34 vX10_sign (by first | exact H.1.k _ rfl | exact H1.1.k _ rfl | exact H2.1.k _ rfl | exact H3.1.k _ rfl | exact H4.1.k _ rfl | exact H5.1.k _ rfl) (by decide) rfl (Nat.le_of_ble_eq_true rfl) ⟨by show 1 + 1 ≤ Du; omega, by show 64 + 64 * (1) ≤ 64 * (Du); omega⟩ ⟨Nat.le_refl _, Nat.le_refl _⟩ ?_
  refine c_sign9 (by omega) H hp (fun w1 H1 f1 x1 => ?_)
  refine V_istore_n (i := 3) (sx_di dX3_readUnit 3 rfl) rfl (by decide) (rfl) ?_
  refine V_iload_n (i := 2) (sx_di dX3_readUnit 4 rfl) rfl rfl ?_
  refine V_ifN_ne (a := 1) (rfl) (by omega) (tgt := 47) (sx_di dX3_readUnit 5 rfl) (by decide) (fun _ => ?_) (fun h9 => absurd h9 (by omega))
  refine V_iload_n (i := 2) (sx_di dX3_readUnit 26 rfl) rfl rfl ?_
  refine V_ifN_ne (a := 1) (rfl) (by omega) (tgt := 61) (sx_di dX3_readUnit 27 rfl) (by decide) (fun _ => ?_) (fun h48 => absurd h48 (by omega))
  refine V_sub (ls' := [(1, .int (nI d)), (0, .ref 52)]) ⟨rfl, rfl, trivial⟩ ?_
  refine ru_61 hk h6 h1 hg hs H1 (x1 X hx) (by omega) g2 ?_
  rw [cm_skp]
  exact fun w2 H2 f2 x2 => h w2 H2 (fL_tr f1 f2) x2
set_option maxHeartbeats 2000000 in
set_option maxRecDepth 20000 in
theorem c_rdUnit {E : sxE} {T : List Int32} {k d r Ds Do Du : Nat} {s u cn : Nat → prT} (hk : k < 5) (hd : d + r = 6) (h6 : 6 ≤ Ds) (h1 : Ds + 1 ≤ Du) (h2 : Do + 1 ≤ Du) (hg : goS T s) (hs : kA E T k d Ds mX3_readSum s) (ho : r = 0 ∨ kO E T k (d + 1) Do u cn) : kU E T k d 0 Du mX3_readUnit (un_ T r s u cn) := by
  intro X p w Q H hx hXl hp h
  have hT := H.2.1.1
  have g1 := skp_ge T p
  have g2 := skq_le (T := T) hp
  unfold un_ at h
  refine C_of (by decide +kernel) (Nat.le_of_ble_eq_true rfl) ?_
  refine V_aload_n (i := 0) (sx_di dX3_readUnit 0 rfl) rfl rfl ?_
  refine V_getR (sx_di dX3_readUnit 1 rfl) fX3_9 (fun _ => rfl) (by first | exact H.1.k _ rfl | exact H1.1.k _ rfl | exact H2.1.k _ rfl | exact H3.1.k _ rfl | exact H4.1.k _ rfl | exact H5.1.k _ rfl) (by first | exact H.1.r _ _ rfl | exact H1.1.r _ _ rfl | exact H2.1.r _ _ rfl | exact H3.1.r _ _ rfl | exact H4.1.r _ _ rfl | exact H5.1.r _ _ rfl | exact H.2.2.1 | exact H1.2.2.1 | exact H2.2.2.1 | exact H3.2.2.1 | exact H4.2.2.1 | exact H5.2.2.1) ?_
  refine V_cV0 (mc' := 0) (ms' := 0) (M' := mX10_sign) 1 (sx_di dX3_readUnit 2 rfl) lX3_34 vX10_sign (by first | exact H.1.k _ rfl | exact H1.1.k _ rfl | exact H2.1.k _ rfl | exact H3.1.k _ rfl | exact H4.1.k _ rfl | exact H5.1.k _ rfl) (by decide) rfl (Nat.le_of_ble_eq_true rfl) ⟨by show 1 + 1 ≤ Du; omega, by show 64 + 64 * (1) ≤ 64 * (Du); omega⟩ ⟨Nat.le_refl _, Nat.le_refl _⟩ ?_
  refine c_sign9 (by omega) H hp (fun w1 H1 f1 x1 => ?_)
  have hOp : (cz_ T p = 33 ∨ cz_ T p = 40) → V E mX3_readUnit (sx_rm Du 0 0) 0 0 0 0 24 [(3, .int (cz_ T p)), (2, .int 0), (1, .int (nI d)), (0, .ref 52)] [] w1 Q := by
    intro hc
    have hq1 : skp_ T p + 1 ≤ T.length := cz_lt (fun q => by rw [q] at hc; exact absurd hc (by decide))
    refine V_iload_n (i := 1) (sx_di dX3_readUnit 12 rfl) rfl rfl ?_
    refine V_bipush (v := 6) (sx_di dX3_readUnit 13 rfl) (by decide) ?_
    refine V_icN_ge (a := d) (b := 6) (rfl) (rfl) (by omega) (by omega) (tgt := 45) (sx_di dX3_readUnit 14 rfl) (by decide) (fun h27 => ?_) (fun h27 => ?_)
    · have r0 : r = 0 := by omega
      rw [if_pos r0, if_pos r0] at h
      refine V_iconst (v := 0) (sx_di dX3_readUnit 24 rfl) (by decide) ?_
      refine V_zret (sx_di dX3_readUnit 25 rfl) rfl (by first | rfl | decide) (Nat.le_refl _) (Nat.le_refl _) ?_
      rcases hc with hc | hc
      · rw [if_pos hc] at h; exact h w1 H1 f1 (fun z => absurd z Bool.false_ne_true)
      · rw [if_neg (by rw [hc]; decide), if_pos hc] at h; exact h w1 H1 f1 (fun z => absurd z Bool.false_ne_true)
    · have r0 : ¬ r = 0 := by omega
      have ho2 := ho.resolve_left r0
      rw [if_neg r0, if_neg r0] at h
      have h9 : ∀ w', lrP T (22 + 6 * k) (op9 T (cz_ T p) u cn (skp_ T p)).2.2 w' → fL (22 + 6 * k) w w' → ((op9 T (cz_ T p) u cn (skp_ T p)).1 = true → lrX (22 + 6 * k) (X ++ (op9 T (cz_ T p) u cn (skp_ T p)).2.1) w') → Q (some (.int (bz9 (op9 T (cz_ T p) u cn (skp_ T p)).1))) w' := by
        unfold op9
        rcases hc with hc | hc
        · rw [if_pos hc] at h ⊢; exact h
        · rw [if_neg (by rw [hc]; decide), if_pos hc] at h
          rw [if_neg (by rw [hc]; decide)]; exact h
      refine V_aload_n (i := 0) (sx_di dX3_readUnit 15 rfl) rfl rfl ?_
      refine V_iload_n (i := 1) (sx_di dX3_readUnit 16 rfl) rfl rfl ?_
      refine V_iconst (v := 1) (sx_di dX3_readUnit 17 rfl) (by decide) ?_
      refine V_iadd (sx_di dX3_readUnit 18 rfl) ?_
      refine V_iv (y := nI (d + 1)) (nI_add d 1) ?_
      refine V_iload_n (i := 3) (sx_di dX3_readUnit 19 rfl) rfl rfl ?_
      refine V_cV2 (mc' := 0) (ms' := 0) (M' := mX3_readOpened) Do (sx_di dX3_readUnit 20 rfl) lX3_62 vX3_readOpened (by first | exact H.1.k _ rfl | exact H1.1.k _ rfl | exact H2.1.k _ rfl | exact H3.1.k _ rfl | exact H4.1.k _ rfl | exact H5.1.k _ rfl) (by decide) rfl (Nat.le_of_ble_eq_true rfl) ⟨by show Do + 1 ≤ Du; omega, by show 64 + 64 * (Do) ≤ 64 * (Du); omega⟩ ⟨Nat.le_refl _, Nat.le_refl _⟩ ?_
      refine ho2 (cz_ T p) X (skp_ T p) w1 _ H1 (x1 X hx) (by omega) hq1 (fun w2 H2 f2 x2 => ?_)
      have h3 := h9 w2 H2 (fL_tr f1 f2) x2
      refine V_if_eq (tgt := 45) (sx_di dX3_readUnit 21 rfl) (by decide) (fun h38 => ?_) (fun h38 => ?_)
      · rw [h38] at h3
        refine V_iconst (v := 0) (sx_di dX3_readUnit 24 rfl) (by decide) ?_
        refine V_zret (sx_di dX3_readUnit 25 rfl) rfl (by first | rfl | decide) (Nat.le_refl _) (Nat.le_refl _) ?_
        exact h3
      · rw [show bz9 (op9 T (cz_ T p) u cn (skp_ T p)).1 = 1 by rw [bz9t h38]; rfl] at h3
        refine V_iconst (v := 1) (sx_di dX3_readUnit 22 rfl) (by decide) ?_
        refine V_goto (tgt := 46) (sx_di dX3_readUnit 23 rfl) (by decide) ?_
        refine V_zret (sx_di dX3_readUnit 25 rfl) rfl (by first | rfl | decide) (Nat.le_refl _) (Nat.le_refl _) ?_
        exact h3
  have hNo : ¬ cz_ T p = 33 → ¬ cz_ T p = 40 → V E mX3_readUnit (sx_rm Du 0 0) 0 0 0 0 47 [(2, .int 0), (1, .int (nI d)), (0, .ref 52)] [] w1 Q := by
    intro n1 n2
    rw [if_neg n1, if_neg n2] at h
    have hg2 := hg (skp_ T p) g2
    refine V_iload_n (i := 2) (sx_di dX3_readUnit 26 rfl) rfl rfl ?_
    refine V_ifN_ne (a := 0) (rfl) (by omega) (tgt := 61) (sx_di dX3_readUnit 27 rfl) (by decide) (fun h48 => absurd h48 (by omega)) (fun _ => ?_)
    refine V_aload_n (i := 0) (sx_di dX3_readUnit 28 rfl) rfl rfl ?_
    refine V_iload_n (i := 1) (sx_di dX3_readUnit 29 rfl) rfl rfl ?_
    refine V_cV1 (mc' := 0) (ms' := 0) (M' := mX3_readSum) Ds (sx_di dX3_readUnit 30 rfl) lX3_41 vX3_readSum (by first | exact H.1.k _ rfl | exact H1.1.k _ rfl | exact H2.1.k _ rfl | exact H3.1.k _ rfl | exact H4.1.k _ rfl | exact H5.1.k _ rfl) (by decide) rfl (Nat.le_of_ble_eq_true rfl) ⟨by show Ds + 1 ≤ Du; omega, by show 64 + 64 * (Ds) ≤ 64 * (Du); omega⟩ ⟨Nat.le_refl _, Nat.le_refl _⟩ ?_
    refine hs X (skp_ T p) w1 _ H1 (x1 X hx) (by omega) g2 (fun w2 H2 f2 x2 => ?_)
    refine V_if_ne (tgt := 61) (sx_di dX3_readUnit 31 rfl) (by decide) (fun h56 => ?_) (fun h56 => ?_)
    · have b56 := bz9t h56
      rw [if_pos b56] at h
      refine V_sub (ls' := [(1, .int (nI d)), (0, .ref 52)]) ⟨rfl, rfl, trivial⟩ ?_
      obtain ⟨e1, e2, e3⟩ := cm_pre (T := T) (s := s) (s (skp_ T p)).2.1 (s (skp_ T p)).2.2
      refine ru_61 hk h6 h1 hg hs H2 (x2 b56) (by rw [List.length_append]; have := hg2.2.2 b56; omega) hg2.2.1 (fun w3 H3 f3 x3 => ?_)
      rw [e1, e2] at h
      exact h w3 H3 (fL_tr f1 (fL_tr f2 f3)) (fun z => by rw [e3 z, ← List.append_assoc]; exact x3 z)
    · rw [if_neg (bz9f h56)] at h
      refine V_iconst (v := 0) (sx_di dX3_readUnit 32 rfl) (by decide) ?_
      refine V_zret (sx_di dX3_readUnit 33 rfl) rfl (by first | rfl | decide) (Nat.le_refl _) (Nat.le_refl _) ?_
      exact h w2 H2 (fL_tr f1 f2) (fun z => absurd z Bool.false_ne_true)
  refine V_istore_n (i := 3) (sx_di dX3_readUnit 3 rfl) rfl (by decide) (rfl) ?_
  refine V_iload_n (i := 2) (sx_di dX3_readUnit 4 rfl) rfl rfl ?_
  refine V_ifN_ne (a := 0) (rfl) (by omega) (tgt := 47) (sx_di dX3_readUnit 5 rfl) (by decide) (fun h9 => absurd h9 (by omega)) (fun _ => ?_)
  refine V_iload_n (i := 3) (sx_di dX3_readUnit 6 rfl) rfl rfl ?_
  refine V_bipush (v := 33) (sx_di dX3_readUnit 7 rfl) (by decide) ?_
  refine V_icmp_eq (tgt := 24) (sx_di dX3_readUnit 8 rfl) (by decide) (fun h15 => ?_) (fun h15 => ?_)
  · exact V_subk (hOp (Or.inl h15)) ⟨rfl, rfl, rfl, rfl, trivial⟩
  · refine V_iload_n (i := 3) (sx_di dX3_readUnit 9 rfl) rfl rfl ?_
    refine V_bipush (v := 40) (sx_di dX3_readUnit 10 rfl) (by decide) ?_
    refine V_icmp_ne (tgt := 47) (sx_di dX3_readUnit 11 rfl) (by decide) (fun h21 => ?_) (fun h21 => ?_)
    · exact V_subk (hNo h15 h21) ⟨rfl, rfl, rfl, trivial⟩
    · exact V_subk (hOp (Or.inr h21)) ⟨rfl, rfl, rfl, rfl, trivial⟩
set_option maxHeartbeats 2000000 in
set_option maxRecDepth 20000 in
theorem c_rdOpened {E : sxE} {T : List Int32} {k d Du Dc Do : Nat} {u cn : Nat → prT} (hk : k < 5) (h5 : 5 ≤ Do) (h1 : Du + 1 ≤ Do) (h2 : Dc + 1 ≤ Do) (hgu : goS T u) (hgc : goS T cn) (hu : kU E T k d 0 Du mX3_readUnit u) (hc : kU E T k d 0 Dc mX3_readCondition cn) : kO E T k d Do u cn := by
  intro c X p w Q H hx hXl hp h
  have hT := H.2.1.1
  have gu := hgu (p + 1) hp
  have gc := hgc (p + 1) hp
  unfold op9 at h
  refine C_of (by decide +kernel) (Nat.le_of_ble_eq_true rfl) ?_
  refine V_aload_n (i := 0) (sx_di dX3_readOpened 0 rfl) rfl rfl ?_
  refine V_getR (sx_di dX3_readOpened 1 rfl) fX3_9 (fun _ => rfl) (by first | exact H.1.k _ rfl | exact H1.1.k _ rfl | exact H2.1.k _ rfl | exact H3.1.k _ rfl | exact H4.1.k _ rfl | exact H5.1.k _ rfl) (by first | exact H.1.r _ _ rfl | exact H1.1.r _ _ rfl | exact H2.1.r _ _ rfl | exact H3.1.r _ _ rfl | exact H4.1.r _ _ rfl | exact H5.1.r _ _ rfl | exact H.2.2.1 | exact H1.2.2.1 | exact H2.2.2.1 | exact H3.2.2.1 | exact H4.2.2.1 | exact H5.2.2.1) ?_
  refine V_dup (sx_di dX3_readOpened 2 rfl) rfl ?_
  refine V_getI (sx_di dX3_readOpened 3 rfl) fX3_24 (fun _ => rfl) (by first | exact H.1.k _ rfl | exact H1.1.k _ rfl | exact H2.1.k _ rfl | exact H3.1.k _ rfl | exact H4.1.k _ rfl | exact H5.1.k _ rfl) ?_
  refine V_iv (y := nI p) (H.2.2.2) ?_
  refine V_iconst (v := 1) (sx_di dX3_readOpened 4 rfl) (by decide) ?_
  refine V_iadd (sx_di dX3_readOpened 5 rfl) ?_
  refine V_iv (y := nI (p + 1)) (nI_add _ 1) ?_
  refine V_putI (sx_di dX3_readOpened 6 rfl) fX3_24 (fun _ => rfl) rfl (by first | exact H.1.k _ rfl | exact H1.1.k _ rfl | exact H2.1.k _ rfl | exact H3.1.k _ rfl | exact H4.1.k _ rfl | exact H5.1.k _ rfl) (rfl) (rfl) ?_
  refine V_hd9 (by omega) H (fun w1 H1 f1 x1 => ?_)
  refine V_iload_n (i := 2) (sx_di dX3_readOpened 7 rfl) rfl rfl ?_
  refine V_bipush (v := 33) (sx_di dX3_readOpened 8 rfl) (by decide) ?_
  refine V_icmp_ne (tgt := 41) (sx_di dX3_readOpened 9 rfl) (by decide) (fun h16 => ?_) (fun h16 => ?_)
  · rw [if_neg h16] at h
    unfold clo_ at h
    refine V_aload_n (i := 0) (sx_di dX3_readOpened 23 rfl) rfl rfl ?_
    refine V_iload_n (i := 1) (sx_di dX3_readOpened 24 rfl) rfl rfl ?_
    refine V_iconst (v := 0) (sx_di dX3_readOpened 25 rfl) (by decide) ?_
    refine V_cV2 (mc' := 0) (ms' := 0) (M' := mX3_readCondition) Dc (sx_di dX3_readOpened 26 rfl) lX3_48 vX3_readCondition (by first | exact H.1.k _ rfl | exact H1.1.k _ rfl | exact H2.1.k _ rfl | exact H3.1.k _ rfl | exact H4.1.k _ rfl | exact H5.1.k _ rfl) (by decide) rfl (Nat.le_of_ble_eq_true rfl) ⟨by show Dc + 1 ≤ Do; omega, by show 64 + 64 * (Dc) ≤ 64 * (Do); omega⟩ ⟨Nat.le_refl _, Nat.le_refl _⟩ ?_
    refine hc X (p + 1) w1 _ H1 (x1 X hx) (by omega) hp (fun w2 H2 f2 x2 => ?_)
    refine V_if_eq (tgt := 62) (sx_di dX3_readOpened 27 rfl) (by decide) (fun h47 => ?_) (fun h47 => ?_)
    · rw [if_neg (bz9f h47)] at h
      refine V_iconst (v := 0) (sx_di dX3_readOpened 33 rfl) (by decide) ?_
      refine V_zret (sx_di dX3_readOpened 34 rfl) rfl (by first | rfl | decide) (Nat.le_refl _) (Nat.le_refl _) ?_
      exact h w2 H2 (fL_tr f1 f2) (fun z => absurd z Bool.false_ne_true)
    · have b47 := bz9t h47
      rw [if_pos b47] at h
      refine V_aload_n (i := 0) (sx_di dX3_readOpened 28 rfl) rfl rfl ?_
      refine V_getR (sx_di dX3_readOpened 29 rfl) fX3_9 (fun _ => rfl) (by first | exact H.1.k _ rfl | exact H1.1.k _ rfl | exact H2.1.k _ rfl | exact H3.1.k _ rfl | exact H4.1.k _ rfl | exact H5.1.k _ rfl) (by first | exact H.1.r _ _ rfl | exact H1.1.r _ _ rfl | exact H2.1.r _ _ rfl | exact H3.1.r _ _ rfl | exact H4.1.r _ _ rfl | exact H5.1.r _ _ rfl | exact H.2.2.1 | exact H1.2.2.1 | exact H2.2.2.1 | exact H3.2.2.1 | exact H4.2.2.1 | exact H5.2.2.1) ?_
      refine V_cV0 (mc' := 0) (ms' := 0) (M' := mX10_sign) 1 (sx_di dX3_readOpened 30 rfl) lX3_34 vX10_sign (by first | exact H.1.k _ rfl | exact H1.1.k _ rfl | exact H2.1.k _ rfl | exact H3.1.k _ rfl | exact H4.1.k _ rfl | exact H5.1.k _ rfl) (by decide) rfl (Nat.le_of_ble_eq_true rfl) ⟨by show 1 + 1 ≤ Do; omega, by show 64 + 64 * (1) ≤ 64 * (Do); omega⟩ ⟨Nat.le_refl _, Nat.le_refl _⟩ ?_
      refine c_sign9 (by omega) H2 gc.2.1 (fun w3 H3 f3 x3 => ?_)
      refine V_bipush (v := 41) (sx_di dX3_readOpened 31 rfl) (by decide) ?_
      refine V_icmp_eq (tgt := 64) (sx_di dX3_readOpened 32 rfl) (by decide) (fun h59 => ?_) (fun h59 => ?_)
      · rw [if_pos h59] at h
        refine V_aload_n (i := 0) (sx_di dX3_readOpened 35 rfl) rfl rfl ?_
        refine V_getR (sx_di dX3_readOpened 36 rfl) fX3_9 (fun _ => rfl) (by first | exact H.1.k _ rfl | exact H1.1.k _ rfl | exact H2.1.k _ rfl | exact H3.1.k _ rfl | exact H4.1.k _ rfl | exact H5.1.k _ rfl) (by first | exact H.1.r _ _ rfl | exact H1.1.r _ _ rfl | exact H2.1.r _ _ rfl | exact H3.1.r _ _ rfl | exact H4.1.r _ _ rfl | exact H5.1.r _ _ rfl | exact H.2.2.1 | exact H1.2.2.1 | exact H2.2.2.1 | exact H3.2.2.1 | exact H4.2.2.1 | exact H5.2.2.1) ?_
        refine V_dup (sx_di dX3_readOpened 37 rfl) rfl ?_
        refine V_getI (sx_di dX3_readOpened 38 rfl) fX3_24 (fun _ => rfl) (by first | exact H.1.k _ rfl | exact H1.1.k _ rfl | exact H2.1.k _ rfl | exact H3.1.k _ rfl | exact H4.1.k _ rfl | exact H5.1.k _ rfl) ?_
        refine V_iv (y := nI (skp_ T (cn (p + 1)).2.2)) (H3.2.2.2) ?_
        refine V_iconst (v := 1) (sx_di dX3_readOpened 39 rfl) (by decide) ?_
        refine V_iadd (sx_di dX3_readOpened 40 rfl) ?_
        refine V_iv (y := nI (skp_ T (cn (p + 1)).2.2 + 1)) (nI_add _ 1) ?_
        refine V_putI (sx_di dX3_readOpened 41 rfl) fX3_24 (fun _ => rfl) rfl (by first | exact H.1.k _ rfl | exact H1.1.k _ rfl | exact H2.1.k _ rfl | exact H3.1.k _ rfl | exact H4.1.k _ rfl | exact H5.1.k _ rfl) (rfl) (rfl) ?_
        refine V_hd9 (by omega) H3 (fun w4 H4 f4 x4 => ?_)
        refine V_iconst (v := 1) (sx_di dX3_readOpened 42 rfl) (by decide) ?_
        refine V_zret (sx_di dX3_readOpened 43 rfl) rfl (by first | rfl | decide) (Nat.le_refl _) (Nat.le_refl _) ?_
        exact h w4 H4 (fL_tr f1 (fL_tr f2 (fL_tr f3 f4))) (fun _ => x4 _ (x3 _ (x2 b47)))
      · rw [if_neg h59] at h
        refine V_iconst (v := 0) (sx_di dX3_readOpened 33 rfl) (by decide) ?_
        refine V_zret (sx_di dX3_readOpened 34 rfl) rfl (by first | rfl | decide) (Nat.le_refl _) (Nat.le_refl _) ?_
        exact h w3 H3 (fL_tr f1 (fL_tr f2 f3)) (fun z => absurd z Bool.false_ne_true)
  · rw [if_pos h16] at h
    refine V_aload_n (i := 0) (sx_di dX3_readOpened 10 rfl) rfl rfl ?_
    refine V_iload_n (i := 1) (sx_di dX3_readOpened 11 rfl) rfl rfl ?_
    refine V_iconst (v := 0) (sx_di dX3_readOpened 12 rfl) (by decide) ?_
    refine V_cV2 (mc' := 0) (ms' := 0) (M' := mX3_readUnit) Du (sx_di dX3_readOpened 13 rfl) lX3_55 vX3_readUnit (by first | exact H.1.k _ rfl | exact H1.1.k _ rfl | exact H2.1.k _ rfl | exact H3.1.k _ rfl | exact H4.1.k _ rfl | exact H5.1.k _ rfl) (by decide) rfl (Nat.le_of_ble_eq_true rfl) ⟨by show Du + 1 ≤ Do; omega, by show 64 + 64 * (Du) ≤ 64 * (Do); omega⟩ ⟨Nat.le_refl _, Nat.le_refl _⟩ ?_
    refine hu X (p + 1) w1 _ H1 (x1 X hx) (by omega) hp (fun w2 H2 f2 x2 => ?_)
    refine V_if_ne (tgt := 30) (sx_di dX3_readOpened 14 rfl) (by decide) (fun h25 => ?_) (fun h25 => ?_)
    · have b25 := bz9t h25
      rw [if_pos b25] at h
      refine V_aload_n (i := 0) (sx_di dX3_readOpened 17 rfl) rfl rfl ?_
      refine V_getR (sx_di dX3_readOpened 18 rfl) fX3_15 (fun _ => rfl) (by first | exact H.1.k _ rfl | exact H1.1.k _ rfl | exact H2.1.k _ rfl | exact H3.1.k _ rfl | exact H4.1.k _ rfl | exact H5.1.k _ rfl) (by first | exact H.1.r _ _ rfl | exact H1.1.r _ _ rfl | exact H2.1.r _ _ rfl | exact H3.1.r _ _ rfl | exact H4.1.r _ _ rfl | exact H5.1.r _ _ rfl | exact H.2.2.1 | exact H1.2.2.1 | exact H2.2.2.1 | exact H3.2.2.1 | exact H4.2.2.1 | exact H5.2.2.1) ?_
      refine V_bipush (v := -33) (sx_di dX3_readOpened 19 rfl) (by decide) ?_
      refine V_cV1 (mc' := 0) (ms' := 0) (M' := mX1_add) 1 (sx_di dX3_readOpened 20 rfl) lX3_58 vX1_add ((lw_law H2.1 hk).1) (by decide) rfl (Nat.le_of_ble_eq_true rfl) ⟨by show 1 + 1 ≤ Do; omega, by show 64 + 64 * (1) ≤ 64 * (Do); omega⟩ ⟨Nat.le_refl _, Nat.le_refl _⟩ ?_
      refine c_add9 hk H2 (x2 b25) (by rw [List.length_append]; have := gu.2.2 b25; omega) (fun w3 H3 f3 x3 => ?_)
      refine V_iconst (v := 1) (sx_di dX3_readOpened 21 rfl) (by decide) ?_
      refine V_zret (sx_di dX3_readOpened 22 rfl) rfl (by first | rfl | decide) (Nat.le_refl _) (Nat.le_refl _) ?_
      exact h w3 H3 (fL_tr f1 (fL_tr f2 f3)) (fun _ => by show lrX _ (X ++ ((u (p + 1)).2.1 ++ [-33])) w3; rw [← List.append_assoc]; exact x3)
    · rw [if_neg (bz9f h25)] at h
      refine V_iconst (v := 0) (sx_di dX3_readOpened 15 rfl) (by decide) ?_
      refine V_zret (sx_di dX3_readOpened 16 rfl) rfl (by first | rfl | decide) (Nat.le_refl _) (Nat.le_refl _) ?_
      exact h w2 H2 (fL_tr f1 f2) (fun z => absurd z Bool.false_ne_true)

/-! the class reads a street: the whole of it -/
theorem sB_hr {T : List Int32} {a p n m : Nat} {hr : Bool} {w : hpW} (ha : a2_ a) (H : sB T a p hr n m w) : sB T a p true n m (hp_si w a 2 1) := by
  unfold a2_ at ha
  exact ⟨ly_i H.1, ⟨H.2.1.1, (si_p (by omega)).trans H.2.1.2.1, fun k hk => (si_p (by omega)).trans (H.2.1.2.2 k hk)⟩, (si_p (by omega)).trans H.2.2.1, (si_p (by omega)).trans H.2.2.2.1, (si_p (by omega)).trans H.2.2.2.2.1, by rw [hp_i_si, if_pos ⟨rfl, rfl⟩]; rfl⟩
theorem sB_n {T : List Int32} {a p n m k : Nat} {hr : Bool} {w : hpW} (ha : a2_ a) (H : sB T a p hr n m w) : sB T a p hr k m (hp_si w a 0 (nI k)) := by
  unfold a2_ at ha
  exact ⟨ly_i H.1, ⟨H.2.1.1, (si_p (by omega)).trans H.2.1.2.1, fun k hk => (si_p (by omega)).trans (H.2.1.2.2 k hk)⟩, (si_p (by omega)).trans H.2.2.1, by rw [hp_i_si, if_pos ⟨rfl, rfl⟩], (si_p (by omega)).trans H.2.2.2.2.1, (si_p (by omega)).trans H.2.2.2.2.2⟩
theorem sB_m {T : List Int32} {a p n m k : Nat} {hr : Bool} {w : hpW} (ha : a2_ a) (H : sB T a p hr n m w) : sB T a p hr n k (hp_si w a 1 (nI k)) := by
  unfold a2_ at ha
  exact ⟨ly_i H.1, ⟨H.2.1.1, (si_p (by omega)).trans H.2.1.2.1, fun k hk => (si_p (by omega)).trans (H.2.1.2.2 k hk)⟩, (si_p (by omega)).trans H.2.2.1, (si_p (by omega)).trans H.2.2.2.1, by rw [hp_i_si, if_pos ⟨rfl, rfl⟩], (si_p (by omega)).trans H.2.2.2.2.2⟩
theorem fS_a {a j : Nat} {w : hpW} {v : Int32} (ha : a2_ a) : fS a w (hp_si w a j v) := by
  unfold a2_ at ha
  exact ⟨rfl, fun b h1 h2 h3 => by funext i; exact si_p (by omega), fun i _ _ => si_p (by omega)⟩
theorem sl_a {a j : Nat} {w : hpW} {v : Int32} : hp_i (hp_si w a j v) (a + 1) = hp_i w (a + 1) := by
  funext i
  exact si_p (by omega)
set_option maxHeartbeats 2000000 in
set_option maxRecDepth 20000 in
theorem c_sclause9 {E : sxE} {T : List Int32} {a p : Nat} {x : srT} {w : hpW} {Q : Option Value → hpW → Prop} (hX : XO E) (ha : a2_ a) (hx : sok x) (H : sP T a p x w) (hp : p ≤ T.length) (h : (∀ w', sP T a (scl_ T x p).2.2 (scl_ T x p).2.1 w' → fS a w w' → Q (some (.int (bz9 ((scl_ T x p).1 && endc (cz_ T (scl_ T x p).2.2))))) w')) : sx_C E mX9_readClause 9 0 0 [.ref 19, .ref a] w Q := by
  have hT := H.1.2.1.1
  have g2 := skq_le (T := T) hp
  have x1 := hx.1
  have x2 := hx.2.1
  unfold scl_ at h
  refine C_of (by decide +kernel) (Nat.le_of_ble_eq_true rfl) ?_
  refine V_aload_n (i := 0) (sx_di dX9_readClause 0 rfl) rfl rfl ?_
  refine V_getR (sx_di dX9_readClause 1 rfl) fX9_9 (fun _ => rfl) (by first | exact (a2_St H1.1 ha).1 | exact H.1.1.k _ rfl | exact H1.1.k _ rfl | exact H2.1.k _ rfl | exact (a2_St H2.1 ha).1) (by first | exact H.1.1.r _ _ rfl | exact H1.1.r _ _ rfl) ?_
  refine V_cV0 (mc' := 0) (ms' := 0) (M' := mX10_sign) 1 (sx_di dX9_readClause 2 rfl) lX9_30 vX10_sign (by first | exact (a2_St H1.1 ha).1 | exact H.1.1.k _ rfl | exact H1.1.k _ rfl | exact H2.1.k _ rfl | exact (a2_St H2.1 ha).1) (by decide) rfl (Nat.le_of_ble_eq_true rfl) ⟨by show 1 + 1 ≤ 9; omega, by show 64 + 64 * (1) ≤ 64 * (9); omega⟩ ⟨Nat.le_refl _, Nat.le_refl _⟩ ?_
  refine c_signS ha H.1 hp (fun w1 H1 f1 s1 => ?_)
  have h79 : ¬ (cz_ T p = 115 ∧ x.1 = false) → ¬ (cz_ T p = 104 ∧ x.2.1 < 8) → V E mX9_readClause (sx_rm 9 0 0) 0 0 0 0 79 [(2, .int (cz_ T p)), (1, .ref a), (0, .ref 19)] [] w1 Q := by
    intro n1 n2
    rw [if_neg n1, if_neg n2] at h
    refine V_iload_n (i := 2) (sx_di dX9_readClause 47 rfl) rfl rfl ?_
    refine V_bipush (v := 102) (sx_di dX9_readClause 48 rfl) (by decide) ?_
    refine V_icmp_ne (tgt := 125) (sx_di dX9_readClause 49 rfl) (by decide) (fun h82 => ?_) (fun h82 => ?_)
    · refine V_iconst (v := 0) (sx_di dX9_readClause 74 rfl) (by decide) ?_
      refine V_zret (sx_di dX9_readClause 75 rfl) rfl (by first | rfl | decide) (Nat.le_refl _) (Nat.le_refl _) ?_
      rw [if_neg (fun z => h82 z.1)] at h
      exact h w1 ⟨H1, by rw [s1]; exact H.2⟩ f1
    · refine V_aload_n (i := 1) (sx_di dX9_readClause 50 rfl) rfl rfl ?_
      refine V_getI (sx_di dX9_readClause 51 rfl) fX9_49 (fun _ => rfl) (by first | exact (a2_St H1.1 ha).1 | exact H.1.1.k _ rfl | exact H1.1.k _ rfl | exact H2.1.k _ rfl | exact (a2_St H2.1 ha).1) ?_
      refine V_iv (y := nI x.2.2.1) (H1.2.2.2.2.1) ?_
      refine V_bipush (v := 6) (sx_di dX9_readClause 52 rfl) (by decide) ?_
      refine V_icN_ge (a := x.2.2.1) (b := 6) (rfl) (rfl) (by omega) (by omega) (tgt := 125) (sx_di dX9_readClause 53 rfl) (by decide) (fun h91 => ?_) (fun h91 => ?_)
      · refine V_iconst (v := 0) (sx_di dX9_readClause 74 rfl) (by decide) ?_
        refine V_zret (sx_di dX9_readClause 75 rfl) rfl (by first | rfl | decide) (Nat.le_refl _) (Nat.le_refl _) ?_
        rw [if_neg (fun z => by have := z.2; omega)] at h
        exact h w1 ⟨H1, by rw [s1]; exact H.2⟩ f1
      · rw [if_pos ⟨h82, by omega⟩] at h
        have hq1 := cz_p1 h82 (by decide)
        refine V_aload_n (i := 1) (sx_di dX9_readClause 54 rfl) rfl rfl ?_
        refine V_dup (sx_di dX9_readClause 55 rfl) rfl ?_
        refine V_getI (sx_di dX9_readClause 56 rfl) fX9_49 (fun _ => rfl) (by first | exact (a2_St H1.1 ha).1 | exact H.1.1.k _ rfl | exact H1.1.k _ rfl | exact H2.1.k _ rfl | exact (a2_St H2.1 ha).1) ?_
        refine V_iv (y := nI x.2.2.1) (H1.2.2.2.2.1) ?_
        refine V_iconst (v := 1) (sx_di dX9_readClause 57 rfl) (by decide) ?_
        refine V_iadd (sx_di dX9_readClause 58 rfl) ?_
        refine V_iv (y := nI (x.2.2.1 + 1)) (nI_add _ 1) ?_
        refine V_putI (sx_di dX9_readClause 59 rfl) fX9_49 (fun _ => rfl) rfl (by first | exact (a2_St H1.1 ha).1 | exact H.1.1.k _ rfl | exact H1.1.k _ rfl | exact H2.1.k _ rfl | exact (a2_St H2.1 ha).1) (rfl) (rfl) ?_
        have H2 := sB_m (k := x.2.2.1 + 1) ha H1
        refine V_aload_n (i := 0) (sx_di dX9_readClause 60 rfl) rfl rfl ?_
        refine V_aload_n (i := 1) (sx_di dX9_readClause 61 rfl) rfl rfl ?_
        refine V_bipush (v := 8) (sx_di dX9_readClause 62 rfl) (by decide) ?_
        refine V_iv (y := nI 8) (rfl) ?_
        refine V_bipush (v := 10) (sx_di dX9_readClause 63 rfl) (by decide) ?_
        refine V_iv (y := nI (8 + 2)) (rfl) ?_
        refine V_bipush (v := 36) (sx_di dX9_readClause 64 rfl) (by decide) ?_
        refine V_iconst (v := 2) (sx_di dX9_readClause 65 rfl) (by decide) ?_
        refine V_aload_n (i := 1) (sx_di dX9_readClause 66 rfl) rfl rfl ?_
        refine V_getI (sx_di dX9_readClause 67 rfl) fX9_49 (fun _ => rfl) (by first | exact (a2_St H1.1 ha).1 | exact H.1.1.k _ rfl | exact H1.1.k _ rfl | exact H2.1.k _ rfl | exact (a2_St H2.1 ha).1) ?_
        refine V_iv (y := nI (x.2.2.1 + 1)) (H2.2.2.2.2.1) ?_
        refine V_iconst (v := 1) (sx_di dX9_readClause 68 rfl) (by decide) ?_
        refine V_isub (sx_di dX9_readClause 69 rfl) ?_
        refine V_iv (y := nI x.2.2.1) (pk_sub (show 1 ≤ x.2.2.1 + 1 by omega)) ?_
        refine V_imul (sx_di dX9_readClause 70 rfl) ?_
        refine V_iadd (sx_di dX9_readClause 71 rfl) ?_
        refine V_iv (y := nI (36 + 2 * x.2.2.1)) (nx_add (a := 36) rfl (nx_mul (a := 2) rfl rfl)) ?_
        refine V_cV4 (mc' := 0) (ms' := 0) (M' := mX9_readItems) 8 (sx_di dX9_readClause 72 rfl) lX9_42 vX9_readItems (by first | exact (a2_St H1.1 ha).1 | exact H.1.1.k _ rfl | exact H1.1.k _ rfl | exact H2.1.k _ rfl | exact (a2_St H2.1 ha).1) (by decide) rfl (Nat.le_of_ble_eq_true rfl) ⟨by show 8 + 1 ≤ 9; omega, by show 64 + 64 * (8) ≤ 64 * (9); omega⟩ ⟨Nat.le_refl _, Nat.le_refl _⟩ ?_
        refine c_items9 (m := 2) (n0 := x.2.1) (m0 := x.2.2.1) hX ha (by decide) (by omega) (Or.inl (Nat.le_refl _)) (Or.inr ⟨by omega, rfl⟩) H2 (by rw [sl_a, s1]; exact H.2) hq1 (fun w3 H3 s3 f3 => ?_)
        refine V_zret (sx_di dX9_readClause 73 rfl) rfl (nar_bz _) (Nat.le_refl _) (Nat.le_refl _) ?_
        exact h w3 ⟨H3, s3⟩ (fS_tr f1 (fS_tr (fS_a ha) f3))
  have h35 : ¬ (cz_ T p = 115 ∧ x.1 = false) → V E mX9_readClause (sx_rm 9 0 0) 0 0 0 0 35 [(2, .int (cz_ T p)), (1, .ref a), (0, .ref 19)] [] w1 Q := by
    intro n1
    have h79 := h79 n1
    refine V_iload_n (i := 2) (sx_di dX9_readClause 20 rfl) rfl rfl ?_
    refine V_bipush (v := 104) (sx_di dX9_readClause 21 rfl) (by decide) ?_
    refine V_icmp_ne (tgt := 79) (sx_di dX9_readClause 22 rfl) (by decide) (fun h38 => ?_) (fun h38 => ?_)
    · exact V_subk (h79 (fun z => h38 z.1)) ⟨rfl, rfl, rfl, trivial⟩
    · refine V_aload_n (i := 1) (sx_di dX9_readClause 23 rfl) rfl rfl ?_
      refine V_getI (sx_di dX9_readClause 24 rfl) fX9_46 (fun _ => rfl) (by first | exact (a2_St H1.1 ha).1 | exact H.1.1.k _ rfl | exact H1.1.k _ rfl | exact H2.1.k _ rfl | exact (a2_St H2.1 ha).1) ?_
      refine V_iv (y := nI x.2.1) (H1.2.2.2.1) ?_
      refine V_bipush (v := 8) (sx_di dX9_readClause 25 rfl) (by decide) ?_
      refine V_icN_ge (a := x.2.1) (b := 8) (rfl) (rfl) (by omega) (by omega) (tgt := 79) (sx_di dX9_readClause 26 rfl) (by decide) (fun h47 => ?_) (fun h47 => ?_)
      · exact V_subk (h79 (fun z => by have := z.2; omega)) ⟨rfl, rfl, rfl, trivial⟩
      · rw [if_neg n1, if_pos ⟨h38, by omega⟩] at h
        have hq1 := cz_p1 h38 (by decide)
        refine V_aload_n (i := 1) (sx_di dX9_readClause 27 rfl) rfl rfl ?_
        refine V_dup (sx_di dX9_readClause 28 rfl) rfl ?_
        refine V_getI (sx_di dX9_readClause 29 rfl) fX9_46 (fun _ => rfl) (by first | exact (a2_St H1.1 ha).1 | exact H.1.1.k _ rfl | exact H1.1.k _ rfl | exact H2.1.k _ rfl | exact (a2_St H2.1 ha).1) ?_
        refine V_iv (y := nI x.2.1) (H1.2.2.2.1) ?_
        refine V_iconst (v := 1) (sx_di dX9_readClause 30 rfl) (by decide) ?_
        refine V_iadd (sx_di dX9_readClause 31 rfl) ?_
        refine V_iv (y := nI (x.2.1 + 1)) (nI_add _ 1) ?_
        refine V_putI (sx_di dX9_readClause 32 rfl) fX9_46 (fun _ => rfl) rfl (by first | exact (a2_St H1.1 ha).1 | exact H.1.1.k _ rfl | exact H1.1.k _ rfl | exact H2.1.k _ rfl | exact (a2_St H2.1 ha).1) (rfl) (rfl) ?_
        have H2 := sB_n (k := x.2.1 + 1) ha H1
        refine V_aload_n (i := 0) (sx_di dX9_readClause 33 rfl) rfl rfl ?_
        refine V_aload_n (i := 1) (sx_di dX9_readClause 34 rfl) rfl rfl ?_
        refine V_iconst (v := 4) (sx_di dX9_readClause 35 rfl) (by decide) ?_
        refine V_iv (y := nI 4) (rfl) ?_
        refine V_bipush (v := 8) (sx_di dX9_readClause 36 rfl) (by decide) ?_
        refine V_iv (y := nI (4 + 4)) (rfl) ?_
        refine V_iconst (v := 4) (sx_di dX9_readClause 37 rfl) (by decide) ?_
        refine V_iconst (v := 4) (sx_di dX9_readClause 38 rfl) (by decide) ?_
        refine V_aload_n (i := 1) (sx_di dX9_readClause 39 rfl) rfl rfl ?_
        refine V_getI (sx_di dX9_readClause 40 rfl) fX9_46 (fun _ => rfl) (by first | exact (a2_St H1.1 ha).1 | exact H.1.1.k _ rfl | exact H1.1.k _ rfl | exact H2.1.k _ rfl | exact (a2_St H2.1 ha).1) ?_
        refine V_iv (y := nI (x.2.1 + 1)) (H2.2.2.2.1) ?_
        refine V_iconst (v := 1) (sx_di dX9_readClause 41 rfl) (by decide) ?_
        refine V_isub (sx_di dX9_readClause 42 rfl) ?_
        refine V_iv (y := nI x.2.1) (pk_sub (show 1 ≤ x.2.1 + 1 by omega)) ?_
        refine V_imul (sx_di dX9_readClause 43 rfl) ?_
        refine V_iadd (sx_di dX9_readClause 44 rfl) ?_
        refine V_iv (y := nI (4 + 4 * x.2.1)) (nx_add (a := 4) rfl (nx_mul (a := 4) rfl rfl)) ?_
        refine V_cV4 (mc' := 0) (ms' := 0) (M' := mX9_readItems) 8 (sx_di dX9_readClause 45 rfl) lX9_42 vX9_readItems (by first | exact (a2_St H1.1 ha).1 | exact H.1.1.k _ rfl | exact H1.1.k _ rfl | exact H2.1.k _ rfl | exact (a2_St H2.1 ha).1) (by decide) rfl (Nat.le_of_ble_eq_true rfl) ⟨by show 8 + 1 ≤ 9; omega, by show 64 + 64 * (8) ≤ 64 * (9); omega⟩ ⟨Nat.le_refl _, Nat.le_refl _⟩ ?_
        refine c_items9 (m := 4) (n0 := x.2.1) (m0 := x.2.2.1) hX ha (by decide) (by omega) (Or.inr ⟨by omega, rfl⟩) (Or.inl (Nat.le_refl _)) H2 (by rw [sl_a, s1]; exact H.2) hq1 (fun w3 H3 s3 f3 => ?_)
        refine V_zret (sx_di dX9_readClause 46 rfl) rfl (nar_bz _) (Nat.le_refl _) (Nat.le_refl _) ?_
        exact h w3 ⟨H3, s3⟩ (fS_tr f1 (fS_tr (fS_a ha) f3))
  refine V_istore_n (i := 2) (sx_di dX9_readClause 3 rfl) rfl (by decide) (rfl) ?_
  refine V_iload_n (i := 2) (sx_di dX9_readClause 4 rfl) rfl rfl ?_
  refine V_bipush (v := 115) (sx_di dX9_readClause 5 rfl) (by decide) ?_
  refine V_icmp_ne (tgt := 35) (sx_di dX9_readClause 6 rfl) (by decide) (fun h11 => ?_) (fun h11 => ?_)
  · exact V_subk (h35 (fun z => h11 z.1)) ⟨rfl, rfl, rfl, trivial⟩
  · refine V_aload_n (i := 1) (sx_di dX9_readClause 7 rfl) rfl rfl ?_
    refine V_getI (sx_di dX9_readClause 8 rfl) fX9_38 (fun _ => rfl) (by first | exact (a2_St H1.1 ha).1 | exact H.1.1.k _ rfl | exact H1.1.k _ rfl | exact H2.1.k _ rfl | exact (a2_St H2.1 ha).1) ?_
    refine V_iv (y := bz9 x.1) (H1.2.2.2.2.2) ?_
    refine V_if_ne (tgt := 35) (sx_di dX9_readClause 9 rfl) (by decide) (fun h18 => ?_) (fun h18 => ?_)
    · exact V_subk (h35 (fun z => by have := bz9t h18; rw [z.2] at this; exact absurd this Bool.false_ne_true)) ⟨rfl, rfl, rfl, trivial⟩
    · rw [if_pos ⟨h11, Bool.eq_false_iff.mpr (bz9f h18)⟩] at h
      have hq1 := cz_p1 h11 (by decide)
      refine V_aload_n (i := 1) (sx_di dX9_readClause 10 rfl) rfl rfl ?_
      refine V_iconst (v := 1) (sx_di dX9_readClause 11 rfl) (by decide) ?_
      refine V_putI (sx_di dX9_readClause 12 rfl) fX9_38 (fun _ => rfl) rfl (by first | exact (a2_St H1.1 ha).1 | exact H.1.1.k _ rfl | exact H1.1.k _ rfl | exact H2.1.k _ rfl | exact (a2_St H2.1 ha).1) (rfl) (rfl) ?_
      have H2 := sB_hr ha H1
      refine V_aload_n (i := 0) (sx_di dX9_readClause 13 rfl) rfl rfl ?_
      refine V_aload_n (i := 1) (sx_di dX9_readClause 14 rfl) rfl rfl ?_
      refine V_iconst (v := 0) (sx_di dX9_readClause 15 rfl) (by decide) ?_
      refine V_iv (y := nI 0) (rfl) ?_
      refine V_iconst (v := 4) (sx_di dX9_readClause 16 rfl) (by decide) ?_
      refine V_iv (y := nI (0 + 4)) (rfl) ?_
      refine V_iconst (v := 0) (sx_di dX9_readClause 17 rfl) (by decide) ?_
      refine V_iv (y := nI 0) (rfl) ?_
      refine V_cV4 (mc' := 0) (ms' := 0) (M' := mX9_readItems) 8 (sx_di dX9_readClause 18 rfl) lX9_42 vX9_readItems (by first | exact (a2_St H1.1 ha).1 | exact H.1.1.k _ rfl | exact H1.1.k _ rfl | exact H2.1.k _ rfl | exact (a2_St H2.1 ha).1) (by decide) rfl (Nat.le_of_ble_eq_true rfl) ⟨by show 8 + 1 ≤ 9; omega, by show 64 + 64 * (8) ≤ 64 * (9); omega⟩ ⟨Nat.le_refl _, Nat.le_refl _⟩ ?_
      refine c_items9 (m := 4) (n0 := x.2.1) (m0 := x.2.2.1) hX ha (by decide) (by decide) (Or.inl (Nat.le_refl _)) (Or.inl (Nat.le_refl _)) H2 (by rw [sl_a, s1]; exact H.2) hq1 (fun w3 H3 s3 f3 => ?_)
      refine V_zret (sx_di dX9_readClause 19 rfl) rfl (nar_bz _) (Nat.le_refl _) (Nat.le_refl _) ?_
      exact h w3 ⟨H3, s3⟩ (fS_tr f1 (fS_tr (fS_a ha) f3))
theorem sl_nI {I : Nat → Nat → Int32} {a j : Nat} (h : j < 48) : sl_ I a (nI j) = I (a + 1) j := by
  unfold sl_
  rw [if_neg (fun z => z.elim (fun q => nI_pos (by omega) q) (fun q => absurd ((nI_leI (a := 48) (by decide) (by omega)).mp q) (by omega))), nI_clamp (by omega)]
set_option maxHeartbeats 2000000 in
set_option maxRecDepth 20000 in
theorem wh_lp {E : sxE} {w : hpW} {Q : Option Value → hpW → Prop} {a n m : Nat} {s : Nat → Int32} (hs : is_St w a) (hm : hp_i w a 1 = nI m) (hm6 : m ≤ 6) (hg : sg9 n m (hp_i w (a + 1)) s) (h1 : (∀ f, f < m → s (36 + 2 * f + 1) < nI m) → Q (some (.int 1)) w) (h0 : ¬ (∀ f, f < m → s (36 + 2 * f + 1) < nI m) → Q (some (.int 0)) w) : ∀ d k, k + d = m → (∀ f, f < k → s (36 + 2 * f + 1) < nI m) → V E mX8_isWhole (sx_rm 3 0 0) 0 0 0 0 53 [(1, .int (nI k)), (0, .ref a)] [] w Q := by
  intro d
  induction d with
  | zero =>
    intro k hk ha
    have e : k = m := by omega
    subst e
    refine V_iload_n (i := 1) (sx_di dX8_isWhole 28 rfl) rfl rfl ?_
    refine V_aload_n (i := 0) (sx_di dX8_isWhole 29 rfl) rfl rfl ?_
    refine V_getI (sx_di dX8_isWhole 30 rfl) fX8_25 (fun _ => rfl) (by first | exact hs.1 | exact hs.2.1) ?_
    refine V_iv (y := nI k) (hm) ?_
    refine V_icN_ge (a := k) (b := k) (rfl) (rfl) (by omega) (by omega) (tgt := 81) (sx_di dX8_isWhole 31 rfl) (by decide) (fun _ => ?_) (fun h58 => absurd h58 (by omega))
    refine V_iconst (v := 1) (sx_di dX8_isWhole 42 rfl) (by decide) ?_
    refine V_zret (sx_di dX8_isWhole 43 rfl) rfl (by first | rfl | decide) (Nat.le_refl _) (Nat.le_refl _) ?_
    exact h1 ha
  | succ d ih =>
    intro k hk ha
    have ev : sl_ (hp_i w) a (36 + 2 * nI k + 1) = s (36 + 2 * k + 1) := by
      have e1 : (36 + 2 * nI k + 1 : Int32) = nI (36 + 2 * k + 1) := nx_add (nx_add (a := 36) rfl (nx_mul (a := 2) rfl rfl)) rfl
      rw [e1, sl_nI (by omega)]
      exact hg.2.2 (2 * k + 1) (by omega)
    refine V_iload_n (i := 1) (sx_di dX8_isWhole 28 rfl) rfl rfl ?_
    refine V_aload_n (i := 0) (sx_di dX8_isWhole 29 rfl) rfl rfl ?_
    refine V_getI (sx_di dX8_isWhole 30 rfl) fX8_25 (fun _ => rfl) (by first | exact hs.1 | exact hs.2.1) ?_
    refine V_iv (y := nI m) (hm) ?_
    refine V_icN_ge (a := k) (b := m) (rfl) (rfl) (by omega) (by omega) (tgt := 81) (sx_di dX8_isWhole 31 rfl) (by decide) (fun h58 => absurd h58 (by omega)) (fun _ => ?_)
    refine V_aload_n (i := 0) (sx_di dX8_isWhole 32 rfl) rfl rfl ?_
    refine V_iload_n (i := 1) (sx_di dX8_isWhole 33 rfl) rfl rfl ?_
    refine V_cV1 (mc' := 0) (ms' := 0) (M' := mX8_following) 2 (sx_di dX8_isWhole 34 rfl) lX8_47 vX8_following (by first | exact hs.1 | exact hs.2.1) (by decide) rfl (Nat.le_of_ble_eq_true rfl) ⟨Nat.le_of_ble_eq_true rfl, Nat.le_of_ble_eq_true rfl⟩ ⟨Nat.le_refl _, Nat.le_refl _⟩ ?_
    refine c_X8_following hs ?_
    refine V_iv (y := s (36 + 2 * k + 1)) (ev) ?_
    refine V_aload_n (i := 0) (sx_di dX8_isWhole 35 rfl) rfl rfl ?_
    refine V_getI (sx_di dX8_isWhole 36 rfl) fX8_25 (fun _ => rfl) (by first | exact hs.1 | exact hs.2.1) ?_
    refine V_iv (y := nI m) (hm) ?_
    refine V_icmp_lt (tgt := 75) (sx_di dX8_isWhole 37 rfl) (by decide) (fun h70 => ?_) (fun h70 => ?_)
    · have q1 := ih (k + 1) (by omega) (fun f hf => by
        rcases Nat.lt_or_ge f k with z | z
        · exact ha f z
        · have e : f = k := by omega
          rw [e]; exact h70)
      rw [← nI_1 (a := k)] at q1
      refine V_inc (c := 1) (sx_di dX8_isWhole 40 rfl) (by decide) rfl (by decide) (rfl) ?_
      refine V_goto (tgt := 53) (sx_di dX8_isWhole 41 rfl) (by decide) ?_
      exact V_subk q1 ⟨rfl, rfl, trivial⟩
    · refine V_iconst (v := 0) (sx_di dX8_isWhole 38 rfl) (by decide) ?_
      refine V_zret (sx_di dX8_isWhole 39 rfl) rfl (by first | rfl | decide) (Nat.le_refl _) (Nat.le_refl _) ?_
      exact h0 (fun z => h70 (z k (by omega)))
set_option maxHeartbeats 2000000 in
set_option maxRecDepth 20000 in
theorem c_whole9 {E : sxE} {w : hpW} {Q : Option Value → hpW → Prop} {a n m : Nat} {s : Nat → Int32} (hs : is_St w a) (hn : hp_i w a 0 = nI n) (hn8 : n ≤ 8) (hm : hp_i w a 1 = nI m) (hm6 : m ≤ 6) (hg : sg9 n m (hp_i w (a + 1)) s) (h1 : whl n m s → Q (some (.int 1)) w) (h0 : ¬ whl n m s → Q (some (.int 0)) w) : sx_C E mX8_isWhole 3 0 0 [.ref a] w Q := by
  have e1 : sl_ (hp_i w) a 1 = s 1 := (sl_nI (j := 1) (by decide)).trans (hg.1 1 (by decide))
  have e2 : sl_ (hp_i w) a 2 = s 2 := (sl_nI (j := 2) (by decide)).trans (hg.1 2 (by decide))
  refine C_of (by decide +kernel) (Nat.le_of_ble_eq_true rfl) ?_
  refine V_aload_n (i := 0) (sx_di dX8_isWhole 0 rfl) rfl rfl ?_
  refine V_getI (sx_di dX8_isWhole 1 rfl) fX8_15 (fun _ => rfl) (by first | exact hs.1 | exact hs.2.1) ?_
  refine V_iv (y := nI n) (hn) ?_
  refine V_iconst (v := 2) (sx_di dX8_isWhole 2 rfl) (by decide) ?_
  refine V_icN_lt (a := n) (b := 2) (rfl) (rfl) (by omega) (by omega) (tgt := 27) (sx_di dX8_isWhole 3 rfl) (by decide) (fun h5 => ?_) (fun h5 => ?_)
  · refine V_iconst (v := 0) (sx_di dX8_isWhole 13 rfl) (by decide) ?_
    refine V_zret (sx_di dX8_isWhole 14 rfl) rfl (by first | rfl | decide) (Nat.le_refl _) (Nat.le_refl _) ?_
    exact h0 (fun z => by have := z.1; omega)
  · refine V_aload_n (i := 0) (sx_di dX8_isWhole 4 rfl) rfl rfl ?_
    refine V_getI (sx_di dX8_isWhole 5 rfl) fX8_25 (fun _ => rfl) (by first | exact hs.1 | exact hs.2.1) ?_
    refine V_iv (y := nI m) (hm) ?_
    refine V_iconst (v := 1) (sx_di dX8_isWhole 6 rfl) (by decide) ?_
    refine V_icN_lt (a := m) (b := 1) (rfl) (rfl) (by omega) (by omega) (tgt := 27) (sx_di dX8_isWhole 7 rfl) (by decide) (fun h13 => ?_) (fun h13 => ?_)
    · refine V_iconst (v := 0) (sx_di dX8_isWhole 13 rfl) (by decide) ?_
      refine V_zret (sx_di dX8_isWhole 14 rfl) rfl (by first | rfl | decide) (Nat.le_refl _) (Nat.le_refl _) ?_
      exact h0 (fun z => by have := z.2.1; omega)
    · refine V_aload_n (i := 0) (sx_di dX8_isWhole 8 rfl) rfl rfl ?_
      refine V_cV0 (mc' := 0) (ms' := 0) (M' := mX8_firstForm) 2 (sx_di dX8_isWhole 9 rfl) lX8_50 vX8_firstForm (by first | exact hs.1 | exact hs.2.1) (by decide) rfl (Nat.le_of_ble_eq_true rfl) ⟨Nat.le_of_ble_eq_true rfl, Nat.le_of_ble_eq_true rfl⟩ ⟨Nat.le_refl _, Nat.le_refl _⟩ ?_
      refine c_X8_firstForm hs ?_
      refine V_iv (y := s 2) (e2) ?_
      refine V_aload_n (i := 0) (sx_di dX8_isWhole 10 rfl) rfl rfl ?_
      refine V_getI (sx_di dX8_isWhole 11 rfl) fX8_25 (fun _ => rfl) (by first | exact hs.1 | exact hs.2.1) ?_
      refine V_iv (y := nI m) (hm) ?_
      refine V_icmp_lt (tgt := 29) (sx_di dX8_isWhole 12 rfl) (by decide) (fun h24 => ?_) (fun h24 => ?_)
      · refine V_aload_n (i := 0) (sx_di dX8_isWhole 15 rfl) rfl rfl ?_
        refine V_cV0 (mc' := 0) (ms' := 0) (M' := mX8_firstHouse) 2 (sx_di dX8_isWhole 16 rfl) lX8_54 vX8_firstHouse (by first | exact hs.1 | exact hs.2.1) (by decide) rfl (Nat.le_of_ble_eq_true rfl) ⟨Nat.le_of_ble_eq_true rfl, Nat.le_of_ble_eq_true rfl⟩ ⟨Nat.le_refl _, Nat.le_refl _⟩ ?_
        refine c_X8_firstHouse hs ?_
        refine V_iv (y := s 1) (e1) ?_
        refine V_bipush (v := 8) (sx_di dX8_isWhole 17 rfl) (by decide) ?_
        refine V_icmp_eq (tgt := 51) (sx_di dX8_isWhole 18 rfl) (by decide) (fun h35 => ?_) (fun h35 => ?_)
        · refine V_iconst (v := 0) (sx_di dX8_isWhole 26 rfl) (by decide) ?_
          refine V_istore_n (i := 1) (sx_di dX8_isWhole 27 rfl) rfl (by decide) (rfl) ?_
          refine V_sub (ls' := [(1, .int (nI 0)), (0, .ref a)]) ⟨rfl, rfl, trivial⟩ ?_
          exact wh_lp hs hm hm6 hg (fun z => h1 ⟨by omega, by omega, h24, Or.inl h35, z⟩) (fun z => h0 (fun q => z q.2.2.2.2)) m 0 (by omega) (fun f hf => absurd hf (Nat.not_lt_zero f))
        · refine V_aload_n (i := 0) (sx_di dX8_isWhole 19 rfl) rfl rfl ?_
          refine V_cV0 (mc' := 0) (ms' := 0) (M' := mX8_firstHouse) 2 (sx_di dX8_isWhole 20 rfl) lX8_54 vX8_firstHouse (by first | exact hs.1 | exact hs.2.1) (by decide) rfl (Nat.le_of_ble_eq_true rfl) ⟨Nat.le_of_ble_eq_true rfl, Nat.le_of_ble_eq_true rfl⟩ ⟨Nat.le_refl _, Nat.le_refl _⟩ ?_
          refine c_X8_firstHouse hs ?_
          refine V_iv (y := s 1) (e1) ?_
          refine V_aload_n (i := 0) (sx_di dX8_isWhole 21 rfl) rfl rfl ?_
          refine V_getI (sx_di dX8_isWhole 22 rfl) fX8_15 (fun _ => rfl) (by first | exact hs.1 | exact hs.2.1) ?_
          refine V_iv (y := nI n) (hn) ?_
          refine V_icmp_lt (tgt := 51) (sx_di dX8_isWhole 23 rfl) (by decide) (fun h46 => ?_) (fun h46 => ?_)
          · refine V_iconst (v := 0) (sx_di dX8_isWhole 26 rfl) (by decide) ?_
            refine V_istore_n (i := 1) (sx_di dX8_isWhole 27 rfl) rfl (by decide) (rfl) ?_
            refine V_sub (ls' := [(1, .int (nI 0)), (0, .ref a)]) ⟨rfl, rfl, trivial⟩ ?_
            exact wh_lp hs hm hm6 hg (fun z => h1 ⟨by omega, by omega, h24, Or.inr h46, z⟩) (fun z => h0 (fun q => z q.2.2.2.2)) m 0 (by omega) (fun f hf => absurd hf (Nat.not_lt_zero f))
          · refine V_iconst (v := 0) (sx_di dX8_isWhole 24 rfl) (by decide) ?_
            refine V_zret (sx_di dX8_isWhole 25 rfl) rfl (by first | rfl | decide) (Nat.le_refl _) (Nat.le_refl _) ?_
            exact h0 (fun z => z.2.2.2.1.elim h35 h46)
      · refine V_iconst (v := 0) (sx_di dX8_isWhole 13 rfl) (by decide) ?_
        refine V_zret (sx_di dX8_isWhole 14 rfl) rfl (by first | rfl | decide) (Nat.le_refl _) (Nat.le_refl _) ?_
        exact h0 (fun z => h24 z.2.2.1)
noncomputable def sres (y : scT) : Int32 := if y.1 = true then -1 else nI y.2.2
/-- the street at a is x -/
def sQ9 (a : Nat) (x : srT) (w : hpW) : Prop := hp_i w a 0 = nI x.2.1 ∧ hp_i w a 1 = nI x.2.2.1 ∧ sg9 x.2.1 x.2.2.1 (hp_i w (a + 1)) x.2.2.2
set_option maxHeartbeats 2000000 in
set_option maxRecDepth 20000 in
theorem rS_lp {E : sxE} {T : List Int32} {a : Nat} {Q : Option Value → hpW → Prop} (hX : XO E) (ha : a2_ a) : ∀ f x p i w, sP T a p x w → sok x → i ≤ p → p ≤ T.length → T.length + 1 ≤ p + f → (∀ w', ly_B w' → tp_ w' 17 1 18 T → fS a w w' → ((stF T f x p).1 = true → sQ9 a (stF T f x p).2.1 w') → Q (some (.int (sres (stF T f x p)))) w') → V E mX9_read (sx_rm 10 0 0) 0 0 0 0 14 [(2, .int (nI i)), (1, .ref a), (0, .ref 19)] [] w Q := by
  intro f
  induction f with
  | zero =>
    intro x p i w H hx hi hp hf
    omega
  | succ f ih =>
    intro x p i w H hx hi hp hf h
    have hT := H.1.2.1.1
    obtain ⟨a1, a2, a3⟩ := scl_go hx hp
    unfold stF at h
    refine V_iload_n (i := 2) (sx_di dX9_read 8 rfl) rfl rfl ?_
    refine V_sipush (v := 240) (sx_di dX9_read 9 rfl) (by decide) ?_
    refine V_icN_gt (a := i) (b := 240) (rfl) (rfl) (by omega) (by omega) (tgt := 86) (sx_di dX9_read 10 rfl) (by decide) (fun h18 => absurd h18 (by omega)) (fun _ => ?_)
    refine V_aload_n (i := 0) (sx_di dX9_read 11 rfl) rfl rfl ?_
    refine V_aload_n (i := 1) (sx_di dX9_read 12 rfl) rfl rfl ?_
    refine V_cV1 (mc' := 0) (ms' := 0) (M' := mX9_readClause) 9 (sx_di dX9_read 13 rfl) lX9_26 vX9_readClause (by first | exact (a2_St H.1.1 ha).1 | exact (a2_St H2.1 ha).1 | exact H.1.1.k _ rfl | exact H1.1.1.k _ rfl | exact H2.1.k _ rfl) (by decide) rfl (Nat.le_of_ble_eq_true rfl) ⟨by show 9 + 1 ≤ 10; omega, by show 64 + 64 * (9) ≤ 64 * (10); omega⟩ ⟨Nat.le_refl _, Nat.le_refl _⟩ ?_
    refine c_sclause9 hX ha hx H hp (fun w1 H1 f1 => ?_)
    refine V_if_ne (tgt := 37) (sx_di dX9_read 14 rfl) (by decide) (fun h26 => ?_) (fun h26 => ?_)
    · have b26 := bz9t h26
      rw [Bool.and_eq_true] at b26
      have b1 := b26.1
      have b2 := a3 b1
      rw [if_pos b1] at h
      have be := of_decide_eq_true b26.2
      refine V_aload_n (i := 0) (sx_di dX9_read 19 rfl) rfl rfl ?_
      refine V_getR (sx_di dX9_read 20 rfl) fX9_9 (fun _ => rfl) (by first | exact (a2_St H.1.1 ha).1 | exact (a2_St H2.1 ha).1 | exact H.1.1.k _ rfl | exact H1.1.1.k _ rfl | exact H2.1.k _ rfl) (by first | exact H.1.1.r _ _ rfl | exact H1.1.1.r _ _ rfl | exact H2.1.r _ _ rfl) ?_
      refine V_cV0 (mc' := 0) (ms' := 0) (M' := mX10_sign) 1 (sx_di dX9_read 21 rfl) lX9_30 vX10_sign (by first | exact (a2_St H.1.1 ha).1 | exact (a2_St H2.1 ha).1 | exact H.1.1.k _ rfl | exact H1.1.1.k _ rfl | exact H2.1.k _ rfl) (by decide) rfl (Nat.le_of_ble_eq_true rfl) ⟨by show 1 + 1 ≤ 10; omega, by show 64 + 64 * (1) ≤ 64 * (10); omega⟩ ⟨Nat.le_refl _, Nat.le_refl _⟩ ?_
      refine c_signS ha H1.1 a2 (fun w2 H2 f2 s2 => ?_)
      rw [b2.2.2] at H2
      have g2s : sg9 (scl_ T x p).2.1.2.1 (scl_ T x p).2.1.2.2.1 (hp_i w2 (a + 1)) (scl_ T x p).2.1.2.2.2 := by rw [s2]; exact H1.2
      refine V_iconst (v := -1) (sx_di dX9_read 22 rfl) (by decide) ?_
      refine V_icmp_ne (tgt := 67) (sx_di dX9_read 23 rfl) (by decide) (fun h45 => ?_) (fun h45 => ?_)
      · have c59 : cz_ T (scl_ T x p).2.2 = 59 := be.resolve_left h45
        rw [if_pos c59] at h
        have z1 := cz_p1 c59 (by decide)
        rw [b2.2.2] at h z1
        refine V_aload_n (i := 0) (sx_di dX9_read 33 rfl) rfl rfl ?_
        refine V_getR (sx_di dX9_read 34 rfl) fX9_9 (fun _ => rfl) (by first | exact (a2_St H.1.1 ha).1 | exact (a2_St H2.1 ha).1 | exact H.1.1.k _ rfl | exact H1.1.1.k _ rfl | exact H2.1.k _ rfl) (by first | exact H.1.1.r _ _ rfl | exact H1.1.1.r _ _ rfl | exact H2.1.r _ _ rfl) ?_
        refine V_dup (sx_di dX9_read 35 rfl) rfl ?_
        refine V_getI (sx_di dX9_read 36 rfl) fX9_20 (fun _ => rfl) (by first | exact (a2_St H.1.1 ha).1 | exact (a2_St H2.1 ha).1 | exact H.1.1.k _ rfl | exact H1.1.1.k _ rfl | exact H2.1.k _ rfl) ?_
        refine V_iv (y := nI (scl_ T x p).2.2) (H2.2.2.1) ?_
        refine V_iconst (v := 1) (sx_di dX9_read 37 rfl) (by decide) ?_
        refine V_iadd (sx_di dX9_read 38 rfl) ?_
        refine V_iv (y := nI ((scl_ T x p).2.2 + 1)) (nI_add _ 1) ?_
        refine V_putI (sx_di dX9_read 39 rfl) fX9_20 (fun _ => rfl) rfl (by first | exact (a2_St H.1.1 ha).1 | exact (a2_St H2.1 ha).1 | exact H.1.1.k _ rfl | exact H1.1.1.k _ rfl | exact H2.1.k _ rfl) (rfl) (rfl) ?_
        refine V_hdS ha H2 (fun w3 H3 f3 s3 => ?_)
        refine V_inc (c := 1) (sx_di dX9_read 40 rfl) (by decide) rfl (by decide) (rfl) ?_
        refine V_goto (tgt := 14) (sx_di dX9_read 41 rfl) (by decide) ?_
        have q1 := ih (scl_ T x p).2.1 ((scl_ T x p).2.2 + 1) (i + 1) w3 ⟨H3, by rw [s3]; exact g2s⟩ b2.1 (by omega) z1 (by omega) (fun w4 B4 t4 f4 s4 => h w4 B4 t4 (fS_tr f1 (fS_tr f2 (fS_tr f3 f4))) s4)
        rw [← nI_1 (a := i)] at q1
        exact V_subk q1 ⟨rfl, rfl, rfl, trivial⟩
      · rw [if_neg (by rw [h45]; decide)] at h
        refine V_aload_n (i := 1) (sx_di dX9_read 24 rfl) rfl rfl ?_
        refine V_cV0 (mc' := 0) (ms' := 0) (M' := mX8_isWhole) 3 (sx_di dX9_read 25 rfl) lX9_34 vX8_isWhole (by first | exact (a2_St H.1.1 ha).1 | exact (a2_St H2.1 ha).1 | exact H.1.1.k _ rfl | exact H1.1.1.k _ rfl | exact H2.1.k _ rfl) (by decide) rfl (Nat.le_of_ble_eq_true rfl) ⟨by show 3 + 1 ≤ 10; omega, by show 64 + 64 * (3) ≤ 64 * (10); omega⟩ ⟨Nat.le_refl _, Nat.le_refl _⟩ ?_
        refine c_whole9 (a2_St H2.1 ha) H2.2.2.2.1 b2.1.1 H2.2.2.2.2.1 b2.1.2.1 g2s (fun hw => ?_) (fun hw => ?_)
        · rw [if_pos ⟨h45, hw⟩] at h
          refine V_if_eq (tgt := 59) (sx_di dX9_read 26 rfl) (by decide) (fun h52 => absurd h52 (by decide)) (fun _ => ?_)
          refine V_iconst (v := -1) (sx_di dX9_read 27 rfl) (by decide) ?_
          refine V_goto (tgt := 66) (sx_di dX9_read 28 rfl) (by decide) ?_
          refine V_iret (sx_di dX9_read 32 rfl) rfl (Nat.le_refl _) (Nat.le_refl _) ?_
          exact h w2 H2.1 H2.2.1 (fS_tr f1 f2) (fun _ => ⟨H2.2.2.2.1, H2.2.2.2.2.1, g2s⟩)
        · rw [if_neg (fun z => hw z.2), b2.2.2] at h
          refine V_if_eq (tgt := 59) (sx_di dX9_read 26 rfl) (by decide) (fun _ => ?_) (fun h52 => absurd rfl h52)
          refine V_aload_n (i := 0) (sx_di dX9_read 29 rfl) rfl rfl ?_
          refine V_getR (sx_di dX9_read 30 rfl) fX9_9 (fun _ => rfl) (by first | exact H2.1.k _ rfl) (H2.1.r _ _ rfl) ?_
          refine V_getI (sx_di dX9_read 31 rfl) fX9_20 (fun _ => rfl) (by first | exact H2.1.k _ rfl) ?_
          refine V_iv (y := nI (scl_ T x p).2.2) (H2.2.2.1) ?_
          refine V_iret (sx_di dX9_read 32 rfl) rfl (Nat.le_refl _) (Nat.le_refl _) ?_
          exact h w2 H2.1 H2.2.1 (fS_tr f1 f2) (fun z => absurd z Bool.false_ne_true)
    · refine V_aload_n (i := 0) (sx_di dX9_read 15 rfl) rfl rfl ?_
      refine V_getR (sx_di dX9_read 16 rfl) fX9_9 (fun _ => rfl) (by first | exact (a2_St H.1.1 ha).1 | exact (a2_St H2.1 ha).1 | exact H.1.1.k _ rfl | exact H1.1.1.k _ rfl | exact H2.1.k _ rfl) (by first | exact H.1.1.r _ _ rfl | exact H1.1.1.r _ _ rfl | exact H2.1.r _ _ rfl) ?_
      refine V_getI (sx_di dX9_read 17 rfl) fX9_20 (fun _ => rfl) (by first | exact (a2_St H.1.1 ha).1 | exact (a2_St H2.1 ha).1 | exact H.1.1.k _ rfl | exact H1.1.1.k _ rfl | exact H2.1.k _ rfl) ?_
      refine V_iv (y := nI (scl_ T x p).2.2) (H1.1.2.2.1) ?_
      refine V_iret (sx_di dX9_read 18 rfl) rfl (Nat.le_refl _) (Nat.le_refl _) ?_
      by_cases c1 : (scl_ T x p).1 = true
      · have b2 := a3 c1
        have ne : ¬ (cz_ T (scl_ T x p).2.2 = -1 ∨ cz_ T (scl_ T x p).2.2 = 59) := fun z => bz9f h26 (by rw [c1, Bool.true_and]; exact decide_eq_true z)
        rw [if_pos c1, if_neg (fun z => ne (Or.inr z)), if_neg (fun z => ne (Or.inl z.1)), b2.2.2] at h
        exact h w1 H1.1.1 H1.1.2.1 f1 (fun z => absurd z Bool.false_ne_true)
      · rw [if_neg c1] at h
        exact h w1 H1.1.1 H1.1.2.1 f1 (fun z => absurd z Bool.false_ne_true)
set_option maxHeartbeats 2000000 in
set_option maxRecDepth 20000 in
theorem c_X8_clear {E : sxE} {w : hpW} {Q : Option Value → hpW → Prop} (hX : XO E) {a : Nat} (hs : is_St w a) (h : Q none (sw9 (hp_si (hp_si (hp_si w a 0 0) a 1 0) a 2 0) a (us9_ 0 4 0 (hp_i (hp_si (hp_si (hp_si w a 0 0) a 1 0) a 2 0) (a + 1))))) : sx_C E mX8_clear 3 0 0 [.ref a] w Q := by
  refine C_of (by decide +kernel) (Nat.le_of_ble_eq_true rfl) ?_
  refine V_aload_n (i := 0) (sx_di dX8_clear 0 rfl) rfl rfl ?_
  refine V_iconst (v := 0) (sx_di dX8_clear 1 rfl) (by decide) ?_
  refine V_putI (sx_di dX8_clear 2 rfl) fX8_15 (fun _ => rfl) rfl (by first | exact hs.1) (rfl) (rfl) ?_
  refine V_aload_n (i := 0) (sx_di dX8_clear 3 rfl) rfl rfl ?_
  refine V_iconst (v := 0) (sx_di dX8_clear 4 rfl) (by decide) ?_
  refine V_putI (sx_di dX8_clear 5 rfl) fX8_25 (fun _ => rfl) rfl (by first | exact hs.1) (rfl) (rfl) ?_
  refine V_aload_n (i := 0) (sx_di dX8_clear 6 rfl) rfl rfl ?_
  refine V_iconst (v := 0) (sx_di dX8_clear 7 rfl) (by decide) ?_
  refine V_putI (sx_di dX8_clear 8 rfl) fX8_28 (fun _ => rfl) rfl (by first | exact hs.1) (rfl) (rfl) ?_
  refine V_aload_n (i := 0) (sx_di dX8_clear 9 rfl) rfl rfl ?_
  refine V_iconst (v := 0) (sx_di dX8_clear 10 rfl) (by decide) ?_
  refine V_iv (y := nI 0) (rfl) ?_
  refine V_iconst (v := 4) (sx_di dX8_clear 11 rfl) (by decide) ?_
  refine V_iv (y := nI (0 + 4)) (rfl) ?_
  refine V_iconst (v := 0) (sx_di dX8_clear 12 rfl) (by decide) ?_
  refine V_iv (y := nI 0) (rfl) ?_
  refine V_cV3 (mc' := 0) (ms' := 0) (M' := mX8_setUsual) 2 (sx_di dX8_clear 13 rfl) lX8_32 vX8_setUsual (by first | exact hs.1) (by decide) rfl (Nat.le_of_ble_eq_true rfl) ⟨Nat.le_of_ble_eq_true rfl, Nat.le_of_ble_eq_true rfl⟩ ⟨Nat.le_refl _, Nat.le_refl _⟩ ?_
  refine c_X8_setUsual (w := hp_si (hp_si (hp_si w a 0 0) a 1 0) a 2 0) hX hs (by decide) (by decide) ?_
  refine V_vret (sx_di dX8_clear 14 rfl) rfl (Nat.le_refl _) (Nat.le_refl _) ?_
  exact h
set_option maxHeartbeats 2000000 in
set_option maxRecDepth 20000 in
theorem c_rdStreet {E : sxE} {T : List Int32} {a : Nat} {w : hpW} {Q : Option Value → hpW → Prop} (hX : XO E) (ha : a2_ a) (hB : ly_B w) (hT : tp_ w 17 1 18 T) (h : (∀ w', ly_B w' → tp_ w' 17 1 18 T → fS a w w' → ((str9 T).1 = true → sQ9 a (str9 T).2.1 w') → Q (some (.int (sres (str9 T)))) w')) : sx_C E mX9_read 10 0 0 [.ref 19, .ref a] w Q := by
  have h2 := ha
  unfold a2_ at h2
  have hs := a2_St hB ha
  refine C_of (by decide +kernel) (Nat.le_of_ble_eq_true rfl) ?_
  have zz : True := trivial
  refine V_aload_n (i := 1) (sx_di dX9_read 0 rfl) rfl rfl ?_
  refine V_cV0 (mc' := 0) (ms' := 0) (M' := mX8_clear) 3 (sx_di dX9_read 1 rfl) lX9_15 vX8_clear (by first | exact hs.1 | exact hB.k _ rfl | exact B3.k _ rfl) (by decide) rfl (Nat.le_of_ble_eq_true rfl) ⟨by show 3 + 1 ≤ 10; omega, by show 64 + 64 * (3) ≤ 64 * (10); omega⟩ ⟨Nat.le_refl _, Nat.le_refl _⟩ ?_
  refine c_X8_clear hX hs ?_
  have B3 : ly_B (sw9 (hp_si (hp_si (hp_si w a 0 0) a 1 0) a 2 0) a (us9_ 0 4 0 (hp_i (hp_si (hp_si (hp_si w a 0 0) a 1 0) a 2 0) (a + 1)))) := ly_wi hB _
  refine V_aload_n (i := 0) (sx_di dX9_read 2 rfl) rfl rfl ?_
  refine V_getR (sx_di dX9_read 3 rfl) fX9_9 (fun _ => rfl) (by first | exact hs.1 | exact hB.k _ rfl | exact B3.k _ rfl) (by first | exact B3.r _ _ rfl) ?_
  refine V_iconst (v := 0) (sx_di dX9_read 4 rfl) (by decide) ?_
  refine V_putI (sx_di dX9_read 5 rfl) fX9_20 (fun _ => rfl) rfl (by first | exact hs.1 | exact hB.k _ rfl | exact B3.k _ rfl) (rfl) (rfl) ?_
  refine V_iconst (v := 0) (sx_di dX9_read 6 rfl) (by decide) ?_
  refine V_istore_n (i := 2) (sx_di dX9_read 7 rfl) rfl (by decide) (rfl) ?_
  refine V_sub (ls' := [(2, .int (nI 0)), (1, .ref a), (0, .ref 19)]) ⟨rfl, rfl, rfl, trivial⟩ ?_
  have eo : ∀ b j, b ≠ a + 1 → b ≠ a → hp_i (sw9 (hp_si (hp_si (hp_si w a 0 0) a 1 0) a 2 0) a (us9_ 0 4 0 (hp_i (hp_si (hp_si (hp_si w a 0 0) a 1 0) a 2 0) (a + 1)))) b j = hp_i w b j := fun b j e1 e2 => by
    rw [show hp_i (sw9 (hp_si (hp_si (hp_si w a 0 0) a 1 0) a 2 0) a (us9_ 0 4 0 (hp_i (hp_si (hp_si (hp_si w a 0 0) a 1 0) a 2 0) (a + 1)))) b = hp_i (hp_si (hp_si (hp_si w a 0 0) a 1 0) a 2 0) b from if_neg e1, si_p (fun z => e2 z.1), si_p (fun z => e2 z.1), si_p (fun z => e2 z.1)]
  have ea : ∀ j, hp_i (sw9 (hp_si (hp_si (hp_si w a 0 0) a 1 0) a 2 0) a (us9_ 0 4 0 (hp_i (hp_si (hp_si (hp_si w a 0 0) a 1 0) a 2 0) (a + 1)))) a j = hp_i (hp_si (hp_si (hp_si w a 0 0) a 1 0) a 2 0) a j := fun j => congrFun (show hp_i (sw9 (hp_si (hp_si (hp_si w a 0 0) a 1 0) a 2 0) a (us9_ 0 4 0 (hp_i (hp_si (hp_si (hp_si w a 0 0) a 1 0) a 2 0) (a + 1)))) a = hp_i (hp_si (hp_si (hp_si w a 0 0) a 1 0) a 2 0) a from if_neg (by omega)) j
  refine rS_lp hX ha (T.length + 1) sr0 0 0 _ (⟨⟨B3, ⟨hT.1, ?_, fun j hj => ?_⟩, ?_, ?_, ?_, ?_⟩, ?_⟩ : sP T a 0 sr0 (hp_si (sw9 (hp_si (hp_si (hp_si w a 0 0) a 1 0) a 2 0) a (us9_ 0 4 0 (hp_i (hp_si (hp_si (hp_si w a 0 0) a 1 0) a 2 0) (a + 1)))) 17 2 0)) sr0_ok (Nat.le_refl _) (Nat.zero_le _) (by omega) (fun w4 B4 t4 f4 s4 => h w4 B4 t4 (fS_tr ?_ f4) s4)
  · rw [si_p (by omega), eo 17 1 (by omega) (by omega)]; exact hT.2.1
  · rw [si_p (by omega), eo 18 j (by omega) (by omega)]; exact hT.2.2 j hj
  · rw [hp_i_si, if_pos ⟨rfl, rfl⟩]; rfl
  · rw [si_p (by omega), ea, si_p (by omega), si_p (by omega), hp_i_si, if_pos ⟨rfl, rfl⟩]; rfl
  · rw [si_p (by omega), ea, si_p (by omega), hp_i_si, if_pos ⟨rfl, rfl⟩]; rfl
  · rw [si_p (by omega), ea, hp_i_si, if_pos ⟨rfl, rfl⟩]; rfl
  · have e9 : hp_i (hp_si (sw9 (hp_si (hp_si (hp_si w a 0 0) a 1 0) a 2 0) a (us9_ 0 4 0 (hp_i (hp_si (hp_si (hp_si w a 0 0) a 1 0) a 2 0) (a + 1)))) 17 2 0) (a + 1) = us9_ 0 4 0 (hp_i (hp_si (hp_si (hp_si w a 0 0) a 1 0) a 2 0) (a + 1)) := by
      funext i
      rw [si_p (by omega)]
      exact congrFun sl_sw i
    rw [e9]
    refine ⟨fun j hj => ?_, fun j hj => absurd hj (Nat.not_lt_zero j), fun j hj => absurd hj (Nat.not_lt_zero j)⟩
    show us9_ 0 4 0 (hp_i (hp_si (hp_si (hp_si w a 0 0) a 1 0) a 2 0) (a + 1)) j = us9_ 0 4 0 (fun _ => 0) j
    unfold us9_
    rw [if_pos (by omega), if_pos (by omega)]
  · refine ⟨rfl, fun b h1 h3 h4 => ?_, fun j h1 h3 => ?_⟩
    · funext j
      rw [si_p (by omega), eo b j h4 h3]
    · rw [si_p (by omega), eo 17 j (by omega) (by omega)]

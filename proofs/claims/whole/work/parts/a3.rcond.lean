/-! the reference reads a law: conditions -/
theorem R9_pre {T : List Int32} {n d B : Nat} {X Y : List Int32} {z : prT} {w : hpW} (H : R9 T n d B (X ++ Y) z w) : R9 T n d B X (if z.1 = true then (true, Y ++ z.2.1, z.2.2) else pf_ z.2.2) w := by
  by_cases h : z.1 = true
  · rw [if_pos h]
    obtain ⟨h1, h2⟩ := R9_y H h
    exact R9_of h1 (by rw [← List.append_assoc]; exact h2)
  · rw [if_neg h]
    exact R9_f H h Bool.false_ne_true rfl
theorem isC_ec {c : Int32} (h : isC c = true) : ec_ (-c) = (if c = 61 then 6 else if c = 60 then 7 else 8) ∧ ev_ (-c) = 0 := by
  rcases of_decide_eq_true h with z | z | z <;> (rw [z]; decide)
set_option maxHeartbeats 2000000 in
set_option maxRecDepth 20000 in
theorem c_cmp9 {E : sxE} {T : List Int32} {n d D B p : Nat} {s : Nat → prT} {X Y : List Int32} {w : hpW} {Q : Option Value → hpW → Prop} (hn : n < 5) (hD : 2 ≤ D) (hB : B < 500) (hB0 : 242 ≤ B) (hs : goS T s) (hA : kR E T n d D B mX12_sum s) (H : rrP T n d p w) (hx : rrX n (X ++ Y) w) (hl : (X ++ Y).length ≤ p) (hp : p ≤ T.length) (h : ∀ w', R9 T n d (B + 1) X (cm_ T s Y p) w' → fM n w w' → Q none w') : sx_C E mX12_compare (D + 1) 0 0 [.ref 381] w Q := by
  have hT := H.2.1.1
  have g1 := skp_ge T p
  have g2 := skq_le (T := T) hp
  unfold cm_ at h
  refine C_of (by decide +kernel) (Nat.le_of_ble_eq_true rfl) ?_
  refine V_aload_n (i := 0) (sx_di dX12_compare 0 rfl) rfl rfl ?_
  refine V_getI (sx_di dX12_compare 1 rfl) fX12_116 (fun _ => rfl) (by first | exact H.1.k _ rfl | exact H1.1.k _ rfl | exact H2.1.k _ rfl | exact H3.1.k _ rfl | exact H4.1.k _ rfl | exact H5.1.k _ rfl | exact H6.1.k _ rfl | exact H.1.1.k _ rfl | exact H1.1.1.k _ rfl | exact H2.1.1.k _ rfl | exact H3.1.1.k _ rfl | exact H4.1.1.k _ rfl | exact H5.1.1.k _ rfl | exact H6.1.1.k _ rfl) ?_
  refine V_iv (y := -1) (H.2.2.2.1) ?_
  refine V_iconst (v := -1) (sx_di dX12_compare 2 rfl) (by decide) ?_
  refine V_icmp_ne (tgt := 15) (sx_di dX12_compare 3 rfl) (by decide) (fun h5 => absurd rfl h5) (fun _ => ?_)
  refine V_aload_n (i := 0) (sx_di dX12_compare 4 rfl) rfl rfl ?_
  refine V_cV0 (mc' := 0) (ms' := 0) (M' := mX12_look) 2 (sx_di dX12_compare 5 rfl) lX12_128 vX12_look (by first | exact H.1.k _ rfl | exact H1.1.k _ rfl | exact H2.1.k _ rfl | exact H3.1.k _ rfl | exact H4.1.k _ rfl | exact H5.1.k _ rfl | exact H6.1.k _ rfl | exact H.1.1.k _ rfl | exact H1.1.1.k _ rfl | exact H2.1.1.k _ rfl | exact H3.1.1.k _ rfl | exact H4.1.1.k _ rfl | exact H5.1.1.k _ rfl | exact H6.1.1.k _ rfl) (by decide) rfl (Nat.le_of_ble_eq_true rfl) ⟨by show 2 + 1 ≤ D + 1; omega, by show 64 + 64 * (2) ≤ 64 * (D + 1); omega⟩ ⟨Nat.le_refl _, Nat.le_refl _⟩ ?_
  refine c_look9 H hp (fun w1 H1 f1 x1 => ?_)
  refine V_goto (tgt := 16) (sx_di dX12_compare 6 rfl) (by decide) ?_
  refine V_istore_n (i := 1) (sx_di dX12_compare 8 rfl) rfl (by decide) (rfl) ?_
  refine V_iload_n (i := 1) (sx_di dX12_compare 9 rfl) rfl rfl ?_
  refine V_cS1 (mc' := 0) (ms' := 0) (M' := mX12_isSign) 1 (sx_di dX12_compare 10 rfl) lX12_162 vX12_isSign (Nat.le_of_ble_eq_true rfl) ⟨by show 1 + 1 ≤ D + 1; omega, by show 64 + 64 * (1) ≤ 64 * (D + 1); omega⟩ ⟨Nat.le_refl _, Nat.le_refl _⟩ ?_
  refine c_X12_isSign ?_
  refine V_if_ne (tgt := 29) (sx_di dX12_compare 11 rfl) (by decide) (fun h21 => ?_) (fun h21 => ?_)
  · have b21 := bz9t h21
    rw [if_pos b21] at h
    have hq1 := cz_lt (isC_n b21)
    have hg := hs (skp_ T p + 1) hq1
    have hop := isC_ec b21
    refine V_aload_n (i := 0) (sx_di dX12_compare 15 rfl) rfl rfl ?_
    refine V_dup (sx_di dX12_compare 16 rfl) rfl ?_
    refine V_getI (sx_di dX12_compare 17 rfl) fX12_109 (fun _ => rfl) (by first | exact H.1.k _ rfl | exact H1.1.k _ rfl | exact H2.1.k _ rfl | exact H3.1.k _ rfl | exact H4.1.k _ rfl | exact H5.1.k _ rfl | exact H6.1.k _ rfl | exact H.1.1.k _ rfl | exact H1.1.1.k _ rfl | exact H2.1.1.k _ rfl | exact H3.1.1.k _ rfl | exact H4.1.1.k _ rfl | exact H5.1.1.k _ rfl | exact H6.1.1.k _ rfl) ?_
    refine V_iconst (v := 1) (sx_di dX12_compare 18 rfl) (by decide) ?_
    refine V_iadd (sx_di dX12_compare 19 rfl) ?_
    refine V_putI (sx_di dX12_compare 20 rfl) fX12_109 (fun _ => rfl) rfl (by first | exact H.1.k _ rfl | exact H1.1.k _ rfl | exact H2.1.k _ rfl | exact H3.1.k _ rfl | exact H4.1.k _ rfl | exact H5.1.k _ rfl | exact H6.1.k _ rfl | exact H.1.1.k _ rfl | exact H1.1.1.k _ rfl | exact H2.1.1.k _ rfl | exact H3.1.1.k _ rfl | exact H4.1.1.k _ rfl | exact H5.1.1.k _ rfl | exact H6.1.1.k _ rfl) (rfl) (rfl) ?_
    refine V_at9 H1 (fun w2 H2 f2 x2 => ?_)
    refine V_aload_n (i := 0) (sx_di dX12_compare 21 rfl) rfl rfl ?_
    refine V_cV0 (mc' := 0) (ms' := 0) (M' := mX12_sum) D (sx_di dX12_compare 22 rfl) lX12_149 vX12_sum (by first | exact H.1.k _ rfl | exact H1.1.k _ rfl | exact H2.1.k _ rfl | exact H3.1.k _ rfl | exact H4.1.k _ rfl | exact H5.1.k _ rfl | exact H6.1.k _ rfl | exact H.1.1.k _ rfl | exact H1.1.1.k _ rfl | exact H2.1.1.k _ rfl | exact H3.1.1.k _ rfl | exact H4.1.1.k _ rfl | exact H5.1.1.k _ rfl | exact H6.1.1.k _ rfl) (by decide) rfl (Nat.le_of_ble_eq_true rfl) ⟨by show D + 1 ≤ D + 1; omega, by show 64 + 64 * (D) ≤ 64 * (D + 1); omega⟩ ⟨Nat.le_refl _, Nat.le_refl _⟩ ?_
    refine hA (X ++ Y) (skp_ T p + 1) w2 _ H2 (x2 _ (x1 _ hx)) (by omega) hq1 (fun w3 H3 f3 => ?_)
    refine V_aload_n (i := 0) (sx_di dX12_compare 23 rfl) rfl rfl ?_
    refine V_iload_n (i := 1) (sx_di dX12_compare 24 rfl) rfl rfl ?_
    refine V_bipush (v := 61) (sx_di dX12_compare 25 rfl) (by decide) ?_
    refine V_icmp_ne (tgt := 55) (sx_di dX12_compare 26 rfl) (by decide) (fun h47 => ?_) (fun h47 => ?_)
    · refine V_iload_n (i := 1) (sx_di dX12_compare 29 rfl) rfl rfl ?_
      refine V_bipush (v := 60) (sx_di dX12_compare 30 rfl) (by decide) ?_
      refine V_icmp_ne (tgt := 66) (sx_di dX12_compare 31 rfl) (by decide) (fun h58 => ?_) (fun h58 => ?_)
      · refine V_bipush (v := 8) (sx_di dX12_compare 34 rfl) (by decide) ?_
        refine V_iconst (v := 0) (sx_di dX12_compare 35 rfl) (by decide) ?_
        refine V_cV2 (mc' := 0) (ms' := 0) (M' := mX12_put) 1 (sx_di dX12_compare 36 rfl) lX12_138 vX12_put (by first | exact H.1.k _ rfl | exact H1.1.k _ rfl | exact H2.1.k _ rfl | exact H3.1.k _ rfl | exact H4.1.k _ rfl | exact H5.1.k _ rfl | exact H6.1.k _ rfl | exact H.1.1.k _ rfl | exact H1.1.1.k _ rfl | exact H2.1.1.k _ rfl | exact H3.1.1.k _ rfl | exact H4.1.1.k _ rfl | exact H5.1.1.k _ rfl | exact H6.1.1.k _ rfl) (by decide) rfl (Nat.le_of_ble_eq_true rfl) ⟨by show 1 + 1 ≤ D + 1; omega, by show 64 + 64 * (1) ≤ 64 * (D + 1); omega⟩ ⟨Nat.le_refl _, Nat.le_refl _⟩ ?_
        refine c_putR (c9 := -cz_ T p) hn H3 (by omega) (fun z => by rw [List.length_append]; have := hg.2.2 z; omega) (fun _ => by rw [hop.1, if_neg h47, if_neg h58]) (fun _ => hop.2) (fun w4 H4 f4 => ?_)
        refine V_vret (sx_di dX12_compare 37 rfl) rfl (Nat.le_refl _) (Nat.le_refl _) ?_
        have z := R9_pre H4
        unfold pt9 at z
        by_cases c : (s (skp_ T p + 1)).1 = true
        · rw [if_pos c] at h z
          rw [if_pos (show (true, (s (skp_ T p + 1)).2.1 ++ [-cz_ T p], (s (skp_ T p + 1)).2.2).1 = true from rfl)] at z
          rw [List.append_assoc] at h
          exact h w4 z (fM_tr f1 (fM_tr f2 (fM_tr f3 f4)))
        · rw [if_neg c] at h z
          exact h w4 z (fM_tr f1 (fM_tr f2 (fM_tr f3 f4)))
      · refine V_bipush (v := 7) (sx_di dX12_compare 32 rfl) (by decide) ?_
        refine V_goto (tgt := 68) (sx_di dX12_compare 33 rfl) (by decide) ?_
        refine V_iconst (v := 0) (sx_di dX12_compare 35 rfl) (by decide) ?_
        refine V_cV2 (mc' := 0) (ms' := 0) (M' := mX12_put) 1 (sx_di dX12_compare 36 rfl) lX12_138 vX12_put (by first | exact H.1.k _ rfl | exact H1.1.k _ rfl | exact H2.1.k _ rfl | exact H3.1.k _ rfl | exact H4.1.k _ rfl | exact H5.1.k _ rfl | exact H6.1.k _ rfl | exact H.1.1.k _ rfl | exact H1.1.1.k _ rfl | exact H2.1.1.k _ rfl | exact H3.1.1.k _ rfl | exact H4.1.1.k _ rfl | exact H5.1.1.k _ rfl | exact H6.1.1.k _ rfl) (by decide) rfl (Nat.le_of_ble_eq_true rfl) ⟨by show 1 + 1 ≤ D + 1; omega, by show 64 + 64 * (1) ≤ 64 * (D + 1); omega⟩ ⟨Nat.le_refl _, Nat.le_refl _⟩ ?_
        refine c_putR (c9 := -cz_ T p) hn H3 (by omega) (fun z => by rw [List.length_append]; have := hg.2.2 z; omega) (fun _ => by rw [hop.1, if_neg h47, if_pos h58]) (fun _ => hop.2) (fun w4 H4 f4 => ?_)
        refine V_vret (sx_di dX12_compare 37 rfl) rfl (Nat.le_refl _) (Nat.le_refl _) ?_
        have z := R9_pre H4
        unfold pt9 at z
        by_cases c : (s (skp_ T p + 1)).1 = true
        · rw [if_pos c] at h z
          rw [if_pos (show (true, (s (skp_ T p + 1)).2.1 ++ [-cz_ T p], (s (skp_ T p + 1)).2.2).1 = true from rfl)] at z
          rw [List.append_assoc] at h
          exact h w4 z (fM_tr f1 (fM_tr f2 (fM_tr f3 f4)))
        · rw [if_neg c] at h z
          exact h w4 z (fM_tr f1 (fM_tr f2 (fM_tr f3 f4)))
    · refine V_bipush (v := 6) (sx_di dX12_compare 27 rfl) (by decide) ?_
      refine V_goto (tgt := 68) (sx_di dX12_compare 28 rfl) (by decide) ?_
      refine V_iconst (v := 0) (sx_di dX12_compare 35 rfl) (by decide) ?_
      refine V_cV2 (mc' := 0) (ms' := 0) (M' := mX12_put) 1 (sx_di dX12_compare 36 rfl) lX12_138 vX12_put (by first | exact H.1.k _ rfl | exact H1.1.k _ rfl | exact H2.1.k _ rfl | exact H3.1.k _ rfl | exact H4.1.k _ rfl | exact H5.1.k _ rfl | exact H6.1.k _ rfl | exact H.1.1.k _ rfl | exact H1.1.1.k _ rfl | exact H2.1.1.k _ rfl | exact H3.1.1.k _ rfl | exact H4.1.1.k _ rfl | exact H5.1.1.k _ rfl | exact H6.1.1.k _ rfl) (by decide) rfl (Nat.le_of_ble_eq_true rfl) ⟨by show 1 + 1 ≤ D + 1; omega, by show 64 + 64 * (1) ≤ 64 * (D + 1); omega⟩ ⟨Nat.le_refl _, Nat.le_refl _⟩ ?_
      refine c_putR (c9 := -cz_ T p) hn H3 (by omega) (fun z => by rw [List.length_append]; have := hg.2.2 z; omega) (fun _ => by rw [hop.1, if_pos h47]) (fun _ => hop.2) (fun w4 H4 f4 => ?_)
      refine V_vret (sx_di dX12_compare 37 rfl) rfl (Nat.le_refl _) (Nat.le_refl _) ?_
      have z := R9_pre H4
      unfold pt9 at z
      by_cases c : (s (skp_ T p + 1)).1 = true
      · rw [if_pos c] at h z
        rw [if_pos (show (true, (s (skp_ T p + 1)).2.1 ++ [-cz_ T p], (s (skp_ T p + 1)).2.2).1 = true from rfl)] at z
        rw [List.append_assoc] at h
        exact h w4 z (fM_tr f1 (fM_tr f2 (fM_tr f3 f4)))
      · rw [if_neg c] at h z
        exact h w4 z (fM_tr f1 (fM_tr f2 (fM_tr f3 f4)))
  · rw [if_neg (bz9f h21)] at h
    refine V_aload_n (i := 0) (sx_di dX12_compare 12 rfl) rfl rfl ?_
    refine V_cV0 (mc' := 0) (ms' := 0) (M' := mX12_bad) 1 (sx_di dX12_compare 13 rfl) lX12_125 vX12_bad (by first | exact H.1.k _ rfl | exact H1.1.k _ rfl | exact H2.1.k _ rfl | exact H3.1.k _ rfl | exact H4.1.k _ rfl | exact H5.1.k _ rfl | exact H6.1.k _ rfl | exact H.1.1.k _ rfl | exact H1.1.1.k _ rfl | exact H2.1.1.k _ rfl | exact H3.1.1.k _ rfl | exact H4.1.1.k _ rfl | exact H5.1.1.k _ rfl | exact H6.1.1.k _ rfl) (by decide) rfl (Nat.le_of_ble_eq_true rfl) ⟨by show 1 + 1 ≤ D + 1; omega, by show 64 + 64 * (1) ≤ 64 * (D + 1); omega⟩ ⟨Nat.le_refl _, Nat.le_refl _⟩ ?_
    refine c_bad9 (X2 := X) (B := 240) H1 (x1 _ hx) (by omega) (by omega) (fun d2 w2 H2 f2 => ?_)
    refine V_vret (sx_di dX12_compare 14 rfl) rfl (Nat.le_refl _) (Nat.le_refl _) ?_
    exact h w2 (R9_up (by omega) (R9_f H2 Bool.false_ne_true Bool.false_ne_true rfl)) (fM_tr f1 f2)
set_option maxHeartbeats 2000000 in
set_option maxRecDepth 20000 in
theorem c_unit9 {E : sxE} {T : List Int32} {n d r Ds Du Dc D Bs Bu Bc B : Nat} {s u cn : Nat → prT} (hn : n < 5) (hd : d + r = 6) (hDs : Ds + 2 ≤ D) (hDu : Du + 1 ≤ D) (hDc : Dc + 1 ≤ D) (h4 : 4 ≤ D) (h2s : 2 ≤ Ds) (hBs : Bs + 1 ≤ B) (hBs0 : 242 ≤ Bs) (hBu : Bu + 1 ≤ B) (hBc : Bc + 1 ≤ B) (hBc0 : 240 ≤ Bc) (hB : B < 500) (hgs : goS T s) (hs : kR E T n d Ds Bs mX12_sum s) (hg : r = 0 ∨ (goS T u ∧ goS T cn)) (hin : r = 0 ∨ (kR E T n (d + 1) Du Bu mX12_unit u ∧ kR E T n (d + 1) Dc Bc mX12_condition cn)) : kR E T n d D B mX12_unit (un_ T r s u cn) := by
  intro X p w Q H hx hXl hp h
  have hT := H.2.1.1
  have g1 := skp_ge T p
  have g2 := skq_le (T := T) hp
  unfold un_ at h
  refine C_of (by decide +kernel) (Nat.le_of_ble_eq_true rfl) ?_
  refine V_aload_n (i := 0) (sx_di dX12_unit 0 rfl) rfl rfl ?_
  refine V_cV0 (mc' := 0) (ms' := 0) (M' := mX12_look) 2 (sx_di dX12_unit 1 rfl) lX12_128 vX12_look (by first | exact H.1.k _ rfl | exact H1.1.k _ rfl | exact H2.1.k _ rfl | exact H3.1.k _ rfl | exact H4.1.k _ rfl | exact H5.1.k _ rfl | exact H6.1.k _ rfl | exact H.1.1.k _ rfl | exact H1.1.1.k _ rfl | exact H2.1.1.k _ rfl | exact H3.1.1.k _ rfl | exact H4.1.1.k _ rfl | exact H5.1.1.k _ rfl | exact H6.1.1.k _ rfl | exact B2.k _ rfl) (by decide) rfl (Nat.le_of_ble_eq_true rfl) ⟨by show 2 + 1 ≤ D; omega, by show 64 + 64 * (2) ≤ 64 * (D); omega⟩ ⟨Nat.le_refl _, Nat.le_refl _⟩ ?_
  refine c_look9 H hp (fun w1 H1 f1 x1 => ?_)
  refine V_istore_n (i := 1) (sx_di dX12_unit 2 rfl) rfl (by decide) (rfl) ?_
  refine V_iload_n (i := 1) (sx_di dX12_unit 3 rfl) rfl rfl ?_
  refine V_bipush (v := 33) (sx_di dX12_unit 4 rfl) (by decide) ?_
  refine V_icmp_ne (tgt := 47) (sx_di dX12_unit 5 rfl) (by decide) (fun h8 => ?_) (fun h8 => ?_)
  · rw [if_neg h8] at h
    refine V_iload_n (i := 1) (sx_di dX12_unit 25 rfl) rfl rfl ?_
    refine V_bipush (v := 40) (sx_di dX12_unit 26 rfl) (by decide) ?_
    refine V_icmp_ne (tgt := 78) (sx_di dX12_unit 27 rfl) (by decide) (fun h50 => ?_) (fun h50 => ?_)
    · rw [if_neg h50] at h
      have hgs2 := hgs (skp_ T p) g2
      refine V_aload_n (i := 0) (sx_di dX12_unit 40 rfl) rfl rfl ?_
      refine V_cV0 (mc' := 0) (ms' := 0) (M' := mX12_sum) Ds (sx_di dX12_unit 41 rfl) lX12_149 vX12_sum (by first | exact H.1.k _ rfl | exact H1.1.k _ rfl | exact H2.1.k _ rfl | exact H3.1.k _ rfl | exact H4.1.k _ rfl | exact H5.1.k _ rfl | exact H6.1.k _ rfl | exact H.1.1.k _ rfl | exact H1.1.1.k _ rfl | exact H2.1.1.k _ rfl | exact H3.1.1.k _ rfl | exact H4.1.1.k _ rfl | exact H5.1.1.k _ rfl | exact H6.1.1.k _ rfl | exact B2.k _ rfl) (by decide) rfl (Nat.le_of_ble_eq_true rfl) ⟨by show Ds + 1 ≤ D; omega, by show 64 + 64 * (Ds) ≤ 64 * (D); omega⟩ ⟨Nat.le_refl _, Nat.le_refl _⟩ ?_
      refine hs X (skp_ T p) w1 _ H1 (x1 _ hx) (by omega) g2 (fun w2 H2 f2 => ?_)
      refine V_aload_n (i := 0) (sx_di dX12_unit 42 rfl) rfl rfl ?_
      refine V_getI (sx_di dX12_unit 43 rfl) fX12_116 (fun _ => rfl) (by first | exact H.1.k _ rfl | exact H1.1.k _ rfl | exact H2.1.k _ rfl | exact H3.1.k _ rfl | exact H4.1.k _ rfl | exact H5.1.k _ rfl | exact H6.1.k _ rfl | exact H.1.1.k _ rfl | exact H1.1.1.k _ rfl | exact H2.1.1.k _ rfl | exact H3.1.1.k _ rfl | exact H4.1.1.k _ rfl | exact H5.1.1.k _ rfl | exact H6.1.1.k _ rfl | exact B2.k _ rfl) ?_
      refine V_iv (y := wv_ (s (skp_ T p))) (R9_w H2) ?_
      refine V_iconst (v := -1) (sx_di dX12_unit 44 rfl) (by decide) ?_
      refine V_icmp_ne (tgt := 94) (sx_di dX12_unit 45 rfl) (by decide) (fun h87 => ?_) (fun h87 => ?_)
      · have b87 := wv_n h87
        rw [if_neg b87] at h
        refine V_vret (sx_di dX12_unit 48 rfl) rfl (Nat.le_refl _) (Nat.le_refl _) ?_
        exact h w2 (R9_up (by omega) (R9_f H2 b87 Bool.false_ne_true rfl)) (fM_tr f1 f2)
      · have b87 := wv_y (by omega) h87
        have H3 := R9_y H2 b87
        rw [if_pos b87] at h
        refine V_aload_n (i := 0) (sx_di dX12_unit 46 rfl) rfl rfl ?_
        refine V_cV0 (mc' := 0) (ms' := 0) (M' := mX12_compare) (Ds + 1) (sx_di dX12_unit 47 rfl) lX12_171 vX12_compare (by first | exact H.1.k _ rfl | exact H1.1.k _ rfl | exact H2.1.k _ rfl | exact H3.1.k _ rfl | exact H4.1.k _ rfl | exact H5.1.k _ rfl | exact H6.1.k _ rfl | exact H.1.1.k _ rfl | exact H1.1.1.k _ rfl | exact H2.1.1.k _ rfl | exact H3.1.1.k _ rfl | exact H4.1.1.k _ rfl | exact H5.1.1.k _ rfl | exact H6.1.1.k _ rfl | exact B2.k _ rfl) (by decide) rfl (Nat.le_of_ble_eq_true rfl) ⟨by show (Ds + 1) + 1 ≤ D; omega, by show 64 + 64 * ((Ds + 1)) ≤ 64 * (D); omega⟩ ⟨Nat.le_refl _, Nat.le_refl _⟩ ?_
        refine c_cmp9 hn h2s (by omega) hBs0 hgs hs H3.1 H3.2 (by rw [List.length_append]; have := hgs2.2.2 b87; omega) hgs2.2.1 (fun w4 H4 f4 => ?_)
        refine V_vret (sx_di dX12_unit 48 rfl) rfl (Nat.le_refl _) (Nat.le_refl _) ?_
        exact h w4 (R9_up (by omega) H4) (fM_tr f1 (fM_tr f2 f4))
    · rw [if_pos h50] at h
      have hq1 := cz_p1 h50 (by decide)
      refine V_aload_n (i := 0) (sx_di dX12_unit 28 rfl) rfl rfl ?_
      refine V_cV0 (mc' := 0) (ms' := 0) (M' := mX12_opens) 2 (sx_di dX12_unit 29 rfl) lX12_146 vX12_opens (by first | exact H.1.k _ rfl | exact H1.1.k _ rfl | exact H2.1.k _ rfl | exact H3.1.k _ rfl | exact H4.1.k _ rfl | exact H5.1.k _ rfl | exact H6.1.k _ rfl | exact H.1.1.k _ rfl | exact H1.1.1.k _ rfl | exact H2.1.1.k _ rfl | exact H3.1.1.k _ rfl | exact H4.1.1.k _ rfl | exact H5.1.1.k _ rfl | exact H6.1.1.k _ rfl | exact B2.k _ rfl) (by decide) rfl (Nat.le_of_ble_eq_true rfl) ⟨by show 2 + 1 ≤ D; omega, by show 64 + 64 * (2) ≤ 64 * (D); omega⟩ ⟨Nat.le_refl _, Nat.le_refl _⟩ ?_
      refine c_opensS (X := X) hd H1 (x1 X hx) (by omega) (by omega) (fun w2 B2 f2 w2e z2 y2 => ?_)
      refine V_aload_n (i := 0) (sx_di dX12_unit 30 rfl) rfl rfl ?_
      refine V_getI (sx_di dX12_unit 31 rfl) fX12_116 (fun _ => rfl) (by first | exact H.1.k _ rfl | exact H1.1.k _ rfl | exact H2.1.k _ rfl | exact H3.1.k _ rfl | exact H4.1.k _ rfl | exact H5.1.k _ rfl | exact H6.1.k _ rfl | exact H.1.1.k _ rfl | exact H1.1.1.k _ rfl | exact H2.1.1.k _ rfl | exact H3.1.1.k _ rfl | exact H4.1.1.k _ rfl | exact H5.1.1.k _ rfl | exact H6.1.1.k _ rfl | exact B2.k _ rfl) ?_
      refine V_iv (y := if r = 0 then nI (skp_ T p) else -1) (w2e) ?_
      refine V_iconst (v := -1) (sx_di dX12_unit 32 rfl) (by decide) ?_
      refine V_icmp_ne (tgt := 94) (sx_di dX12_unit 33 rfl) (by decide) (fun h62 => ?_) (fun h62 => ?_)
      · have r0 : r = 0 := Classical.byContradiction (fun z => h62 (if_neg z))
        rw [if_pos r0] at h
        refine V_vret (sx_di dX12_unit 48 rfl) rfl (Nat.le_refl _) (Nat.le_refl _) ?_
        exact h w2 (R9_up (by omega) (z2 r0)) (fM_tr f1 f2)
      · have r0 : ¬ r = 0 := fun z => nI_nm1 (n := skp_ T p) (by omega) (by rw [if_pos z] at h62; exact h62)
        rw [if_neg r0] at h
        have hin2 := (hin.resolve_left r0).2
        have hg2 := ((hg.resolve_left r0).2) _ hq1
        have H3 := (y2 r0).1
        refine V_aload_n (i := 0) (sx_di dX12_unit 34 rfl) rfl rfl ?_
        refine V_cV0 (mc' := 0) (ms' := 0) (M' := mX12_condition) Dc (sx_di dX12_unit 35 rfl) lX12_168 vX12_condition (by first | exact H.1.k _ rfl | exact H1.1.k _ rfl | exact H2.1.k _ rfl | exact H3.1.k _ rfl | exact H4.1.k _ rfl | exact H5.1.k _ rfl | exact H6.1.k _ rfl | exact H.1.1.k _ rfl | exact H1.1.1.k _ rfl | exact H2.1.1.k _ rfl | exact H3.1.1.k _ rfl | exact H4.1.1.k _ rfl | exact H5.1.1.k _ rfl | exact H6.1.1.k _ rfl | exact B2.k _ rfl) (by decide) rfl (Nat.le_of_ble_eq_true rfl) ⟨by show Dc + 1 ≤ D; omega, by show 64 + 64 * (Dc) ≤ 64 * (D); omega⟩ ⟨Nat.le_refl _, Nat.le_refl _⟩ ?_
        refine hin2 X (skp_ T p + 1) w2 _ H3 ((y2 r0).2 _ (x1 _ hx)) (by omega) hq1 (fun w4 H4 f4 => ?_)
        refine V_aload_n (i := 0) (sx_di dX12_unit 36 rfl) rfl rfl ?_
        refine V_bipush (v := 41) (sx_di dX12_unit 37 rfl) (by decide) ?_
        refine V_cV1 (mc' := 0) (ms' := 0) (M' := mX12_closes) 3 (sx_di dX12_unit 38 rfl) lX12_152 vX12_closes (by first | exact H.1.k _ rfl | exact H1.1.k _ rfl | exact H2.1.k _ rfl | exact H3.1.k _ rfl | exact H4.1.k _ rfl | exact H5.1.k _ rfl | exact H6.1.k _ rfl | exact H.1.1.k _ rfl | exact H1.1.1.k _ rfl | exact H2.1.1.k _ rfl | exact H3.1.1.k _ rfl | exact H4.1.1.k _ rfl | exact H5.1.1.k _ rfl | exact H6.1.1.k _ rfl | exact B2.k _ rfl) (by decide) rfl (Nat.le_of_ble_eq_true rfl) ⟨by show 3 + 1 ≤ D; omega, by show 64 + 64 * (3) ≤ 64 * (D); omega⟩ ⟨Nat.le_refl _, Nat.le_refl _⟩ ?_
        refine c_closes9 H4 hBc0 hg2.2.1 (fun z => by rw [List.length_append]; have := hg2.2.2 z; omega) (fun w5 H5 f5 => ?_)
        refine V_goto (tgt := 94) (sx_di dX12_unit 39 rfl) (by decide) ?_
        refine V_vret (sx_di dX12_unit 48 rfl) rfl (Nat.le_refl _) (Nat.le_refl _) ?_
        exact h w5 (R9_up (by omega) H5) (fM_tr f1 (fM_tr f2 (fM_tr f4 f5)))
  · rw [if_pos h8] at h
    have hq1 := cz_p1 h8 (by decide)
    refine V_aload_n (i := 0) (sx_di dX12_unit 6 rfl) rfl rfl ?_
    refine V_cV0 (mc' := 0) (ms' := 0) (M' := mX12_opens) 2 (sx_di dX12_unit 7 rfl) lX12_146 vX12_opens (by first | exact H.1.k _ rfl | exact H1.1.k _ rfl | exact H2.1.k _ rfl | exact H3.1.k _ rfl | exact H4.1.k _ rfl | exact H5.1.k _ rfl | exact H6.1.k _ rfl | exact H.1.1.k _ rfl | exact H1.1.1.k _ rfl | exact H2.1.1.k _ rfl | exact H3.1.1.k _ rfl | exact H4.1.1.k _ rfl | exact H5.1.1.k _ rfl | exact H6.1.1.k _ rfl | exact B2.k _ rfl) (by decide) rfl (Nat.le_of_ble_eq_true rfl) ⟨by show 2 + 1 ≤ D; omega, by show 64 + 64 * (2) ≤ 64 * (D); omega⟩ ⟨Nat.le_refl _, Nat.le_refl _⟩ ?_
    refine c_opensS (X := X) hd H1 (x1 X hx) (by omega) (by omega) (fun w2 B2 f2 w2e z2 y2 => ?_)
    refine V_aload_n (i := 0) (sx_di dX12_unit 8 rfl) rfl rfl ?_
    refine V_getI (sx_di dX12_unit 9 rfl) fX12_116 (fun _ => rfl) (by first | exact H.1.k _ rfl | exact H1.1.k _ rfl | exact H2.1.k _ rfl | exact H3.1.k _ rfl | exact H4.1.k _ rfl | exact H5.1.k _ rfl | exact H6.1.k _ rfl | exact H.1.1.k _ rfl | exact H1.1.1.k _ rfl | exact H2.1.1.k _ rfl | exact H3.1.1.k _ rfl | exact H4.1.1.k _ rfl | exact H5.1.1.k _ rfl | exact H6.1.1.k _ rfl | exact B2.k _ rfl) ?_
    refine V_iv (y := if r = 0 then nI (skp_ T p) else -1) (w2e) ?_
    refine V_iconst (v := -1) (sx_di dX12_unit 10 rfl) (by decide) ?_
    refine V_icmp_ne (tgt := 94) (sx_di dX12_unit 11 rfl) (by decide) (fun h20 => ?_) (fun h20 => ?_)
    · have r0 : r = 0 := Classical.byContradiction (fun z => h20 (if_neg z))
      rw [if_pos r0] at h
      refine V_vret (sx_di dX12_unit 48 rfl) rfl (Nat.le_refl _) (Nat.le_refl _) ?_
      exact h w2 (R9_up (by omega) (z2 r0)) (fM_tr f1 f2)
    · have r0 : ¬ r = 0 := fun z => nI_nm1 (n := skp_ T p) (by omega) (by rw [if_pos z] at h20; exact h20)
      rw [if_neg r0] at h
      have hin2 := (hin.resolve_left r0).1
      have hg2 := ((hg.resolve_left r0).1) _ hq1
      have H3 := (y2 r0).1
      refine V_aload_n (i := 0) (sx_di dX12_unit 12 rfl) rfl rfl ?_
      refine V_cV0 (mc' := 0) (ms' := 0) (M' := mX12_unit) Du (sx_di dX12_unit 13 rfl) lX12_165 vX12_unit (by first | exact H.1.k _ rfl | exact H1.1.k _ rfl | exact H2.1.k _ rfl | exact H3.1.k _ rfl | exact H4.1.k _ rfl | exact H5.1.k _ rfl | exact H6.1.k _ rfl | exact H.1.1.k _ rfl | exact H1.1.1.k _ rfl | exact H2.1.1.k _ rfl | exact H3.1.1.k _ rfl | exact H4.1.1.k _ rfl | exact H5.1.1.k _ rfl | exact H6.1.1.k _ rfl | exact B2.k _ rfl) (by decide) rfl (Nat.le_of_ble_eq_true rfl) ⟨by show Du + 1 ≤ D; omega, by show 64 + 64 * (Du) ≤ 64 * (D); omega⟩ ⟨Nat.le_refl _, Nat.le_refl _⟩ ?_
      refine hin2 X (skp_ T p + 1) w2 _ H3 ((y2 r0).2 _ (x1 _ hx)) (by omega) hq1 (fun w4 H4 f4 => ?_)
      refine V_aload_n (i := 0) (sx_di dX12_unit 14 rfl) rfl rfl ?_
      refine V_bipush (v := 9) (sx_di dX12_unit 15 rfl) (by decide) ?_
      refine V_iconst (v := 0) (sx_di dX12_unit 16 rfl) (by decide) ?_
      refine V_cV2 (mc' := 0) (ms' := 0) (M' := mX12_put) 1 (sx_di dX12_unit 17 rfl) lX12_138 vX12_put (by first | exact H.1.k _ rfl | exact H1.1.k _ rfl | exact H2.1.k _ rfl | exact H3.1.k _ rfl | exact H4.1.k _ rfl | exact H5.1.k _ rfl | exact H6.1.k _ rfl | exact H.1.1.k _ rfl | exact H1.1.1.k _ rfl | exact H2.1.1.k _ rfl | exact H3.1.1.k _ rfl | exact H4.1.1.k _ rfl | exact H5.1.1.k _ rfl | exact H6.1.1.k _ rfl | exact B2.k _ rfl) (by decide) rfl (Nat.le_of_ble_eq_true rfl) ⟨by show 1 + 1 ≤ D; omega, by show 64 + 64 * (1) ≤ 64 * (D); omega⟩ ⟨Nat.le_refl _, Nat.le_refl _⟩ ?_
      refine c_putR (c9 := -33) hn H4 (by omega) (fun z => by rw [List.length_append]; have := hg2.2.2 z; omega) (fun _ => by decide) (fun _ => by decide) (fun w5 H5 f5 => ?_)
      refine V_aload_n (i := 0) (sx_di dX12_unit 18 rfl) rfl rfl ?_
      refine V_dup (sx_di dX12_unit 19 rfl) rfl ?_
      refine V_getI (sx_di dX12_unit 20 rfl) fX12_122 (fun _ => rfl) (by first | exact H.1.k _ rfl | exact H1.1.k _ rfl | exact H2.1.k _ rfl | exact H3.1.k _ rfl | exact H4.1.k _ rfl | exact H5.1.k _ rfl | exact H6.1.k _ rfl | exact H.1.1.k _ rfl | exact H1.1.1.k _ rfl | exact H2.1.1.k _ rfl | exact H3.1.1.k _ rfl | exact H4.1.1.k _ rfl | exact H5.1.1.k _ rfl | exact H6.1.1.k _ rfl | exact B2.k _ rfl) ?_
      refine V_iconst (v := 1) (sx_di dX12_unit 21 rfl) (by decide) ?_
      refine V_isub (sx_di dX12_unit 22 rfl) ?_
      refine V_putI (sx_di dX12_unit 23 rfl) fX12_122 (fun _ => rfl) rfl (by first | exact H.1.k _ rfl | exact H1.1.k _ rfl | exact H2.1.k _ rfl | exact H3.1.k _ rfl | exact H4.1.k _ rfl | exact H5.1.k _ rfl | exact H6.1.k _ rfl | exact H.1.1.k _ rfl | exact H1.1.1.k _ rfl | exact H2.1.1.k _ rfl | exact H3.1.1.k _ rfl | exact H4.1.1.k _ rfl | exact H5.1.1.k _ rfl | exact H6.1.1.k _ rfl | exact B2.k _ rfl) (rfl) (rfl) ?_
      refine V_dpR H5 (fun w6 H6 f6 => ?_)
      refine V_goto (tgt := 94) (sx_di dX12_unit 24 rfl) (by decide) ?_
      refine V_vret (sx_di dX12_unit 48 rfl) rfl (Nat.le_refl _) (Nat.le_refl _) ?_
      exact h w6 (R9_up (by omega) H6) (fM_tr f1 (fM_tr f2 (fM_tr f4 (fM_tr f5 f6))))
def la9 (T : List Int32) (s : Int32 → Bool) (u : Nat → prT) (f : Nat) (x : prT) : prT := if x.1 = true then lpF T s u f x.2.1 x.2.2 else pf_ x.2.2
theorem la9_n {T : List Int32} {s : Int32 → Bool} {u : Nat → prT} {f : Nat} {x : prT} (h : ¬ x.1 = true) : la9 T s u f x = pf_ x.2.2 := if_neg h
theorem la9_y {T : List Int32} {s : Int32 → Bool} {u : Nat → prT} {f : Nat} {x : prT} (h : x.1 = true) : la9 T s u f x = lpF T s u f x.2.1 x.2.2 := if_pos h
theorem lp_la {T : List Int32} {s : Int32 → Bool} {u : Nat → prT} {p : Nat} : lp_ T s u p = la9 T s u T.length (u p) := rfl
theorem la9_go {T : List Int32} {s : Int32 → Bool} {u : Nat → prT} (hu : goS T u) (s1 : s (-1) = false) {x : prT} (hx : x.2.2 ≤ T.length) : (la9 T s u T.length x).2.2 ≤ T.length ∧ ((la9 T s u T.length x).1 = true → x.1 = true ∧ (la9 T s u T.length x).2.1.length + x.2.2 ≤ x.2.1.length + (la9 T s u T.length x).2.2) := by
  by_cases c : x.1 = true
  · rw [la9_y c]
    obtain ⟨b1, b2, b3⟩ := lpF_go hu s1 T.length x.2.1 x.2.2 hx
    exact ⟨b2, fun z => ⟨c, (b3 z).1⟩⟩
  · rw [la9_n c]
    exact ⟨hx, fun z => absurd z Bool.false_ne_true⟩
set_option maxHeartbeats 2000000 in
set_option maxRecDepth 20000 in
theorem an_lp {E : sxE} {T : List Int32} {n d D B : Nat} {u : Nat → prT} {X : List Int32} {Q : Option Value → hpW → Prop} (hn : n < 5) (hD : 2 ≤ D) (hB : B < 490) (hB0 : 242 ≤ B) (hu : goS T u) (hA : kR E T n d D B mX12_unit u) : ∀ f x w, T.length ≤ x.2.2 + f → x.2.2 ≤ T.length → (x.1 = true → (X ++ x.2.1).length ≤ x.2.2) → R9 T n d (B + 1) X x w → (∀ w', R9 T n d (B + 1) X (la9 T loC (u) f x) w' → fM n w w' → Q none w') → V E mX12_goOnAnd (sx_rm (D + 1) 0 0) 0 0 0 0 0 [(0, .ref 381)] [] w Q := by
  intro f
  have stop : ∀ f x w, x.2.2 ≤ T.length → (¬ x.1 = true ∨ ¬ loC (cz_ T x.2.2) = true) → R9 T n d (B + 1) X x w → (∀ w', R9 T n d (B + 1) X (la9 T loC (u) f x) w' → fM n w w' → Q none w') → V E mX12_goOnAnd (sx_rm (D + 1) 0 0) 0 0 0 0 0 [(0, .ref 381)] [] w Q := by
    intro f x w hp hc H h
    have hT := H.1.2.1.1
    refine V_aload_n (i := 0) (sx_di dX12_goOnAnd 0 rfl) rfl rfl ?_
    refine V_getI (sx_di dX12_goOnAnd 1 rfl) fX12_116 (fun _ => rfl) (by first | exact H.1.k _ rfl | exact H1.1.k _ rfl | exact H.1.1.k _ rfl | exact H1.1.1.k _ rfl) ?_
    refine V_iv (y := wv_ x) (R9_w H) ?_
    refine V_iconst (v := -1) (sx_di dX12_goOnAnd 2 rfl) (by decide) ?_
    refine V_icmp_ne (tgt := 41) (sx_di dX12_goOnAnd 3 rfl) (by decide) (fun h5 => ?_) (fun h5 => ?_)
    · have b5 := wv_n h5
      rw [la9_n b5] at h
      refine V_vret (sx_di dX12_goOnAnd 21 rfl) rfl (Nat.le_refl _) (Nat.le_refl _) ?_
      exact h w (R9_f H b5 Bool.false_ne_true rfl) fM_rf
    · have b5 := wv_y (by omega) h5
      have H0 := R9_y H b5
      have hc2 := hc.resolve_left (fun z => z b5)
      rw [la9_y b5, lpF_stop hc2] at h
      refine V_aload_n (i := 0) (sx_di dX12_goOnAnd 4 rfl) rfl rfl ?_
      refine V_cV0 (mc' := 0) (ms' := 0) (M' := mX12_look) 2 (sx_di dX12_goOnAnd 5 rfl) lX12_128 vX12_look (by first | exact H.1.k _ rfl | exact H1.1.k _ rfl | exact H.1.1.k _ rfl | exact H1.1.1.k _ rfl) (by decide) rfl (Nat.le_of_ble_eq_true rfl) ⟨by show 2 + 1 ≤ D + 1; omega, by show 64 + 64 * (2) ≤ 64 * (D + 1); omega⟩ ⟨Nat.le_refl _, Nat.le_refl _⟩ ?_
      refine c_look9 H0.1 hp (fun w1 H1 f1 x1 => ?_)
      refine V_bipush (v := 38) (sx_di dX12_goOnAnd 6 rfl) (by decide) ?_
      refine V_icmp_ne (tgt := 41) (sx_di dX12_goOnAnd 7 rfl) (by decide) (fun _ => ?_) (fun h14 => absurd (decide_eq_true h14) hc2)
      refine V_vret (sx_di dX12_goOnAnd 21 rfl) rfl (Nat.le_refl _) (Nat.le_refl _) ?_
      exact h w1 (R9_of H1 (x1 _ H0.2)) f1
  induction f with
  | zero =>
    intro x w hf hp hl H h
    exact stop 0 x w hp (Or.inr (by rw [cz_end (by omega)]; decide)) H h
  | succ f ih =>
    intro x w hf hp hl H h
    have hT := H.1.2.1.1
    by_cases hc : x.1 = true ∧ loC (cz_ T x.2.2) = true
    · obtain ⟨bx, hc⟩ := hc
      have H0 := R9_y H bx
      have hc9 : cz_ T x.2.2 = 38 := of_decide_eq_true hc
      have g1 := skp_ge T x.2.2
      have hq1 := cz_p1 hc9 (by decide)
      have hg := hu (skp_ T x.2.2 + 1) hq1
      have hl2 := hl bx
      rw [la9_y bx, lpF, if_pos hc] at h
      refine V_aload_n (i := 0) (sx_di dX12_goOnAnd 0 rfl) rfl rfl ?_
      refine V_getI (sx_di dX12_goOnAnd 1 rfl) fX12_116 (fun _ => rfl) (by first | exact H.1.k _ rfl | exact H1.1.k _ rfl | exact H2.1.k _ rfl | exact H3.1.k _ rfl | exact H4.1.k _ rfl | exact H.1.1.k _ rfl | exact H1.1.1.k _ rfl | exact H2.1.1.k _ rfl | exact H3.1.1.k _ rfl | exact H4.1.1.k _ rfl) ?_
      refine V_iv (y := -1) (H0.1.2.2.2.1) ?_
      refine V_iconst (v := -1) (sx_di dX12_goOnAnd 2 rfl) (by decide) ?_
      refine V_icmp_ne (tgt := 41) (sx_di dX12_goOnAnd 3 rfl) (by decide) (fun h5 => absurd rfl h5) (fun _ => ?_)
      refine V_aload_n (i := 0) (sx_di dX12_goOnAnd 4 rfl) rfl rfl ?_
      refine V_cV0 (mc' := 0) (ms' := 0) (M' := mX12_look) 2 (sx_di dX12_goOnAnd 5 rfl) lX12_128 vX12_look (by first | exact H.1.k _ rfl | exact H1.1.k _ rfl | exact H2.1.k _ rfl | exact H3.1.k _ rfl | exact H4.1.k _ rfl | exact H.1.1.k _ rfl | exact H1.1.1.k _ rfl | exact H2.1.1.k _ rfl | exact H3.1.1.k _ rfl | exact H4.1.1.k _ rfl) (by decide) rfl (Nat.le_of_ble_eq_true rfl) ⟨by show 2 + 1 ≤ D + 1; omega, by show 64 + 64 * (2) ≤ 64 * (D + 1); omega⟩ ⟨Nat.le_refl _, Nat.le_refl _⟩ ?_
      refine c_look9 H0.1 hp (fun w1 H1 f1 x1 => ?_)
      refine V_bipush (v := 38) (sx_di dX12_goOnAnd 6 rfl) (by decide) ?_
      refine V_icmp_ne (tgt := 41) (sx_di dX12_goOnAnd 7 rfl) (by decide) (fun h14 => absurd hc9 h14) (fun _ => ?_)
      refine V_aload_n (i := 0) (sx_di dX12_goOnAnd 8 rfl) rfl rfl ?_
      refine V_dup (sx_di dX12_goOnAnd 9 rfl) rfl ?_
      refine V_getI (sx_di dX12_goOnAnd 10 rfl) fX12_109 (fun _ => rfl) (by first | exact H.1.k _ rfl | exact H1.1.k _ rfl | exact H2.1.k _ rfl | exact H3.1.k _ rfl | exact H4.1.k _ rfl | exact H.1.1.k _ rfl | exact H1.1.1.k _ rfl | exact H2.1.1.k _ rfl | exact H3.1.1.k _ rfl | exact H4.1.1.k _ rfl) ?_
      refine V_iconst (v := 1) (sx_di dX12_goOnAnd 11 rfl) (by decide) ?_
      refine V_iadd (sx_di dX12_goOnAnd 12 rfl) ?_
      refine V_putI (sx_di dX12_goOnAnd 13 rfl) fX12_109 (fun _ => rfl) rfl (by first | exact H.1.k _ rfl | exact H1.1.k _ rfl | exact H2.1.k _ rfl | exact H3.1.k _ rfl | exact H4.1.k _ rfl | exact H.1.1.k _ rfl | exact H1.1.1.k _ rfl | exact H2.1.1.k _ rfl | exact H3.1.1.k _ rfl | exact H4.1.1.k _ rfl) (rfl) (rfl) ?_
      refine V_at9 H1 (fun w2 H2 f2 x2 => ?_)
      refine V_aload_n (i := 0) (sx_di dX12_goOnAnd 14 rfl) rfl rfl ?_
      refine V_cV0 (mc' := 0) (ms' := 0) (M' := mX12_unit) D (sx_di dX12_goOnAnd 15 rfl) lX12_165 vX12_unit (by first | exact H.1.k _ rfl | exact H1.1.k _ rfl | exact H2.1.k _ rfl | exact H3.1.k _ rfl | exact H4.1.k _ rfl | exact H.1.1.k _ rfl | exact H1.1.1.k _ rfl | exact H2.1.1.k _ rfl | exact H3.1.1.k _ rfl | exact H4.1.1.k _ rfl) (by decide) rfl (Nat.le_of_ble_eq_true rfl) ⟨by show D + 1 ≤ D + 1; omega, by show 64 + 64 * (D) ≤ 64 * (D + 1); omega⟩ ⟨Nat.le_refl _, Nat.le_refl _⟩ ?_
      refine hA (X ++ x.2.1) (skp_ T x.2.2 + 1) w2 _ H2 (x2 _ (x1 _ H0.2)) (by omega) hq1 (fun w3 H3 f3 => ?_)
      refine V_aload_n (i := 0) (sx_di dX12_goOnAnd 16 rfl) rfl rfl ?_
      refine V_bipush (v := 10) (sx_di dX12_goOnAnd 17 rfl) (by decide) ?_
      refine V_iconst (v := 0) (sx_di dX12_goOnAnd 18 rfl) (by decide) ?_
      refine V_cV2 (mc' := 0) (ms' := 0) (M' := mX12_put) 1 (sx_di dX12_goOnAnd 19 rfl) lX12_138 vX12_put (by first | exact H.1.k _ rfl | exact H1.1.k _ rfl | exact H2.1.k _ rfl | exact H3.1.k _ rfl | exact H4.1.k _ rfl | exact H.1.1.k _ rfl | exact H1.1.1.k _ rfl | exact H2.1.1.k _ rfl | exact H3.1.1.k _ rfl | exact H4.1.1.k _ rfl) (by decide) rfl (Nat.le_of_ble_eq_true rfl) ⟨by show 1 + 1 ≤ D + 1; omega, by show 64 + 64 * (1) ≤ 64 * (D + 1); omega⟩ ⟨Nat.le_refl _, Nat.le_refl _⟩ ?_
      refine c_putR (c9 := -cz_ T x.2.2) hn H3 (by omega) (fun z => by rw [List.length_append]; have := hg.2.2 z; omega) (fun _ => by rw [hc9]; decide) (fun _ => by rw [hc9]; decide) (fun w4 H4 f4 => ?_)
      have z := R9_pre H4
      refine V_goto (tgt := 0) (sx_di dX12_goOnAnd 20 rfl) (by decide) ?_
      unfold pt9 at z
      by_cases c : (u (skp_ T x.2.2 + 1)).1 = true
      · rw [if_pos c] at h z
        rw [if_pos (show (true, (u (skp_ T x.2.2 + 1)).2.1 ++ [-cz_ T x.2.2], (u (skp_ T x.2.2 + 1)).2.2).1 = true from rfl)] at z
        have z1 : R9 T n d (B + 1) X (true, x.2.1 ++ (u (skp_ T x.2.2 + 1)).2.1 ++ [-cz_ T x.2.2], (u (skp_ T x.2.2 + 1)).2.2) w4 := by rw [List.append_assoc x.2.1]; exact R9_up (by omega) z
        exact ih _ w4 (by show _ ≤ (u (skp_ T x.2.2 + 1)).2.2 + f; have := hg.1; omega) (by exact hg.2.1) (fun _ => by show (X ++ (x.2.1 ++ (u (skp_ T x.2.2 + 1)).2.1 ++ [-cz_ T x.2.2])).length ≤ (u (skp_ T x.2.2 + 1)).2.2; have := hg.2.2 c; simp only [List.length_append, List.length_singleton] at hl2 ⊢; omega) z1 (fun w5 H5 f5 => h w5 H5 (fM_tr (fM_tr f1 (fM_tr f2 (fM_tr f3 f4))) f5))
      · rw [if_neg c] at h z
        rw [if_neg (show ¬ (pf_ (u (skp_ T x.2.2 + 1)).2.2).1 = true from Bool.false_ne_true)] at z
        refine stop f (pf_ (u (skp_ T x.2.2 + 1)).2.2) w4 hg.2.1 (Or.inl Bool.false_ne_true) (R9_up (by omega) z) (fun w5 H5 f5 => h w5 ?_ (fM_tr (fM_tr f1 (fM_tr f2 (fM_tr f3 f4))) f5))
        rw [la9_n Bool.false_ne_true] at H5
        exact H5
    · exact stop (f + 1) x w hp (Classical.byContradiction (fun z => hc ⟨Classical.byContradiction (fun q => z (Or.inl q)), Classical.byContradiction (fun q => z (Or.inr q))⟩)) H h
set_option maxHeartbeats 2000000 in
set_option maxRecDepth 20000 in
theorem c_and9 {E : sxE} {T : List Int32} {n d D B : Nat} {u : Nat → prT} {X : List Int32} {x : prT} {w : hpW} {Q : Option Value → hpW → Prop} (hn : n < 5) (hD : 2 ≤ D) (hB : B < 490) (hB0 : 242 ≤ B) (hu : goS T u) (hA : kR E T n d D B mX12_unit u) (hp : x.2.2 ≤ T.length) (hl : x.1 = true → (X ++ x.2.1).length ≤ x.2.2) (H : R9 T n d (B + 1) X x w) (h : ∀ w', R9 T n d (B + 1) X (la9 T loC (u) T.length x) w' → fM n w w' → Q none w') : sx_C E mX12_goOnAnd (D + 1) 0 0 [.ref 381] w Q := by
  refine C_of (by decide +kernel) (Nat.le_of_ble_eq_true rfl) ?_
  exact an_lp hn hD hB hB0 hu hA T.length x w (by omega) hp hl H h
set_option maxHeartbeats 2000000 in
set_option maxRecDepth 20000 in
theorem or_lp {E : sxE} {T : List Int32} {n d D B : Nat} {u : Nat → prT} {X : List Int32} {Q : Option Value → hpW → Prop} (hn : n < 5) (hD : 2 ≤ D) (hB : B < 490) (hB0 : 242 ≤ B) (hu : goS T u) (hA : kR E T n d D B mX12_unit u) : ∀ f x w, T.length ≤ x.2.2 + f → x.2.2 ≤ T.length → (x.1 = true → (X ++ x.2.1).length ≤ x.2.2) → R9 T n d (B + 2) X x w → (∀ w', R9 T n d (B + 2) X (la9 T hiC (lp_ T loC u) f x) w' → fM n w w' → Q none w') → V E mX12_goOnOr (sx_rm (D + 2) 0 0) 0 0 0 0 0 [(0, .ref 381)] [] w Q := by
  intro f
  have stop : ∀ f x w, x.2.2 ≤ T.length → (¬ x.1 = true ∨ ¬ hiC (cz_ T x.2.2) = true) → R9 T n d (B + 2) X x w → (∀ w', R9 T n d (B + 2) X (la9 T hiC (lp_ T loC u) f x) w' → fM n w w' → Q none w') → V E mX12_goOnOr (sx_rm (D + 2) 0 0) 0 0 0 0 0 [(0, .ref 381)] [] w Q := by
    intro f x w hp hc H h
    have hT := H.1.2.1.1
    refine V_aload_n (i := 0) (sx_di dX12_goOnOr 0 rfl) rfl rfl ?_
    refine V_getI (sx_di dX12_goOnOr 1 rfl) fX12_116 (fun _ => rfl) (by first | exact H.1.k _ rfl | exact H1.1.k _ rfl | exact H.1.1.k _ rfl | exact H1.1.1.k _ rfl) ?_
    refine V_iv (y := wv_ x) (R9_w H) ?_
    refine V_iconst (v := -1) (sx_di dX12_goOnOr 2 rfl) (by decide) ?_
    refine V_icmp_ne (tgt := 45) (sx_di dX12_goOnOr 3 rfl) (by decide) (fun h5 => ?_) (fun h5 => ?_)
    · have b5 := wv_n h5
      rw [la9_n b5] at h
      refine V_vret (sx_di dX12_goOnOr 23 rfl) rfl (Nat.le_refl _) (Nat.le_refl _) ?_
      exact h w (R9_f H b5 Bool.false_ne_true rfl) fM_rf
    · have b5 := wv_y (by omega) h5
      have H0 := R9_y H b5
      have hc2 := hc.resolve_left (fun z => z b5)
      rw [la9_y b5, lpF_stop hc2] at h
      refine V_aload_n (i := 0) (sx_di dX12_goOnOr 4 rfl) rfl rfl ?_
      refine V_cV0 (mc' := 0) (ms' := 0) (M' := mX12_look) 2 (sx_di dX12_goOnOr 5 rfl) lX12_128 vX12_look (by first | exact H.1.k _ rfl | exact H1.1.k _ rfl | exact H.1.1.k _ rfl | exact H1.1.1.k _ rfl) (by decide) rfl (Nat.le_of_ble_eq_true rfl) ⟨by show 2 + 1 ≤ D + 2; omega, by show 64 + 64 * (2) ≤ 64 * (D + 2); omega⟩ ⟨Nat.le_refl _, Nat.le_refl _⟩ ?_
      refine c_look9 H0.1 hp (fun w1 H1 f1 x1 => ?_)
      refine V_bipush (v := 124) (sx_di dX12_goOnOr 6 rfl) (by decide) ?_
      refine V_icmp_ne (tgt := 45) (sx_di dX12_goOnOr 7 rfl) (by decide) (fun _ => ?_) (fun h14 => absurd (decide_eq_true h14) hc2)
      refine V_vret (sx_di dX12_goOnOr 23 rfl) rfl (Nat.le_refl _) (Nat.le_refl _) ?_
      exact h w1 (R9_of H1 (x1 _ H0.2)) f1
  induction f with
  | zero =>
    intro x w hf hp hl H h
    exact stop 0 x w hp (Or.inr (by rw [cz_end (by omega)]; decide)) H h
  | succ f ih =>
    intro x w hf hp hl H h
    have hT := H.1.2.1.1
    by_cases hc : x.1 = true ∧ hiC (cz_ T x.2.2) = true
    · obtain ⟨bx, hc⟩ := hc
      have H0 := R9_y H bx
      have hc9 : cz_ T x.2.2 = 124 := of_decide_eq_true hc
      have g1 := skp_ge T x.2.2
      have hq1 := cz_p1 hc9 (by decide)
      have hg := hu (skp_ T x.2.2 + 1) hq1
      have hl2 := hl bx
      rw [la9_y bx, lpF, if_pos hc] at h
      refine V_aload_n (i := 0) (sx_di dX12_goOnOr 0 rfl) rfl rfl ?_
      refine V_getI (sx_di dX12_goOnOr 1 rfl) fX12_116 (fun _ => rfl) (by first | exact H.1.k _ rfl | exact H1.1.k _ rfl | exact H2.1.k _ rfl | exact H3.1.k _ rfl | exact H4.1.k _ rfl | exact H9.1.k _ rfl | exact H.1.1.k _ rfl | exact H1.1.1.k _ rfl | exact H2.1.1.k _ rfl | exact H3.1.1.k _ rfl | exact H4.1.1.k _ rfl | exact H9.1.1.k _ rfl) ?_
      refine V_iv (y := -1) (H0.1.2.2.2.1) ?_
      refine V_iconst (v := -1) (sx_di dX12_goOnOr 2 rfl) (by decide) ?_
      refine V_icmp_ne (tgt := 45) (sx_di dX12_goOnOr 3 rfl) (by decide) (fun h5 => absurd rfl h5) (fun _ => ?_)
      refine V_aload_n (i := 0) (sx_di dX12_goOnOr 4 rfl) rfl rfl ?_
      refine V_cV0 (mc' := 0) (ms' := 0) (M' := mX12_look) 2 (sx_di dX12_goOnOr 5 rfl) lX12_128 vX12_look (by first | exact H.1.k _ rfl | exact H1.1.k _ rfl | exact H2.1.k _ rfl | exact H3.1.k _ rfl | exact H4.1.k _ rfl | exact H9.1.k _ rfl | exact H.1.1.k _ rfl | exact H1.1.1.k _ rfl | exact H2.1.1.k _ rfl | exact H3.1.1.k _ rfl | exact H4.1.1.k _ rfl | exact H9.1.1.k _ rfl) (by decide) rfl (Nat.le_of_ble_eq_true rfl) ⟨by show 2 + 1 ≤ D + 2; omega, by show 64 + 64 * (2) ≤ 64 * (D + 2); omega⟩ ⟨Nat.le_refl _, Nat.le_refl _⟩ ?_
      refine c_look9 H0.1 hp (fun w1 H1 f1 x1 => ?_)
      refine V_bipush (v := 124) (sx_di dX12_goOnOr 6 rfl) (by decide) ?_
      refine V_icmp_ne (tgt := 45) (sx_di dX12_goOnOr 7 rfl) (by decide) (fun h14 => absurd hc9 h14) (fun _ => ?_)
      refine V_aload_n (i := 0) (sx_di dX12_goOnOr 8 rfl) rfl rfl ?_
      refine V_dup (sx_di dX12_goOnOr 9 rfl) rfl ?_
      refine V_getI (sx_di dX12_goOnOr 10 rfl) fX12_109 (fun _ => rfl) (by first | exact H.1.k _ rfl | exact H1.1.k _ rfl | exact H2.1.k _ rfl | exact H3.1.k _ rfl | exact H4.1.k _ rfl | exact H9.1.k _ rfl | exact H.1.1.k _ rfl | exact H1.1.1.k _ rfl | exact H2.1.1.k _ rfl | exact H3.1.1.k _ rfl | exact H4.1.1.k _ rfl | exact H9.1.1.k _ rfl) ?_
      refine V_iconst (v := 1) (sx_di dX12_goOnOr 11 rfl) (by decide) ?_
      refine V_iadd (sx_di dX12_goOnOr 12 rfl) ?_
      refine V_putI (sx_di dX12_goOnOr 13 rfl) fX12_109 (fun _ => rfl) rfl (by first | exact H.1.k _ rfl | exact H1.1.k _ rfl | exact H2.1.k _ rfl | exact H3.1.k _ rfl | exact H4.1.k _ rfl | exact H9.1.k _ rfl | exact H.1.1.k _ rfl | exact H1.1.1.k _ rfl | exact H2.1.1.k _ rfl | exact H3.1.1.k _ rfl | exact H4.1.1.k _ rfl | exact H9.1.1.k _ rfl) (rfl) (rfl) ?_
      refine V_at9 H1 (fun w2 H2 f2 x2 => ?_)
      refine V_aload_n (i := 0) (sx_di dX12_goOnOr 14 rfl) rfl rfl ?_
      refine V_cV0 (mc' := 0) (ms' := 0) (M' := mX12_unit) D (sx_di dX12_goOnOr 15 rfl) lX12_165 vX12_unit (by first | exact H.1.k _ rfl | exact H1.1.k _ rfl | exact H2.1.k _ rfl | exact H3.1.k _ rfl | exact H4.1.k _ rfl | exact H9.1.k _ rfl | exact H.1.1.k _ rfl | exact H1.1.1.k _ rfl | exact H2.1.1.k _ rfl | exact H3.1.1.k _ rfl | exact H4.1.1.k _ rfl | exact H9.1.1.k _ rfl) (by decide) rfl (Nat.le_of_ble_eq_true rfl) ⟨by show D + 1 ≤ D + 2; omega, by show 64 + 64 * (D) ≤ 64 * (D + 2); omega⟩ ⟨Nat.le_refl _, Nat.le_refl _⟩ ?_
      refine hA (X ++ x.2.1) (skp_ T x.2.2 + 1) w2 _ H2 (x2 _ (x1 _ H0.2)) (by omega) hq1 (fun w3 H3 f3 => ?_)
      refine V_aload_n (i := 0) (sx_di dX12_goOnOr 16 rfl) rfl rfl ?_
      refine V_cV0 (mc' := 0) (ms' := 0) (M' := mX12_goOnAnd) (D + 1) (sx_di dX12_goOnOr 17 rfl) lX12_174 vX12_goOnAnd (by first | exact H.1.k _ rfl | exact H1.1.k _ rfl | exact H2.1.k _ rfl | exact H3.1.k _ rfl | exact H4.1.k _ rfl | exact H9.1.k _ rfl | exact H.1.1.k _ rfl | exact H1.1.1.k _ rfl | exact H2.1.1.k _ rfl | exact H3.1.1.k _ rfl | exact H4.1.1.k _ rfl | exact H9.1.1.k _ rfl) (by decide) rfl (Nat.le_of_ble_eq_true rfl) ⟨by show (D + 1) + 1 ≤ D + 2; omega, by show 64 + 64 * ((D + 1)) ≤ 64 * (D + 2); omega⟩ ⟨Nat.le_refl _, Nat.le_refl _⟩ ?_
      have hgl := la9_go (s := loC) hu (by decide) hg.2.1
      refine c_and9 (X := X ++ x.2.1) hn hD (by omega) hB0 hu hA hg.2.1 (fun z => by rw [List.length_append]; have := hg.2.2 z; omega) (R9_up (by omega) H3) (fun w9 H9 f9 => ?_)
      rw [← lp_la] at H9 hgl
      have hg9 := lp_go (s := loC) hu (by decide) (skp_ T x.2.2 + 1) hq1
      refine V_aload_n (i := 0) (sx_di dX12_goOnOr 18 rfl) rfl rfl ?_
      refine V_bipush (v := 11) (sx_di dX12_goOnOr 19 rfl) (by decide) ?_
      refine V_iconst (v := 0) (sx_di dX12_goOnOr 20 rfl) (by decide) ?_
      refine V_cV2 (mc' := 0) (ms' := 0) (M' := mX12_put) 1 (sx_di dX12_goOnOr 21 rfl) lX12_138 vX12_put (by first | exact H.1.k _ rfl | exact H1.1.k _ rfl | exact H2.1.k _ rfl | exact H3.1.k _ rfl | exact H4.1.k _ rfl | exact H9.1.k _ rfl | exact H.1.1.k _ rfl | exact H1.1.1.k _ rfl | exact H2.1.1.k _ rfl | exact H3.1.1.k _ rfl | exact H4.1.1.k _ rfl | exact H9.1.1.k _ rfl) (by decide) rfl (Nat.le_of_ble_eq_true rfl) ⟨by show 1 + 1 ≤ D + 2; omega, by show 64 + 64 * (1) ≤ 64 * (D + 2); omega⟩ ⟨Nat.le_refl _, Nat.le_refl _⟩ ?_
      refine c_putR (c9 := -cz_ T x.2.2) hn H9 (by omega) (fun z => by rw [List.length_append]; have := hg9.2.2 z; omega) (fun _ => by rw [hc9]; decide) (fun _ => by rw [hc9]; decide) (fun w4 H4 f4 => ?_)
      have z := R9_pre H4
      refine V_goto (tgt := 0) (sx_di dX12_goOnOr 22 rfl) (by decide) ?_
      unfold pt9 at z
      by_cases c : (lp_ T loC u (skp_ T x.2.2 + 1)).1 = true
      · rw [if_pos c] at h z
        rw [if_pos (show (true, (lp_ T loC u (skp_ T x.2.2 + 1)).2.1 ++ [-cz_ T x.2.2], (lp_ T loC u (skp_ T x.2.2 + 1)).2.2).1 = true from rfl)] at z
        have z1 : R9 T n d (B + 2) X (true, x.2.1 ++ (lp_ T loC u (skp_ T x.2.2 + 1)).2.1 ++ [-cz_ T x.2.2], (lp_ T loC u (skp_ T x.2.2 + 1)).2.2) w4 := by rw [List.append_assoc x.2.1]; exact R9_up (by omega) z
        exact ih _ w4 (by show _ ≤ (lp_ T loC u (skp_ T x.2.2 + 1)).2.2 + f; have := hg9.1; omega) (by exact hg9.2.1) (fun _ => by show (X ++ (x.2.1 ++ (lp_ T loC u (skp_ T x.2.2 + 1)).2.1 ++ [-cz_ T x.2.2])).length ≤ (lp_ T loC u (skp_ T x.2.2 + 1)).2.2; have := hg9.2.2 c; simp only [List.length_append, List.length_singleton] at hl2 ⊢; omega) z1 (fun w5 H5 f5 => h w5 H5 (fM_tr (fM_tr f1 (fM_tr f2 (fM_tr f3 (fM_tr f9 f4)))) f5))
      · rw [if_neg c] at h z
        rw [if_neg (show ¬ (pf_ (lp_ T loC u (skp_ T x.2.2 + 1)).2.2).1 = true from Bool.false_ne_true)] at z
        refine stop f (pf_ (lp_ T loC u (skp_ T x.2.2 + 1)).2.2) w4 hg9.2.1 (Or.inl Bool.false_ne_true) (R9_up (by omega) z) (fun w5 H5 f5 => h w5 ?_ (fM_tr (fM_tr f1 (fM_tr f2 (fM_tr f3 (fM_tr f9 f4)))) f5))
        rw [la9_n Bool.false_ne_true] at H5
        exact H5
    · exact stop (f + 1) x w hp (Classical.byContradiction (fun z => hc ⟨Classical.byContradiction (fun q => z (Or.inl q)), Classical.byContradiction (fun q => z (Or.inr q))⟩)) H h
set_option maxHeartbeats 2000000 in
set_option maxRecDepth 20000 in
theorem c_or9 {E : sxE} {T : List Int32} {n d D B : Nat} {u : Nat → prT} {X : List Int32} {x : prT} {w : hpW} {Q : Option Value → hpW → Prop} (hn : n < 5) (hD : 2 ≤ D) (hB : B < 490) (hB0 : 242 ≤ B) (hu : goS T u) (hA : kR E T n d D B mX12_unit u) (hp : x.2.2 ≤ T.length) (hl : x.1 = true → (X ++ x.2.1).length ≤ x.2.2) (H : R9 T n d (B + 2) X x w) (h : ∀ w', R9 T n d (B + 2) X (la9 T hiC (lp_ T loC u) T.length x) w' → fM n w w' → Q none w') : sx_C E mX12_goOnOr (D + 2) 0 0 [.ref 381] w Q := by
  refine C_of (by decide +kernel) (Nat.le_of_ble_eq_true rfl) ?_
  exact or_lp hn hD hB hB0 hu hA T.length x w (by omega) hp hl H h
set_option maxHeartbeats 2000000 in
set_option maxRecDepth 20000 in
theorem c_cond9 {E : sxE} {T : List Int32} {n d D B : Nat} {u : Nat → prT} (hn : n < 5) (hD : 2 ≤ D) (hB : B < 490) (hB0 : 242 ≤ B) (hu : goS T u) (hA : kR E T n d D B mX12_unit u) : kR E T n d (D + 3) (B + 2) mX12_condition (fl_ T hiC loC u) := by
  intro X p w Q H hx hXl hp h
  have hg := hu p hp
  have hg9 := lp_go (s := loC) hu (by decide) p hp
  rw [fl_eq hlC (by decide) (by decide) (by decide) hu hp, lp_la] at h
  refine C_of (by decide +kernel) (Nat.le_of_ble_eq_true rfl) ?_
  refine V_aload_n (i := 0) (sx_di dX12_condition 0 rfl) rfl rfl ?_
  refine V_cV0 (mc' := 0) (ms' := 0) (M' := mX12_unit) D (sx_di dX12_condition 1 rfl) lX12_165 vX12_unit (by first | exact H.1.k _ rfl | exact H1.1.k _ rfl | exact H2.1.k _ rfl | exact H.1.1.k _ rfl | exact H1.1.1.k _ rfl | exact H2.1.1.k _ rfl) (by decide) rfl (Nat.le_of_ble_eq_true rfl) ⟨by show D + 1 ≤ D + 3; omega, by show 64 + 64 * (D) ≤ 64 * (D + 3); omega⟩ ⟨Nat.le_refl _, Nat.le_refl _⟩ ?_
  refine hA X p w _ H hx hXl hp (fun w1 H1 f1 => ?_)
  refine V_aload_n (i := 0) (sx_di dX12_condition 2 rfl) rfl rfl ?_
  refine V_cV0 (mc' := 0) (ms' := 0) (M' := mX12_goOnAnd) (D + 1) (sx_di dX12_condition 3 rfl) lX12_174 vX12_goOnAnd (by first | exact H.1.k _ rfl | exact H1.1.k _ rfl | exact H2.1.k _ rfl | exact H.1.1.k _ rfl | exact H1.1.1.k _ rfl | exact H2.1.1.k _ rfl) (by decide) rfl (Nat.le_of_ble_eq_true rfl) ⟨by show (D + 1) + 1 ≤ D + 3; omega, by show 64 + 64 * ((D + 1)) ≤ 64 * (D + 3); omega⟩ ⟨Nat.le_refl _, Nat.le_refl _⟩ ?_
  refine c_and9 hn hD hB hB0 hu hA hg.2.1 (fun z => by rw [List.length_append]; have := hg.2.2 z; omega) (R9_up (by omega) H1) (fun w2 H2 f2 => ?_)
  rw [← lp_la] at H2
  refine V_aload_n (i := 0) (sx_di dX12_condition 4 rfl) rfl rfl ?_
  refine V_cV0 (mc' := 0) (ms' := 0) (M' := mX12_goOnOr) (D + 2) (sx_di dX12_condition 5 rfl) lX12_177 vX12_goOnOr (by first | exact H.1.k _ rfl | exact H1.1.k _ rfl | exact H2.1.k _ rfl | exact H.1.1.k _ rfl | exact H1.1.1.k _ rfl | exact H2.1.1.k _ rfl) (by decide) rfl (Nat.le_of_ble_eq_true rfl) ⟨by show (D + 2) + 1 ≤ D + 3; omega, by show 64 + 64 * ((D + 2)) ≤ 64 * (D + 3); omega⟩ ⟨Nat.le_refl _, Nat.le_refl _⟩ ?_
  refine c_or9 hn hD hB hB0 hu hA hg9.2.1 (fun z => by rw [List.length_append]; have := hg9.2.2 z; omega) (R9_up (by omega) H2) (fun w3 H3 f3 => ?_)
  refine V_vret (sx_di dX12_condition 6 rfl) rfl (Nat.le_refl _) (Nat.le_refl _) ?_
  exact h w3 H3 (fM_tr f1 (fM_tr f2 f3))
theorem r_unit {E : sxE} {T : List Int32} {n : Nat} (hn : n < 5) : ∀ r d, d + r = 6 → kR E T n d (26 + 4 * r) (264 + 3 * r) mX12_unit (uR T r)
  | 0, d, hd => c_unit9 (Ds := 6) (Du := 0) (Dc := 0) (Bs := 244) (Bu := 0) (Bc := 240) hn hd (by decide) (by decide) (by decide) (by decide) (by decide) (by decide) (by decide) (by decide) (by decide) (by decide) (by decide) (smR_go T 0) (r_sum hn hd) (Or.inl rfl) (Or.inl rfl)
  | r + 1, d, hd => by
    have hu := r_unit (E := E) (T := T) hn r (d + 1) (by omega)
    exact c_unit9 (Ds := 6 + 3 * (r + 1)) (Du := 26 + 4 * r) (Dc := 26 + 4 * r + 3) (Bs := 244 + 3 * (r + 1)) (Bu := 264 + 3 * r) (Bc := 264 + 3 * r + 2) hn hd (by omega) (by omega) (by omega) (by omega) (by omega) (by omega) (by omega) (by omega) (by omega) (by omega) (by omega) (smR_go T (r + 1)) (r_sum hn hd) (Or.inr ⟨uR_go T r, cdR_go T r⟩) (Or.inr ⟨hu, c_cond9 hn (by omega) (by omega) (by omega) (uR_go T r) hu⟩)
theorem r_cond {E : sxE} {T : List Int32} {n : Nat} (hn : n < 5) : kR E T n 0 53 284 mX12_condition (cdR T 6) := c_cond9 hn (by decide) (by decide) (by decide) (uR_go T 6) (r_unit hn 6 0 rfl)

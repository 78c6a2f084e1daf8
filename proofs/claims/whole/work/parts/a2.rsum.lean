/-! the reference reads a law: atoms and sums -/
theorem dg_lt9 {c : Int32} (h : dg_ c) : lt9 c = -1 ∧ ¬ c = 91 := by
  obtain ⟨e, he, rfl⟩ := dg_nI h.1 h.2
  have key : ∀ e, e ≤ 9 → lt9 (nI (48 + e)) = -1 ∧ ¬ nI (48 + e) = 91 := by decide
  exact key e he
theorem rn_no {T : List Int32} {p : Nat} (h : ¬ dg_ (tc_ T p)) : rn_ T 4 p = (false, p, 0) := by
  show rnF T 4 5 0 0 p = _
  unfold rnF
  rw [if_neg (fun z => h (dg_tc.mpr z))]
  rfl
theorem ec_nm9 {m : Nat} (h : m < 10000) : ec_ (nI m) = 0 ∧ ev_ (nI m) = nI m := by
  have a := (num_b h).1
  have b : ¬ nI m < 0 := nI_pos (by omega)
  unfold ec_ ev_
  rw [if_neg a, if_neg b, if_neg a, if_neg b]
  exact ⟨rfl, rfl⟩
theorem ec_ltr : ∀ i, i < 6 → ec_ (-1 - nI i) = 1 ∧ ev_ (-1 - nI i) = nI i := by decide
theorem pt9_1 {x : prT} {c : Int32} : (pt9 x c).1 = x.1 := by
  unfold pt9
  by_cases h : x.1 = true
  · rw [if_pos h, h]
  · rw [if_neg h]
    exact (Bool.eq_false_iff.mpr h).symm
theorem pt9_p {x : prT} {c : Int32} : (pt9 x c).2.2 = x.2.2 := by
  unfold pt9
  by_cases h : x.1 = true
  · rw [if_pos h]
  · rw [if_neg h]
    rfl
theorem c_opensS {E : sxE} {w : hpW} {Q : Option Value → hpW → Prop} {T : List Int32} {n d r p : Nat} {X : List Int32} (hd : d + r = 6) (H : rrP T n d p w) (hx : rrX n X w) (hl : X.length ≤ 240) (hp : p ≤ 240) (h : ∀ w', ly_B w' → fM n w w' → hp_i w' 381 4 = (if r = 0 then nI p else -1) → (r = 0 → R9 T n d 241 X (pf_ p) w') → (¬ r = 0 → rrP T n (d + 1) (p + 1) w' ∧ ∀ X, rrX n X w → rrX n X w') → Q none w') : sx_C E mX12_opens 2 0 0 [.ref 381] w Q := by
  refine c_opens9 hd H hx hl hp (fun r0 d2 w1 H1 f1 => ?_) (fun r0 w1 H1 f1 x1 => ?_)
  · refine h w1 H1.1.1 f1 ?_ (fun _ => R9_f H1 Bool.false_ne_true Bool.false_ne_true rfl) (fun z => absurd r0 z)
    rw [if_pos r0]
    exact (H1.2.2 Bool.false_ne_true).1
  · refine h w1 H1.1 f1 ?_ (fun z => absurd z r0) (fun _ => ⟨H1, x1⟩)
    rw [if_neg r0]
    exact H1.2.2.2.1
set_option maxHeartbeats 2000000 in
set_option maxRecDepth 20000 in
theorem c_atom9 {E : sxE} {T : List Int32} {n d r D B B2 : Nat} {f : Nat → prT} (hn : n < 5) (hd : d + r = 6) (hD : 3 ≤ D) (hB1 : B + 1 ≤ B2) (hB2 : 242 ≤ B2) (hB3 : B2 < 500) (hB0 : 240 ≤ B) (hg : r = 0 ∨ goS T f) (hin : r = 0 ∨ kR E T n (d + 1) D B mX12_sum f) : kR E T n d (D + 1) B2 mX12_atom (atm_ T r f) := by
  intro X p w Q H hx hXl hp h
  have hT := H.2.1.1
  have g1 := skp_ge T p
  have g2 := skq_le (T := T) hp
  unfold atm_ at h
  refine C_of (by decide +kernel) (Nat.le_of_ble_eq_true rfl) ?_
  refine V_aload_n (i := 0) (sx_di dX12_atom 0 rfl) rfl rfl ?_
  refine V_cV0 (mc' := 0) (ms' := 0) (M' := mX12_look) 2 (sx_di dX12_atom 1 rfl) lX12_128 vX12_look (by first | exact H.1.k _ rfl | exact H1.1.k _ rfl | exact H2.1.k _ rfl | exact H3.1.k _ rfl | exact H4.1.k _ rfl | exact H5.1.k _ rfl | exact H6.1.k _ rfl | exact H.1.1.k _ rfl | exact H1.1.1.k _ rfl | exact H2.1.1.k _ rfl | exact H3.1.1.k _ rfl | exact H4.1.1.k _ rfl | exact H5.1.1.k _ rfl | exact H6.1.1.k _ rfl | exact B2.k _ rfl) (by decide) rfl (Nat.le_of_ble_eq_true rfl) ⟨by show 2 + 1 ≤ D + 1; omega, by show 64 + 64 * (2) ≤ 64 * (D + 1); omega⟩ ⟨Nat.le_refl _, Nat.le_refl _⟩ ?_
  refine c_look9 H hp (fun w1 H1 f1 x1 => ?_)
  refine V_istore_n (i := 1) (sx_di dX12_atom 2 rfl) rfl (by decide) (rfl) ?_
  refine V_iload_n (i := 1) (sx_di dX12_atom 3 rfl) rfl rfl ?_
  refine V_cS1 (mc' := 0) (ms' := 0) (M' := mX12_isDigit) 1 (sx_di dX12_atom 4 rfl) lX12_131 vX12_isDigit (Nat.le_of_ble_eq_true rfl) ⟨by show 1 + 1 ≤ D + 1; omega, by show 64 + 64 * (1) ≤ 64 * (D + 1); omega⟩ ⟨Nat.le_refl _, Nat.le_refl _⟩ ?_
  refine c_isDig9 ?_
  refine V_if_eq (tgt := 24) (sx_di dX12_atom 5 rfl) (by decide) (fun h9 => ?_) (fun h9 => ?_)
  · have hdg := isD_f h9
    refine V_iload_n (i := 1) (sx_di dX12_atom 12 rfl) rfl rfl ?_
    refine V_cS1 (mc' := 0) (ms' := 0) (M' := mX12_letterOf) 1 (sx_di dX12_atom 13 rfl) lX12_142 vX12_letterOf (Nat.le_of_ble_eq_true rfl) ⟨by show 1 + 1 ≤ D + 1; omega, by show 64 + 64 * (1) ≤ 64 * (D + 1); omega⟩ ⟨Nat.le_refl _, Nat.le_refl _⟩ ?_
    refine c_X12_letterOf ?_
    refine V_iconst (v := -1) (sx_di dX12_atom 14 rfl) (by decide) ?_
    refine V_icmp_eq (tgt := 54) (sx_di dX12_atom 15 rfl) (by decide) (fun h29 => ?_) (fun h29 => ?_)
    · refine V_iload_n (i := 1) (sx_di dX12_atom 28 rfl) rfl rfl ?_
      refine V_bipush (v := 91) (sx_di dX12_atom 29 rfl) (by decide) ?_
      refine V_icmp_ne (tgt := 85) (sx_di dX12_atom 30 rfl) (by decide) (fun h57 => ?_) (fun h57 => ?_)
      · rw [if_neg h57, if_pos h29, rn_no hdg, if_neg (show ¬ (false, skp_ T p, (0 : Int32)).1 = true from Bool.false_ne_true)] at h
        refine V_aload_n (i := 0) (sx_di dX12_atom 43 rfl) rfl rfl ?_
        refine V_cV0 (mc' := 0) (ms' := 0) (M' := mX12_bad) 1 (sx_di dX12_atom 44 rfl) lX12_125 vX12_bad (by first | exact H.1.k _ rfl | exact H1.1.k _ rfl | exact H2.1.k _ rfl | exact H3.1.k _ rfl | exact H4.1.k _ rfl | exact H5.1.k _ rfl | exact H6.1.k _ rfl | exact H.1.1.k _ rfl | exact H1.1.1.k _ rfl | exact H2.1.1.k _ rfl | exact H3.1.1.k _ rfl | exact H4.1.1.k _ rfl | exact H5.1.1.k _ rfl | exact H6.1.1.k _ rfl | exact B2.k _ rfl) (by decide) rfl (Nat.le_of_ble_eq_true rfl) ⟨by show 1 + 1 ≤ D + 1; omega, by show 64 + 64 * (1) ≤ 64 * (D + 1); omega⟩ ⟨Nat.le_refl _, Nat.le_refl _⟩ ?_
        refine c_bad9 (X2 := X) (B := 240) H1 (x1 X hx) (by omega) (by omega) (fun d2 w2 H2 f2 => ?_)
        refine V_vret (sx_di dX12_atom 45 rfl) rfl (Nat.le_refl _) (Nat.le_refl _) ?_
        exact h w2 (R9_up (by omega) (R9_f H2 Bool.false_ne_true Bool.false_ne_true rfl)) (fM_tr f1 f2)
      · rw [if_pos h57] at h
        have hq1 := cz_p1 h57 (by decide)
        refine V_aload_n (i := 0) (sx_di dX12_atom 31 rfl) rfl rfl ?_
        refine V_cV0 (mc' := 0) (ms' := 0) (M' := mX12_opens) 2 (sx_di dX12_atom 32 rfl) lX12_146 vX12_opens (by first | exact H.1.k _ rfl | exact H1.1.k _ rfl | exact H2.1.k _ rfl | exact H3.1.k _ rfl | exact H4.1.k _ rfl | exact H5.1.k _ rfl | exact H6.1.k _ rfl | exact H.1.1.k _ rfl | exact H1.1.1.k _ rfl | exact H2.1.1.k _ rfl | exact H3.1.1.k _ rfl | exact H4.1.1.k _ rfl | exact H5.1.1.k _ rfl | exact H6.1.1.k _ rfl | exact B2.k _ rfl) (by decide) rfl (Nat.le_of_ble_eq_true rfl) ⟨by show 2 + 1 ≤ D + 1; omega, by show 64 + 64 * (2) ≤ 64 * (D + 1); omega⟩ ⟨Nat.le_refl _, Nat.le_refl _⟩ ?_
        refine c_opensS (X := X) hd H1 (x1 X hx) (by omega) (by omega) (fun w2 B2 f2 w2e z2 y2 => ?_)
        refine V_aload_n (i := 0) (sx_di dX12_atom 33 rfl) rfl rfl ?_
        refine V_getI (sx_di dX12_atom 34 rfl) fX12_116 (fun _ => rfl) (by first | exact H.1.k _ rfl | exact H1.1.k _ rfl | exact H2.1.k _ rfl | exact H3.1.k _ rfl | exact H4.1.k _ rfl | exact H5.1.k _ rfl | exact H6.1.k _ rfl | exact H.1.1.k _ rfl | exact H1.1.1.k _ rfl | exact H2.1.1.k _ rfl | exact H3.1.1.k _ rfl | exact H4.1.1.k _ rfl | exact H5.1.1.k _ rfl | exact H6.1.1.k _ rfl | exact B2.k _ rfl) ?_
        refine V_iv (y := if r = 0 then nI (skp_ T p) else -1) (w2e) ?_
        refine V_iconst (v := -1) (sx_di dX12_atom 35 rfl) (by decide) ?_
        refine V_icmp_ne (tgt := 89) (sx_di dX12_atom 36 rfl) (by decide) (fun h69 => ?_) (fun h69 => ?_)
        · have r0 : r = 0 := Classical.byContradiction (fun z => h69 (if_neg z))
          rw [if_pos r0] at h
          refine V_vret (sx_di dX12_atom 45 rfl) rfl (Nat.le_refl _) (Nat.le_refl _) ?_
          exact h w2 (R9_up (by omega) (z2 r0)) (fM_tr f1 f2)
        · have r0 : ¬ r = 0 := fun z => nI_nm1 (n := skp_ T p) (by omega) (by rw [if_pos z] at h69; exact h69)
          rw [if_neg r0] at h
          have hin2 := hin.resolve_left r0
          have hg2 := (hg.resolve_left r0) _ hq1
          have H3 := (y2 r0).1
          refine V_aload_n (i := 0) (sx_di dX12_atom 37 rfl) rfl rfl ?_
          refine V_cV0 (mc' := 0) (ms' := 0) (M' := mX12_sum) D (sx_di dX12_atom 38 rfl) lX12_149 vX12_sum (by first | exact H.1.k _ rfl | exact H1.1.k _ rfl | exact H2.1.k _ rfl | exact H3.1.k _ rfl | exact H4.1.k _ rfl | exact H5.1.k _ rfl | exact H6.1.k _ rfl | exact H.1.1.k _ rfl | exact H1.1.1.k _ rfl | exact H2.1.1.k _ rfl | exact H3.1.1.k _ rfl | exact H4.1.1.k _ rfl | exact H5.1.1.k _ rfl | exact H6.1.1.k _ rfl | exact B2.k _ rfl) (by decide) rfl (Nat.le_of_ble_eq_true rfl) ⟨by show D + 1 ≤ D + 1; omega, by show 64 + 64 * (D) ≤ 64 * (D + 1); omega⟩ ⟨Nat.le_refl _, Nat.le_refl _⟩ ?_
          refine hin2 X (skp_ T p + 1) w2 _ H3 ((y2 r0).2 _ (x1 _ hx)) (by omega) hq1 (fun w4 H4 f4 => ?_)
          refine V_aload_n (i := 0) (sx_di dX12_atom 39 rfl) rfl rfl ?_
          refine V_bipush (v := 93) (sx_di dX12_atom 40 rfl) (by decide) ?_
          refine V_cV1 (mc' := 0) (ms' := 0) (M' := mX12_closes) 3 (sx_di dX12_atom 41 rfl) lX12_152 vX12_closes (by first | exact H.1.k _ rfl | exact H1.1.k _ rfl | exact H2.1.k _ rfl | exact H3.1.k _ rfl | exact H4.1.k _ rfl | exact H5.1.k _ rfl | exact H6.1.k _ rfl | exact H.1.1.k _ rfl | exact H1.1.1.k _ rfl | exact H2.1.1.k _ rfl | exact H3.1.1.k _ rfl | exact H4.1.1.k _ rfl | exact H5.1.1.k _ rfl | exact H6.1.1.k _ rfl | exact B2.k _ rfl) (by decide) rfl (Nat.le_of_ble_eq_true rfl) ⟨by show 3 + 1 ≤ D + 1; omega, by show 64 + 64 * (3) ≤ 64 * (D + 1); omega⟩ ⟨Nat.le_refl _, Nat.le_refl _⟩ ?_
          refine c_closes9 H4 hB0 hg2.2.1 (fun z => by rw [List.length_append]; have := hg2.2.2 z; omega) (fun w5 H5 f5 => ?_)
          refine V_goto (tgt := 89) (sx_di dX12_atom 42 rfl) (by decide) ?_
          refine V_vret (sx_di dX12_atom 45 rfl) rfl (Nat.le_refl _) (Nat.le_refl _) ?_
          exact h w5 (R9_up (by omega) H5) (fM_tr f1 (fM_tr f2 (fM_tr f4 f5)))
    · have h91 : ¬ cz_ T p = 91 := fun z => h29 (by rw [z]; decide)
      rw [if_neg h91, if_neg h29] at h
      have hq1 := cz_lt (T := T) (p := p) (fun q => h29 (by rw [q]; exact lt9_m1))
      refine V_aload_n (i := 0) (sx_di dX12_atom 16 rfl) rfl rfl ?_
      refine V_dup (sx_di dX12_atom 17 rfl) rfl ?_
      refine V_getI (sx_di dX12_atom 18 rfl) fX12_109 (fun _ => rfl) (by first | exact H.1.k _ rfl | exact H1.1.k _ rfl | exact H2.1.k _ rfl | exact H3.1.k _ rfl | exact H4.1.k _ rfl | exact H5.1.k _ rfl | exact H6.1.k _ rfl | exact H.1.1.k _ rfl | exact H1.1.1.k _ rfl | exact H2.1.1.k _ rfl | exact H3.1.1.k _ rfl | exact H4.1.1.k _ rfl | exact H5.1.1.k _ rfl | exact H6.1.1.k _ rfl | exact B2.k _ rfl) ?_
      refine V_iconst (v := 1) (sx_di dX12_atom 19 rfl) (by decide) ?_
      refine V_iadd (sx_di dX12_atom 20 rfl) ?_
      refine V_putI (sx_di dX12_atom 21 rfl) fX12_109 (fun _ => rfl) rfl (by first | exact H.1.k _ rfl | exact H1.1.k _ rfl | exact H2.1.k _ rfl | exact H3.1.k _ rfl | exact H4.1.k _ rfl | exact H5.1.k _ rfl | exact H6.1.k _ rfl | exact H.1.1.k _ rfl | exact H1.1.1.k _ rfl | exact H2.1.1.k _ rfl | exact H3.1.1.k _ rfl | exact H4.1.1.k _ rfl | exact H5.1.1.k _ rfl | exact H6.1.1.k _ rfl | exact B2.k _ rfl) (rfl) (rfl) ?_
      refine V_at9 H1 (fun w2 H2 f2 x2 => ?_)
      refine V_aload_n (i := 0) (sx_di dX12_atom 22 rfl) rfl rfl ?_
      refine V_iconst (v := 1) (sx_di dX12_atom 23 rfl) (by decide) ?_
      refine V_iload_n (i := 1) (sx_di dX12_atom 24 rfl) rfl rfl ?_
      refine V_cS1 (mc' := 0) (ms' := 0) (M' := mX12_letterOf) 1 (sx_di dX12_atom 25 rfl) lX12_142 vX12_letterOf (Nat.le_of_ble_eq_true rfl) ⟨by show 1 + 1 ≤ D + 1; omega, by show 64 + 64 * (1) ≤ 64 * (D + 1); omega⟩ ⟨Nat.le_refl _, Nat.le_refl _⟩ ?_
      refine c_X12_letterOf ?_
      refine V_cV2 (mc' := 0) (ms' := 0) (M' := mX12_put) 1 (sx_di dX12_atom 26 rfl) lX12_138 vX12_put (by first | exact H.1.k _ rfl | exact H1.1.k _ rfl | exact H2.1.k _ rfl | exact H3.1.k _ rfl | exact H4.1.k _ rfl | exact H5.1.k _ rfl | exact H6.1.k _ rfl | exact H.1.1.k _ rfl | exact H1.1.1.k _ rfl | exact H2.1.1.k _ rfl | exact H3.1.1.k _ rfl | exact H4.1.1.k _ rfl | exact H5.1.1.k _ rfl | exact H6.1.1.k _ rfl | exact B2.k _ rfl) (by decide) rfl (Nat.le_of_ble_eq_true rfl) ⟨by show 1 + 1 ≤ D + 1; omega, by show 64 + 64 * (1) ≤ 64 * (D + 1); omega⟩ ⟨Nat.le_refl _, Nat.le_refl _⟩ ?_
      obtain ⟨i, hi, ei⟩ := lt9_c h29
      have hc := ec_ltr i hi
      rw [← ei] at hc
      refine c_putR (x := (true, [], skp_ T p + 1)) (X := X) (B := 240) (c9 := -1 - lt9 (cz_ T p)) hn (R9_of H2 (by rw [List.append_nil]; exact x2 _ (x1 _ hx))) (by omega) (fun _ => by rw [List.append_nil]; omega) (fun _ => hc.1) (fun _ => hc.2) (fun w3 H3 f3 => ?_)
      refine V_goto (tgt := 89) (sx_di dX12_atom 27 rfl) (by decide) ?_
      refine V_vret (sx_di dX12_atom 45 rfl) rfl (Nat.le_refl _) (Nat.le_refl _) ?_
      exact h w3 (R9_up (by omega) H3) (fM_tr f1 (fM_tr f2 f3))
  · have hdg := isD_t h9
    have hq := dg_lt9 hdg
    rw [if_neg hq.2, if_pos hq.1] at h
    refine V_aload_n (i := 0) (sx_di dX12_atom 6 rfl) rfl rfl ?_
    refine V_iconst (v := 0) (sx_di dX12_atom 7 rfl) (by decide) ?_
    refine V_aload_n (i := 0) (sx_di dX12_atom 8 rfl) rfl rfl ?_
    refine V_cV0 (mc' := 0) (ms' := 0) (M' := mX12_plainNumber) 2 (sx_di dX12_atom 9 rfl) lX12_135 vX12_plainNumber (by first | exact H.1.k _ rfl | exact H1.1.k _ rfl | exact H2.1.k _ rfl | exact H3.1.k _ rfl | exact H4.1.k _ rfl | exact H5.1.k _ rfl | exact H6.1.k _ rfl | exact H.1.1.k _ rfl | exact H1.1.1.k _ rfl | exact H2.1.1.k _ rfl | exact H3.1.1.k _ rfl | exact H4.1.1.k _ rfl | exact H5.1.1.k _ rfl | exact H6.1.1.k _ rfl | exact B2.k _ rfl) (by decide) rfl (Nat.le_of_ble_eq_true rfl) ⟨by show 2 + 1 ≤ D + 1; omega, by show 64 + 64 * (2) ≤ 64 * (D + 1); omega⟩ ⟨Nat.le_refl _, Nat.le_refl _⟩ ?_
    refine c_plain9 H1 (x1 X hx) (by omega) g2 hdg (fun v w2 H2 f2 e2 => ?_)
    refine V_cV2 (mc' := 0) (ms' := 0) (M' := mX12_put) 1 (sx_di dX12_atom 10 rfl) lX12_138 vX12_put (by first | exact H.1.k _ rfl | exact H1.1.k _ rfl | exact H2.1.k _ rfl | exact H3.1.k _ rfl | exact H4.1.k _ rfl | exact H5.1.k _ rfl | exact H6.1.k _ rfl | exact H.1.1.k _ rfl | exact H1.1.1.k _ rfl | exact H2.1.1.k _ rfl | exact H3.1.1.k _ rfl | exact H4.1.1.k _ rfl | exact H5.1.1.k _ rfl | exact H6.1.1.k _ rfl | exact B2.k _ rfl) (by decide) rfl (Nat.le_of_ble_eq_true rfl) ⟨by show 1 + 1 ≤ D + 1; omega, by show 64 + 64 * (1) ≤ 64 * (D + 1); omega⟩ ⟨Nat.le_refl _, Nat.le_refl _⟩ ?_
    have hv : (rn_ T 4 (skp_ T p)).1 = true → ec_ v = 0 ∧ ev_ v = v := fun z => by
      obtain ⟨m, r1, r2⟩ := rn_v T 4 _ z
      rw [e2 z, r1]
      exact ec_nm9 r2
    refine c_putR (c9 := v) hn H2 (by omega) (fun _ => by rw [List.append_nil]; omega) (fun z => (hv z).1) (fun z => (hv z).2) (fun w3 H3 f3 => ?_)
    have e9 : pt9 ((rn_ T 4 (skp_ T p)).1, [], (rn_ T 4 (skp_ T p)).2.1) v = (if (rn_ T 4 (skp_ T p)).1 = true then (true, [(rn_ T 4 (skp_ T p)).2.2], (rn_ T 4 (skp_ T p)).2.1) else pf_ (rn_ T 4 (skp_ T p)).2.1) := by
      unfold pt9
      by_cases z : (rn_ T 4 (skp_ T p)).1 = true
      · rw [if_pos z, if_pos z, e2 z]; rfl
      · rw [if_neg z, if_neg z]
    rw [e9] at H3
    refine V_goto (tgt := 89) (sx_di dX12_atom 11 rfl) (by decide) ?_
    refine V_vret (sx_di dX12_atom 45 rfl) rfl (Nat.le_refl _) (Nat.le_refl _) ?_
    exact h w3 (R9_up (by omega) H3) (fM_tr f1 (fM_tr f2 f3))
set_option maxHeartbeats 2000000 in
set_option maxRecDepth 20000 in
theorem tm_lp {E : sxE} {T : List Int32} {n d D B : Nat} {u : Nat → prT} {X : List Int32} {Q : Option Value → hpW → Prop} (hn : n < 5) (hD : 2 ≤ D) (hB : B < 500) (hB0 : 242 ≤ B) (hu : goS T u) (hA : kR E T n d D B mX12_atom u) : ∀ f Y p w, T.length ≤ p + f → p ≤ T.length → (X ++ Y).length ≤ p → rrP T n d (skp_ T p) w → rrX n (X ++ Y) w → (∀ w', R9 T n d (B + 1) X (lpF T loS u f Y p) w' → fM n w w' → Q none w') → V E mX12_term (sx_rm (D + 1) 0 0) 0 0 0 0 21 [(1, .int (cz_ T p)), (0, .ref 381)] [] w Q := by
  intro f
  have stop : ∀ f Y p w, ¬ loS (cz_ T p) = true → rrP T n d (skp_ T p) w → rrX n (X ++ Y) w → (∀ w', R9 T n d (B + 1) X (lpF T loS u f Y p) w' → fM n w w' → Q none w') → V E mX12_term (sx_rm (D + 1) 0 0) 0 0 0 0 21 [(1, .int (cz_ T p)), (0, .ref 381)] [] w Q := by
    intro f Y p w hc H hx h
    rw [lpF_stop hc] at h
    refine V_iload_n (i := 1) (sx_di dX12_term 11 rfl) rfl rfl ?_
    refine V_bipush (v := 42) (sx_di dX12_term 12 rfl) (by decide) ?_
    refine V_icmp_eq (tgt := 33) (sx_di dX12_term 13 rfl) (by decide) (fun h24 => absurd (decide_eq_true (Or.inl h24)) hc) (fun _ => ?_)
    refine V_iload_n (i := 1) (sx_di dX12_term 14 rfl) rfl rfl ?_
    refine V_bipush (v := 47) (sx_di dX12_term 15 rfl) (by decide) ?_
    refine V_icmp_ne (tgt := 83) (sx_di dX12_term 16 rfl) (by decide) (fun _ => ?_) (fun h30 => absurd (decide_eq_true (Or.inr h30)) hc)
    refine V_vret (sx_di dX12_term 44 rfl) rfl (Nat.le_refl _) (Nat.le_refl _) ?_
    exact h w (R9_of H hx) fM_rf
  induction f with
  | zero =>
    intro Y p w hf hp hl H hx h
    have ec := cz_end (T := T) (p := p) (by omega)
    exact stop 0 Y p w (by rw [ec]; decide) H hx h
  | succ f ih =>
    intro Y p w hf hp hl H hx h
    have hT := H.2.1.1
    by_cases hc : loS (cz_ T p) = true
    · have g1 := skp_ge T p
      have hq1 := cz_lt (T := T) (p := p) (fun q => by rw [q] at hc; exact absurd hc (by decide))
      have hg := hu (skp_ T p + 1) hq1
      have hop : ec_ (-cz_ T p) = (if cz_ T p = 42 then 4 else 5) ∧ ev_ (-cz_ T p) = 0 := by
        rcases of_decide_eq_true hc with z | z <;> (rw [z]; decide)
      unfold lpF at h
      rw [if_pos hc] at h
      have go : V E mX12_term (sx_rm (D + 1) 0 0) 0 0 0 0 33 [(1, .int (cz_ T p)), (0, .ref 381)] [] w Q := by
        refine V_aload_n (i := 0) (sx_di dX12_term 17 rfl) rfl rfl ?_
        refine V_dup (sx_di dX12_term 18 rfl) rfl ?_
        refine V_getI (sx_di dX12_term 19 rfl) fX12_109 (fun _ => rfl) (by first | exact H.1.k _ rfl | exact H1.1.k _ rfl | exact H2.1.k _ rfl | exact H3.1.k _ rfl | exact H4.1.k _ rfl | exact H5.1.k _ rfl | exact H6.1.k _ rfl | exact H.1.1.k _ rfl | exact H1.1.1.k _ rfl | exact H2.1.1.k _ rfl | exact H3.1.1.k _ rfl | exact H4.1.1.k _ rfl | exact H5.1.1.k _ rfl | exact H6.1.1.k _ rfl) ?_
        refine V_iconst (v := 1) (sx_di dX12_term 20 rfl) (by decide) ?_
        refine V_iadd (sx_di dX12_term 21 rfl) ?_
        refine V_putI (sx_di dX12_term 22 rfl) fX12_109 (fun _ => rfl) rfl (by first | exact H.1.k _ rfl | exact H1.1.k _ rfl | exact H2.1.k _ rfl | exact H3.1.k _ rfl | exact H4.1.k _ rfl | exact H5.1.k _ rfl | exact H6.1.k _ rfl | exact H.1.1.k _ rfl | exact H1.1.1.k _ rfl | exact H2.1.1.k _ rfl | exact H3.1.1.k _ rfl | exact H4.1.1.k _ rfl | exact H5.1.1.k _ rfl | exact H6.1.1.k _ rfl) (rfl) (rfl) ?_
        refine V_at9 H (fun w1 H1 f1 x1 => ?_)
        refine V_aload_n (i := 0) (sx_di dX12_term 23 rfl) rfl rfl ?_
        refine V_cV0 (mc' := 0) (ms' := 0) (M' := mX12_atom) D (sx_di dX12_term 24 rfl) lX12_156 vX12_atom (by first | exact H.1.k _ rfl | exact H1.1.k _ rfl | exact H2.1.k _ rfl | exact H3.1.k _ rfl | exact H4.1.k _ rfl | exact H5.1.k _ rfl | exact H6.1.k _ rfl | exact H.1.1.k _ rfl | exact H1.1.1.k _ rfl | exact H2.1.1.k _ rfl | exact H3.1.1.k _ rfl | exact H4.1.1.k _ rfl | exact H5.1.1.k _ rfl | exact H6.1.1.k _ rfl) (by decide) rfl (Nat.le_of_ble_eq_true rfl) ⟨by show D + 1 ≤ D + 1; omega, by show 64 + 64 * (D) ≤ 64 * (D + 1); omega⟩ ⟨Nat.le_refl _, Nat.le_refl _⟩ ?_
        refine hA (X ++ Y) (skp_ T p + 1) w1 _ H1 (x1 _ hx) (by omega) hq1 (fun w2 H2 f2 => ?_)
        refine V_aload_n (i := 0) (sx_di dX12_term 25 rfl) rfl rfl ?_
        refine V_iload_n (i := 1) (sx_di dX12_term 26 rfl) rfl rfl ?_
        refine V_bipush (v := 42) (sx_di dX12_term 27 rfl) (by decide) ?_
        refine V_icmp_ne (tgt := 58) (sx_di dX12_term 28 rfl) (by decide) (fun h51 => ?_) (fun h51 => ?_)
        · refine V_iconst (v := 5) (sx_di dX12_term 31 rfl) (by decide) ?_
          refine V_iconst (v := 0) (sx_di dX12_term 32 rfl) (by decide) ?_
          refine V_cV2 (mc' := 0) (ms' := 0) (M' := mX12_put) 1 (sx_di dX12_term 33 rfl) lX12_138 vX12_put (by first | exact H.1.k _ rfl | exact H1.1.k _ rfl | exact H2.1.k _ rfl | exact H3.1.k _ rfl | exact H4.1.k _ rfl | exact H5.1.k _ rfl | exact H6.1.k _ rfl | exact H.1.1.k _ rfl | exact H1.1.1.k _ rfl | exact H2.1.1.k _ rfl | exact H3.1.1.k _ rfl | exact H4.1.1.k _ rfl | exact H5.1.1.k _ rfl | exact H6.1.1.k _ rfl) (by decide) rfl (Nat.le_of_ble_eq_true rfl) ⟨by show 1 + 1 ≤ D + 1; omega, by show 64 + 64 * (1) ≤ 64 * (D + 1); omega⟩ ⟨Nat.le_refl _, Nat.le_refl _⟩ ?_
          refine c_putR (c9 := -cz_ T p) hn H2 (by omega) (fun z => by rw [List.length_append]; have := hg.2.2 z; rw [List.length_append] at hl ⊢; omega) (fun _ => by rw [hop.1, if_neg h51]) (fun _ => hop.2) (fun w3 H3 f3 => ?_)
          refine V_aload_n (i := 0) (sx_di dX12_term 34 rfl) rfl rfl ?_
          refine V_getI (sx_di dX12_term 35 rfl) fX12_116 (fun _ => rfl) (by first | exact H.1.k _ rfl | exact H1.1.k _ rfl | exact H2.1.k _ rfl | exact H3.1.k _ rfl | exact H4.1.k _ rfl | exact H5.1.k _ rfl | exact H6.1.k _ rfl | exact H.1.1.k _ rfl | exact H1.1.1.k _ rfl | exact H2.1.1.k _ rfl | exact H3.1.1.k _ rfl | exact H4.1.1.k _ rfl | exact H5.1.1.k _ rfl | exact H6.1.1.k _ rfl) ?_
          refine V_iv (y := wv_ (pt9 (u (skp_ T p + 1)) (-cz_ T p))) (R9_w H3) ?_
          refine V_iconst (v := -1) (sx_di dX12_term 36 rfl) (by decide) ?_
          refine V_icmp_ne (tgt := 78) (sx_di dX12_term 37 rfl) (by decide) (fun h68 => ?_) (fun h68 => ?_)
          · have b68 := wv_n h68
            rw [pt9_1] at b68
            rw [if_neg b68] at h
            refine V_iconst (v := -1) (sx_di dX12_term 41 rfl) (by decide) ?_
            refine V_istore_n (i := 1) (sx_di dX12_term 42 rfl) rfl (by decide) (rfl) ?_
            refine V_goto (tgt := 21) (sx_di dX12_term 43 rfl) (by decide) ?_
            refine V_iload_n (i := 1) (sx_di dX12_term 11 rfl) rfl rfl ?_
            refine V_bipush (v := 42) (sx_di dX12_term 12 rfl) (by decide) ?_
            refine V_icmp_eq (tgt := 33) (sx_di dX12_term 13 rfl) (by decide) (fun h24 => absurd h24 (by decide)) (fun _ => ?_)
            refine V_iload_n (i := 1) (sx_di dX12_term 14 rfl) rfl rfl ?_
            refine V_bipush (v := 47) (sx_di dX12_term 15 rfl) (by decide) ?_
            refine V_icmp_ne (tgt := 83) (sx_di dX12_term 16 rfl) (by decide) (fun _ => ?_) (fun h30 => absurd h30 (by decide))
            refine V_vret (sx_di dX12_term 44 rfl) rfl (Nat.le_refl _) (Nat.le_refl _) ?_
            exact h w3 (R9_f H3 (by rw [pt9_1]; exact b68) Bool.false_ne_true (by rw [pt9_p]; rfl)) (fM_tr f1 (fM_tr f2 f3))
          · have b68 := wv_y (by rw [pt9_p]; omega) h68
            have H4 := R9_y H3 b68
            rw [pt9_1] at b68
            rw [if_pos b68] at h
            have e9 : pt9 (u (skp_ T p + 1)) (-cz_ T p) = (true, (u (skp_ T p + 1)).2.1 ++ [-cz_ T p], (u (skp_ T p + 1)).2.2) := if_pos b68
            rw [e9] at H4
            have hx4 : rrX n (X ++ (Y ++ (u (skp_ T p + 1)).2.1 ++ [-cz_ T p])) w3 := by
              have z := H4.2
              rw [List.append_assoc X Y, ← List.append_assoc Y] at z
              exact z
            refine V_aload_n (i := 0) (sx_di dX12_term 38 rfl) rfl rfl ?_
            refine V_cV0 (mc' := 0) (ms' := 0) (M' := mX12_look) 2 (sx_di dX12_term 39 rfl) lX12_128 vX12_look (by first | exact H.1.k _ rfl | exact H1.1.k _ rfl | exact H2.1.k _ rfl | exact H3.1.k _ rfl | exact H4.1.k _ rfl | exact H5.1.k _ rfl | exact H6.1.k _ rfl | exact H.1.1.k _ rfl | exact H1.1.1.k _ rfl | exact H2.1.1.k _ rfl | exact H3.1.1.k _ rfl | exact H4.1.1.k _ rfl | exact H5.1.1.k _ rfl | exact H6.1.1.k _ rfl) (by decide) rfl (Nat.le_of_ble_eq_true rfl) ⟨by show 2 + 1 ≤ D + 1; omega, by show 64 + 64 * (2) ≤ 64 * (D + 1); omega⟩ ⟨Nat.le_refl _, Nat.le_refl _⟩ ?_
            refine c_look9 H4.1 hg.2.1 (fun w5 H5 f5 x5 => ?_)
            refine V_goto (tgt := 79) (sx_di dX12_term 40 rfl) (by decide) ?_
            refine V_istore_n (i := 1) (sx_di dX12_term 42 rfl) rfl (by decide) (rfl) ?_
            refine V_goto (tgt := 21) (sx_di dX12_term 43 rfl) (by decide) ?_
            have q1 := ih (Y ++ (u (skp_ T p + 1)).2.1 ++ [-cz_ T p]) (u (skp_ T p + 1)).2.2 w5 (by omega) hg.2.1 (by have := hg.2.2 b68; simp only [List.length_append, List.length_singleton] at hl ⊢; omega) H5 (x5 _ hx4) (fun w6 H6 f6 => h w6 H6 (fM_tr f1 (fM_tr f2 (fM_tr f3 (fM_tr f5 f6)))))
            exact V_subk q1 ⟨rfl, rfl, trivial⟩
        · refine V_iconst (v := 4) (sx_di dX12_term 29 rfl) (by decide) ?_
          refine V_goto (tgt := 59) (sx_di dX12_term 30 rfl) (by decide) ?_
          refine V_iconst (v := 0) (sx_di dX12_term 32 rfl) (by decide) ?_
          refine V_cV2 (mc' := 0) (ms' := 0) (M' := mX12_put) 1 (sx_di dX12_term 33 rfl) lX12_138 vX12_put (by first | exact H.1.k _ rfl | exact H1.1.k _ rfl | exact H2.1.k _ rfl | exact H3.1.k _ rfl | exact H4.1.k _ rfl | exact H5.1.k _ rfl | exact H6.1.k _ rfl | exact H.1.1.k _ rfl | exact H1.1.1.k _ rfl | exact H2.1.1.k _ rfl | exact H3.1.1.k _ rfl | exact H4.1.1.k _ rfl | exact H5.1.1.k _ rfl | exact H6.1.1.k _ rfl) (by decide) rfl (Nat.le_of_ble_eq_true rfl) ⟨by show 1 + 1 ≤ D + 1; omega, by show 64 + 64 * (1) ≤ 64 * (D + 1); omega⟩ ⟨Nat.le_refl _, Nat.le_refl _⟩ ?_
          refine c_putR (c9 := -cz_ T p) hn H2 (by omega) (fun z => by rw [List.length_append]; have := hg.2.2 z; rw [List.length_append] at hl ⊢; omega) (fun _ => by rw [hop.1, if_pos h51]) (fun _ => hop.2) (fun w3 H3 f3 => ?_)
          refine V_aload_n (i := 0) (sx_di dX12_term 34 rfl) rfl rfl ?_
          refine V_getI (sx_di dX12_term 35 rfl) fX12_116 (fun _ => rfl) (by first | exact H.1.k _ rfl | exact H1.1.k _ rfl | exact H2.1.k _ rfl | exact H3.1.k _ rfl | exact H4.1.k _ rfl | exact H5.1.k _ rfl | exact H6.1.k _ rfl | exact H.1.1.k _ rfl | exact H1.1.1.k _ rfl | exact H2.1.1.k _ rfl | exact H3.1.1.k _ rfl | exact H4.1.1.k _ rfl | exact H5.1.1.k _ rfl | exact H6.1.1.k _ rfl) ?_
          refine V_iv (y := wv_ (pt9 (u (skp_ T p + 1)) (-cz_ T p))) (R9_w H3) ?_
          refine V_iconst (v := -1) (sx_di dX12_term 36 rfl) (by decide) ?_
          refine V_icmp_ne (tgt := 78) (sx_di dX12_term 37 rfl) (by decide) (fun h68 => ?_) (fun h68 => ?_)
          · have b68 := wv_n h68
            rw [pt9_1] at b68
            rw [if_neg b68] at h
            refine V_iconst (v := -1) (sx_di dX12_term 41 rfl) (by decide) ?_
            refine V_istore_n (i := 1) (sx_di dX12_term 42 rfl) rfl (by decide) (rfl) ?_
            refine V_goto (tgt := 21) (sx_di dX12_term 43 rfl) (by decide) ?_
            refine V_iload_n (i := 1) (sx_di dX12_term 11 rfl) rfl rfl ?_
            refine V_bipush (v := 42) (sx_di dX12_term 12 rfl) (by decide) ?_
            refine V_icmp_eq (tgt := 33) (sx_di dX12_term 13 rfl) (by decide) (fun h24 => absurd h24 (by decide)) (fun _ => ?_)
            refine V_iload_n (i := 1) (sx_di dX12_term 14 rfl) rfl rfl ?_
            refine V_bipush (v := 47) (sx_di dX12_term 15 rfl) (by decide) ?_
            refine V_icmp_ne (tgt := 83) (sx_di dX12_term 16 rfl) (by decide) (fun _ => ?_) (fun h30 => absurd h30 (by decide))
            refine V_vret (sx_di dX12_term 44 rfl) rfl (Nat.le_refl _) (Nat.le_refl _) ?_
            exact h w3 (R9_f H3 (by rw [pt9_1]; exact b68) Bool.false_ne_true (by rw [pt9_p]; rfl)) (fM_tr f1 (fM_tr f2 f3))
          · have b68 := wv_y (by rw [pt9_p]; omega) h68
            have H4 := R9_y H3 b68
            rw [pt9_1] at b68
            rw [if_pos b68] at h
            have e9 : pt9 (u (skp_ T p + 1)) (-cz_ T p) = (true, (u (skp_ T p + 1)).2.1 ++ [-cz_ T p], (u (skp_ T p + 1)).2.2) := if_pos b68
            rw [e9] at H4
            have hx4 : rrX n (X ++ (Y ++ (u (skp_ T p + 1)).2.1 ++ [-cz_ T p])) w3 := by
              have z := H4.2
              rw [List.append_assoc X Y, ← List.append_assoc Y] at z
              exact z
            refine V_aload_n (i := 0) (sx_di dX12_term 38 rfl) rfl rfl ?_
            refine V_cV0 (mc' := 0) (ms' := 0) (M' := mX12_look) 2 (sx_di dX12_term 39 rfl) lX12_128 vX12_look (by first | exact H.1.k _ rfl | exact H1.1.k _ rfl | exact H2.1.k _ rfl | exact H3.1.k _ rfl | exact H4.1.k _ rfl | exact H5.1.k _ rfl | exact H6.1.k _ rfl | exact H.1.1.k _ rfl | exact H1.1.1.k _ rfl | exact H2.1.1.k _ rfl | exact H3.1.1.k _ rfl | exact H4.1.1.k _ rfl | exact H5.1.1.k _ rfl | exact H6.1.1.k _ rfl) (by decide) rfl (Nat.le_of_ble_eq_true rfl) ⟨by show 2 + 1 ≤ D + 1; omega, by show 64 + 64 * (2) ≤ 64 * (D + 1); omega⟩ ⟨Nat.le_refl _, Nat.le_refl _⟩ ?_
            refine c_look9 H4.1 hg.2.1 (fun w5 H5 f5 x5 => ?_)
            refine V_goto (tgt := 79) (sx_di dX12_term 40 rfl) (by decide) ?_
            refine V_istore_n (i := 1) (sx_di dX12_term 42 rfl) rfl (by decide) (rfl) ?_
            refine V_goto (tgt := 21) (sx_di dX12_term 43 rfl) (by decide) ?_
            have q1 := ih (Y ++ (u (skp_ T p + 1)).2.1 ++ [-cz_ T p]) (u (skp_ T p + 1)).2.2 w5 (by omega) hg.2.1 (by have := hg.2.2 b68; simp only [List.length_append, List.length_singleton] at hl ⊢; omega) H5 (x5 _ hx4) (fun w6 H6 f6 => h w6 H6 (fM_tr f1 (fM_tr f2 (fM_tr f3 (fM_tr f5 f6)))))
            exact V_subk q1 ⟨rfl, rfl, trivial⟩
      refine V_iload_n (i := 1) (sx_di dX12_term 11 rfl) rfl rfl ?_
      refine V_bipush (v := 42) (sx_di dX12_term 12 rfl) (by decide) ?_
      refine V_icmp_eq (tgt := 33) (sx_di dX12_term 13 rfl) (by decide) (fun h24 => ?_) (fun h24 => ?_)
      · exact V_subk go ⟨rfl, rfl, trivial⟩
      · refine V_iload_n (i := 1) (sx_di dX12_term 14 rfl) rfl rfl ?_
        refine V_bipush (v := 47) (sx_di dX12_term 15 rfl) (by decide) ?_
        refine V_icmp_ne (tgt := 83) (sx_di dX12_term 16 rfl) (by decide) (fun h30 => ?_) (fun h30 => ?_)
        · exact absurd (of_decide_eq_true hc) (fun z => z.elim h24 h30)
        · exact V_subk go ⟨rfl, rfl, trivial⟩
    · exact stop (f + 1) Y p w hc H hx h
set_option maxHeartbeats 2000000 in
set_option maxRecDepth 20000 in
theorem c_term9 {E : sxE} {T : List Int32} {n d D B : Nat} {u : Nat → prT} (hn : n < 5) (hD : 2 ≤ D) (hB : B < 500) (hB0 : 242 ≤ B) (hu : goS T u) (hA : kR E T n d D B mX12_atom u) : kR E T n d (D + 1) (B + 1) mX12_term (lp_ T loS u) := by
  intro X p w Q H hx hXl hp h
  have hT := H.2.1.1
  have hg := hu p hp
  unfold lp_ at h
  refine C_of (by decide +kernel) (Nat.le_of_ble_eq_true rfl) ?_
  refine V_aload_n (i := 0) (sx_di dX12_term 0 rfl) rfl rfl ?_
  refine V_cV0 (mc' := 0) (ms' := 0) (M' := mX12_atom) D (sx_di dX12_term 1 rfl) lX12_156 vX12_atom (by first | exact H.1.k _ rfl | exact H1.1.k _ rfl | exact H2.1.k _ rfl | exact H3.1.k _ rfl | exact H4.1.k _ rfl | exact H5.1.k _ rfl | exact H6.1.k _ rfl | exact H.1.1.k _ rfl | exact H1.1.1.k _ rfl | exact H2.1.1.k _ rfl | exact H3.1.1.k _ rfl | exact H4.1.1.k _ rfl | exact H5.1.1.k _ rfl | exact H6.1.1.k _ rfl) (by decide) rfl (Nat.le_of_ble_eq_true rfl) ⟨by show D + 1 ≤ D + 1; omega, by show 64 + 64 * (D) ≤ 64 * (D + 1); omega⟩ ⟨Nat.le_refl _, Nat.le_refl _⟩ ?_
  refine hA X p w _ H hx hXl hp (fun w1 H1 f1 => ?_)
  refine V_aload_n (i := 0) (sx_di dX12_term 2 rfl) rfl rfl ?_
  refine V_getI (sx_di dX12_term 3 rfl) fX12_116 (fun _ => rfl) (by first | exact H.1.k _ rfl | exact H1.1.k _ rfl | exact H2.1.k _ rfl | exact H3.1.k _ rfl | exact H4.1.k _ rfl | exact H5.1.k _ rfl | exact H6.1.k _ rfl | exact H.1.1.k _ rfl | exact H1.1.1.k _ rfl | exact H2.1.1.k _ rfl | exact H3.1.1.k _ rfl | exact H4.1.1.k _ rfl | exact H5.1.1.k _ rfl | exact H6.1.1.k _ rfl) ?_
  refine V_iv (y := wv_ (u p)) (R9_w H1) ?_
  refine V_iconst (v := -1) (sx_di dX12_term 4 rfl) (by decide) ?_
  refine V_icmp_ne (tgt := 19) (sx_di dX12_term 5 rfl) (by decide) (fun h9 => ?_) (fun h9 => ?_)
  · have b9 := wv_n h9
    rw [if_neg b9] at h
    refine V_iconst (v := -1) (sx_di dX12_term 9 rfl) (by decide) ?_
    refine V_istore_n (i := 1) (sx_di dX12_term 10 rfl) rfl (by decide) (rfl) ?_
    refine V_iload_n (i := 1) (sx_di dX12_term 11 rfl) rfl rfl ?_
    refine V_bipush (v := 42) (sx_di dX12_term 12 rfl) (by decide) ?_
    refine V_icmp_eq (tgt := 33) (sx_di dX12_term 13 rfl) (by decide) (fun h24 => absurd h24 (by decide)) (fun _ => ?_)
    refine V_iload_n (i := 1) (sx_di dX12_term 14 rfl) rfl rfl ?_
    refine V_bipush (v := 47) (sx_di dX12_term 15 rfl) (by decide) ?_
    refine V_icmp_ne (tgt := 83) (sx_di dX12_term 16 rfl) (by decide) (fun _ => ?_) (fun h30 => absurd h30 (by decide))
    refine V_vret (sx_di dX12_term 44 rfl) rfl (Nat.le_refl _) (Nat.le_refl _) ?_
    exact h w1 (R9_up (by omega) (R9_f H1 b9 Bool.false_ne_true rfl)) f1
  · have b9 := wv_y (by omega) h9
    have H2 := R9_y H1 b9
    rw [if_pos b9] at h
    refine V_aload_n (i := 0) (sx_di dX12_term 6 rfl) rfl rfl ?_
    refine V_cV0 (mc' := 0) (ms' := 0) (M' := mX12_look) 2 (sx_di dX12_term 7 rfl) lX12_128 vX12_look (by first | exact H.1.k _ rfl | exact H1.1.k _ rfl | exact H2.1.k _ rfl | exact H3.1.k _ rfl | exact H4.1.k _ rfl | exact H5.1.k _ rfl | exact H6.1.k _ rfl | exact H.1.1.k _ rfl | exact H1.1.1.k _ rfl | exact H2.1.1.k _ rfl | exact H3.1.1.k _ rfl | exact H4.1.1.k _ rfl | exact H5.1.1.k _ rfl | exact H6.1.1.k _ rfl) (by decide) rfl (Nat.le_of_ble_eq_true rfl) ⟨by show 2 + 1 ≤ D + 1; omega, by show 64 + 64 * (2) ≤ 64 * (D + 1); omega⟩ ⟨Nat.le_refl _, Nat.le_refl _⟩ ?_
    refine c_look9 H2.1 hg.2.1 (fun w3 H3 f3 x3 => ?_)
    refine V_goto (tgt := 20) (sx_di dX12_term 8 rfl) (by decide) ?_
    refine V_istore_n (i := 1) (sx_di dX12_term 10 rfl) rfl (by decide) (rfl) ?_
    refine V_sub (ls' := [(1, .int (cz_ T (u p).2.2)), (0, .ref 381)]) ⟨rfl, rfl, trivial⟩ ?_
    exact tm_lp hn hD hB hB0 hu hA T.length (u p).2.1 (u p).2.2 w3 (by omega) hg.2.1 (by rw [List.length_append]; have := hg.2.2 b9; omega) H3 (x3 _ H2.2) (fun w4 H4 f4 => h w4 H4 (fM_tr f1 (fM_tr f3 f4)))
set_option maxHeartbeats 2000000 in
set_option maxRecDepth 20000 in
theorem su_lp {E : sxE} {T : List Int32} {n d D B : Nat} {u : Nat → prT} {X : List Int32} {Q : Option Value → hpW → Prop} (hn : n < 5) (hD : 2 ≤ D) (hB : B < 500) (hB0 : 242 ≤ B) (hu : goS T u) (hA : kR E T n d D B mX12_term u) : ∀ f Y p w, T.length ≤ p + f → p ≤ T.length → (X ++ Y).length ≤ p → rrP T n d (skp_ T p) w → rrX n (X ++ Y) w → (∀ w', R9 T n d (B + 1) X (lpF T hiS u f Y p) w' → fM n w w' → Q none w') → V E mX12_sum (sx_rm (D + 1) 0 0) 0 0 0 0 21 [(1, .int (cz_ T p)), (0, .ref 381)] [] w Q := by
  intro f
  have stop : ∀ f Y p w, ¬ hiS (cz_ T p) = true → rrP T n d (skp_ T p) w → rrX n (X ++ Y) w → (∀ w', R9 T n d (B + 1) X (lpF T hiS u f Y p) w' → fM n w w' → Q none w') → V E mX12_sum (sx_rm (D + 1) 0 0) 0 0 0 0 21 [(1, .int (cz_ T p)), (0, .ref 381)] [] w Q := by
    intro f Y p w hc H hx h
    rw [lpF_stop hc] at h
    refine V_iload_n (i := 1) (sx_di dX12_sum 11 rfl) rfl rfl ?_
    refine V_bipush (v := 43) (sx_di dX12_sum 12 rfl) (by decide) ?_
    refine V_icmp_eq (tgt := 33) (sx_di dX12_sum 13 rfl) (by decide) (fun h24 => absurd (decide_eq_true (Or.inl h24)) hc) (fun _ => ?_)
    refine V_iload_n (i := 1) (sx_di dX12_sum 14 rfl) rfl rfl ?_
    refine V_bipush (v := 45) (sx_di dX12_sum 15 rfl) (by decide) ?_
    refine V_icmp_ne (tgt := 83) (sx_di dX12_sum 16 rfl) (by decide) (fun _ => ?_) (fun h30 => absurd (decide_eq_true (Or.inr h30)) hc)
    refine V_vret (sx_di dX12_sum 44 rfl) rfl (Nat.le_refl _) (Nat.le_refl _) ?_
    exact h w (R9_of H hx) fM_rf
  induction f with
  | zero =>
    intro Y p w hf hp hl H hx h
    have ec := cz_end (T := T) (p := p) (by omega)
    exact stop 0 Y p w (by rw [ec]; decide) H hx h
  | succ f ih =>
    intro Y p w hf hp hl H hx h
    have hT := H.2.1.1
    by_cases hc : hiS (cz_ T p) = true
    · have g1 := skp_ge T p
      have hq1 := cz_lt (T := T) (p := p) (fun q => by rw [q] at hc; exact absurd hc (by decide))
      have hg := hu (skp_ T p + 1) hq1
      have hop : ec_ (-cz_ T p) = (if cz_ T p = 43 then 2 else 3) ∧ ev_ (-cz_ T p) = 0 := by
        rcases of_decide_eq_true hc with z | z <;> (rw [z]; decide)
      unfold lpF at h
      rw [if_pos hc] at h
      have go : V E mX12_sum (sx_rm (D + 1) 0 0) 0 0 0 0 33 [(1, .int (cz_ T p)), (0, .ref 381)] [] w Q := by
        refine V_aload_n (i := 0) (sx_di dX12_sum 17 rfl) rfl rfl ?_
        refine V_dup (sx_di dX12_sum 18 rfl) rfl ?_
        refine V_getI (sx_di dX12_sum 19 rfl) fX12_109 (fun _ => rfl) (by first | exact H.1.k _ rfl | exact H1.1.k _ rfl | exact H2.1.k _ rfl | exact H3.1.k _ rfl | exact H4.1.k _ rfl | exact H5.1.k _ rfl | exact H6.1.k _ rfl | exact H.1.1.k _ rfl | exact H1.1.1.k _ rfl | exact H2.1.1.k _ rfl | exact H3.1.1.k _ rfl | exact H4.1.1.k _ rfl | exact H5.1.1.k _ rfl | exact H6.1.1.k _ rfl) ?_
        refine V_iconst (v := 1) (sx_di dX12_sum 20 rfl) (by decide) ?_
        refine V_iadd (sx_di dX12_sum 21 rfl) ?_
        refine V_putI (sx_di dX12_sum 22 rfl) fX12_109 (fun _ => rfl) rfl (by first | exact H.1.k _ rfl | exact H1.1.k _ rfl | exact H2.1.k _ rfl | exact H3.1.k _ rfl | exact H4.1.k _ rfl | exact H5.1.k _ rfl | exact H6.1.k _ rfl | exact H.1.1.k _ rfl | exact H1.1.1.k _ rfl | exact H2.1.1.k _ rfl | exact H3.1.1.k _ rfl | exact H4.1.1.k _ rfl | exact H5.1.1.k _ rfl | exact H6.1.1.k _ rfl) (rfl) (rfl) ?_
        refine V_at9 H (fun w1 H1 f1 x1 => ?_)
        refine V_aload_n (i := 0) (sx_di dX12_sum 23 rfl) rfl rfl ?_
        refine V_cV0 (mc' := 0) (ms' := 0) (M' := mX12_term) D (sx_di dX12_sum 24 rfl) lX12_159 vX12_term (by first | exact H.1.k _ rfl | exact H1.1.k _ rfl | exact H2.1.k _ rfl | exact H3.1.k _ rfl | exact H4.1.k _ rfl | exact H5.1.k _ rfl | exact H6.1.k _ rfl | exact H.1.1.k _ rfl | exact H1.1.1.k _ rfl | exact H2.1.1.k _ rfl | exact H3.1.1.k _ rfl | exact H4.1.1.k _ rfl | exact H5.1.1.k _ rfl | exact H6.1.1.k _ rfl) (by decide) rfl (Nat.le_of_ble_eq_true rfl) ⟨by show D + 1 ≤ D + 1; omega, by show 64 + 64 * (D) ≤ 64 * (D + 1); omega⟩ ⟨Nat.le_refl _, Nat.le_refl _⟩ ?_
        refine hA (X ++ Y) (skp_ T p + 1) w1 _ H1 (x1 _ hx) (by omega) hq1 (fun w2 H2 f2 => ?_)
        refine V_aload_n (i := 0) (sx_di dX12_sum 25 rfl) rfl rfl ?_
        refine V_iload_n (i := 1) (sx_di dX12_sum 26 rfl) rfl rfl ?_
        refine V_bipush (v := 43) (sx_di dX12_sum 27 rfl) (by decide) ?_
        refine V_icmp_ne (tgt := 58) (sx_di dX12_sum 28 rfl) (by decide) (fun h51 => ?_) (fun h51 => ?_)
        · refine V_iconst (v := 3) (sx_di dX12_sum 31 rfl) (by decide) ?_
          refine V_iconst (v := 0) (sx_di dX12_sum 32 rfl) (by decide) ?_
          refine V_cV2 (mc' := 0) (ms' := 0) (M' := mX12_put) 1 (sx_di dX12_sum 33 rfl) lX12_138 vX12_put (by first | exact H.1.k _ rfl | exact H1.1.k _ rfl | exact H2.1.k _ rfl | exact H3.1.k _ rfl | exact H4.1.k _ rfl | exact H5.1.k _ rfl | exact H6.1.k _ rfl | exact H.1.1.k _ rfl | exact H1.1.1.k _ rfl | exact H2.1.1.k _ rfl | exact H3.1.1.k _ rfl | exact H4.1.1.k _ rfl | exact H5.1.1.k _ rfl | exact H6.1.1.k _ rfl) (by decide) rfl (Nat.le_of_ble_eq_true rfl) ⟨by show 1 + 1 ≤ D + 1; omega, by show 64 + 64 * (1) ≤ 64 * (D + 1); omega⟩ ⟨Nat.le_refl _, Nat.le_refl _⟩ ?_
          refine c_putR (c9 := -cz_ T p) hn H2 (by omega) (fun z => by rw [List.length_append]; have := hg.2.2 z; rw [List.length_append] at hl ⊢; omega) (fun _ => by rw [hop.1, if_neg h51]) (fun _ => hop.2) (fun w3 H3 f3 => ?_)
          refine V_aload_n (i := 0) (sx_di dX12_sum 34 rfl) rfl rfl ?_
          refine V_getI (sx_di dX12_sum 35 rfl) fX12_116 (fun _ => rfl) (by first | exact H.1.k _ rfl | exact H1.1.k _ rfl | exact H2.1.k _ rfl | exact H3.1.k _ rfl | exact H4.1.k _ rfl | exact H5.1.k _ rfl | exact H6.1.k _ rfl | exact H.1.1.k _ rfl | exact H1.1.1.k _ rfl | exact H2.1.1.k _ rfl | exact H3.1.1.k _ rfl | exact H4.1.1.k _ rfl | exact H5.1.1.k _ rfl | exact H6.1.1.k _ rfl) ?_
          refine V_iv (y := wv_ (pt9 (u (skp_ T p + 1)) (-cz_ T p))) (R9_w H3) ?_
          refine V_iconst (v := -1) (sx_di dX12_sum 36 rfl) (by decide) ?_
          refine V_icmp_ne (tgt := 78) (sx_di dX12_sum 37 rfl) (by decide) (fun h68 => ?_) (fun h68 => ?_)
          · have b68 := wv_n h68
            rw [pt9_1] at b68
            rw [if_neg b68] at h
            refine V_iconst (v := -1) (sx_di dX12_sum 41 rfl) (by decide) ?_
            refine V_istore_n (i := 1) (sx_di dX12_sum 42 rfl) rfl (by decide) (rfl) ?_
            refine V_goto (tgt := 21) (sx_di dX12_sum 43 rfl) (by decide) ?_
            refine V_iload_n (i := 1) (sx_di dX12_sum 11 rfl) rfl rfl ?_
            refine V_bipush (v := 43) (sx_di dX12_sum 12 rfl) (by decide) ?_
            refine V_icmp_eq (tgt := 33) (sx_di dX12_sum 13 rfl) (by decide) (fun h24 => absurd h24 (by decide)) (fun _ => ?_)
            refine V_iload_n (i := 1) (sx_di dX12_sum 14 rfl) rfl rfl ?_
            refine V_bipush (v := 45) (sx_di dX12_sum 15 rfl) (by decide) ?_
            refine V_icmp_ne (tgt := 83) (sx_di dX12_sum 16 rfl) (by decide) (fun _ => ?_) (fun h30 => absurd h30 (by decide))
            refine V_vret (sx_di dX12_sum 44 rfl) rfl (Nat.le_refl _) (Nat.le_refl _) ?_
            exact h w3 (R9_f H3 (by rw [pt9_1]; exact b68) Bool.false_ne_true (by rw [pt9_p]; rfl)) (fM_tr f1 (fM_tr f2 f3))
          · have b68 := wv_y (by rw [pt9_p]; omega) h68
            have H4 := R9_y H3 b68
            rw [pt9_1] at b68
            rw [if_pos b68] at h
            have e9 : pt9 (u (skp_ T p + 1)) (-cz_ T p) = (true, (u (skp_ T p + 1)).2.1 ++ [-cz_ T p], (u (skp_ T p + 1)).2.2) := if_pos b68
            rw [e9] at H4
            have hx4 : rrX n (X ++ (Y ++ (u (skp_ T p + 1)).2.1 ++ [-cz_ T p])) w3 := by
              have z := H4.2
              rw [List.append_assoc X Y, ← List.append_assoc Y] at z
              exact z
            refine V_aload_n (i := 0) (sx_di dX12_sum 38 rfl) rfl rfl ?_
            refine V_cV0 (mc' := 0) (ms' := 0) (M' := mX12_look) 2 (sx_di dX12_sum 39 rfl) lX12_128 vX12_look (by first | exact H.1.k _ rfl | exact H1.1.k _ rfl | exact H2.1.k _ rfl | exact H3.1.k _ rfl | exact H4.1.k _ rfl | exact H5.1.k _ rfl | exact H6.1.k _ rfl | exact H.1.1.k _ rfl | exact H1.1.1.k _ rfl | exact H2.1.1.k _ rfl | exact H3.1.1.k _ rfl | exact H4.1.1.k _ rfl | exact H5.1.1.k _ rfl | exact H6.1.1.k _ rfl) (by decide) rfl (Nat.le_of_ble_eq_true rfl) ⟨by show 2 + 1 ≤ D + 1; omega, by show 64 + 64 * (2) ≤ 64 * (D + 1); omega⟩ ⟨Nat.le_refl _, Nat.le_refl _⟩ ?_
            refine c_look9 H4.1 hg.2.1 (fun w5 H5 f5 x5 => ?_)
            refine V_goto (tgt := 79) (sx_di dX12_sum 40 rfl) (by decide) ?_
            refine V_istore_n (i := 1) (sx_di dX12_sum 42 rfl) rfl (by decide) (rfl) ?_
            refine V_goto (tgt := 21) (sx_di dX12_sum 43 rfl) (by decide) ?_
            have q1 := ih (Y ++ (u (skp_ T p + 1)).2.1 ++ [-cz_ T p]) (u (skp_ T p + 1)).2.2 w5 (by omega) hg.2.1 (by have := hg.2.2 b68; simp only [List.length_append, List.length_singleton] at hl ⊢; omega) H5 (x5 _ hx4) (fun w6 H6 f6 => h w6 H6 (fM_tr f1 (fM_tr f2 (fM_tr f3 (fM_tr f5 f6)))))
            exact V_subk q1 ⟨rfl, rfl, trivial⟩
        · refine V_iconst (v := 2) (sx_di dX12_sum 29 rfl) (by decide) ?_
          refine V_goto (tgt := 59) (sx_di dX12_sum 30 rfl) (by decide) ?_
          refine V_iconst (v := 0) (sx_di dX12_sum 32 rfl) (by decide) ?_
          refine V_cV2 (mc' := 0) (ms' := 0) (M' := mX12_put) 1 (sx_di dX12_sum 33 rfl) lX12_138 vX12_put (by first | exact H.1.k _ rfl | exact H1.1.k _ rfl | exact H2.1.k _ rfl | exact H3.1.k _ rfl | exact H4.1.k _ rfl | exact H5.1.k _ rfl | exact H6.1.k _ rfl | exact H.1.1.k _ rfl | exact H1.1.1.k _ rfl | exact H2.1.1.k _ rfl | exact H3.1.1.k _ rfl | exact H4.1.1.k _ rfl | exact H5.1.1.k _ rfl | exact H6.1.1.k _ rfl) (by decide) rfl (Nat.le_of_ble_eq_true rfl) ⟨by show 1 + 1 ≤ D + 1; omega, by show 64 + 64 * (1) ≤ 64 * (D + 1); omega⟩ ⟨Nat.le_refl _, Nat.le_refl _⟩ ?_
          refine c_putR (c9 := -cz_ T p) hn H2 (by omega) (fun z => by rw [List.length_append]; have := hg.2.2 z; rw [List.length_append] at hl ⊢; omega) (fun _ => by rw [hop.1, if_pos h51]) (fun _ => hop.2) (fun w3 H3 f3 => ?_)
          refine V_aload_n (i := 0) (sx_di dX12_sum 34 rfl) rfl rfl ?_
          refine V_getI (sx_di dX12_sum 35 rfl) fX12_116 (fun _ => rfl) (by first | exact H.1.k _ rfl | exact H1.1.k _ rfl | exact H2.1.k _ rfl | exact H3.1.k _ rfl | exact H4.1.k _ rfl | exact H5.1.k _ rfl | exact H6.1.k _ rfl | exact H.1.1.k _ rfl | exact H1.1.1.k _ rfl | exact H2.1.1.k _ rfl | exact H3.1.1.k _ rfl | exact H4.1.1.k _ rfl | exact H5.1.1.k _ rfl | exact H6.1.1.k _ rfl) ?_
          refine V_iv (y := wv_ (pt9 (u (skp_ T p + 1)) (-cz_ T p))) (R9_w H3) ?_
          refine V_iconst (v := -1) (sx_di dX12_sum 36 rfl) (by decide) ?_
          refine V_icmp_ne (tgt := 78) (sx_di dX12_sum 37 rfl) (by decide) (fun h68 => ?_) (fun h68 => ?_)
          · have b68 := wv_n h68
            rw [pt9_1] at b68
            rw [if_neg b68] at h
            refine V_iconst (v := -1) (sx_di dX12_sum 41 rfl) (by decide) ?_
            refine V_istore_n (i := 1) (sx_di dX12_sum 42 rfl) rfl (by decide) (rfl) ?_
            refine V_goto (tgt := 21) (sx_di dX12_sum 43 rfl) (by decide) ?_
            refine V_iload_n (i := 1) (sx_di dX12_sum 11 rfl) rfl rfl ?_
            refine V_bipush (v := 43) (sx_di dX12_sum 12 rfl) (by decide) ?_
            refine V_icmp_eq (tgt := 33) (sx_di dX12_sum 13 rfl) (by decide) (fun h24 => absurd h24 (by decide)) (fun _ => ?_)
            refine V_iload_n (i := 1) (sx_di dX12_sum 14 rfl) rfl rfl ?_
            refine V_bipush (v := 45) (sx_di dX12_sum 15 rfl) (by decide) ?_
            refine V_icmp_ne (tgt := 83) (sx_di dX12_sum 16 rfl) (by decide) (fun _ => ?_) (fun h30 => absurd h30 (by decide))
            refine V_vret (sx_di dX12_sum 44 rfl) rfl (Nat.le_refl _) (Nat.le_refl _) ?_
            exact h w3 (R9_f H3 (by rw [pt9_1]; exact b68) Bool.false_ne_true (by rw [pt9_p]; rfl)) (fM_tr f1 (fM_tr f2 f3))
          · have b68 := wv_y (by rw [pt9_p]; omega) h68
            have H4 := R9_y H3 b68
            rw [pt9_1] at b68
            rw [if_pos b68] at h
            have e9 : pt9 (u (skp_ T p + 1)) (-cz_ T p) = (true, (u (skp_ T p + 1)).2.1 ++ [-cz_ T p], (u (skp_ T p + 1)).2.2) := if_pos b68
            rw [e9] at H4
            have hx4 : rrX n (X ++ (Y ++ (u (skp_ T p + 1)).2.1 ++ [-cz_ T p])) w3 := by
              have z := H4.2
              rw [List.append_assoc X Y, ← List.append_assoc Y] at z
              exact z
            refine V_aload_n (i := 0) (sx_di dX12_sum 38 rfl) rfl rfl ?_
            refine V_cV0 (mc' := 0) (ms' := 0) (M' := mX12_look) 2 (sx_di dX12_sum 39 rfl) lX12_128 vX12_look (by first | exact H.1.k _ rfl | exact H1.1.k _ rfl | exact H2.1.k _ rfl | exact H3.1.k _ rfl | exact H4.1.k _ rfl | exact H5.1.k _ rfl | exact H6.1.k _ rfl | exact H.1.1.k _ rfl | exact H1.1.1.k _ rfl | exact H2.1.1.k _ rfl | exact H3.1.1.k _ rfl | exact H4.1.1.k _ rfl | exact H5.1.1.k _ rfl | exact H6.1.1.k _ rfl) (by decide) rfl (Nat.le_of_ble_eq_true rfl) ⟨by show 2 + 1 ≤ D + 1; omega, by show 64 + 64 * (2) ≤ 64 * (D + 1); omega⟩ ⟨Nat.le_refl _, Nat.le_refl _⟩ ?_
            refine c_look9 H4.1 hg.2.1 (fun w5 H5 f5 x5 => ?_)
            refine V_goto (tgt := 79) (sx_di dX12_sum 40 rfl) (by decide) ?_
            refine V_istore_n (i := 1) (sx_di dX12_sum 42 rfl) rfl (by decide) (rfl) ?_
            refine V_goto (tgt := 21) (sx_di dX12_sum 43 rfl) (by decide) ?_
            have q1 := ih (Y ++ (u (skp_ T p + 1)).2.1 ++ [-cz_ T p]) (u (skp_ T p + 1)).2.2 w5 (by omega) hg.2.1 (by have := hg.2.2 b68; simp only [List.length_append, List.length_singleton] at hl ⊢; omega) H5 (x5 _ hx4) (fun w6 H6 f6 => h w6 H6 (fM_tr f1 (fM_tr f2 (fM_tr f3 (fM_tr f5 f6)))))
            exact V_subk q1 ⟨rfl, rfl, trivial⟩
      refine V_iload_n (i := 1) (sx_di dX12_sum 11 rfl) rfl rfl ?_
      refine V_bipush (v := 43) (sx_di dX12_sum 12 rfl) (by decide) ?_
      refine V_icmp_eq (tgt := 33) (sx_di dX12_sum 13 rfl) (by decide) (fun h24 => ?_) (fun h24 => ?_)
      · exact V_subk go ⟨rfl, rfl, trivial⟩
      · refine V_iload_n (i := 1) (sx_di dX12_sum 14 rfl) rfl rfl ?_
        refine V_bipush (v := 45) (sx_di dX12_sum 15 rfl) (by decide) ?_
        refine V_icmp_ne (tgt := 83) (sx_di dX12_sum 16 rfl) (by decide) (fun h30 => ?_) (fun h30 => ?_)
        · exact absurd (of_decide_eq_true hc) (fun z => z.elim h24 h30)
        · exact V_subk go ⟨rfl, rfl, trivial⟩
    · exact stop (f + 1) Y p w hc H hx h
set_option maxHeartbeats 2000000 in
set_option maxRecDepth 20000 in
theorem c_sum9 {E : sxE} {T : List Int32} {n d D B : Nat} {u : Nat → prT} (hn : n < 5) (hD : 2 ≤ D) (hB : B < 500) (hB0 : 242 ≤ B) (hu : goS T u) (hA : kR E T n d D B mX12_term u) : kR E T n d (D + 1) (B + 1) mX12_sum (lp_ T hiS u) := by
  intro X p w Q H hx hXl hp h
  have hT := H.2.1.1
  have hg := hu p hp
  unfold lp_ at h
  refine C_of (by decide +kernel) (Nat.le_of_ble_eq_true rfl) ?_
  refine V_aload_n (i := 0) (sx_di dX12_sum 0 rfl) rfl rfl ?_
  refine V_cV0 (mc' := 0) (ms' := 0) (M' := mX12_term) D (sx_di dX12_sum 1 rfl) lX12_159 vX12_term (by first | exact H.1.k _ rfl | exact H1.1.k _ rfl | exact H2.1.k _ rfl | exact H3.1.k _ rfl | exact H4.1.k _ rfl | exact H5.1.k _ rfl | exact H6.1.k _ rfl | exact H.1.1.k _ rfl | exact H1.1.1.k _ rfl | exact H2.1.1.k _ rfl | exact H3.1.1.k _ rfl | exact H4.1.1.k _ rfl | exact H5.1.1.k _ rfl | exact H6.1.1.k _ rfl) (by decide) rfl (Nat.le_of_ble_eq_true rfl) ⟨by show D + 1 ≤ D + 1; omega, by show 64 + 64 * (D) ≤ 64 * (D + 1); omega⟩ ⟨Nat.le_refl _, Nat.le_refl _⟩ ?_
  refine hA X p w _ H hx hXl hp (fun w1 H1 f1 => ?_)
  refine V_aload_n (i := 0) (sx_di dX12_sum 2 rfl) rfl rfl ?_
  refine V_getI (sx_di dX12_sum 3 rfl) fX12_116 (fun _ => rfl) (by first | exact H.1.k _ rfl | exact H1.1.k _ rfl | exact H2.1.k _ rfl | exact H3.1.k _ rfl | exact H4.1.k _ rfl | exact H5.1.k _ rfl | exact H6.1.k _ rfl | exact H.1.1.k _ rfl | exact H1.1.1.k _ rfl | exact H2.1.1.k _ rfl | exact H3.1.1.k _ rfl | exact H4.1.1.k _ rfl | exact H5.1.1.k _ rfl | exact H6.1.1.k _ rfl) ?_
  refine V_iv (y := wv_ (u p)) (R9_w H1) ?_
  refine V_iconst (v := -1) (sx_di dX12_sum 4 rfl) (by decide) ?_
  refine V_icmp_ne (tgt := 19) (sx_di dX12_sum 5 rfl) (by decide) (fun h9 => ?_) (fun h9 => ?_)
  · have b9 := wv_n h9
    rw [if_neg b9] at h
    refine V_iconst (v := -1) (sx_di dX12_sum 9 rfl) (by decide) ?_
    refine V_istore_n (i := 1) (sx_di dX12_sum 10 rfl) rfl (by decide) (rfl) ?_
    refine V_iload_n (i := 1) (sx_di dX12_sum 11 rfl) rfl rfl ?_
    refine V_bipush (v := 43) (sx_di dX12_sum 12 rfl) (by decide) ?_
    refine V_icmp_eq (tgt := 33) (sx_di dX12_sum 13 rfl) (by decide) (fun h24 => absurd h24 (by decide)) (fun _ => ?_)
    refine V_iload_n (i := 1) (sx_di dX12_sum 14 rfl) rfl rfl ?_
    refine V_bipush (v := 45) (sx_di dX12_sum 15 rfl) (by decide) ?_
    refine V_icmp_ne (tgt := 83) (sx_di dX12_sum 16 rfl) (by decide) (fun _ => ?_) (fun h30 => absurd h30 (by decide))
    refine V_vret (sx_di dX12_sum 44 rfl) rfl (Nat.le_refl _) (Nat.le_refl _) ?_
    exact h w1 (R9_up (by omega) (R9_f H1 b9 Bool.false_ne_true rfl)) f1
  · have b9 := wv_y (by omega) h9
    have H2 := R9_y H1 b9
    rw [if_pos b9] at h
    refine V_aload_n (i := 0) (sx_di dX12_sum 6 rfl) rfl rfl ?_
    refine V_cV0 (mc' := 0) (ms' := 0) (M' := mX12_look) 2 (sx_di dX12_sum 7 rfl) lX12_128 vX12_look (by first | exact H.1.k _ rfl | exact H1.1.k _ rfl | exact H2.1.k _ rfl | exact H3.1.k _ rfl | exact H4.1.k _ rfl | exact H5.1.k _ rfl | exact H6.1.k _ rfl | exact H.1.1.k _ rfl | exact H1.1.1.k _ rfl | exact H2.1.1.k _ rfl | exact H3.1.1.k _ rfl | exact H4.1.1.k _ rfl | exact H5.1.1.k _ rfl | exact H6.1.1.k _ rfl) (by decide) rfl (Nat.le_of_ble_eq_true rfl) ⟨by show 2 + 1 ≤ D + 1; omega, by show 64 + 64 * (2) ≤ 64 * (D + 1); omega⟩ ⟨Nat.le_refl _, Nat.le_refl _⟩ ?_
    refine c_look9 H2.1 hg.2.1 (fun w3 H3 f3 x3 => ?_)
    refine V_goto (tgt := 20) (sx_di dX12_sum 8 rfl) (by decide) ?_
    refine V_istore_n (i := 1) (sx_di dX12_sum 10 rfl) rfl (by decide) (rfl) ?_
    refine V_sub (ls' := [(1, .int (cz_ T (u p).2.2)), (0, .ref 381)]) ⟨rfl, rfl, trivial⟩ ?_
    exact su_lp hn hD hB hB0 hu hA T.length (u p).2.1 (u p).2.2 w3 (by omega) hg.2.1 (by rw [List.length_append]; have := hg.2.2 b9; omega) H3 (x3 _ H2.2) (fun w4 H4 f4 => h w4 H4 (fM_tr f1 (fM_tr f3 f4)))
theorem lpu_go {T : List Int32} {u : Nat → prT} (hu : goS T u) : goS T (lp_ T loS u) := lp_go hu (by decide)
/-- atoms and sums of the reference, at every depth -/
theorem kR_sub {E : sxE} {T : List Int32} {n d D B : Nat} {M : sxM} {u v : Nat → prT} (h : kR E T n d D B M u) (e : ∀ p, p ≤ T.length → u p = v p) : kR E T n d D B M v := fun X p w Q H hx hl hp k => h X p w Q H hx hl hp (by rw [e p hp]; exact k)
theorem r_sum_of {E : sxE} {T : List Int32} {n d D B : Nat} {u : Nat → prT} (hn : n < 5) (hD : 2 ≤ D) (hB : B < 498) (hB0 : 242 ≤ B) (hu : goS T u) (hA : kR E T n d D B mX12_atom u) : kR E T n d (D + 2) (B + 2) mX12_sum (fl_ T hiS loS u) := kR_sub (c_sum9 hn (by omega) (by omega) (by omega) (lpu_go hu) (c_term9 hn hD (by omega) hB0 hu hA)) (fun p hp => (fl_eq hlS (by decide) (by decide) (by decide) hu hp).symm)
theorem r_atom {E : sxE} {T : List Int32} {n : Nat} (hn : n < 5) : ∀ r d, d + r = 6 → kR E T n d (4 + 3 * r) (242 + 3 * r) mX12_atom (atR T r)
  | 0, d, hd => c_atom9 (B := 240) hn hd (by decide) (by decide) (by decide) (by decide) (by decide) (Or.inl rfl) (Or.inl rfl)
  | r + 1, d, hd => c_atom9 (D := 4 + 3 * r + 2) (B := 242 + 3 * r + 2) hn hd (by omega) (by omega) (by omega) (by omega) (by omega) (Or.inr (smR_go T r)) (Or.inr (r_sum_of hn (by omega) (by omega) (by omega) (atR_go T r) (r_atom hn r (d + 1) (by omega))))
theorem r_sum {E : sxE} {T : List Int32} {n r d : Nat} (hn : n < 5) (hd : d + r = 6) : kR E T n d (6 + 3 * r) (244 + 3 * r) mX12_sum (smR T r) := by
  have e1 : 6 + 3 * r = 4 + 3 * r + 2 := by omega
  have e2 : 244 + 3 * r = 242 + 3 * r + 2 := by omega
  rw [e1, e2]
  exact r_sum_of hn (by omega) (by omega) (by omega) (atR_go T r) (r_atom hn r d hd)

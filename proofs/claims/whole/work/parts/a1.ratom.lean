/-! the reference reads a law: atoms and sums -/
set_option maxHeartbeats 2000000 in
set_option maxRecDepth 20000 in
theorem c_X12_letterOf {E : sxE} {w : hpW} {Q : Option Value → hpW → Prop} {c : Int32} (h : Q (some (.int (lt9 c))) w) : sx_C E mX12_letterOf 1 0 0 [.int c] w Q := by
  unfold lt9 at h
  refine C_of (by decide +kernel) (Nat.le_of_ble_eq_true rfl) ?_
  refine V_iload_n (i := 0) (sx_di dX12_letterOf 0 rfl) rfl rfl ?_
  refine V_bipush (v := 109) (sx_di dX12_letterOf 1 rfl) (by decide) ?_
  refine V_icmp_ne (tgt := 10) (sx_di dX12_letterOf 2 rfl) (by decide) (fun h3 => ?_) (fun h3 => ?_)
  · rw [if_neg h3] at h
    refine V_iload_n (i := 0) (sx_di dX12_letterOf 5 rfl) rfl rfl ?_
    refine V_bipush (v := 119) (sx_di dX12_letterOf 6 rfl) (by decide) ?_
    refine V_icmp_ne (tgt := 20) (sx_di dX12_letterOf 7 rfl) (by decide) (fun h13 => ?_) (fun h13 => ?_)
    · rw [if_neg h13] at h
      refine V_iload_n (i := 0) (sx_di dX12_letterOf 10 rfl) rfl rfl ?_
      refine V_bipush (v := 103) (sx_di dX12_letterOf 11 rfl) (by decide) ?_
      refine V_icmp_ne (tgt := 30) (sx_di dX12_letterOf 12 rfl) (by decide) (fun h23 => ?_) (fun h23 => ?_)
      · rw [if_neg h23] at h
        refine V_iload_n (i := 0) (sx_di dX12_letterOf 15 rfl) rfl rfl ?_
        refine V_bipush (v := 112) (sx_di dX12_letterOf 16 rfl) (by decide) ?_
        refine V_icmp_ne (tgt := 40) (sx_di dX12_letterOf 17 rfl) (by decide) (fun h33 => ?_) (fun h33 => ?_)
        · rw [if_neg h33] at h
          refine V_iload_n (i := 0) (sx_di dX12_letterOf 20 rfl) rfl rfl ?_
          refine V_bipush (v := 116) (sx_di dX12_letterOf 21 rfl) (by decide) ?_
          refine V_icmp_ne (tgt := 50) (sx_di dX12_letterOf 22 rfl) (by decide) (fun h43 => ?_) (fun h43 => ?_)
          · rw [if_neg h43] at h
            refine V_iload_n (i := 0) (sx_di dX12_letterOf 25 rfl) rfl rfl ?_
            refine V_bipush (v := 100) (sx_di dX12_letterOf 26 rfl) (by decide) ?_
            refine V_icmp_ne (tgt := 60) (sx_di dX12_letterOf 27 rfl) (by decide) (fun h53 => ?_) (fun h53 => ?_)
            · rw [if_neg h53] at h
              refine V_iconst (v := -1) (sx_di dX12_letterOf 30 rfl) (by decide) ?_
              refine V_iret (sx_di dX12_letterOf 31 rfl) rfl (Nat.le_refl _) (Nat.le_refl _) ?_
              exact h
            · rw [if_pos h53] at h
              refine V_iconst (v := 5) (sx_di dX12_letterOf 28 rfl) (by decide) ?_
              refine V_goto (tgt := 61) (sx_di dX12_letterOf 29 rfl) (by decide) ?_
              refine V_iret (sx_di dX12_letterOf 31 rfl) rfl (Nat.le_refl _) (Nat.le_refl _) ?_
              exact h
          · rw [if_pos h43] at h
            refine V_iconst (v := 4) (sx_di dX12_letterOf 23 rfl) (by decide) ?_
            refine V_goto (tgt := 61) (sx_di dX12_letterOf 24 rfl) (by decide) ?_
            refine V_iret (sx_di dX12_letterOf 31 rfl) rfl (Nat.le_refl _) (Nat.le_refl _) ?_
            exact h
        · rw [if_pos h33] at h
          refine V_iconst (v := 3) (sx_di dX12_letterOf 18 rfl) (by decide) ?_
          refine V_goto (tgt := 61) (sx_di dX12_letterOf 19 rfl) (by decide) ?_
          refine V_iret (sx_di dX12_letterOf 31 rfl) rfl (Nat.le_refl _) (Nat.le_refl _) ?_
          exact h
      · rw [if_pos h23] at h
        refine V_iconst (v := 2) (sx_di dX12_letterOf 13 rfl) (by decide) ?_
        refine V_goto (tgt := 61) (sx_di dX12_letterOf 14 rfl) (by decide) ?_
        refine V_iret (sx_di dX12_letterOf 31 rfl) rfl (Nat.le_refl _) (Nat.le_refl _) ?_
        exact h
    · rw [if_pos h13] at h
      refine V_iconst (v := 1) (sx_di dX12_letterOf 8 rfl) (by decide) ?_
      refine V_goto (tgt := 61) (sx_di dX12_letterOf 9 rfl) (by decide) ?_
      refine V_iret (sx_di dX12_letterOf 31 rfl) rfl (Nat.le_refl _) (Nat.le_refl _) ?_
      exact h
  · rw [if_pos h3] at h
    refine V_iconst (v := 0) (sx_di dX12_letterOf 3 rfl) (by decide) ?_
    refine V_goto (tgt := 61) (sx_di dX12_letterOf 4 rfl) (by decide) ?_
    refine V_iret (sx_di dX12_letterOf 31 rfl) rfl (Nat.le_refl _) (Nat.le_refl _) ?_
    exact h
set_option maxHeartbeats 2000000 in
set_option maxRecDepth 20000 in
theorem c_X12_isSign {E : sxE} {w : hpW} {Q : Option Value → hpW → Prop} {c : Int32} (h : Q (some (.int (bz9 (isC c)))) w) : sx_C E mX12_isSign 1 0 0 [.int c] w Q := by
  refine C_of (by decide +kernel) (Nat.le_of_ble_eq_true rfl) ?_
  refine V_iload_n (i := 0) (sx_di dX12_isSign 0 rfl) rfl rfl ?_
  refine V_bipush (v := 61) (sx_di dX12_isSign 1 rfl) (by decide) ?_
  refine V_icmp_eq (tgt := 18) (sx_di dX12_isSign 2 rfl) (by decide) (fun h3 => ?_) (fun h3 => ?_)
  · refine V_iconst (v := 1) (sx_di dX12_isSign 9 rfl) (by decide) ?_
    refine V_goto (tgt := 23) (sx_di dX12_isSign 10 rfl) (by decide) ?_
    refine V_zret (sx_di dX12_isSign 12 rfl) rfl (by first | rfl | decide) (Nat.le_refl _) (Nat.le_refl _) ?_
    rw [show isC c = true from decide_eq_true (Or.inl h3)] at h
    exact h
  · refine V_iload_n (i := 0) (sx_di dX12_isSign 3 rfl) rfl rfl ?_
    refine V_bipush (v := 60) (sx_di dX12_isSign 4 rfl) (by decide) ?_
    refine V_icmp_eq (tgt := 18) (sx_di dX12_isSign 5 rfl) (by decide) (fun h9 => ?_) (fun h9 => ?_)
    · refine V_iconst (v := 1) (sx_di dX12_isSign 9 rfl) (by decide) ?_
      refine V_goto (tgt := 23) (sx_di dX12_isSign 10 rfl) (by decide) ?_
      refine V_zret (sx_di dX12_isSign 12 rfl) rfl (by first | rfl | decide) (Nat.le_refl _) (Nat.le_refl _) ?_
      rw [show isC c = true from decide_eq_true (Or.inr (Or.inl h9))] at h
      exact h
    · refine V_iload_n (i := 0) (sx_di dX12_isSign 6 rfl) rfl rfl ?_
      refine V_bipush (v := 62) (sx_di dX12_isSign 7 rfl) (by decide) ?_
      refine V_icmp_ne (tgt := 22) (sx_di dX12_isSign 8 rfl) (by decide) (fun h15 => ?_) (fun h15 => ?_)
      · refine V_iconst (v := 0) (sx_di dX12_isSign 11 rfl) (by decide) ?_
        refine V_zret (sx_di dX12_isSign 12 rfl) rfl (by first | rfl | decide) (Nat.le_refl _) (Nat.le_refl _) ?_
        rw [show isC c = false from decide_eq_false (fun z => z.elim h3 (fun z => z.elim h9 h15))] at h
        exact h
      · refine V_iconst (v := 1) (sx_di dX12_isSign 9 rfl) (by decide) ?_
        refine V_goto (tgt := 23) (sx_di dX12_isSign 10 rfl) (by decide) ?_
        refine V_zret (sx_di dX12_isSign 12 rfl) rfl (by first | rfl | decide) (Nat.le_refl _) (Nat.le_refl _) ?_
        rw [show isC c = true from decide_eq_true (Or.inr (Or.inr h15))] at h
        exact h
theorem c_here9 {E : sxE} {w : hpW} {Q : Option Value → hpW → Prop} {T : List Int32} {n d p : Nat} (H : rrP T n d p w) (hp : p ≤ T.length) (h : Q (some (.int (tc_ T p))) w) : sx_C E mX12_here 1 0 0 [.ref 381] w Q := by
  have hl := H.2.1.1
  exact c_X12_here H.1 H.2.1 (p := p) (by omega) H.2.2.2.2.1 h
def isD (c : Int32) : Bool := decide (48 ≤ c ∧ c ≤ 57)
theorem isD_t {c : Int32} (h : ¬ bz9 (isD c) = 0) : dg_ c := (show 48 ≤ c ∧ c ≤ 57 from of_decide_eq_true (bz9t h))
theorem isD_f {c : Int32} (h : bz9 (isD c) = 0) : ¬ dg_ c := fun z => bz9f h (decide_eq_true z)
theorem c_isDig9 {E : sxE} {w : hpW} {Q : Option Value → hpW → Prop} {c : Int32} (h : Q (some (.int (bz9 (isD c)))) w) : sx_C E mX12_isDigit 1 0 0 [.int c] w Q := by
  refine c_X12_isDigit (fun z => ?_) (fun z => ?_)
  · rw [show isD c = true from decide_eq_true z] at h
    exact h
  · rw [show isD c = false from decide_eq_false z] at h
    exact h
theorem dg_tc {T : List Int32} {p : Nat} : dg_ (tc_ T p) ↔ (p < T.length ∧ 48 ≤ T.getD p 0 ∧ T.getD p 0 ≤ 57) := by
  unfold dg_ tc_
  by_cases h : p < T.length
  · rw [if_pos h]
    exact ⟨fun z => ⟨h, z⟩, fun z => z.2⟩
  · rw [if_neg h]
    exact ⟨fun z => absurd z (by decide), fun z => absurd z.1 h⟩
theorem tc_lt {T : List Int32} {p : Nat} (h : p < T.length) : tc_ T p = T.getD p 0 := if_pos h
set_option maxHeartbeats 2000000 in
set_option maxRecDepth 20000 in
theorem pn_end {E : sxE} {T : List Int32} {n d p k : Nat} {v : Int32} {X : List Int32} {w : hpW} {Q : Option Value → hpW → Prop} (H : rrP T n d p w) (hx : rrX n X w) (hl : X.length ≤ 240) (hp : p ≤ T.length) (h : (dg_ (tc_ T p) → ∀ w', R9 T n d 240 X (pf_ p) w' → fM n w w' → Q (some (.int v)) w') ∧ (¬ dg_ (tc_ T p) → Q (some (.int v)) w)) : V E mX12_plainNumber (sx_rm 2 0 0) 0 0 0 0 48 [(2, .int (nI k)), (1, .int v), (0, .ref 381)] [] w Q := by
  have hT := H.2.1.1
  refine V_aload_n (i := 0) (sx_di dX12_plainNumber 28 rfl) rfl rfl ?_
  refine V_cV0 (mc' := 0) (ms' := 0) (M' := mX12_here) 1 (sx_di dX12_plainNumber 29 rfl) lX12_112 vX12_here (by first | exact H.1.k _ rfl | exact H.1.1.k _ rfl) (by decide) rfl (Nat.le_of_ble_eq_true rfl) ⟨Nat.le_of_ble_eq_true rfl, Nat.le_of_ble_eq_true rfl⟩ ⟨Nat.le_refl _, Nat.le_refl _⟩ ?_
  refine c_here9 H hp ?_
  refine V_cS1 (mc' := 0) (ms' := 0) (M' := mX12_isDigit) 1 (sx_di dX12_plainNumber 30 rfl) lX12_131 vX12_isDigit (Nat.le_of_ble_eq_true rfl) ⟨Nat.le_of_ble_eq_true rfl, Nat.le_of_ble_eq_true rfl⟩ ⟨Nat.le_refl _, Nat.le_refl _⟩ ?_
  refine c_isDig9 ?_
  refine V_if_eq (tgt := 62) (sx_di dX12_plainNumber 31 rfl) (by decide) (fun h55 => ?_) (fun h55 => ?_)
  · refine V_iload_n (i := 1) (sx_di dX12_plainNumber 34 rfl) rfl rfl ?_
    refine V_iret (sx_di dX12_plainNumber 35 rfl) rfl (Nat.le_refl _) (Nat.le_refl _) ?_
    exact h.2 (isD_f h55)
  · refine V_aload_n (i := 0) (sx_di dX12_plainNumber 32 rfl) rfl rfl ?_
    refine V_cV0 (mc' := 0) (ms' := 0) (M' := mX12_bad) 1 (sx_di dX12_plainNumber 33 rfl) lX12_125 vX12_bad (by first | exact H.1.k _ rfl | exact H.1.1.k _ rfl) (by decide) rfl (Nat.le_of_ble_eq_true rfl) ⟨Nat.le_of_ble_eq_true rfl, Nat.le_of_ble_eq_true rfl⟩ ⟨Nat.le_refl _, Nat.le_refl _⟩ ?_
    refine c_bad9 (X2 := X) (B := 240) H hx (by omega) hl (fun d2 w1 H1 f1 => ?_)
    refine V_iload_n (i := 1) (sx_di dX12_plainNumber 34 rfl) rfl rfl ?_
    refine V_iret (sx_di dX12_plainNumber 35 rfl) rfl (Nat.le_refl _) (Nat.le_refl _) ?_
    exact h.1 (isD_t h55) w1 (R9_f H1 Bool.false_ne_true Bool.false_ne_true rfl) f1
set_option maxHeartbeats 2000000 in
set_option maxRecDepth 20000 in
theorem pn_lp {E : sxE} {T : List Int32} {n d : Nat} {X : List Int32} {Q : Option Value → hpW → Prop} (hl : X.length ≤ 240) : ∀ f k v p w, k + f = 4 → rrP T n d p w → rrX n X w → p ≤ T.length → (k = 0 → dg_ (tc_ T p)) → ((rnF T 4 (f + 1) k v p).1 = true → ∀ w', rrP T n d (rnF T 4 (f + 1) k v p).2.1 w' → rrX n X w' → fM n w w' → Q (some (.int (rnF T 4 (f + 1) k v p).2.2)) w') → (¬ (rnF T 4 (f + 1) k v p).1 = true → ∀ x w', R9 T n d 240 X (pf_ (rnF T 4 (f + 1) k v p).2.1) w' → fM n w w' → Q (some (.int x)) w') → V E mX12_plainNumber (sx_rm 2 0 0) 0 0 0 0 4 [(2, .int (nI k)), (1, .int v), (0, .ref 381)] [] w Q := by
  intro f
  induction f with
  | zero =>
    intro k v p w hk H hx hp h0 h1 h2
    have e4 : k = 4 := by omega
    subst e4
    unfold rnF at h1 h2
    refine V_iload_n (i := 2) (sx_di dX12_plainNumber 4 rfl) rfl rfl ?_
    refine V_iconst (v := 4) (sx_di dX12_plainNumber 5 rfl) (by decide) ?_
    refine V_icN_ge (a := 4) (b := 4) (rfl) (rfl) (by omega) (by omega) (tgt := 48) (sx_di dX12_plainNumber 6 rfl) (by decide) (fun _ => ?_) (fun h6 => absurd h6 (by omega))
    refine V_sub (ls' := [(2, .int (nI 4)), (1, .int v), (0, .ref 381)]) ⟨rfl, rfl, rfl, trivial⟩ ?_
    refine pn_end H hx hl hp ⟨fun hd w1 H1 f1 => ?_, fun hd => ?_⟩
    · rw [if_pos (dg_tc.mp hd), if_pos rfl] at h2
      exact h2 Bool.false_ne_true v w1 H1 f1
    · rw [if_neg (fun z => hd (dg_tc.mpr z))] at h1
      exact h1 rfl w H hx fM_rf
  | succ f ih =>
    intro k v p w hk H hx hp h0 h1 h2
    have hT := H.2.1.1
    rw [rnF] at h1 h2
    refine V_iload_n (i := 2) (sx_di dX12_plainNumber 4 rfl) rfl rfl ?_
    refine V_iconst (v := 4) (sx_di dX12_plainNumber 5 rfl) (by decide) ?_
    refine V_icN_ge (a := k) (b := 4) (rfl) (rfl) (by omega) (by omega) (tgt := 48) (sx_di dX12_plainNumber 6 rfl) (by decide) (fun h6 => absurd h6 (by omega)) (fun _ => ?_)
    refine V_aload_n (i := 0) (sx_di dX12_plainNumber 7 rfl) rfl rfl ?_
    refine V_cV0 (mc' := 0) (ms' := 0) (M' := mX12_here) 1 (sx_di dX12_plainNumber 8 rfl) lX12_112 vX12_here (by first | exact H.1.k _ rfl | exact H1.1.k _ rfl | exact H.1.1.k _ rfl | exact H1.1.1.k _ rfl) (by decide) rfl (Nat.le_of_ble_eq_true rfl) ⟨Nat.le_of_ble_eq_true rfl, Nat.le_of_ble_eq_true rfl⟩ ⟨Nat.le_refl _, Nat.le_refl _⟩ ?_
    refine c_here9 H hp ?_
    refine V_cS1 (mc' := 0) (ms' := 0) (M' := mX12_isDigit) 1 (sx_di dX12_plainNumber 9 rfl) lX12_131 vX12_isDigit (Nat.le_of_ble_eq_true rfl) ⟨Nat.le_of_ble_eq_true rfl, Nat.le_of_ble_eq_true rfl⟩ ⟨Nat.le_refl _, Nat.le_refl _⟩ ?_
    refine c_isDig9 ?_
    refine V_if_eq (tgt := 48) (sx_di dX12_plainNumber 10 rfl) (by decide) (fun h16 => ?_) (fun h16 => ?_)
    · have hd := isD_f h16
      have hk0 : 0 < k := Nat.pos_of_ne_zero (fun z => hd (h0 z))
      rw [if_neg (fun z => hd (dg_tc.mpr z))] at h1
      refine V_sub (ls' := [(2, .int (nI k)), (1, .int v), (0, .ref 381)]) ⟨rfl, rfl, rfl, trivial⟩ ?_
      exact pn_end H hx hl hp ⟨fun z => absurd z hd, fun _ => h1 (decide_eq_true hk0) w H hx fM_rf⟩
    · have hc := dg_tc.mp (isD_t h16)
      have ec : tc_ T p = T.getD p 0 := tc_lt hc.1
      rw [if_pos hc, if_neg (show ¬ k = 4 by omega)] at h1 h2
      refine V_bipush (v := 10) (sx_di dX12_plainNumber 11 rfl) (by decide) ?_
      refine V_iload_n (i := 1) (sx_di dX12_plainNumber 12 rfl) rfl rfl ?_
      refine V_imul (sx_di dX12_plainNumber 13 rfl) ?_
      refine V_aload_n (i := 0) (sx_di dX12_plainNumber 14 rfl) rfl rfl ?_
      refine V_cV0 (mc' := 0) (ms' := 0) (M' := mX12_here) 1 (sx_di dX12_plainNumber 15 rfl) lX12_112 vX12_here (by first | exact H.1.k _ rfl | exact H1.1.k _ rfl | exact H.1.1.k _ rfl | exact H1.1.1.k _ rfl) (by decide) rfl (Nat.le_of_ble_eq_true rfl) ⟨Nat.le_of_ble_eq_true rfl, Nat.le_of_ble_eq_true rfl⟩ ⟨Nat.le_refl _, Nat.le_refl _⟩ ?_
      refine c_here9 H hp ?_
      refine V_iadd (sx_di dX12_plainNumber 16 rfl) ?_
      refine V_bipush (v := 48) (sx_di dX12_plainNumber 17 rfl) (by decide) ?_
      refine V_isub (sx_di dX12_plainNumber 18 rfl) ?_
      refine V_iv (y := v * 10 + T.getD p 0 - 48) (by rw [ec, Int32.mul_comm]) ?_
      refine V_istore_n (i := 1) (sx_di dX12_plainNumber 19 rfl) rfl (by decide) (rfl) ?_
      refine V_aload_n (i := 0) (sx_di dX12_plainNumber 20 rfl) rfl rfl ?_
      refine V_dup (sx_di dX12_plainNumber 21 rfl) rfl ?_
      refine V_getI (sx_di dX12_plainNumber 22 rfl) fX12_109 (fun _ => rfl) (by first | exact H.1.k _ rfl | exact H1.1.k _ rfl | exact H.1.1.k _ rfl | exact H1.1.1.k _ rfl) ?_
      refine V_iconst (v := 1) (sx_di dX12_plainNumber 23 rfl) (by decide) ?_
      refine V_iadd (sx_di dX12_plainNumber 24 rfl) ?_
      refine V_putI (sx_di dX12_plainNumber 25 rfl) fX12_109 (fun _ => rfl) rfl (by first | exact H.1.k _ rfl | exact H1.1.k _ rfl | exact H.1.1.k _ rfl | exact H1.1.1.k _ rfl) (rfl) (rfl) ?_
      refine V_at9 H (fun w1 H1 f1 x1 => ?_)
      refine V_inc (c := 1) (sx_di dX12_plainNumber 26 rfl) (by decide) rfl (by decide) (rfl) ?_
      refine V_goto (tgt := 4) (sx_di dX12_plainNumber 27 rfl) (by decide) ?_
      have q1 := ih (k + 1) (v * 10 + T.getD p 0 - 48) (p + 1) w1 (by omega) H1 (x1 X hx) (by omega) (fun z => absurd z (by omega)) (fun o w2 H2 x2 f2 => h1 o w2 H2 x2 (fM_tr f1 f2)) (fun o x w2 H2 f2 => h2 o x w2 H2 (fM_tr f1 f2))
      rw [← nI_1 (a := k)] at q1
      exact V_subk q1 ⟨rfl, rfl, rfl, trivial⟩
theorem c_plain9 {E : sxE} {w : hpW} {Q : Option Value → hpW → Prop} {T : List Int32} {n d p : Nat} {X : List Int32} (H : rrP T n d p w) (hx : rrX n X w) (hl : X.length ≤ 240) (hp : p ≤ T.length) (hd : dg_ (tc_ T p)) (h : ∀ x w', R9 T n d 240 X ((rn_ T 4 p).1, [], (rn_ T 4 p).2.1) w' → fM n w w' → ((rn_ T 4 p).1 = true → x = (rn_ T 4 p).2.2) → Q (some (.int x)) w') : sx_C E mX12_plainNumber 2 0 0 [.ref 381] w Q := by
  refine C_of (by decide +kernel) (Nat.le_of_ble_eq_true rfl) ?_
  refine V_iconst (v := 0) (sx_di dX12_plainNumber 0 rfl) (by decide) ?_
  refine V_istore_n (i := 1) (sx_di dX12_plainNumber 1 rfl) rfl (by decide) (rfl) ?_
  refine V_iconst (v := 0) (sx_di dX12_plainNumber 2 rfl) (by decide) ?_
  refine V_istore_n (i := 2) (sx_di dX12_plainNumber 3 rfl) rfl (by decide) (rfl) ?_
  refine V_sub (ls' := [(2, .int (nI 0)), (1, .int 0), (0, .ref 381)]) ⟨rfl, rfl, rfl, trivial⟩ ?_
  refine pn_lp hl 4 0 0 p w rfl H hx hp (fun _ => hd) (fun o w1 H1 x1 f1 => ?_) (fun o x w1 H1 f1 => ?_)
  · refine h _ w1 ?_ f1 (fun _ => rfl)
    have e : (rn_ T 4 p).1 = true := o
    rw [e]
    exact R9_of H1 (by rw [List.append_nil]; exact x1)
  · refine h x w1 ?_ f1 (fun z => absurd z o)
    exact R9_f H1 Bool.false_ne_true o rfl
set_option maxHeartbeats 2000000 in
set_option maxRecDepth 20000 in
theorem c_opens9 {E : sxE} {w : hpW} {Q : Option Value → hpW → Prop} {T : List Int32} {n d r p : Nat} {X : List Int32} (hd : d + r = 6) (H : rrP T n d p w) (hx : rrX n X w) (hl : X.length ≤ 240) (hp : p ≤ 240) (h0 : r = 0 → ∀ d2 w', R9 T n d2 241 X (pf_ p) w' → fM n w w' → Q none w') (h1 : ¬ r = 0 → ∀ w', rrP T n (d + 1) (p + 1) w' → fM n w w' → (∀ X, rrX n X w → rrX n X w') → Q none w') : sx_C E mX12_opens 2 0 0 [.ref 381] w Q := by
  refine C_of (by decide +kernel) (Nat.le_of_ble_eq_true rfl) ?_
  refine V_aload_n (i := 0) (sx_di dX12_opens 0 rfl) rfl rfl ?_
  refine V_getI (sx_di dX12_opens 1 rfl) fX12_122 (fun _ => rfl) (by first | exact H.1.k _ rfl | exact H1.1.k _ rfl | exact H2.1.k _ rfl | exact H3.1.k _ rfl | exact H4.1.k _ rfl | exact H5.1.k _ rfl | exact H6.1.k _ rfl | exact H.1.1.k _ rfl | exact H1.1.1.k _ rfl | exact H2.1.1.k _ rfl | exact H3.1.1.k _ rfl | exact H4.1.1.k _ rfl | exact H5.1.1.k _ rfl | exact H6.1.1.k _ rfl) ?_
  refine V_iv (y := nI d) (H.2.2.2.2.2) ?_
  refine V_bipush (v := 6) (sx_di dX12_opens 2 rfl) (by decide) ?_
  refine V_icN_ne (a := d) (b := 6) (rfl) (rfl) (by omega) (by omega) (tgt := 13) (sx_di dX12_opens 3 rfl) (by decide) (fun h6 => ?_) (fun h6 => ?_)
  · have r0 : ¬ r = 0 := by omega
    refine V_aload_n (i := 0) (sx_di dX12_opens 6 rfl) rfl rfl ?_
    refine V_dup (sx_di dX12_opens 7 rfl) rfl ?_
    refine V_getI (sx_di dX12_opens 8 rfl) fX12_122 (fun _ => rfl) (by first | exact H.1.k _ rfl | exact H1.1.k _ rfl | exact H2.1.k _ rfl | exact H3.1.k _ rfl | exact H4.1.k _ rfl | exact H5.1.k _ rfl | exact H6.1.k _ rfl | exact H.1.1.k _ rfl | exact H1.1.1.k _ rfl | exact H2.1.1.k _ rfl | exact H3.1.1.k _ rfl | exact H4.1.1.k _ rfl | exact H5.1.1.k _ rfl | exact H6.1.1.k _ rfl) ?_
    refine V_iv (y := nI d) (H.2.2.2.2.2) ?_
    refine V_iconst (v := 1) (sx_di dX12_opens 9 rfl) (by decide) ?_
    refine V_iadd (sx_di dX12_opens 10 rfl) ?_
    refine V_iv (y := nI (d + 1)) (nI_add d 1) ?_
    refine V_putI (sx_di dX12_opens 11 rfl) fX12_122 (fun _ => rfl) rfl (by first | exact H.1.k _ rfl | exact H1.1.k _ rfl | exact H2.1.k _ rfl | exact H3.1.k _ rfl | exact H4.1.k _ rfl | exact H5.1.k _ rfl | exact H6.1.k _ rfl | exact H.1.1.k _ rfl | exact H1.1.1.k _ rfl | exact H2.1.1.k _ rfl | exact H3.1.1.k _ rfl | exact H4.1.1.k _ rfl | exact H5.1.1.k _ rfl | exact H6.1.1.k _ rfl) (rfl) (rfl) ?_
    refine V_aload_n (i := 0) (sx_di dX12_opens 12 rfl) rfl rfl ?_
    refine V_dup (sx_di dX12_opens 13 rfl) rfl ?_
    refine V_getI (sx_di dX12_opens 14 rfl) fX12_109 (fun _ => rfl) (by first | exact H.1.k _ rfl | exact H1.1.k _ rfl | exact H2.1.k _ rfl | exact H3.1.k _ rfl | exact H4.1.k _ rfl | exact H5.1.k _ rfl | exact H6.1.k _ rfl | exact H.1.1.k _ rfl | exact H1.1.1.k _ rfl | exact H2.1.1.k _ rfl | exact H3.1.1.k _ rfl | exact H4.1.1.k _ rfl | exact H5.1.1.k _ rfl | exact H6.1.1.k _ rfl) ?_
    refine V_iv (y := nI p) ((si_o (by omega)).trans H.2.2.2.2.1) ?_
    refine V_iconst (v := 1) (sx_di dX12_opens 15 rfl) (by decide) ?_
    refine V_iadd (sx_di dX12_opens 16 rfl) ?_
    refine V_iv (y := nI (p + 1)) (nI_add p 1) ?_
    refine V_putI (sx_di dX12_opens 17 rfl) fX12_109 (fun _ => rfl) rfl (by first | exact H.1.k _ rfl | exact H1.1.k _ rfl | exact H2.1.k _ rfl | exact H3.1.k _ rfl | exact H4.1.k _ rfl | exact H5.1.k _ rfl | exact H6.1.k _ rfl | exact H.1.1.k _ rfl | exact H1.1.1.k _ rfl | exact H2.1.1.k _ rfl | exact H3.1.1.k _ rfl | exact H4.1.1.k _ rfl | exact H5.1.1.k _ rfl | exact H6.1.1.k _ rfl) (rfl) (rfl) ?_
    refine V_vret (sx_di dX12_opens 18 rfl) rfl (Nat.le_refl _) (Nat.le_refl _) ?_
    have H5 : rrP T n (d + 1) p (hp_si w 381 5 (nI (d + 1))) := ⟨ly_i H.1, tp_si (by decide) H.2.1, (si_o (by omega)).trans H.2.2.1, (si_o (by omega)).trans H.2.2.2.1, (si_o (by omega)).trans H.2.2.2.2.1, si_a⟩
    exact h1 r0 _ (rrP_at H5) (fM_tr (fM_si (Or.inr (Or.inr rfl))) (fM_si (Or.inl rfl))) (fun X hx => rrX_si (rrX_si hx))
  · have r0 : r = 0 := by omega
    refine V_aload_n (i := 0) (sx_di dX12_opens 4 rfl) rfl rfl ?_
    refine V_cV0 (mc' := 0) (ms' := 0) (M' := mX12_bad) 1 (sx_di dX12_opens 5 rfl) lX12_125 vX12_bad (by first | exact H.1.k _ rfl | exact H1.1.k _ rfl | exact H2.1.k _ rfl | exact H3.1.k _ rfl | exact H4.1.k _ rfl | exact H5.1.k _ rfl | exact H6.1.k _ rfl | exact H.1.1.k _ rfl | exact H1.1.1.k _ rfl | exact H2.1.1.k _ rfl | exact H3.1.1.k _ rfl | exact H4.1.1.k _ rfl | exact H5.1.1.k _ rfl | exact H6.1.1.k _ rfl) (by decide) rfl (Nat.le_of_ble_eq_true rfl) ⟨Nat.le_of_ble_eq_true rfl, Nat.le_of_ble_eq_true rfl⟩ ⟨Nat.le_refl _, Nat.le_refl _⟩ ?_
    refine c_bad9 (X2 := X) (B := 240) H hx hp hl (fun d2 w1 H1 f1 => ?_)
    refine V_aload_n (i := 0) (sx_di dX12_opens 6 rfl) rfl rfl ?_
    refine V_dup (sx_di dX12_opens 7 rfl) rfl ?_
    refine V_getI (sx_di dX12_opens 8 rfl) fX12_122 (fun _ => rfl) (by first | exact H.1.k _ rfl | exact H1.1.k _ rfl | exact H2.1.k _ rfl | exact H3.1.k _ rfl | exact H4.1.k _ rfl | exact H5.1.k _ rfl | exact H6.1.k _ rfl | exact H.1.1.k _ rfl | exact H1.1.1.k _ rfl | exact H2.1.1.k _ rfl | exact H3.1.1.k _ rfl | exact H4.1.1.k _ rfl | exact H5.1.1.k _ rfl | exact H6.1.1.k _ rfl) ?_
    refine V_iconst (v := 1) (sx_di dX12_opens 9 rfl) (by decide) ?_
    refine V_iadd (sx_di dX12_opens 10 rfl) ?_
    refine V_putI (sx_di dX12_opens 11 rfl) fX12_122 (fun _ => rfl) rfl (by first | exact H.1.k _ rfl | exact H1.1.k _ rfl | exact H2.1.k _ rfl | exact H3.1.k _ rfl | exact H4.1.k _ rfl | exact H5.1.k _ rfl | exact H6.1.k _ rfl | exact H.1.1.k _ rfl | exact H1.1.1.k _ rfl | exact H2.1.1.k _ rfl | exact H3.1.1.k _ rfl | exact H4.1.1.k _ rfl | exact H5.1.1.k _ rfl | exact H6.1.1.k _ rfl) (rfl) (rfl) ?_
    refine V_aload_n (i := 0) (sx_di dX12_opens 12 rfl) rfl rfl ?_
    refine V_dup (sx_di dX12_opens 13 rfl) rfl ?_
    refine V_getI (sx_di dX12_opens 14 rfl) fX12_109 (fun _ => rfl) (by first | exact H.1.k _ rfl | exact H1.1.k _ rfl | exact H2.1.k _ rfl | exact H3.1.k _ rfl | exact H4.1.k _ rfl | exact H5.1.k _ rfl | exact H6.1.k _ rfl | exact H.1.1.k _ rfl | exact H1.1.1.k _ rfl | exact H2.1.1.k _ rfl | exact H3.1.1.k _ rfl | exact H4.1.1.k _ rfl | exact H5.1.1.k _ rfl | exact H6.1.1.k _ rfl) ?_
    refine V_iconst (v := 1) (sx_di dX12_opens 15 rfl) (by decide) ?_
    refine V_iadd (sx_di dX12_opens 16 rfl) ?_
    refine V_putI (sx_di dX12_opens 17 rfl) fX12_109 (fun _ => rfl) rfl (by first | exact H.1.k _ rfl | exact H1.1.k _ rfl | exact H2.1.k _ rfl | exact H3.1.k _ rfl | exact H4.1.k _ rfl | exact H5.1.k _ rfl | exact H6.1.k _ rfl | exact H.1.1.k _ rfl | exact H1.1.1.k _ rfl | exact H2.1.1.k _ rfl | exact H3.1.1.k _ rfl | exact H4.1.1.k _ rfl | exact H5.1.1.k _ rfl | exact H6.1.1.k _ rfl) (rfl) (rfl) ?_
    refine V_vret (sx_di dX12_opens 18 rfl) rfl (Nat.le_refl _) (Nat.le_refl _) ?_
    obtain ⟨b1, ⟨q, b2, b3⟩, m, b4, b5⟩ := H1.2.2 Bool.false_ne_true
    refine h0 r0 d2 _ ⟨⟨ly_i (ly_i H1.1.1), tp_si (by decide) (tp_si (by decide) H1.1.2.1), ?_⟩, fun z => absurd z Bool.false_ne_true, fun _ => ⟨?_, ⟨q + 1, by omega, ?_⟩, m, by omega, ?_⟩⟩ (fM_tr f1 (fM_tr (fM_si (Or.inr (Or.inr rfl))) (fM_si (Or.inl rfl))))
    · rw [si_o (by omega), si_o (by omega)]; exact H1.1.2.2
    · rw [si_o (by omega), si_o (by omega)]; exact b1
    · rw [si_a, si_o (by omega), b3, nI_1]
    · rw [si_o (by omega), si_o (by omega)]; exact b5
set_option maxHeartbeats 2000000 in
set_option maxRecDepth 20000 in
theorem c_closes9 {E : sxE} {w : hpW} {Q : Option Value → hpW → Prop} {T : List Int32} {n d B : Nat} {X : List Int32} {x : prT} {c : Int32} (H : R9 T n (d + 1) B X x w) (hB : 240 ≤ B) (hp : x.2.2 ≤ T.length) (hl : x.1 = true → (X ++ x.2.1).length ≤ B) (h : ∀ w', R9 T n d (B + 1) X (clo_ T c x) w' → fM n w w' → Q none w') : sx_C E mX12_closes 3 0 0 [.ref 381, .int c] w Q := by
  have hT := H.1.2.1.1
  have g2 := skq_le (T := T) hp
  have tail : ∀ y w1, R9 T n (d + 1) B X y w1 → fM n w w1 → up9 y = clo_ T c x → V E mX12_closes (sx_rm 3 0 0) 0 0 0 0 20 [(0, .ref 381)] [] w1 Q := by
    intro y w1 H1 f1 e
    refine V_aload_n (i := 0) (sx_di dX12_closes 10 rfl) rfl rfl ?_
    refine V_dup (sx_di dX12_closes 11 rfl) rfl ?_
    refine V_getI (sx_di dX12_closes 12 rfl) fX12_109 (fun _ => rfl) (by first | exact H1.1.k _ rfl | exact H2.1.k _ rfl | exact H1.1.1.k _ rfl | exact H2.1.1.k _ rfl) ?_
    refine V_iconst (v := 1) (sx_di dX12_closes 13 rfl) (by decide) ?_
    refine V_iadd (sx_di dX12_closes 14 rfl) ?_
    refine V_putI (sx_di dX12_closes 15 rfl) fX12_109 (fun _ => rfl) rfl (by first | exact H1.1.k _ rfl | exact H2.1.k _ rfl | exact H1.1.1.k _ rfl | exact H2.1.1.k _ rfl) (rfl) (rfl) ?_
    refine V_atR H1 (fun w2 H2 f2 => ?_)
    refine V_aload_n (i := 0) (sx_di dX12_closes 16 rfl) rfl rfl ?_
    refine V_dup (sx_di dX12_closes 17 rfl) rfl ?_
    refine V_getI (sx_di dX12_closes 18 rfl) fX12_122 (fun _ => rfl) (by first | exact H1.1.k _ rfl | exact H2.1.k _ rfl | exact H1.1.1.k _ rfl | exact H2.1.1.k _ rfl) ?_
    refine V_iconst (v := 1) (sx_di dX12_closes 19 rfl) (by decide) ?_
    refine V_isub (sx_di dX12_closes 20 rfl) ?_
    refine V_putI (sx_di dX12_closes 21 rfl) fX12_122 (fun _ => rfl) rfl (by first | exact H1.1.k _ rfl | exact H2.1.k _ rfl | exact H1.1.1.k _ rfl | exact H2.1.1.k _ rfl) (rfl) (rfl) ?_
    refine V_dpR H2 (fun w3 H3 f3 => ?_)
    refine V_vret (sx_di dX12_closes 22 rfl) rfl (Nat.le_refl _) (Nat.le_refl _) ?_
    rw [e] at H3
    exact h w3 H3 (fM_tr f1 (fM_tr f2 f3))
  refine C_of (by decide +kernel) (Nat.le_of_ble_eq_true rfl) ?_
  refine V_aload_n (i := 0) (sx_di dX12_closes 0 rfl) rfl rfl ?_
  refine V_getI (sx_di dX12_closes 1 rfl) fX12_116 (fun _ => rfl) (by first | exact H.1.k _ rfl | exact H1.1.k _ rfl | exact H0.1.k _ rfl | exact H.1.1.k _ rfl | exact H1.1.1.k _ rfl | exact H0.1.1.k _ rfl) ?_
  refine V_iv (y := wv_ x) (R9_w H) ?_
  refine V_iconst (v := -1) (sx_di dX12_closes 2 rfl) (by decide) ?_
  refine V_icmp_ne (tgt := 20) (sx_di dX12_closes 3 rfl) (by decide) (fun h5 => ?_) (fun h5 => ?_)
  · have b5 := wv_n h5
    refine V_sub (ls' := [(0, .ref 381)]) ⟨rfl, trivial⟩ ?_
    exact tail x w H fM_rf (by unfold up9 clo_; rw [if_neg b5, if_neg b5])
  · have b5 := wv_y (by omega) h5
    have H0 := R9_y H b5
    refine V_aload_n (i := 0) (sx_di dX12_closes 4 rfl) rfl rfl ?_
    refine V_cV0 (mc' := 0) (ms' := 0) (M' := mX12_look) 2 (sx_di dX12_closes 5 rfl) lX12_128 vX12_look (by first | exact H.1.k _ rfl | exact H1.1.k _ rfl | exact H0.1.k _ rfl | exact H.1.1.k _ rfl | exact H1.1.1.k _ rfl | exact H0.1.1.k _ rfl) (by decide) rfl (Nat.le_of_ble_eq_true rfl) ⟨Nat.le_of_ble_eq_true rfl, Nat.le_of_ble_eq_true rfl⟩ ⟨Nat.le_refl _, Nat.le_refl _⟩ ?_
    refine c_look9 H0.1 hp (fun w1 H1 f1 x1 => ?_)
    refine V_iload_n (i := 1) (sx_di dX12_closes 6 rfl) rfl rfl ?_
    refine V_icmp_eq (tgt := 20) (sx_di dX12_closes 7 rfl) (by decide) (fun h13 => ?_) (fun h13 => ?_)
    · refine V_sub (ls' := [(0, .ref 381)]) ⟨rfl, trivial⟩ ?_
      refine tail (true, x.2.1, skp_ T x.2.2) w1 (R9_of H1 (x1 _ H0.2)) f1 ?_
      unfold up9 clo_
      rw [if_pos rfl, if_pos b5, if_pos h13]
    · refine V_aload_n (i := 0) (sx_di dX12_closes 8 rfl) rfl rfl ?_
      refine V_cV0 (mc' := 0) (ms' := 0) (M' := mX12_bad) 1 (sx_di dX12_closes 9 rfl) lX12_125 vX12_bad (by first | exact H.1.k _ rfl | exact H1.1.k _ rfl | exact H0.1.k _ rfl | exact H.1.1.k _ rfl | exact H1.1.1.k _ rfl | exact H0.1.1.k _ rfl) (by decide) rfl (Nat.le_of_ble_eq_true rfl) ⟨Nat.le_of_ble_eq_true rfl, Nat.le_of_ble_eq_true rfl⟩ ⟨Nat.le_refl _, Nat.le_refl _⟩ ?_
      refine c_bad9 (X2 := X) (B := B) H1 (x1 _ H0.2) (by omega) (hl b5) (fun d2 w2 H2 f2 => ?_)
      refine V_sub (ls' := [(0, .ref 381)]) ⟨rfl, trivial⟩ ?_
      refine tail (pf_ (skp_ T x.2.2)) w2 (R9_f H2 Bool.false_ne_true Bool.false_ne_true rfl) (fM_tr f1 f2) ?_
      unfold up9 clo_
      rw [if_neg (show ¬ (pf_ (skp_ T x.2.2)).1 = true from Bool.false_ne_true), if_pos b5, if_neg h13]
      rfl

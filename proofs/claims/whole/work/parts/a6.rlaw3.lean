/-! the reference reads a law: the whole of it -/
set_option maxHeartbeats 2000000 in
set_option maxRecDepth 20000 in
theorem c_X12_open {E : sxE} {w : hpW} {Q : Option Value → hpW → Prop} {n : Nat} (hB : ly_B w) (hn : n < 5) (h : Q none (hp_si (hp_si (hp_si (hp_si (hp_si (hp_si w 381 14 (nI n)) 381 3 0) 381 4 (-1)) 381 5 0) 385 n 0) 386 n 0)) : sx_C E mX12_open 1 0 0 [.ref 381, .int (nI n)] w Q := by
  refine C_of (by decide +kernel) (Nat.le_of_ble_eq_true rfl) ?_
  refine V_aload_n (i := 0) (sx_di dX12_open 0 rfl) rfl rfl ?_
  refine V_iload_n (i := 1) (sx_di dX12_open 1 rfl) rfl rfl ?_
  refine V_putI (sx_di dX12_open 2 rfl) fX12_119 (fun _ => rfl) rfl (hB.k _ rfl) (rfl) (rfl) ?_
  refine V_aload_n (i := 0) (sx_di dX12_open 3 rfl) rfl rfl ?_
  refine V_iconst (v := 0) (sx_di dX12_open 4 rfl) (by decide) ?_
  refine V_putI (sx_di dX12_open 5 rfl) fX12_109 (fun _ => rfl) rfl (hB.k _ rfl) (rfl) (rfl) ?_
  refine V_aload_n (i := 0) (sx_di dX12_open 6 rfl) rfl rfl ?_
  refine V_iconst (v := -1) (sx_di dX12_open 7 rfl) (by decide) ?_
  refine V_putI (sx_di dX12_open 8 rfl) fX12_116 (fun _ => rfl) rfl (hB.k _ rfl) (rfl) (rfl) ?_
  refine V_aload_n (i := 0) (sx_di dX12_open 9 rfl) rfl rfl ?_
  refine V_iconst (v := 0) (sx_di dX12_open 10 rfl) (by decide) ?_
  refine V_putI (sx_di dX12_open 11 rfl) fX12_122 (fun _ => rfl) rfl (hB.k _ rfl) (rfl) (rfl) ?_
  refine V_aload_n (i := 0) (sx_di dX12_open 12 rfl) rfl rfl ?_
  refine V_getR (sx_di dX12_open 13 rfl) fX12_19 (fun _ => rfl) (hB.k _ rfl) (hB.r _ _ rfl) ?_
  refine V_iload_n (i := 1) (sx_di dX12_open 14 rfl) rfl rfl ?_
  refine V_iconst (v := 0) (sx_di dX12_open 15 rfl) (by decide) ?_
  refine V_iastN (n := 5) (j := n) (sx_di dX12_open 16 rfl) (hB.k _ rfl) (rfl) (by omega) (by omega) ?_
  refine V_aload_n (i := 0) (sx_di dX12_open 17 rfl) rfl rfl ?_
  refine V_getR (sx_di dX12_open 18 rfl) fX12_22 (fun _ => rfl) (hB.k _ rfl) (hB.r _ _ rfl) ?_
  refine V_iload_n (i := 1) (sx_di dX12_open 19 rfl) rfl rfl ?_
  refine V_iconst (v := 0) (sx_di dX12_open 20 rfl) (by decide) ?_
  refine V_iastN (n := 5) (j := n) (sx_di dX12_open 21 rfl) (hB.k _ rfl) (rfl) (by omega) (by omega) ?_
  refine V_vret (sx_di dX12_open 22 rfl) rfl (Nat.le_refl _) (Nat.le_refl _) ?_
  exact h
theorem c_atEndF {E : sxE} {w : hpW} {Q : Option Value → hpW → Prop} {e : Nat} (hB : ly_B w) (hw : hp_i w 381 4 = nI e) (he : e < 2 ^ 31) (h : Q (some (.int (nI e))) w) : sx_C E mX12_atEnd 3 0 0 [.ref 381] w Q := by
  refine C_of (by decide +kernel) (Nat.le_of_ble_eq_true rfl) ?_
  refine V_aload_n (i := 0) (sx_di dX12_atEnd 0 rfl) rfl rfl ?_
  refine V_getI (sx_di dX12_atEnd 1 rfl) fX12_116 (fun _ => rfl) (hB.k _ rfl) ?_
  refine V_iv (y := nI e) (hw) ?_
  refine V_iconst (v := -1) (sx_di dX12_atEnd 2 rfl) (by decide) ?_
  refine V_icmp_ne (tgt := 20) (sx_di dX12_atEnd 3 rfl) (by decide) (fun _ => ?_) (fun h5 => absurd h5 (nI_nm1 he))
  refine V_aload_n (i := 0) (sx_di dX12_atEnd 10 rfl) rfl rfl ?_
  refine V_getI (sx_di dX12_atEnd 11 rfl) fX12_116 (fun _ => rfl) (hB.k _ rfl) ?_
  refine V_iv (y := nI e) (hw) ?_
  refine V_iret (sx_di dX12_atEnd 12 rfl) rfl (Nat.le_refl _) (Nat.le_refl _) ?_
  exact h
set_option maxHeartbeats 2000000 in
set_option maxRecDepth 20000 in
theorem c_atEndY {E : sxE} {w : hpW} {Q : Option Value → hpW → Prop} {T : List Int32} {n d p : Nat} {X : List Int32} (H : rrP T n d p w) (hx : rrX n X w) (hl : X.length ≤ 240) (hp : p ≤ T.length) (h : ∀ w', ly_B w' → tp_ w' 381 2 382 T → fM n w w' → (cz_ T p = -1 → rrX n X w') → Q (some (.int (if cz_ T p = -1 then -1 else nI (skp_ T p)))) w') : sx_C E mX12_atEnd 3 0 0 [.ref 381] w Q := by
  have hT := H.2.1.1
  have g2 := skq_le (T := T) hp
  refine C_of (by decide +kernel) (Nat.le_of_ble_eq_true rfl) ?_
  refine V_aload_n (i := 0) (sx_di dX12_atEnd 0 rfl) rfl rfl ?_
  refine V_getI (sx_di dX12_atEnd 1 rfl) fX12_116 (fun _ => rfl) (by first | exact H.1.k _ rfl | exact H0.1.k _ rfl | exact H1.1.k _ rfl | exact H2.1.k _ rfl | exact H3.1.k _ rfl | exact H4.1.k _ rfl | exact H5.1.k _ rfl | exact H.1.1.k _ rfl | exact H0.1.1.k _ rfl | exact H1.1.1.k _ rfl | exact H2.1.1.k _ rfl | exact H3.1.1.k _ rfl | exact H4.1.1.k _ rfl | exact H5.1.1.k _ rfl) ?_
  refine V_iv (y := -1) (H.2.2.2.1) ?_
  refine V_iconst (v := -1) (sx_di dX12_atEnd 2 rfl) (by decide) ?_
  refine V_icmp_ne (tgt := 20) (sx_di dX12_atEnd 3 rfl) (by decide) (fun h5 => absurd rfl h5) (fun _ => ?_)
  refine V_aload_n (i := 0) (sx_di dX12_atEnd 4 rfl) rfl rfl ?_
  refine V_cV0 (mc' := 0) (ms' := 0) (M' := mX12_look) 2 (sx_di dX12_atEnd 5 rfl) lX12_128 vX12_look (by first | exact H.1.k _ rfl | exact H0.1.k _ rfl | exact H1.1.k _ rfl | exact H2.1.k _ rfl | exact H3.1.k _ rfl | exact H4.1.k _ rfl | exact H5.1.k _ rfl | exact H.1.1.k _ rfl | exact H0.1.1.k _ rfl | exact H1.1.1.k _ rfl | exact H2.1.1.k _ rfl | exact H3.1.1.k _ rfl | exact H4.1.1.k _ rfl | exact H5.1.1.k _ rfl) (by decide) rfl (Nat.le_of_ble_eq_true rfl) ⟨Nat.le_of_ble_eq_true rfl, Nat.le_of_ble_eq_true rfl⟩ ⟨Nat.le_refl _, Nat.le_refl _⟩ ?_
  refine c_look9 H hp (fun w1 H1 f1 x1 => ?_)
  refine V_iconst (v := -1) (sx_di dX12_atEnd 6 rfl) (by decide) ?_
  refine V_icmp_eq (tgt := 20) (sx_di dX12_atEnd 7 rfl) (by decide) (fun h13 => ?_) (fun h13 => ?_)
  · have z := h w1 H1.1 H1.2.1 f1 (fun _ => x1 _ hx)
    rw [if_pos h13] at z
    refine V_aload_n (i := 0) (sx_di dX12_atEnd 10 rfl) rfl rfl ?_
    refine V_getI (sx_di dX12_atEnd 11 rfl) fX12_116 (fun _ => rfl) (by first | exact H.1.k _ rfl | exact H0.1.k _ rfl | exact H1.1.k _ rfl | exact H2.1.k _ rfl | exact H3.1.k _ rfl | exact H4.1.k _ rfl | exact H5.1.k _ rfl | exact H.1.1.k _ rfl | exact H0.1.1.k _ rfl | exact H1.1.1.k _ rfl | exact H2.1.1.k _ rfl | exact H3.1.1.k _ rfl | exact H4.1.1.k _ rfl | exact H5.1.1.k _ rfl) ?_
    refine V_iv (y := -1) (H1.2.2.2.1) ?_
    refine V_iret (sx_di dX12_atEnd 12 rfl) rfl (Nat.le_refl _) (Nat.le_refl _) ?_
    exact z
  · refine V_aload_n (i := 0) (sx_di dX12_atEnd 8 rfl) rfl rfl ?_
    refine V_cV0 (mc' := 0) (ms' := 0) (M' := mX12_bad) 1 (sx_di dX12_atEnd 9 rfl) lX12_125 vX12_bad (by first | exact H.1.k _ rfl | exact H0.1.k _ rfl | exact H1.1.k _ rfl | exact H2.1.k _ rfl | exact H3.1.k _ rfl | exact H4.1.k _ rfl | exact H5.1.k _ rfl | exact H.1.1.k _ rfl | exact H0.1.1.k _ rfl | exact H1.1.1.k _ rfl | exact H2.1.1.k _ rfl | exact H3.1.1.k _ rfl | exact H4.1.1.k _ rfl | exact H5.1.1.k _ rfl) (by decide) rfl (Nat.le_of_ble_eq_true rfl) ⟨Nat.le_of_ble_eq_true rfl, Nat.le_of_ble_eq_true rfl⟩ ⟨Nat.le_refl _, Nat.le_refl _⟩ ?_
    refine c_bad9 (X2 := X) (B := 240) H1 (x1 _ hx) (by omega) hl (fun d2 w2 H2 f2 => ?_)
    have z := h w2 H2.1.1 H2.1.2.1 (fM_tr f1 f2) (fun q => absurd q h13)
    rw [if_neg h13] at z
    refine V_aload_n (i := 0) (sx_di dX12_atEnd 10 rfl) rfl rfl ?_
    refine V_getI (sx_di dX12_atEnd 11 rfl) fX12_116 (fun _ => rfl) (by first | exact H.1.k _ rfl | exact H0.1.k _ rfl | exact H1.1.k _ rfl | exact H2.1.k _ rfl | exact H3.1.k _ rfl | exact H4.1.k _ rfl | exact H5.1.k _ rfl | exact H.1.1.k _ rfl | exact H0.1.1.k _ rfl | exact H1.1.1.k _ rfl | exact H2.1.1.k _ rfl | exact H3.1.1.k _ rfl | exact H4.1.1.k _ rfl | exact H5.1.1.k _ rfl) ?_
    refine V_iv (y := nI (skp_ T p)) ((H2.2.2 Bool.false_ne_true).1) ?_
    refine V_iret (sx_di dX12_atEnd 12 rfl) rfl (Nat.le_refl _) (Nat.le_refl _) ?_
    exact z
theorem rt_of {w : hpW} {X : List Int32} {n : Nat} (h : rrX n X w) : ∀ (A : List Int32) (i : Nat), (∀ j, j < A.length → i + j < X.length ∧ X.getD (i + j) 0 = A.getD j 0) → rt_ (hp_i w) (520 * n + i) A
  | [], _, _ => trivial
  | x :: r, i, ha => by
    obtain ⟨a1, a2⟩ := ha 0 (by simp)
    have a3 := h.2 i a1
    have a4 : X.getD i 0 = x := a2
    rw [a4] at a3
    refine ⟨⟨a3.1, a3.2⟩, ?_⟩
    rw [Nat.add_assoc]
    refine rt_of h r (i + 1) (fun j hj => ?_)
    have q := ha (j + 1) (by simp; omega)
    rw [Nat.add_assoc, Nat.add_comm 1 j]
    exact q
theorem rwS_rl {n : Nat} {Z : lwT} {w : hpW} (h : rwS n Z w) (h9 : lw9 Z) : rl_ (hp_i w) n Z := by
  refine ⟨h.1, h9.2.1, ?_, h9.1⟩
  have key : ∀ m c, c + m = Z.length → rw_ (hp_i w) n c (Z.drop c) := by
    intro m
    induction m with
    | zero =>
      intro c hc
      rw [List.drop_of_length_le (by omega)]
      trivial
    | succ m ih =>
      intro c hc
      have hlt : c < Z.length := by omega
      obtain ⟨⟨qA, qB⟩, hq⟩ : ∃ q, Z[c]? = some q := ⟨_, List.getElem?_eq_getElem hlt⟩
      have ed : Z.drop c = (qA, qB) :: Z.drop (c + 1) := by rw [List.drop_eq_getElem_cons hlt, (List.getElem?_eq_some_iff.mp hq).2]
      rw [ed]
      obtain ⟨t1, t2, t3⟩ := h.2.1 c _ hq
      have e1 := fx_all (Z := Z) (c := c + 1)
      have e2 := fx_take hq
      have e3 : fx_ Z = fx_ (Z.take c) ++ qA ++ qB ++ fx_ (Z.drop (c + 1)) := by rw [← e2]; exact e1
      have el := congrArg List.length e3
      simp only [List.length_append] at el
      have h240 := h9.2.2
      refine ⟨⟨(fx_ (Z.take c)).length, t1, t2, t3, by omega, rt_of h.2.2 _ _ (fun j hj => ⟨by omega, ?_⟩), ?_⟩, ih (c + 1) (by omega)⟩
      · rw [e3, gd_app1 (by simp only [List.length_append]; omega), gd_app1 (by simp only [List.length_append]; omega), List.getD_eq_getElem?_getD, List.getElem?_append_right (by omega), Nat.add_sub_cancel_left, List.getD_eq_getElem?_getD]
      · rw [Nat.add_assoc]
        refine rt_of h.2.2 _ _ (fun j hj => ⟨by omega, ?_⟩)
        rw [e3, gd_app1 (by simp only [List.length_append]; omega), List.getD_eq_getElem?_getD, List.getElem?_append_right (by simp only [List.length_append]; omega), List.length_append, Nat.add_sub_cancel_left, List.getD_eq_getElem?_getD]
  exact key Z.length 0 (by omega)
/-- the reader of the reference has been at work -/
def fO (n : Nat) (w w' : hpW) : Prop := w' = hp_wi w (hp_i w') ∧ (∀ b, b ≠ 381 → b < 383 ∨ 389 < b → hp_i w' b = hp_i w b) ∧ (∀ j, j ≠ 3 → j ≠ 4 → j ≠ 5 → j ≠ 14 → hp_i w' 381 j = hp_i w 381 j) ∧ (∀ j, j < 520 * n ∨ 520 * n + 520 ≤ j → hp_i w' 383 j = hp_i w 383 j ∧ hp_i w' 384 j = hp_i w 384 j) ∧ (∀ j, j ≠ n → hp_i w' 385 j = hp_i w 385 j ∧ hp_i w' 386 j = hp_i w 386 j) ∧ ∀ j, j < 140 * n ∨ 140 * n + 140 ≤ j → hp_i w' 387 j = hp_i w 387 j ∧ hp_i w' 388 j = hp_i w 388 j ∧ hp_i w' 389 j = hp_i w 389 j
set_option maxHeartbeats 2000000 in
set_option maxRecDepth 20000 in
theorem rr_lp {E : sxE} {T : List Int32} {n : Nat} {Q : Option Value → hpW → Prop} (hn : n < 5) (hT : T.length ≤ 240) : ∀ f Z p w, p ≤ T.length → 4 * Z.length ≤ p → (fx_ Z).length ≤ p → T.length + 1 ≤ p + f → C9 T n Z (cla_ T p) w → (∀ w', ly_B w' → tp_ w' 381 2 382 T → fN n w w' → ((lwF T f Z p).1 = true → rwS n (lwF T f Z p).2.1 w') → Q (some (.int (lres (lwF T f Z p)))) w') → V E mX12_readLaw (sx_rm 55 0 0) 0 0 0 0 9 [(0, .ref 381)] [] w Q := by
  intro f
  induction f with
  | zero =>
    intro Z p w hp h4 hx hf
    omega
  | succ f ih =>
    intro Z p w hp h4 hx hf H h
    obtain ⟨⟨a1, a2, a3⟩, a4⟩ := cla_ok (T := T) hp
    have g := skp_ge T (cla_ T p).2.2
    have ew : hp_i w 381 4 = (if (cla_ T p).1 = true then -1 else nI (cla_ T p).2.2) := by
      by_cases c : (cla_ T p).1 = true
      · rw [if_pos c]; exact (H.2.1 c).1
      · rw [if_neg c]; exact H.2.2 c
    unfold lwF at h
    refine V_aload_n (i := 0) (sx_di dX12_readLaw 5 rfl) rfl rfl ?_
    refine V_getI (sx_di dX12_readLaw 6 rfl) fX12_116 (fun _ => rfl) (by first | exact H.1.k _ rfl | exact H0.1.k _ rfl | exact H1.1.k _ rfl | exact H2.1.k _ rfl | exact H3.1.k _ rfl | exact H4.1.k _ rfl | exact H5.1.k _ rfl | exact H.1.1.k _ rfl | exact H0.1.1.k _ rfl | exact H1.1.1.k _ rfl | exact H2.1.1.k _ rfl | exact H3.1.1.k _ rfl | exact H4.1.1.k _ rfl | exact H5.1.1.k _ rfl) ?_
    refine V_iv (y := if (cla_ T p).1 = true then -1 else nI (cla_ T p).2.2) (ew) ?_
    refine V_iconst (v := -1) (sx_di dX12_readLaw 7 rfl) (by decide) ?_
    refine V_icmp_ne (tgt := 43) (sx_di dX12_readLaw 8 rfl) (by decide) (fun h14 => ?_) (fun h14 => ?_)
    · have b14 : ¬ (cla_ T p).1 = true := fun z => h14 (if_pos z)
      rw [if_neg b14] at h
      refine V_aload_n (i := 0) (sx_di dX12_readLaw 22 rfl) rfl rfl ?_
      refine V_cV0 (mc' := 0) (ms' := 0) (M' := mX12_atEnd) 3 (sx_di dX12_readLaw 23 rfl) lX12_186 vX12_atEnd (by first | exact H.1.k _ rfl | exact H0.1.k _ rfl | exact H1.1.k _ rfl | exact H2.1.k _ rfl | exact H3.1.k _ rfl | exact H4.1.k _ rfl | exact H5.1.k _ rfl | exact H.1.1.k _ rfl | exact H0.1.1.k _ rfl | exact H1.1.1.k _ rfl | exact H2.1.1.k _ rfl | exact H3.1.1.k _ rfl | exact H4.1.1.k _ rfl | exact H5.1.1.k _ rfl) (by decide) rfl (Nat.le_of_ble_eq_true rfl) ⟨by show 3 + 1 ≤ 55; omega, by show 64 + 64 * (3) ≤ 64 * (55); omega⟩ ⟨Nat.le_refl _, Nat.le_refl _⟩ ?_
      refine c_atEndF H.1.1 (H.2.2 b14) (by omega) ?_
      refine V_iret (sx_di dX12_readLaw 24 rfl) rfl (Nat.le_refl _) (Nat.le_refl _) ?_
      exact h w H.1.1 H.1.2.1 fN_rf (fun z => absurd z Bool.false_ne_true)
    · have b14 : (cla_ T p).1 = true := Classical.byContradiction (fun z => by rw [if_neg z] at h14; exact nI_nm1 (by omega) h14)
      rw [if_pos b14] at h
      obtain ⟨k1, k2, k3, h0⟩ := H.2.1 b14
      have H0 : rrP T n 0 (cla_ T p).2.2 w := ⟨H.1.1, H.1.2.1, H.1.2.2, k1, k2, k3⟩
      have b1 := a3 b14
      have b2 := a4 b14
      refine V_aload_n (i := 0) (sx_di dX12_readLaw 9 rfl) rfl rfl ?_
      refine V_cV0 (mc' := 0) (ms' := 0) (M' := mX12_look) 2 (sx_di dX12_readLaw 10 rfl) lX12_128 vX12_look (by first | exact H.1.k _ rfl | exact H0.1.k _ rfl | exact H1.1.k _ rfl | exact H2.1.k _ rfl | exact H3.1.k _ rfl | exact H4.1.k _ rfl | exact H5.1.k _ rfl | exact H.1.1.k _ rfl | exact H0.1.1.k _ rfl | exact H1.1.1.k _ rfl | exact H2.1.1.k _ rfl | exact H3.1.1.k _ rfl | exact H4.1.1.k _ rfl | exact H5.1.1.k _ rfl) (by decide) rfl (Nat.le_of_ble_eq_true rfl) ⟨by show 2 + 1 ≤ 55; omega, by show 64 + 64 * (2) ≤ 64 * (55); omega⟩ ⟨Nat.le_refl _, Nat.le_refl _⟩ ?_
      refine c_look9 H0 a2 (fun w1 H1 f1 x1 => ?_)
      refine V_bipush (v := 59) (sx_di dX12_readLaw 11 rfl) (by decide) ?_
      refine V_icmp_ne (tgt := 43) (sx_di dX12_readLaw 12 rfl) (by decide) (fun h23 => ?_) (fun h23 => ?_)
      · have gl := skq_le (T := T) a2
        refine V_aload_n (i := 0) (sx_di dX12_readLaw 22 rfl) rfl rfl ?_
        refine V_cV0 (mc' := 0) (ms' := 0) (M' := mX12_atEnd) 3 (sx_di dX12_readLaw 23 rfl) lX12_186 vX12_atEnd (by first | exact H.1.k _ rfl | exact H0.1.k _ rfl | exact H1.1.k _ rfl | exact H2.1.k _ rfl | exact H3.1.k _ rfl | exact H4.1.k _ rfl | exact H5.1.k _ rfl | exact H.1.1.k _ rfl | exact H0.1.1.k _ rfl | exact H1.1.1.k _ rfl | exact H2.1.1.k _ rfl | exact H3.1.1.k _ rfl | exact H4.1.1.k _ rfl | exact H5.1.1.k _ rfl) (by decide) rfl (Nat.le_of_ble_eq_true rfl) ⟨by show 3 + 1 ≤ 55; omega, by show 64 + 64 * (3) ≤ 64 * (55); omega⟩ ⟨Nat.le_refl _, Nat.le_refl _⟩ ?_
        refine c_atEndY H1 (x1 _ h0.2.2) (by rw [fx_app, List.length_append, List.length_append]; omega) gl (fun w2 B2 t2 f2 x2 => ?_)
        rw [cz_id, skp_id]
        rw [cz_id] at x2
        refine V_iret (sx_di dX12_readLaw 24 rfl) rfl (Nat.le_refl _) (Nat.le_refl _) ?_
        by_cases c : cz_ T (cla_ T p).2.2 = -1
        · rw [if_pos c] at h ⊢
          refine h w2 B2 t2 (fN_tr (fM_fN f1) (fM_fN f2)) (fun _ => ⟨?_, tb8_fM f2 (tb8_fM f1 h0.2.1), x2 c⟩)
          rw [f2.2.1 386 (by decide) (by decide) (by decide) (by decide), f1.2.1 386 (by decide) (by decide) (by decide) (by decide)]; exact h0.1
        · rw [if_neg c, if_neg h23] at h
          rw [if_neg c]
          exact h w2 B2 t2 (fN_tr (fM_fN f1) (fM_fN f2)) (fun z => absurd z Bool.false_ne_true)
      · rw [if_neg (by rw [h23]; decide), if_pos h23] at h
        have z1 := cz_p1 h23 (by decide)
        refine V_aload_n (i := 0) (sx_di dX12_readLaw 13 rfl) rfl rfl ?_
        refine V_dup (sx_di dX12_readLaw 14 rfl) rfl ?_
        refine V_getI (sx_di dX12_readLaw 15 rfl) fX12_109 (fun _ => rfl) (by first | exact H.1.k _ rfl | exact H0.1.k _ rfl | exact H1.1.k _ rfl | exact H2.1.k _ rfl | exact H3.1.k _ rfl | exact H4.1.k _ rfl | exact H5.1.k _ rfl | exact H.1.1.k _ rfl | exact H0.1.1.k _ rfl | exact H1.1.1.k _ rfl | exact H2.1.1.k _ rfl | exact H3.1.1.k _ rfl | exact H4.1.1.k _ rfl | exact H5.1.1.k _ rfl) ?_
        refine V_iconst (v := 1) (sx_di dX12_readLaw 16 rfl) (by decide) ?_
        refine V_iadd (sx_di dX12_readLaw 17 rfl) ?_
        refine V_putI (sx_di dX12_readLaw 18 rfl) fX12_109 (fun _ => rfl) rfl (by first | exact H.1.k _ rfl | exact H0.1.k _ rfl | exact H1.1.k _ rfl | exact H2.1.k _ rfl | exact H3.1.k _ rfl | exact H4.1.k _ rfl | exact H5.1.k _ rfl | exact H.1.1.k _ rfl | exact H0.1.1.k _ rfl | exact H1.1.1.k _ rfl | exact H2.1.1.k _ rfl | exact H3.1.1.k _ rfl | exact H4.1.1.k _ rfl | exact H5.1.1.k _ rfl) (rfl) (rfl) ?_
        refine V_at9 H1 (fun w2 H2 f2 x2 => ?_)
        refine V_aload_n (i := 0) (sx_di dX12_readLaw 19 rfl) rfl rfl ?_
        refine V_cV0 (mc' := 0) (ms' := 0) (M' := mX12_clause) 54 (sx_di dX12_readLaw 20 rfl) lX12_183 vX12_clause (by first | exact H.1.k _ rfl | exact H0.1.k _ rfl | exact H1.1.k _ rfl | exact H2.1.k _ rfl | exact H3.1.k _ rfl | exact H4.1.k _ rfl | exact H5.1.k _ rfl | exact H.1.1.k _ rfl | exact H0.1.1.k _ rfl | exact H1.1.1.k _ rfl | exact H2.1.1.k _ rfl | exact H3.1.1.k _ rfl | exact H4.1.1.k _ rfl | exact H5.1.1.k _ rfl) (by decide) rfl (Nat.le_of_ble_eq_true rfl) ⟨by show 54 + 1 ≤ 55; omega, by show 64 + 64 * (54) ≤ 64 * (55); omega⟩ ⟨Nat.le_refl _, Nat.le_refl _⟩ ?_
        refine c_clause9 (Z := (Z ++ [(cla_ T p).2.1])) hn (by rw [List.length_append, List.length_singleton]; omega) H2 ⟨?_, tb8_fM f2 (tb8_fM f1 h0.2.1), x2 _ (x1 _ h0.2.2)⟩ (by rw [fx_app, List.length_append, List.length_append]; omega) z1 (fun w3 H3 f3 => ?_)
        · rw [f2.2.1 386 (by decide) (by decide) (by decide) (by decide), f1.2.1 386 (by decide) (by decide) (by decide) (by decide)]; exact h0.1
        refine V_goto (tgt := 9) (sx_di dX12_readLaw 21 rfl) (by decide) ?_
        refine V_sub (ls' := [(0, .ref 381)]) ⟨rfl, trivial⟩ ?_
        exact ih (Z ++ [(cla_ T p).2.1]) (skp_ T (cla_ T p).2.2 + 1) w3 z1 (by rw [List.length_append, List.length_singleton]; omega) (by rw [fx_app, List.length_append, List.length_append]; omega) (by omega) H3 (fun w4 B4 t4 f4 s4 => h w4 B4 t4 (fN_tr (fM_fN f1) (fN_tr (fM_fN f2) (fN_tr f3 f4))) s4)
set_option maxHeartbeats 2000000 in
set_option maxRecDepth 20000 in
theorem c_rdLawR {E : sxE} {T : List Int32} {n : Nat} {w : hpW} {Q : Option Value → hpW → Prop} (hn : n < 5) (hB : ly_B w) (hT : tp_ w 381 2 382 T) (h : ∀ w', ly_B w' → tp_ w' 381 2 382 T → fO n w w' → ((law9 T).1 = true → rl_ (hp_i w') n (law9 T).2.1) → Q (some (.int (lres (law9 T)))) w') : sx_C E mX12_readLaw 55 0 0 [.ref 381, .int (nI n)] w Q := by
  have hT1 := hT.1
  have e9 : ∀ b j, ¬ (b = 381 ∧ (j = 14 ∨ j = 3 ∨ j = 4 ∨ j = 5)) → ¬ (b = 385 ∧ j = n) → ¬ (b = 386 ∧ j = n) → hp_i (hp_si (hp_si (hp_si (hp_si (hp_si (hp_si w 381 14 (nI n)) 381 3 0) 381 4 (-1)) 381 5 0) 385 n 0) 386 n 0) b j = hp_i w b j := fun b j h1 h2 h3 => by
    rw [si_p h3, si_p h2, si_p (fun z => h1 ⟨z.1, by omega⟩), si_p (fun z => h1 ⟨z.1, by omega⟩), si_p (fun z => h1 ⟨z.1, by omega⟩), si_p (fun z => h1 ⟨z.1, by omega⟩)]
  have H1 : rrP T n 0 0 (hp_si (hp_si (hp_si (hp_si (hp_si (hp_si w 381 14 (nI n)) 381 3 0) 381 4 (-1)) 381 5 0) 385 n 0) 386 n 0) := by
    refine ⟨hB, ⟨hT.1, (e9 381 2 (by omega) (by omega) (by omega)).trans hT.2.1, fun j hj => (e9 382 j (by omega) (by omega) (by omega)).trans (hT.2.2 j hj)⟩, ?_, ?_, ?_, ?_⟩
    · rw [si_p (by omega), si_p (by omega), si_p (by omega), si_p (by omega), si_p (by omega), hp_i_si, if_pos ⟨rfl, rfl⟩]
    · rw [si_p (by omega), si_p (by omega), si_p (by omega), hp_i_si, if_pos ⟨rfl, rfl⟩]
    · rw [si_p (by omega), si_p (by omega), si_p (by omega), si_p (by omega), hp_i_si, if_pos ⟨rfl, rfl⟩]; rfl
    · rw [si_p (by omega), si_p (by omega), hp_i_si, if_pos ⟨rfl, rfl⟩]; rfl
  have s1 : rwS n [] (hp_si (hp_si (hp_si (hp_si (hp_si (hp_si w 381 14 (nI n)) 381 3 0) 381 4 (-1)) 381 5 0) 385 n 0) 386 n 0) := ⟨by rw [hp_i_si, if_pos ⟨rfl, rfl⟩]; rfl, fun c q hq => absurd hq (by simp), by rw [si_p (by omega), hp_i_si, if_pos ⟨rfl, rfl⟩]; rfl, fun j hj => absurd hj (Nat.not_lt_zero j)⟩
  refine C_of (by decide +kernel) (Nat.le_of_ble_eq_true rfl) ?_
  refine V_aload_n (i := 0) (sx_di dX12_readLaw 0 rfl) rfl rfl ?_
  refine V_iload_n (i := 1) (sx_di dX12_readLaw 1 rfl) rfl rfl ?_
  refine V_cV1 (mc' := 0) (ms' := 0) (M' := mX12_open) 1 (sx_di dX12_readLaw 2 rfl) lX12_180 vX12_open (by first | exact hB.k _ rfl | exact H1.1.k _ rfl) (by decide) rfl (Nat.le_of_ble_eq_true rfl) ⟨by show 1 + 1 ≤ 55; omega, by show 64 + 64 * (1) ≤ 64 * (55); omega⟩ ⟨Nat.le_refl _, Nat.le_refl _⟩ ?_
  refine c_X12_open hB hn ?_
  refine V_aload_n (i := 0) (sx_di dX12_readLaw 3 rfl) rfl rfl ?_
  refine V_cV0 (mc' := 0) (ms' := 0) (M' := mX12_clause) 54 (sx_di dX12_readLaw 4 rfl) lX12_183 vX12_clause (by first | exact hB.k _ rfl | exact H1.1.k _ rfl) (by decide) rfl (Nat.le_of_ble_eq_true rfl) ⟨by show 54 + 1 ≤ 55; omega, by show 64 + 64 * (54) ≤ 64 * (55); omega⟩ ⟨Nat.le_refl _, Nat.le_refl _⟩ ?_
  refine c_clause9 (Z := []) hn (by decide) H1 s1 (Nat.le_refl _) (Nat.zero_le _) (fun w2 H2 f2 => ?_)
  refine V_sub (ls' := [(0, .ref 381)]) ⟨rfl, trivial⟩ ?_
  refine rr_lp hn hT1 (T.length + 1) [] 0 w2 (Nat.zero_le _) (Nat.le_refl _) (Nat.le_refl _) (by omega) H2 (fun w3 B3 t3 f3 s3 => ?_)
  have f9 := fN_tr f2 f3
  refine h w3 B3 t3 ⟨?_, fun b h1 h2 => ?_, fun j h1 h2 h3 h4 => ?_, fun j hj => ?_, fun j hj => ?_, fun j hj => ?_⟩ (fun z => rwS_rl (s3 z) ((law9_ok hT1).1 z))
  · rw [f9.1]; rfl
  · rw [f9.2.1 b h1 h2]
    funext j
    exact e9 b j (by omega) (by omega) (by omega)
  · rw [f9.2.2.1 j h1 h2 h3]
    exact e9 381 j (by omega) (by omega) (by omega)
  · rw [(f9.2.2.2.1 j hj).1, (f9.2.2.2.1 j hj).2]
    exact ⟨e9 383 j (by omega) (by omega) (by omega), e9 384 j (by omega) (by omega) (by omega)⟩
  · rw [(f9.2.2.2.2.1 j hj).1, (f9.2.2.2.2.1 j hj).2]
    exact ⟨e9 385 j (by omega) (by omega) (by omega), e9 386 j (by omega) (by omega) (by omega)⟩
  · rw [(f9.2.2.2.2.2 j hj).1, (f9.2.2.2.2.2 j hj).2.1, (f9.2.2.2.2.2 j hj).2.2]
    exact ⟨e9 387 j (by omega) (by omega) (by omega), e9 388 j (by omega) (by omega) (by omega), e9 389 j (by omega) (by omega) (by omega)⟩

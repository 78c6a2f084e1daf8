/-! text: the reference -/
/-- the first k of row b have been copied to row a -/
def cy9 (a b k : Nat) (w w' : hpW) : Prop := w' = hp_wi w (hp_i w') ∧ (∀ c, c ≠ a → hp_i w' c = hp_i w c) ∧ ∀ j, j < k → hp_i w' a j = hp_i w b j
set_option maxHeartbeats 2000000 in
set_option maxRecDepth 20000 in
theorem tk_1 {E : sxE} {w : hpW} {Q : Option Value → hpW → Prop} (hB : ly_B w) (h : ∀ w', cy9 395 392 4 w w' → V E mX12_takeStreet (sx_rm 3 0 0) 0 0 0 0 41 [(0, .ref 381)] [] w' Q) : ∀ d k w1, k + d = 4 → cy9 395 392 k w w1 → V E mX12_takeStreet (sx_rm 3 0 0) 0 0 0 0 18 [(1, .int (nI k)), (0, .ref 381)] [] w1 Q := by
  intro d
  induction d with
  | zero =>
    intro k w1 hk C
    have e : k = 4 := by omega
    subst e
    have B1 : ly_B w1 := by rw [C.1]; exact ly_wi hB _
    refine V_iload_n (i := 1) (sx_di dX12_takeStreet 10 rfl) rfl rfl ?_
    refine V_iconst (v := 4) (sx_di dX12_takeStreet 11 rfl) (by decide) ?_
    refine V_icN_ge (a := 4) (b := 4) (rfl) (rfl) (by omega) (by omega) (tgt := 41) (sx_di dX12_takeStreet 12 rfl) (by decide) (fun _ => ?_) (fun h20 => absurd h20 (by omega))
    refine V_sub (ls' := [(0, .ref 381)]) ⟨rfl, trivial⟩ ?_
    exact h w1 C
  | succ d ih =>
    intro k w1 hk C
    have B1 : ly_B w1 := by rw [C.1]; exact ly_wi hB _
    have ev : hp_i w1 392 k = hp_i w 392 k := congrFun (C.2.1 392 (by decide)) k
    have q1 : _ := ih (k + 1) (hp_si w1 395 k (hp_i w 392 k)) (by omega) ⟨by rw [C.1]; rfl, fun c hc => ?_, fun j hj => ?_⟩
    · rw [← nI_1 (a := k)] at q1
      refine V_iload_n (i := 1) (sx_di dX12_takeStreet 10 rfl) rfl rfl ?_
      refine V_iconst (v := 4) (sx_di dX12_takeStreet 11 rfl) (by decide) ?_
      refine V_icN_ge (a := k) (b := 4) (rfl) (rfl) (by omega) (by omega) (tgt := 41) (sx_di dX12_takeStreet 12 rfl) (by decide) (fun h20 => absurd h20 (by omega)) (fun _ => ?_)
      refine V_aload_n (i := 0) (sx_di dX12_takeStreet 13 rfl) rfl rfl ?_
      refine V_getR (sx_di dX12_takeStreet 14 rfl) fX12_49 (fun _ => rfl) (B1.k _ rfl) (B1.r _ _ rfl) ?_
      refine V_iload_n (i := 1) (sx_di dX12_takeStreet 15 rfl) rfl rfl ?_
      refine V_aload_n (i := 0) (sx_di dX12_takeStreet 16 rfl) rfl rfl ?_
      refine V_getR (sx_di dX12_takeStreet 17 rfl) fX12_40 (fun _ => rfl) (B1.k _ rfl) (B1.r _ _ rfl) ?_
      refine V_iload_n (i := 1) (sx_di dX12_takeStreet 18 rfl) rfl rfl ?_
      refine V_ialdN (n := 4) (j := k) (sx_di dX12_takeStreet 19 rfl) (B1.k _ rfl) (rfl) (by omega) (by omega) ?_
      refine V_iv (y := hp_i w 392 k) (ev) ?_
      refine V_iastN (n := 4) (j := k) (sx_di dX12_takeStreet 20 rfl) (B1.k _ rfl) (rfl) (by omega) (by omega) ?_
      refine V_inc (c := 1) (sx_di dX12_takeStreet 21 rfl) (by decide) rfl (by decide) (rfl) ?_
      refine V_goto (tgt := 18) (sx_di dX12_takeStreet 22 rfl) (by decide) ?_
      exact V_subk q1 ⟨rfl, rfl, trivial⟩
    · rw [← C.2.1 c hc]
      funext j
      exact si_p (by omega)
    · by_cases e : j = k
      · subst e
        rw [hp_i_si, if_pos ⟨rfl, rfl⟩]
      · rw [si_p (by omega)]
        exact C.2.2 j (by omega)
set_option maxHeartbeats 2000000 in
set_option maxRecDepth 20000 in
theorem tk_2 {E : sxE} {w : hpW} {Q : Option Value → hpW → Prop} (hB : ly_B w) (h : ∀ w', cy9 396 393 32 w w' → V E mX12_takeStreet (sx_rm 3 0 0) 0 0 0 0 67 [(0, .ref 381)] [] w' Q) : ∀ d k w1, k + d = 32 → cy9 396 393 k w w1 → V E mX12_takeStreet (sx_rm 3 0 0) 0 0 0 0 43 [(1, .int (nI k)), (0, .ref 381)] [] w1 Q := by
  intro d
  induction d with
  | zero =>
    intro k w1 hk C
    have e : k = 32 := by omega
    subst e
    have B1 : ly_B w1 := by rw [C.1]; exact ly_wi hB _
    refine V_iload_n (i := 1) (sx_di dX12_takeStreet 25 rfl) rfl rfl ?_
    refine V_bipush (v := 32) (sx_di dX12_takeStreet 26 rfl) (by decide) ?_
    refine V_icN_ge (a := 32) (b := 32) (rfl) (rfl) (by omega) (by omega) (tgt := 67) (sx_di dX12_takeStreet 27 rfl) (by decide) (fun _ => ?_) (fun h46 => absurd h46 (by omega))
    refine V_sub (ls' := [(0, .ref 381)]) ⟨rfl, trivial⟩ ?_
    exact h w1 C
  | succ d ih =>
    intro k w1 hk C
    have B1 : ly_B w1 := by rw [C.1]; exact ly_wi hB _
    have ev : hp_i w1 393 k = hp_i w 393 k := congrFun (C.2.1 393 (by decide)) k
    have q1 : _ := ih (k + 1) (hp_si w1 396 k (hp_i w 393 k)) (by omega) ⟨by rw [C.1]; rfl, fun c hc => ?_, fun j hj => ?_⟩
    · rw [← nI_1 (a := k)] at q1
      refine V_iload_n (i := 1) (sx_di dX12_takeStreet 25 rfl) rfl rfl ?_
      refine V_bipush (v := 32) (sx_di dX12_takeStreet 26 rfl) (by decide) ?_
      refine V_icN_ge (a := k) (b := 32) (rfl) (rfl) (by omega) (by omega) (tgt := 67) (sx_di dX12_takeStreet 27 rfl) (by decide) (fun h46 => absurd h46 (by omega)) (fun _ => ?_)
      refine V_aload_n (i := 0) (sx_di dX12_takeStreet 28 rfl) rfl rfl ?_
      refine V_getR (sx_di dX12_takeStreet 29 rfl) fX12_52 (fun _ => rfl) (B1.k _ rfl) (B1.r _ _ rfl) ?_
      refine V_iload_n (i := 1) (sx_di dX12_takeStreet 30 rfl) rfl rfl ?_
      refine V_aload_n (i := 0) (sx_di dX12_takeStreet 31 rfl) rfl rfl ?_
      refine V_getR (sx_di dX12_takeStreet 32 rfl) fX12_43 (fun _ => rfl) (B1.k _ rfl) (B1.r _ _ rfl) ?_
      refine V_iload_n (i := 1) (sx_di dX12_takeStreet 33 rfl) rfl rfl ?_
      refine V_ialdN (n := 32) (j := k) (sx_di dX12_takeStreet 34 rfl) (B1.k _ rfl) (rfl) (by omega) (by omega) ?_
      refine V_iv (y := hp_i w 393 k) (ev) ?_
      refine V_iastN (n := 32) (j := k) (sx_di dX12_takeStreet 35 rfl) (B1.k _ rfl) (rfl) (by omega) (by omega) ?_
      refine V_inc (c := 1) (sx_di dX12_takeStreet 36 rfl) (by decide) rfl (by decide) (rfl) ?_
      refine V_goto (tgt := 43) (sx_di dX12_takeStreet 37 rfl) (by decide) ?_
      exact V_subk q1 ⟨rfl, rfl, trivial⟩
    · rw [← C.2.1 c hc]
      funext j
      exact si_p (by omega)
    · by_cases e : j = k
      · subst e
        rw [hp_i_si, if_pos ⟨rfl, rfl⟩]
      · rw [si_p (by omega)]
        exact C.2.2 j (by omega)
set_option maxHeartbeats 2000000 in
set_option maxRecDepth 20000 in
theorem tk_3 {E : sxE} {w : hpW} {Q : Option Value → hpW → Prop} (hB : ly_B w) (h : ∀ w', cy9 397 394 12 w w' → V E mX12_takeStreet (sx_rm 3 0 0) 0 0 0 0 93 [(0, .ref 381)] [] w' Q) : ∀ d k w1, k + d = 12 → cy9 397 394 k w w1 → V E mX12_takeStreet (sx_rm 3 0 0) 0 0 0 0 69 [(1, .int (nI k)), (0, .ref 381)] [] w1 Q := by
  intro d
  induction d with
  | zero =>
    intro k w1 hk C
    have e : k = 12 := by omega
    subst e
    have B1 : ly_B w1 := by rw [C.1]; exact ly_wi hB _
    refine V_iload_n (i := 1) (sx_di dX12_takeStreet 40 rfl) rfl rfl ?_
    refine V_bipush (v := 12) (sx_di dX12_takeStreet 41 rfl) (by decide) ?_
    refine V_icN_ge (a := 12) (b := 12) (rfl) (rfl) (by omega) (by omega) (tgt := 93) (sx_di dX12_takeStreet 42 rfl) (by decide) (fun _ => ?_) (fun h72 => absurd h72 (by omega))
    refine V_sub (ls' := [(0, .ref 381)]) ⟨rfl, trivial⟩ ?_
    exact h w1 C
  | succ d ih =>
    intro k w1 hk C
    have B1 : ly_B w1 := by rw [C.1]; exact ly_wi hB _
    have ev : hp_i w1 394 k = hp_i w 394 k := congrFun (C.2.1 394 (by decide)) k
    have q1 : _ := ih (k + 1) (hp_si w1 397 k (hp_i w 394 k)) (by omega) ⟨by rw [C.1]; rfl, fun c hc => ?_, fun j hj => ?_⟩
    · rw [← nI_1 (a := k)] at q1
      refine V_iload_n (i := 1) (sx_di dX12_takeStreet 40 rfl) rfl rfl ?_
      refine V_bipush (v := 12) (sx_di dX12_takeStreet 41 rfl) (by decide) ?_
      refine V_icN_ge (a := k) (b := 12) (rfl) (rfl) (by omega) (by omega) (tgt := 93) (sx_di dX12_takeStreet 42 rfl) (by decide) (fun h72 => absurd h72 (by omega)) (fun _ => ?_)
      refine V_aload_n (i := 0) (sx_di dX12_takeStreet 43 rfl) rfl rfl ?_
      refine V_getR (sx_di dX12_takeStreet 44 rfl) fX12_55 (fun _ => rfl) (B1.k _ rfl) (B1.r _ _ rfl) ?_
      refine V_iload_n (i := 1) (sx_di dX12_takeStreet 45 rfl) rfl rfl ?_
      refine V_aload_n (i := 0) (sx_di dX12_takeStreet 46 rfl) rfl rfl ?_
      refine V_getR (sx_di dX12_takeStreet 47 rfl) fX12_46 (fun _ => rfl) (B1.k _ rfl) (B1.r _ _ rfl) ?_
      refine V_iload_n (i := 1) (sx_di dX12_takeStreet 48 rfl) rfl rfl ?_
      refine V_ialdN (n := 12) (j := k) (sx_di dX12_takeStreet 49 rfl) (B1.k _ rfl) (rfl) (by omega) (by omega) ?_
      refine V_iv (y := hp_i w 394 k) (ev) ?_
      refine V_iastN (n := 12) (j := k) (sx_di dX12_takeStreet 50 rfl) (B1.k _ rfl) (rfl) (by omega) (by omega) ?_
      refine V_inc (c := 1) (sx_di dX12_takeStreet 51 rfl) (by decide) rfl (by decide) (rfl) ?_
      refine V_goto (tgt := 69) (sx_di dX12_takeStreet 52 rfl) (by decide) ?_
      exact V_subk q1 ⟨rfl, rfl, trivial⟩
    · rw [← C.2.1 c hc]
      funext j
      exact si_p (by omega)
    · by_cases e : j = k
      · subst e
        rw [hp_i_si, if_pos ⟨rfl, rfl⟩]
      · rw [si_p (by omega)]
        exact C.2.2 j (by omega)
set_option maxHeartbeats 2000000 in
set_option maxRecDepth 20000 in
theorem k_take {E : sxE} {A : AS} {w : hpW} {x : srT} {Q : Option Value → hpW → Prop} (VA : AV A) (hB : ly_B w) (h0 : hp_i w 381 2 = nI 0) (hL : Rlaws (hp_i w) (a_W A) (a_h A)) (hr9 : hp_i w 398 = a_r A) (hc9 : ∀ j, j < 5 → hp_i w 399 j = a_c A j) (hd9 : hp_i w 381 30 = a_d A) (hq : sR9 x w) (hx : sok x) (h : ∀ w', RR (pt_N A x.2.1 x.2.2.1 x.2.2.2) w' → fC w w' → Q (some (.int (nI x.2.1))) w') : sx_C E mX12_takeStreet 3 0 0 [.ref 381] w Q := by
  have cs := hq.2.2
  have n8 := hx.1
  have m6 := hx.2.1
  have hB0 : ly_B (hp_si (hp_si w 381 25 (nI x.2.1)) 381 26 (nI x.2.2.1)) := hB
  have e0 : ∀ b j, ¬ (b = 381 ∧ j = 25) → ¬ (b = 381 ∧ j = 26) → hp_i (hp_si (hp_si w 381 25 (nI x.2.1)) 381 26 (nI x.2.2.1)) b j = hp_i w b j := fun b j z1 z2 => by rw [si_p z2, si_p z1]
  have n25 : hp_i (hp_si (hp_si w 381 25 (nI x.2.1)) 381 26 (nI x.2.2.1)) 381 25 = nI x.2.1 := by rw [si_p (by omega), hp_i_si, if_pos ⟨rfl, rfl⟩]
  have m26 : hp_i (hp_si (hp_si w 381 25 (nI x.2.1)) 381 26 (nI x.2.2.1)) 381 26 = nI x.2.2.1 := by rw [hp_i_si, if_pos ⟨rfl, rfl⟩]
  have kn : hp_n (hp_si (hp_si w 381 25 (nI x.2.1)) 381 26 (nI x.2.2.1)) = hp_n w ∧ hp_k (hp_si (hp_si w 381 25 (nI x.2.1)) 381 26 (nI x.2.2.1)) = hp_k w ∧ hp_r (hp_si (hp_si w 381 25 (nI x.2.1)) 381 26 (nI x.2.2.1)) = hp_r w ∧ hp_j (hp_si (hp_si w 381 25 (nI x.2.1)) 381 26 (nI x.2.2.1)) = hp_j w := ⟨rfl, rfl, rfl, rfl⟩
  refine C_of (by decide +kernel) (Nat.le_of_ble_eq_true rfl) ?_
  refine V_aload_n (i := 0) (sx_di dX12_takeStreet 0 rfl) rfl rfl ?_
  refine V_aload_n (i := 0) (sx_di dX12_takeStreet 1 rfl) rfl rfl ?_
  refine V_getI (sx_di dX12_takeStreet 2 rfl) fX12_238 (fun _ => rfl) (by first | exact hB.k _ rfl | exact hB0.k _ rfl) ?_
  refine V_iv (y := nI x.2.1) (hq.1) ?_
  refine V_putI (sx_di dX12_takeStreet 3 rfl) fX12_258 (fun _ => rfl) rfl (by first | exact hB.k _ rfl | exact hB0.k _ rfl) (rfl) (rfl) ?_
  refine V_aload_n (i := 0) (sx_di dX12_takeStreet 4 rfl) rfl rfl ?_
  refine V_aload_n (i := 0) (sx_di dX12_takeStreet 5 rfl) rfl rfl ?_
  refine V_getI (sx_di dX12_takeStreet 6 rfl) fX12_241 (fun _ => rfl) (by first | exact hB.k _ rfl | exact hB0.k _ rfl) ?_
  refine V_iv (y := nI x.2.2.1) ((si_p (by omega)).trans hq.2.1) ?_
  refine V_putI (sx_di dX12_takeStreet 7 rfl) fX12_264 (fun _ => rfl) rfl (by first | exact hB.k _ rfl | exact hB0.k _ rfl) (rfl) (rfl) ?_
  refine V_iconst (v := 0) (sx_di dX12_takeStreet 8 rfl) (by decide) ?_
  refine V_istore_n (i := 1) (sx_di dX12_takeStreet 9 rfl) rfl (by decide) (rfl) ?_
  refine V_sub (ls' := [(1, .int (nI 0)), (0, .ref 381)]) ⟨rfl, rfl, trivial⟩ ?_
  generalize hp_si (hp_si w 381 25 (nI x.2.1)) 381 26 (nI x.2.2.1) = w0 at hB0 e0 n25 m26 kn ⊢
  refine tk_1 hB0 (fun w1 C1 => ?_) 4 0 w0 rfl ⟨rfl, fun _ _ => rfl, fun j hj => absurd hj (Nat.not_lt_zero j)⟩
  have B1 : ly_B w1 := by rw [C1.1]; exact ly_wi hB0 _
  refine V_iconst (v := 0) (sx_di dX12_takeStreet 23 rfl) (by decide) ?_
  refine V_istore_n (i := 1) (sx_di dX12_takeStreet 24 rfl) rfl (by decide) (rfl) ?_
  refine V_sub (ls' := [(1, .int (nI 0)), (0, .ref 381)]) ⟨rfl, rfl, trivial⟩ ?_
  refine tk_2 B1 (fun w2 C2 => ?_) 32 0 w1 rfl ⟨rfl, fun _ _ => rfl, fun j hj => absurd hj (Nat.not_lt_zero j)⟩
  have B2 : ly_B w2 := by rw [C2.1]; exact ly_wi B1 _
  refine V_iconst (v := 0) (sx_di dX12_takeStreet 38 rfl) (by decide) ?_
  refine V_istore_n (i := 1) (sx_di dX12_takeStreet 39 rfl) rfl (by decide) (rfl) ?_
  refine V_sub (ls' := [(1, .int (nI 0)), (0, .ref 381)]) ⟨rfl, rfl, trivial⟩ ?_
  refine tk_3 B2 (fun w3 C3 => ?_) 12 0 w2 rfl ⟨rfl, fun _ _ => rfl, fun j hj => absurd hj (Nat.not_lt_zero j)⟩
  have B3 : ly_B w3 := by rw [C3.1]; exact ly_wi B2 _
  have o3 : ∀ b, b ≠ 395 → b ≠ 396 → b ≠ 397 → hp_i w3 b = hp_i w0 b := fun b z1 z2 z3 => (C3.2.1 b z3).trans ((C2.2.1 b z2).trans (C1.2.1 b z1))
  have r395 : ∀ j, j < 4 → hp_i w3 395 j = x.2.2.2 j := fun j hj => by rw [C3.2.1 395 (by decide), C2.2.1 395 (by decide), C1.2.2 j hj, e0 392 j (by omega) (by omega), RS_r hj]; exact cs.1 j hj
  have r396 : ∀ j, j < 4 * x.2.1 → hp_i w3 396 j = x.2.2.2 (4 + j) := fun j hj => by rw [C3.2.1 396 (by decide), C2.2.2 j (by omega), C1.2.1 393 (by decide), e0 393 j (by omega) (by omega), RS_h (by omega)]; exact cs.2.1 j hj
  have r397 : ∀ j, j < 2 * x.2.2.1 → hp_i w3 397 j = x.2.2.2 (36 + j) := fun j hj => by rw [C3.2.2 j (by omega), C2.2.1 394 (by decide), C1.2.1 394 (by decide), e0 394 j (by omega) (by omega), RS_f]; exact cs.2.2 j hj
  have k3 : hp_n w3 = hp_n w ∧ hp_k w3 = hp_k w ∧ hp_r w3 = hp_r w ∧ hp_j w3 = hp_j w := by
    rw [C3.1, C2.1, C1.1]
    exact kn
  have n3 : hp_i w3 381 25 = nI x.2.1 := by rw [o3 381 (by decide) (by decide) (by decide)]; exact n25
  have r398 : hp_i w3 398 = a_r A := by
    rw [o3 398 (by decide) (by decide) (by decide)]
    funext j
    rw [e0 398 j (by omega) (by omega), hr9]
  refine V_aload_n (i := 0) (sx_di dX12_takeStreet 53 rfl) rfl rfl ?_
  refine V_cV0 (mc' := 0) (ms' := 0) (M' := mX12_begin) 2 (sx_di dX12_takeStreet 54 rfl) lX12_267 vX12_begin (by first | exact B3.k _ rfl | exact vB.k _ rfl) (by decide) rfl (Nat.le_of_ble_eq_true rfl) ⟨Nat.le_of_ble_eq_true rfl, Nat.le_of_ble_eq_true rfl⟩ ⟨Nat.le_refl _, Nat.le_refl _⟩ ?_
  refine c_X12_begin B3 n3 n8 r395 r396 ?_
  have vB : ly_B (hp_wi w3 (h98 (hp_i w3) (bg_ x.2.2.2 x.2.1 (hp_i w3 398)))) := ly_wi B3 _
  have v98 : hp_i (hp_wi w3 (h98 (hp_i w3) (bg_ x.2.2.2 x.2.1 (hp_i w3 398)))) 398 = bg_ x.2.2.2 x.2.1 (a_r A) := by
    show h98 (hp_i w3) (bg_ x.2.2.2 x.2.1 (hp_i w3 398)) 398 = _
    rw [r398]
    exact if_pos rfl
  have vo : ∀ b, b ≠ 398 → hp_i (hp_wi w3 (h98 (hp_i w3) (bg_ x.2.2.2 x.2.1 (hp_i w3 398)))) b = hp_i w3 b := fun b hb => h98_o _ _ hb
  have vn : hp_n (hp_wi w3 (h98 (hp_i w3) (bg_ x.2.2.2 x.2.1 (hp_i w3 398)))) = hp_n w ∧ hp_k (hp_wi w3 (h98 (hp_i w3) (bg_ x.2.2.2 x.2.1 (hp_i w3 398)))) = hp_k w ∧ hp_r (hp_wi w3 (h98 (hp_i w3) (bg_ x.2.2.2 x.2.1 (hp_i w3 398)))) = hp_r w ∧ hp_j (hp_wi w3 (h98 (hp_i w3) (bg_ x.2.2.2 x.2.1 (hp_i w3 398)))) = hp_j w := k3
  generalize hp_wi w3 (h98 (hp_i w3) (bg_ x.2.2.2 x.2.1 (hp_i w3 398))) = v at vB v98 vo vn ⊢
  refine V_aload_n (i := 0) (sx_di dX12_takeStreet 55 rfl) rfl rfl ?_
  refine V_getR (sx_di dX12_takeStreet 56 rfl) fX12_58 (fun _ => rfl) (by first | exact B3.k _ rfl | exact vB.k _ rfl) (by first | exact B3.r _ _ rfl | exact vB.r _ _ rfl) ?_
  refine V_bipush (v := 45) (sx_di dX12_takeStreet 57 rfl) (by decide) ?_
  refine V_iconst (v := 0) (sx_di dX12_takeStreet 58 rfl) (by decide) ?_
  refine V_iastN (n := 226) (j := 45) (sx_di dX12_takeStreet 59 rfl) (by first | exact B3.k _ rfl | exact vB.k _ rfl) (rfl) (by omega) (by omega) ?_
  refine V_aload_n (i := 0) (sx_di dX12_takeStreet 60 rfl) rfl rfl ?_
  refine V_iconst (v := 0) (sx_di dX12_takeStreet 61 rfl) (by decide) ?_
  refine V_putI (sx_di dX12_takeStreet 62 rfl) fX12_270 (fun _ => rfl) rfl (by first | exact B3.k _ rfl | exact vB.k _ rfl) (rfl) (rfl) ?_
  refine V_aload_n (i := 0) (sx_di dX12_takeStreet 63 rfl) rfl rfl ?_
  refine V_iconst (v := 0) (sx_di dX12_takeStreet 64 rfl) (by decide) ?_
  refine V_putI (sx_di dX12_takeStreet 65 rfl) fX12_273 (fun _ => rfl) rfl (by first | exact B3.k _ rfl | exact vB.k _ rfl) (rfl) (rfl) ?_
  refine V_aload_n (i := 0) (sx_di dX12_takeStreet 66 rfl) rfl rfl ?_
  refine V_iconst (v := 0) (sx_di dX12_takeStreet 67 rfl) (by decide) ?_
  refine V_putI (sx_di dX12_takeStreet 68 rfl) fX12_276 (fun _ => rfl) rfl (by first | exact B3.k _ rfl | exact vB.k _ rfl) (rfl) (rfl) ?_
  refine V_aload_n (i := 0) (sx_di dX12_takeStreet 69 rfl) rfl rfl ?_
  refine V_iconst (v := 0) (sx_di dX12_takeStreet 70 rfl) (by decide) ?_
  refine V_putI (sx_di dX12_takeStreet 71 rfl) fX12_279 (fun _ => rfl) rfl (by first | exact B3.k _ rfl | exact vB.k _ rfl) (rfl) (rfl) ?_
  refine V_aload_n (i := 0) (sx_di dX12_takeStreet 72 rfl) rfl rfl ?_
  refine V_getI (sx_di dX12_takeStreet 73 rfl) fX12_258 (fun _ => rfl) (by first | exact B3.k _ rfl | exact vB.k _ rfl) ?_
  refine V_iv (y := nI x.2.1) (by rw [si_p (by omega), si_p (by omega), si_p (by omega), si_p (by omega), si_p (by omega), vo 381 (by decide)]; exact n3) ?_
  refine V_iret (sx_di dX12_takeStreet 74 rfl) rfl (Nat.le_refl _) (Nat.le_refl _) ?_
  have eE : ∀ b j, ¬ (b = 398 ∧ j = 45) → ¬ (b = 381 ∧ (j = 40 ∨ j = 45 ∨ j = 32 ∨ j = 47)) → hp_i (hp_si (hp_si (hp_si (hp_si (hp_si v 398 45 0) 381 40 0) 381 45 0) 381 32 0) 381 47 0) b j = hp_i v b j := fun b j z1 z2 => by
    rw [si_p (by omega), si_p (by omega), si_p (by omega), si_p (by omega), si_p z1]
  have eW : ∀ b j, b ≠ 395 → b ≠ 396 → b ≠ 397 → b ≠ 398 → ¬ (b = 381 ∧ (j = 40 ∨ j = 45 ∨ j = 32 ∨ j = 47 ∨ j = 25 ∨ j = 26)) → hp_i (hp_si (hp_si (hp_si (hp_si (hp_si v 398 45 0) 381 40 0) 381 45 0) 381 32 0) 381 47 0) b j = hp_i w b j := fun b j z1 z2 z3 z4 z5 => by
    rw [eE b j (by omega) (by omega), vo b z4, o3 b z1 z2 z3]
    exact e0 b j (by omega) (by omega)
  have e98 : hp_i (hp_si (hp_si (hp_si (hp_si (hp_si v 398 45 0) 381 40 0) 381 45 0) 381 32 0) 381 47 0) 398 = bg_ x.2.2.2 x.2.1 (up_ (a_r A) 45 0) := by
    rw [← bg_45 n8]
    funext j
    rw [si_p (by omega), si_p (by omega), si_p (by omega), si_p (by omega), hp_i_si]
    unfold up_
    by_cases e : j = 45
    · rw [if_pos ⟨rfl, e⟩, if_pos e]
    · rw [if_neg (fun z => e z.2), if_neg e, v98]
  refine h (hp_si (hp_si (hp_si (hp_si (hp_si v 398 45 0) 381 40 0) 381 45 0) 381 32 0) 381 47 0) ⟨vB, ⟨Nat.zero_le _, ?_, fun k hk => absurd hk (Nat.not_lt_zero k)⟩, Rlaws_mv (fun b b1 b2 => by funext j; exact eW b j (by omega) (by omega) (by omega) (by omega) (by omega)) (eW 381 13 (by omega) (by omega) (by omega) (by omega) (by omega)) (eW 381 29 (by omega) (by omega) (by omega) (by omega) (by omega)) hL, ⟨?_, ?_, fun j hj => ?_, fun j hj => ?_, fun j hj => ?_⟩, e98, ⟨?_, fun i r hr => absurd hr (by show ¬ ([] : List (Nat → Int32))[i]? = some r; simp)⟩, ⟨?_, fun r hr => absurd hr (by show ¬ none = some r; simp)⟩, ⟨?_, fun i q hi => absurd hi (by show ¬ ([] : List n3T)[i]? = some q; simp)⟩, ⟨?_, fun i q hi => absurd hi (by show ¬ ([] : List n3T)[i]? = some q; simp)⟩, fun j hj => ?_, ?_⟩ ⟨vn.1, fun b hb => ⟨?_, ?_, ?_⟩, fun b => ?_, ?_⟩
  · rw [eW 381 2 (by omega) (by omega) (by omega) (by omega) (by omega)]; exact h0
  · rw [eE 381 25 (by omega) (by omega), vo 381 (by decide)]; exact n3
  · rw [eE 381 26 (by omega) (by omega), vo 381 (by decide), o3 381 (by decide) (by decide) (by decide)]; exact m26
  · rw [eE 395 j (by omega) (by omega), vo 395 (by decide)]; exact r395 j hj
  · rw [eE 396 j (by omega) (by omega), vo 396 (by decide)]; exact r396 j hj
  · rw [eE 397 j (by omega) (by omega), vo 397 (by decide)]; exact r397 j hj
  · rw [si_p (by omega), hp_i_si, if_pos ⟨rfl, rfl⟩]; rfl
  · rw [hp_i_si, if_pos ⟨rfl, rfl⟩]; rfl
  · rw [si_p (by omega), si_p (by omega), si_p (by omega), hp_i_si, if_pos ⟨rfl, rfl⟩]; rfl
  · rw [si_p (by omega), si_p (by omega), hp_i_si, if_pos ⟨rfl, rfl⟩]; rfl
  · rw [eW 399 j (by omega) (by omega) (by omega) (by omega) (by omega)]; exact hc9 j hj
  · rw [eW 381 30 (by omega) (by omega) (by omega) (by omega) (by omega)]; exact hd9
  · funext j; exact eW b j (by omega) (by omega) (by omega) (by omega) (by omega)
  · exact congrFun vn.2.2.1 b
  · exact congrFun vn.2.2.2 b
  · exact congrFun vn.2.1 b
  · exact congrFun vn.2.2.1 381
set_option maxHeartbeats 2000000 in
set_option maxRecDepth 20000 in
theorem oR_text {E : sxE} {A : AS} {w : hpW} (VA : AV A) (H : RR A w) (x : Int32) : oR E mX12_text 56 [.ref 381, .int x] w A (q_text A x).1 (q_text A x).2 := by
  intro Q h
  have hB := H.1
  have hT := H.2.1
  have hW := VA.2.1.1
  have hn := H.2.2.1.1
  unfold q_text at h
  refine C_of (by decide +kernel) (Nat.le_of_ble_eq_true rfl) ?_
  refine V_iload_n (i := 1) (sx_di dX12_text 0 rfl) rfl rfl ?_
  refine V_if_ne (tgt := 22) (sx_di dX12_text 1 rfl) (by decide) (fun h1 => ?_) (fun h1 => ?_)
  · rw [if_neg h1] at h
    refine V_iload_n (i := 1) (sx_di dX12_text 12 rfl) rfl rfl ?_
    refine V_iconst (v := 1) (sx_di dX12_text 13 rfl) (by decide) ?_
    refine V_icmp_ne (tgt := 69) (sx_di dX12_text 14 rfl) (by decide) (fun h24 => ?_) (fun h24 => ?_)
    · rw [if_neg (fun z => h24 z.1)] at h
      refine V_iconst (v := -1) (sx_di dX12_text 39 rfl) (by decide) ?_
      refine V_iret (sx_di dX12_text 40 rfl) rfl (Nat.le_refl _) (Nat.le_refl _) ?_
      exact h w H fC_rf
    · refine V_aload_n (i := 0) (sx_di dX12_text 15 rfl) rfl rfl ?_
      refine V_getI (sx_di dX12_text 16 rfl) fX12_286 (fun _ => rfl) (by first | exact hB.k _ rfl | exact B1.k _ rfl) ?_
      refine V_iv (y := nI (a_W A).length) (hn) ?_
      refine V_iconst (v := 4) (sx_di dX12_text 17 rfl) (by decide) ?_
      refine V_icN_ge (a := (a_W A).length) (b := 4) (rfl) (rfl) (by omega) (by omega) (tgt := 69) (sx_di dX12_text 18 rfl) (by decide) (fun h32 => ?_) (fun h32 => ?_)
      · rw [if_neg (fun z => by have := z.2.1; omega)] at h
        refine V_iconst (v := -1) (sx_di dX12_text 39 rfl) (by decide) ?_
        refine V_iret (sx_di dX12_text 40 rfl) rfl (Nat.le_refl _) (Nat.le_refl _) ?_
        exact h w H fC_rf
      · have c32 : (a_W A).length < 4 := by omega
        refine V_aload_n (i := 0) (sx_di dX12_text 19 rfl) rfl rfl ?_
        refine V_aload_n (i := 0) (sx_di dX12_text 20 rfl) rfl rfl ?_
        refine V_getI (sx_di dX12_text 21 rfl) fX12_286 (fun _ => rfl) (by first | exact hB.k _ rfl | exact B1.k _ rfl) ?_
        refine V_iv (y := nI (a_W A).length) (hn) ?_
        refine V_cV1 (mc' := 0) (ms' := 0) (M' := mX12_readLaw) 55 (sx_di dX12_text 22 rfl) lX12_255 vX12_readLaw (by first | exact hB.k _ rfl | exact B1.k _ rfl) (by decide) rfl (Nat.le_of_ble_eq_true rfl) ⟨by show 55 + 1 ≤ 56; omega, by show 64 + 64 * (55) ≤ 64 * (56); omega⟩ ⟨Nat.le_refl _, Nat.le_refl _⟩ ?_
        refine c_rdLawR (show (a_W A).length < 5 by omega) hB hT (fun w1 B1 t1 f1 s1 => ?_)
        have H1 := fO_RR H (Nat.le_refl _) B1 t1 f1
        refine V_iconst (v := -1) (sx_di dX12_text 23 rfl) (by decide) ?_
        refine V_icmp_ne (tgt := 69) (sx_di dX12_text 24 rfl) (by decide) (fun h44 => ?_) (fun h44 => ?_)
        · rw [if_neg (fun z => lres_n h44 z.2.2)] at h
          refine V_iconst (v := -1) (sx_di dX12_text 39 rfl) (by decide) ?_
          refine V_iret (sx_di dX12_text 40 rfl) rfl (Nat.le_refl _) (Nat.le_refl _) ?_
          exact h w1 H1 (fO_fC f1)
        · have y9 := lres_y VA.1 h44
          rw [if_pos ⟨h24, c32, y9⟩] at h
          have n1 := H1.2.2.1.1
          refine V_aload_n (i := 0) (sx_di dX12_text 25 rfl) rfl rfl ?_
          refine V_iconst (v := 0) (sx_di dX12_text 26 rfl) (by decide) ?_
          refine V_putI (sx_di dX12_text 27 rfl) fX12_106 (fun _ => rfl) rfl (by first | exact hB.k _ rfl | exact B1.k _ rfl) (rfl) (rfl) ?_
          refine V_aload_n (i := 0) (sx_di dX12_text 28 rfl) rfl rfl ?_
          refine V_dup (sx_di dX12_text 29 rfl) rfl ?_
          refine V_getI (sx_di dX12_text 30 rfl) fX12_286 (fun _ => rfl) (by first | exact hB.k _ rfl | exact B1.k _ rfl) ?_
          refine V_iv (y := nI (a_W A).length) ((si_p (by omega)).trans n1) ?_
          refine V_iconst (v := 1) (sx_di dX12_text 31 rfl) (by decide) ?_
          refine V_iadd (sx_di dX12_text 32 rfl) ?_
          refine V_iv (y := nI ((a_W A).length + 1)) (nI_add _ 1) ?_
          refine V_putI (sx_di dX12_text 33 rfl) fX12_286 (fun _ => rfl) rfl (by first | exact hB.k _ rfl | exact B1.k _ rfl) (rfl) (rfl) ?_
          refine V_aload_n (i := 0) (sx_di dX12_text 34 rfl) rfl rfl ?_
          refine V_getI (sx_di dX12_text 35 rfl) fX12_286 (fun _ => rfl) (by first | exact hB.k _ rfl | exact B1.k _ rfl) ?_
          refine V_iv (y := nI ((a_W A).length + 1)) (by rw [hp_i_si, if_pos ⟨rfl, rfl⟩]) ?_
          refine V_iconst (v := 1) (sx_di dX12_text 36 rfl) (by decide) ?_
          refine V_isub (sx_di dX12_text 37 rfl) ?_
          refine V_iv (y := nI (a_W A).length) (pk_sub (show 1 ≤ (a_W A).length + 1 by omega)) ?_
          refine V_iret (sx_di dX12_text 38 rfl) rfl (Nat.le_refl _) (Nat.le_refl _) ?_
          have e9 : ∀ b j, ¬ (b = 381 ∧ (j = 2 ∨ j = 13)) → hp_i (hp_si (hp_si w1 381 2 0) 381 13 (nI ((a_W A).length + 1))) b j = hp_i w1 b j := fun b j z => by rw [si_p (by omega), si_p (by omega)]
          have er : ∀ b, b ≠ 381 → hp_i (hp_si (hp_si w1 381 2 0) 381 13 (nI ((a_W A).length + 1))) b = hp_i w1 b := fun b z => by funext j; exact e9 b j (by omega)
          obtain ⟨-, h1x, h2, h3, h4, h5, h6, ⟨h7, h8⟩, ⟨h9x, h10⟩, h11, h12⟩ := id H1
          refine h _ ⟨B1, ⟨Nat.zero_le _, ?_, fun k hk => absurd hk (Nat.not_lt_zero k)⟩, ⟨?_, ?_, fun k V hV => ?_⟩, Rstr_mv (e9 381 25 (by omega)) (e9 381 26 (by omega)) (er 395 (by omega)) (er 396 (by omega)) (er 397 (by omega)) h3, (er 398 (by omega)).trans h4, Rkept_mv (e9 381 32 (by omega)) (er 400 (by omega)) h5, Rimg_mv (e9 381 47 (by omega)) (er 409 (by omega)) h6, ⟨(e9 381 40 (by omega)).trans h7, nts_mv (er 402 (by omega)) (er 403 (by omega)) (er 404 (by omega)) h8⟩, ⟨(e9 381 45 (by omega)).trans h9x, nts_mv (er 406 (by omega)) (er 407 (by omega)) (er 408 (by omega)) h10⟩, fun j hj => by rw [er 399 (by omega)]; exact h11 j hj, (e9 381 30 (by omega)).trans h12⟩ (fC_tr (fO_fC f1) (fC_wi (fun b hb => er b (by omega))))
          · rw [si_p (by omega), hp_i_si, if_pos ⟨rfl, rfl⟩]; rfl
          · rw [hp_i_si, if_pos ⟨rfl, rfl⟩]
            show _ = nI (a_W A ++ [(law9 (a_T A)).2.1]).length
            rw [List.length_append, List.length_singleton]
          · rw [e9 381 29 (by omega)]; exact h2.2.1
          · have hk9 := (List.getElem?_eq_some_iff.mp hV).1
            have hk8 : k < (a_W A).length + 1 := by
              have q : k < (a_W A ++ [(law9 (a_T A)).2.1]).length := hk9
              rw [List.length_append, List.length_singleton] at q
              exact q
            have hV2 : (a_W A ++ [(law9 (a_T A)).2.1])[k]? = some V := hV
            refine rl_mv (fun b b1 b2 => er b (by omega)) ?_
            rcases Nat.lt_or_ge k (a_W A).length with q | q
            · rw [List.getElem?_append_left q] at hV2
              exact h2.2.2 k V hV2
            · have e : k = (a_W A).length := by omega
              subst e
              rw [List.getElem?_append_right (Nat.le_refl _), Nat.sub_self] at hV2
              have e2 : (law9 (a_T A)).2.1 = V := Option.some.inj hV2
              rw [← e2]
              exact s1 y9
  · rw [if_pos h1] at h
    refine V_aload_n (i := 0) (sx_di dX12_text 2 rfl) rfl rfl ?_
    refine V_cV0 (mc' := 0) (ms' := 0) (M' := mX12_readStreet) 5 (sx_di dX12_text 3 rfl) lX12_252 vX12_readStreet (by first | exact hB.k _ rfl | exact B1.k _ rfl) (by decide) rfl (Nat.le_of_ble_eq_true rfl) ⟨by show 5 + 1 ≤ 56; omega, by show 64 + 64 * (5) ≤ 64 * (56); omega⟩ ⟨Nat.le_refl _, Nat.le_refl _⟩ ?_
    refine c_rdStreetR hB hT (fun w1 B1 t1 f1 s1 => ?_)
    have H1 := fT_RR H B1 t1 f1
    refine V_iconst (v := -1) (sx_di dX12_text 4 rfl) (by decide) ?_
    refine V_icmp_ne (tgt := 22) (sx_di dX12_text 5 rfl) (by decide) (fun h9 => ?_) (fun h9 => ?_)
    · rw [if_neg (sres_n h9)] at h
      refine V_iload_n (i := 1) (sx_di dX12_text 12 rfl) rfl rfl ?_
      refine V_iconst (v := 1) (sx_di dX12_text 13 rfl) (by decide) ?_
      refine V_icmp_ne (tgt := 69) (sx_di dX12_text 14 rfl) (by decide) (fun _ => ?_) (fun h24 => absurd (h1.symm.trans h24) (by decide))
      refine V_iconst (v := -1) (sx_di dX12_text 39 rfl) (by decide) ?_
      refine V_iret (sx_di dX12_text 40 rfl) rfl (Nat.le_refl _) (Nat.le_refl _) ?_
      exact h w1 H1 (fT_fC f1)
    · refine V_aload_n (i := 0) (sx_di dX12_text 6 rfl) rfl rfl ?_
      refine V_iconst (v := 0) (sx_di dX12_text 7 rfl) (by decide) ?_
      refine V_putI (sx_di dX12_text 8 rfl) fX12_106 (fun _ => rfl) rfl (by first | exact hB.k _ rfl | exact B1.k _ rfl) (rfl) (rfl) ?_
      refine V_aload_n (i := 0) (sx_di dX12_text 9 rfl) rfl rfl ?_
      refine V_cV0 (mc' := 0) (ms' := 0) (M' := mX12_takeStreet) 3 (sx_di dX12_text 10 rfl) lX12_283 vX12_takeStreet (by first | exact hB.k _ rfl | exact B1.k _ rfl) (by decide) rfl (Nat.le_of_ble_eq_true rfl) ⟨by show 3 + 1 ≤ 56; omega, by show 64 + 64 * (3) ≤ 64 * (56); omega⟩ ⟨Nat.le_refl _, Nat.le_refl _⟩ ?_
      have y9 := sres_y VA.1 h9
      rw [if_pos y9] at h
      obtain ⟨sk, sw⟩ := (stF_ok (T := a_T A) ((a_T A).length + 1) sr0 0 sr0_ok (Nat.zero_le _)).2 y9
      have q9 := s1 y9
      obtain ⟨-, k1, k2, k3, k4, k5, k6, k7, k8, k11, k12⟩ := id H1
      refine k_take (w := hp_si w1 381 2 0) VA B1 (by rw [hp_i_si, if_pos ⟨rfl, rfl⟩]; rfl) (Rlaws_mv (fun b b1 b2 => by funext j; exact si_p (by omega)) (si_p (by omega)) (si_p (by omega)) k2) (by rw [← k4]; funext j; exact si_p (by omega)) (fun j hj => (si_p (by omega)).trans (k11 j hj)) ((si_p (by omega)).trans k12) ⟨(si_p (by omega)).trans q9.1, (si_p (by omega)).trans q9.2.1, by rw [RS_s1]; exact q9.2.2⟩ sk (fun w2 H2 f2 => ?_)
      refine V_iret (sx_di dX12_text 11 rfl) rfl (Nat.le_refl _) (Nat.le_refl _) ?_
      exact h w2 H2 (fC_tr (fT_fC f1) (fC_tr (fC_wi (fun b hb => by funext j; exact si_p (by omega))) f2))

/-! what a day draws -/
/-- w, with ints I and draws z -/
def yw_ (w : hpW) (p j : Nat) (I : Nat → Nat → Int32) (z : Int64) : hpW := (hp_n w, hp_k w, hp_r w, hp_u (hp_j w) p j z, I)
theorem hp_u_id {α : Type} (f : Nat → Nat → α) (a k : Nat) : hp_u f a k (f a k) = f := by
  funext b j
  unfold hp_u
  by_cases h : b = a ∧ j = k
  · rw [if_pos h, h.1, h.2]
  · rw [if_neg h]
theorem hp_uu {α : Type} (f : Nat → Nat → α) (a k : Nat) (x y : α) : hp_u (hp_u f a k x) a k y = hp_u f a k y := by
  funext b j
  unfold hp_u
  by_cases h : b = a ∧ j = k
  · rw [if_pos h, if_pos h]
  · rw [if_neg h, if_neg h, if_neg h]
theorem yw_of {w : hpW} {p j : Nat} {z : Int64} (e : hp_j w p j = z) : yw_ w p j (hp_i w) z = w := by
  subst e
  unfold yw_
  rw [hp_u_id]
  rfl
theorem yw_sj (w : hpW) (p j : Nat) (I : Nat → Nat → Int32) (z y : Int64) : hp_sj (yw_ w p j I z) p j y = yw_ w p j I y := by
  show (hp_n w, hp_k w, hp_r w, hp_u (hp_u (hp_j w) p j z) p j y, I) = yw_ w p j I y
  rw [hp_uu]
  rfl
theorem yw_j (w : hpW) (p j : Nat) (I : Nat → Nat → Int32) (z : Int64) : hp_j (yw_ w p j I z) p j = z := hp_u_at _ _ _ _
theorem yw_B {w : hpW} (hB : ly_B w) (p j : Nat) (I : Nat → Nat → Int32) (z : Int64) : ly_B (yw_ w p j I z) := hB
theorem i64_ne {m : Nat} (h0 : 0 < m) (hm : m < 2 ^ 31) : ¬ (nI m).toInt64 = 0 := fun z => by
  have e := congrArg Int64.toInt z
  rw [Int32.toInt_toInt64, nI_toInt hm] at e
  have : (0 : Int64).toInt = 0 := by decide
  omega
theorem e_X12_draw {E : sxE} {w : hpW} {Q : Option Value → hpW → Prop} {f : Int64 → Int64} {v : Int64 → Int32 → Int32} (hf : f = d1r) (hv : v = dvr) (hB : ly_B w) {I : Nat → Nat → Int32} {z : Int64} {m : Nat} (h0 : 0 < m) (hm : m < 2 ^ 31) (h : Q (some (.int (v z (nI m)))) (yw_ w 381 33 I (f z))) : sx_C E mX12_draw 1 0 0 [.ref 381, .int (nI m)] (yw_ w 381 33 I z) Q := by
  refine c_X12_draw hf hv (yw_B hB 381 33 I z) (i64_ne h0 hm) ?_
  rw [yw_sj, yw_j]
  exact h
theorem e_X11_draw {E : sxE} {w : hpW} {Q : Option Value → hpW → Prop} {f : Int64 → Int64} {v : Int64 → Int32 → Int32} (hf : f = d1r) (hv : v = dvr) (hB : ly_B w) {I : Nat → Nat → Int32} {z : Int64} {m : Nat} (h0 : 0 < m) (hm : m < 2 ^ 31) (h : Q (some (.int (v z (nI m)))) (yw_ w 16 15 I (f z))) : sx_C E mX11_draw 1 0 0 [.ref 16, .int (nI m)] (yw_ w 16 15 I z) Q := by
  refine c_X11_draw hf hv (yw_B hB 16 15 I z) (i64_ne h0 hm) ((nI_leI (a := 1) (by decide) hm).mpr h0) ?_
  rw [yw_sj, yw_j]
  exact h
set_option maxHeartbeats 2000000 in
set_option maxRecDepth 20000 in
theorem c_X12_canMove {E : sxE} {w : hpW} {Q : Option Value → hpW → Prop} (hB : ly_B w) {a b : Nat} (ha : a < 8) (hb : b < 8) (h : Q (some (.int (if nI a ≠ nI b ∧ 0 < hp_i w 398 (32 + a) ∧ hp_i w 398 (32 + b) < 9 then 1 else 0))) w) : sx_C E mX12_canMove 1 0 0 [.ref 381, .int (nI a), .int (nI b)] w Q := by
  refine C_of (by decide +kernel) (Nat.le_of_ble_eq_true rfl) ?_
  refine V_iload_n (i := 1) (sx_di dX12_canMove 0 rfl) rfl rfl ?_
  refine V_iload_n (i := 2) (sx_di dX12_canMove 1 rfl) rfl rfl ?_
  refine V_icmp_eq (tgt := 35) (sx_di dX12_canMove 2 rfl) (by decide) (fun h2 => ?_) (fun h2 => ?_)
  · rw [if_neg (fun z => z.1 h2)] at h
    refine V_iconst (v := 0) (sx_di dX12_canMove 20 rfl) (by decide) ?_
    refine V_zret (sx_di dX12_canMove 21 rfl) rfl (by first | rfl | decide) (Nat.le_refl _) (Nat.le_refl _) ?_
    exact h
  · refine V_aload_n (i := 0) (sx_di dX12_canMove 3 rfl) rfl rfl ?_
    refine V_getR (sx_di dX12_canMove 4 rfl) fX12_58 (fun _ => rfl) (hB.k _ rfl) (hB.r _ _ rfl) ?_
    refine V_bipush (v := 32) (sx_di dX12_canMove 5 rfl) (by decide) ?_
    refine V_iload_n (i := 1) (sx_di dX12_canMove 6 rfl) rfl rfl ?_
    refine V_iadd (sx_di dX12_canMove 7 rfl) ?_
    refine V_ialdN (n := 226) (j := (32 + a)) (sx_di dX12_canMove 8 rfl) (hB.k _ rfl) (nx_add (rfl) (rfl)) (by omega) (by omega) ?_
    refine V_if_le (tgt := 35) (sx_di dX12_canMove 9 rfl) (by decide) (fun h14 => ?_) (fun h14 => ?_)
    · rw [if_neg (fun z => absurd z.2.1 (Int32.not_lt.mpr h14))] at h
      refine V_iconst (v := 0) (sx_di dX12_canMove 20 rfl) (by decide) ?_
      refine V_zret (sx_di dX12_canMove 21 rfl) rfl (by first | rfl | decide) (Nat.le_refl _) (Nat.le_refl _) ?_
      exact h
    · refine V_aload_n (i := 0) (sx_di dX12_canMove 10 rfl) rfl rfl ?_
      refine V_getR (sx_di dX12_canMove 11 rfl) fX12_58 (fun _ => rfl) (hB.k _ rfl) (hB.r _ _ rfl) ?_
      refine V_bipush (v := 32) (sx_di dX12_canMove 12 rfl) (by decide) ?_
      refine V_iload_n (i := 2) (sx_di dX12_canMove 13 rfl) rfl rfl ?_
      refine V_iadd (sx_di dX12_canMove 14 rfl) ?_
      refine V_ialdN (n := 226) (j := (32 + b)) (sx_di dX12_canMove 15 rfl) (hB.k _ rfl) (nx_add (rfl) (rfl)) (by omega) (by omega) ?_
      refine V_bipush (v := 9) (sx_di dX12_canMove 16 rfl) (by decide) ?_
      refine V_icmp_ge (tgt := 35) (sx_di dX12_canMove 17 rfl) (by decide) (fun h28 => ?_) (fun h28 => ?_)
      · rw [if_neg (fun z => absurd z.2.2 (Int32.not_lt.mpr h28))] at h
        refine V_iconst (v := 0) (sx_di dX12_canMove 20 rfl) (by decide) ?_
        refine V_zret (sx_di dX12_canMove 21 rfl) rfl (by first | rfl | decide) (Nat.le_refl _) (Nat.le_refl _) ?_
        exact h
      · rw [if_pos ⟨h2, Int32.not_le.mp h14, Int32.not_le.mp h28⟩] at h
        refine V_iconst (v := 1) (sx_di dX12_canMove 18 rfl) (by decide) ?_
        refine V_goto (tgt := 36) (sx_di dX12_canMove 19 rfl) (by decide) ?_
        refine V_zret (sx_di dX12_canMove 21 rfl) rfl (by first | rfl | decide) (Nat.le_refl _) (Nat.le_refl _) ?_
        exact h
set_option maxHeartbeats 2000000 in
set_option maxRecDepth 20000 in
theorem dd2_ {E : sxE} {w : hpW} {Q : Option Value → hpW → Prop} {f : Int64 → Int64} {v : Int64 → Int32 → Int32} (hf : f = d1r) (hv : v = dvr) (ho : ∀ z m, 0 < m → m < 2 ^ 31 → ∃ k, k < m ∧ v z (nI m) = nI k) (hB : ly_B w) {I : Nat → Nat → Int32} {z : Int64} {n : Nat} (h0 : 0 < n) (hn8 : n ≤ 8) (hn : I 381 25 = nI n) (h : ∀ J, (∀ b, b ≠ 398 → J b = I b) → J 398 = (st2 f v n (I 398) z).1 → Q none (yw_ w 381 33 J (st2 f v n (I 398) z).2)) : V E mX12_drawDay (sx_rm 2 0 0) 0 0 0 0 36 [(0, .ref 381)] [] (yw_ w 381 33 I z) Q := by
  obtain ⟨a, ha, ea⟩ := ho z n h0 (by omega)
  obtain ⟨b, hb, eb⟩ := ho (f z) n h0 (by omega)
  unfold st2 at h
  rw [ea, eb, nI_clamp (by omega), nI_clamp (by omega)] at h
  refine V_aload_n (i := 0) (sx_di dX12_drawDay 20 rfl) rfl rfl ?_
  refine V_aload_n (i := 0) (sx_di dX12_drawDay 21 rfl) rfl rfl ?_
  refine V_getI (sx_di dX12_drawDay 22 rfl) fX12_258 (fun _ => rfl) (hB.k _ rfl) ?_
  refine V_iv (y := nI n) (hn) ?_
  refine V_cV1 (mc' := 0) (ms' := 0) (M' := mX12_draw) 1 (sx_di dX12_drawDay 23 rfl) lX12_344 vX12_draw (hB.k _ rfl) (by decide) rfl (Nat.le_of_ble_eq_true rfl) ⟨Nat.le_of_ble_eq_true rfl, Nat.le_of_ble_eq_true rfl⟩ ⟨Nat.le_refl _, Nat.le_refl _⟩ ?_
  refine e_X12_draw hf hv hB h0 (by omega) ?_
  refine V_iv (y := nI a) (ea) ?_
  refine V_istore_n (i := 1) (sx_di dX12_drawDay 24 rfl) rfl (by decide) (rfl) ?_
  refine V_aload_n (i := 0) (sx_di dX12_drawDay 25 rfl) rfl rfl ?_
  refine V_aload_n (i := 0) (sx_di dX12_drawDay 26 rfl) rfl rfl ?_
  refine V_getI (sx_di dX12_drawDay 27 rfl) fX12_258 (fun _ => rfl) (hB.k _ rfl) ?_
  refine V_iv (y := nI n) (hn) ?_
  refine V_cV1 (mc' := 0) (ms' := 0) (M' := mX12_draw) 1 (sx_di dX12_drawDay 28 rfl) lX12_344 vX12_draw (hB.k _ rfl) (by decide) rfl (Nat.le_of_ble_eq_true rfl) ⟨Nat.le_of_ble_eq_true rfl, Nat.le_of_ble_eq_true rfl⟩ ⟨Nat.le_refl _, Nat.le_refl _⟩ ?_
  refine e_X12_draw hf hv hB h0 (by omega) ?_
  refine V_iv (y := nI b) (eb) ?_
  refine V_istore_n (i := 2) (sx_di dX12_drawDay 29 rfl) rfl (by decide) (rfl) ?_
  refine V_aload_n (i := 0) (sx_di dX12_drawDay 30 rfl) rfl rfl ?_
  refine V_iload_n (i := 1) (sx_di dX12_drawDay 31 rfl) rfl rfl ?_
  refine V_iload_n (i := 2) (sx_di dX12_drawDay 32 rfl) rfl rfl ?_
  refine V_cV2 (mc' := 0) (ms' := 0) (M' := mX12_canMove) 1 (sx_di dX12_drawDay 33 rfl) lX12_347 vX12_canMove (hB.k _ rfl) (by decide) rfl (Nat.le_of_ble_eq_true rfl) ⟨Nat.le_of_ble_eq_true rfl, Nat.le_of_ble_eq_true rfl⟩ ⟨Nat.le_refl _, Nat.le_refl _⟩ ?_
  refine c_X12_canMove (yw_B hB _ _ _ _) (by omega) (by omega) ?_
  refine V_if_eq (tgt := 69) (sx_di dX12_drawDay 34 rfl) (by decide) (fun h60 => ?_) (fun h60 => ?_)
  · have h61 : (if nI a ≠ nI b ∧ 0 < I 398 (32 + a) ∧ I 398 (32 + b) < 9 then (1 : Int32) else 0) = 0 := h60
    rw [if_neg (fun q => by rw [if_pos q] at h61; exact absurd h61 (by decide))] at h
    refine V_vret (sx_di dX12_drawDay 39 rfl) rfl (Nat.le_refl _) (Nat.le_refl _) ?_
    first | exact h I (fun _ _ => rfl) rfl | exact h _ (fun q hq => by funext j; exact (hp_u_nk _ _ (fun y => hq y.1)).trans (hp_u_nk _ _ (fun y => hq y.1))) (by rw [hp_u398, hp_u398]; rfl)
  · have h61 : ¬ (if nI a ≠ nI b ∧ 0 < I 398 (32 + a) ∧ I 398 (32 + b) < 9 then (1 : Int32) else 0) = 0 := h60
    have hc := Classical.byContradiction (fun q => h61 (if_neg q))
    rw [if_pos hc] at h
    refine V_aload_n (i := 0) (sx_di dX12_drawDay 35 rfl) rfl rfl ?_
    refine V_iload_n (i := 1) (sx_di dX12_drawDay 36 rfl) rfl rfl ?_
    refine V_iload_n (i := 2) (sx_di dX12_drawDay 37 rfl) rfl rfl ?_
    refine V_cV2 (mc' := 0) (ms' := 0) (M' := mX12_moveNow) 1 (sx_di dX12_drawDay 38 rfl) lX12_324 vX12_moveNow (hB.k _ rfl) (by decide) rfl (Nat.le_of_ble_eq_true rfl) ⟨Nat.le_of_ble_eq_true rfl, Nat.le_of_ble_eq_true rfl⟩ ⟨Nat.le_refl _, Nat.le_refl _⟩ ?_
    refine c_X12_moveNow (yw_B hB _ _ _ _) (by omega) (by omega) (fun q => hc.1 (by rw [q])) ?_
    refine V_vret (sx_di dX12_drawDay 39 rfl) rfl (Nat.le_refl _) (Nat.le_refl _) ?_
    first | exact h I (fun _ _ => rfl) rfl | exact h _ (fun q hq => by funext j; exact (hp_u_nk _ _ (fun y => hq y.1)).trans (hp_u_nk _ _ (fun y => hq y.1))) (by rw [hp_u398, hp_u398]; rfl)
set_option maxHeartbeats 2000000 in
set_option maxRecDepth 20000 in
theorem dd1_ {E : sxE} {w : hpW} {Q : Option Value → hpW → Prop} {f : Int64 → Int64} {v : Int64 → Int32 → Int32} (hf : f = d1r) (hv : v = dvr) (ho : ∀ z m, 0 < m → m < 2 ^ 31 → ∃ k, k < m ∧ v z (nI m) = nI k) (hB : ly_B w) {I : Nat → Nat → Int32} {z : Int64} {n : Nat} {md : Int32} (h0 : 0 < n) (hn8 : n ≤ 8) (hn : I 381 25 = nI n) (hmd : I 381 30 = md) (h : ∀ J, (∀ b, b ≠ 398 → J b = I b) → J 398 = (stx f v n md (I 398) z).1 → Q none (yw_ w 381 33 J (stx f v n md (I 398) z).2)) : sx_C E mX12_drawDay 2 0 0 [.ref 381] (yw_ w 381 33 I z) Q := by
  obtain ⟨a, ha, ea⟩ := ho (f z) n h0 (by omega)
  have h10 : (10 : Int32) = nI 10 := rfl
  unfold stx at h
  refine C_of (by decide +kernel) (Nat.le_of_ble_eq_true rfl) ?_
  refine V_aload_n (i := 0) (sx_di dX12_drawDay 0 rfl) rfl rfl ?_
  refine V_bipush (v := 10) (sx_di dX12_drawDay 1 rfl) (by decide) ?_
  refine V_cV1 (mc' := 0) (ms' := 0) (M' := mX12_draw) 1 (sx_di dX12_drawDay 2 rfl) lX12_344 vX12_draw (hB.k _ rfl) (by decide) rfl (Nat.le_of_ble_eq_true rfl) ⟨Nat.le_of_ble_eq_true rfl, Nat.le_of_ble_eq_true rfl⟩ ⟨Nat.le_refl _, Nat.le_refl _⟩ ?_
  refine e_X12_draw hf hv hB (m := 10) (by decide) (by decide) ?_
  refine V_aload_n (i := 0) (sx_di dX12_drawDay 3 rfl) rfl rfl ?_
  refine V_getI (sx_di dX12_drawDay 4 rfl) fX12_333 (fun _ => rfl) (hB.k _ rfl) ?_
  refine V_iv (y := md) (hmd) ?_
  refine V_icmp_ge (tgt := 36) (sx_di dX12_drawDay 5 rfl) (by decide) (fun h10_ => ?_) (fun h10_ => ?_)
  · have e1 : st1 f v n md (I 398) z = (I 398, f z) := by unfold st1; rw [if_neg (Int32.not_lt.mpr h10_)]
    rw [e1] at h
    refine V_sub (ls' := [(0, .ref 381)]) ⟨rfl, trivial⟩ ?_
    first | exact dd2_ hf hv ho (I := I) hB h0 hn8 hn h | (refine dd2_ hf hv ho (I := hp_u I 398 a (v (f (f z)) (nI 10))) hB h0 hn8 ((hp_u_nk _ _ (by omega)).trans hn) (fun J f1 f2 => ?_); rw [hp_u398] at f2 ⊢; exact h J (fun b hb => (f1 b hb).trans (by funext j; exact hp_u_nk _ _ (fun y => hb y.1))) f2)
  · have e1 : st1 f v n md (I 398) z = (up_ (I 398) a (v (f (f z)) (nI 10)), f (f (f z))) := by unfold st1; rw [if_pos (Int32.not_le.mp h10_), ea, nI_clamp (by omega)]
    rw [e1] at h
    refine V_aload_n (i := 0) (sx_di dX12_drawDay 6 rfl) rfl rfl ?_
    refine V_aload_n (i := 0) (sx_di dX12_drawDay 7 rfl) rfl rfl ?_
    refine V_getI (sx_di dX12_drawDay 8 rfl) fX12_258 (fun _ => rfl) (hB.k _ rfl) ?_
    refine V_iv (y := nI n) (hn) ?_
    refine V_cV1 (mc' := 0) (ms' := 0) (M' := mX12_draw) 1 (sx_di dX12_drawDay 9 rfl) lX12_344 vX12_draw (hB.k _ rfl) (by decide) rfl (Nat.le_of_ble_eq_true rfl) ⟨Nat.le_of_ble_eq_true rfl, Nat.le_of_ble_eq_true rfl⟩ ⟨Nat.le_refl _, Nat.le_refl _⟩ ?_
    refine e_X12_draw hf hv hB h0 (by omega) ?_
    refine V_iv (y := nI a) (ea) ?_
    refine V_istore_n (i := 1) (sx_di dX12_drawDay 10 rfl) rfl (by decide) (rfl) ?_
    refine V_aload_n (i := 0) (sx_di dX12_drawDay 11 rfl) rfl rfl ?_
    refine V_getR (sx_di dX12_drawDay 12 rfl) fX12_58 (fun _ => rfl) (hB.k _ rfl) (hB.r _ _ rfl) ?_
    refine V_iconst (v := 0) (sx_di dX12_drawDay 13 rfl) (by decide) ?_
    refine V_iload_n (i := 1) (sx_di dX12_drawDay 14 rfl) rfl rfl ?_
    refine V_iadd (sx_di dX12_drawDay 15 rfl) ?_
    refine V_aload_n (i := 0) (sx_di dX12_drawDay 16 rfl) rfl rfl ?_
    refine V_bipush (v := 10) (sx_di dX12_drawDay 17 rfl) (by decide) ?_
    refine V_cV1 (mc' := 0) (ms' := 0) (M' := mX12_draw) 1 (sx_di dX12_drawDay 18 rfl) lX12_344 vX12_draw (hB.k _ rfl) (by decide) rfl (Nat.le_of_ble_eq_true rfl) ⟨Nat.le_of_ble_eq_true rfl, Nat.le_of_ble_eq_true rfl⟩ ⟨Nat.le_refl _, Nat.le_refl _⟩ ?_
    refine e_X12_draw hf hv hB (m := 10) (by decide) (by decide) ?_
    refine V_iastN (n := 226) (j := a) (sx_di dX12_drawDay 19 rfl) (hB.k _ rfl) (nx_z0 (rfl)) (by omega) (by omega) ?_
    refine V_sub (ls' := [(0, .ref 381)]) ⟨rfl, trivial⟩ ?_
    first | exact dd2_ hf hv ho (I := I) hB h0 hn8 hn h | (refine dd2_ hf hv ho (I := hp_u I 398 a (v (f (f z)) (nI 10))) hB h0 hn8 ((hp_u_nk _ _ (by omega)).trans hn) (fun J f1 f2 => ?_); rw [hp_u398] at f2 ⊢; exact h J (fun b hb => (f1 b hb).trans (by funext j; exact hp_u_nk _ _ (fun y => hb y.1))) f2)
theorem RR_w {A : AS} {w w2 : hpW} (H : RR A w) (hB2 : ly_B w2) {r : Nat → Int32} (f : ∀ b, b ≠ 398 → hp_i w2 b = hp_i w b) (hr : hp_i w2 398 = r) : RR (pt_r A r) w2 := by
  obtain ⟨hB, h1, h2, h3, h4, h5, h6, ⟨h7, h8⟩, ⟨h9, h10⟩, h11, h12⟩ := id H
  have e : ∀ b, b ≠ 398 → hp_i w2 b = hp_i w b := f
  have g1 : ∀ j, j ≠ 1000 → hp_i w2 381 j = hp_i w 381 j := fun j _ => by rw [e 381 (by omega)]
  exact ⟨hB2, tp_mv (g1 2 (by omega)) (e 382 (by omega)) h1, Rlaws_mv (fun b b1 b2 => e b (by omega)) (g1 13 (by omega)) (g1 29 (by omega)) h2, Rstr_mv (g1 25 (by omega)) (g1 26 (by omega)) (e 395 (by omega)) (e 396 (by omega)) (e 397 (by omega)) h3, hr, Rkept_mv (g1 32 (by omega)) (e 400 (by omega)) h5, Rimg_mv (g1 47 (by omega)) (e 409 (by omega)) h6, ⟨(g1 40 (by omega)).trans h7, nts_mv (e 402 (by omega)) (e 403 (by omega)) (e 404 (by omega)) h8⟩, ⟨(g1 45 (by omega)).trans h9, nts_mv (e 406 (by omega)) (e 407 (by omega)) (e 408 (by omega)) h10⟩, fun j hj => by rw [e 399 (by omega)]; exact h11 j hj, (g1 30 (by omega)).trans h12⟩
theorem fC_yw {w : hpW} {I : Nat → Nat → Int32} {z : Int64} (f : ∀ b, b < 381 → I b = hp_i w b) : fC w (yw_ w 381 33 I z) := ⟨rfl, fun b hb => ⟨f b hb, rfl, by funext j; exact hp_u_nk _ _ (by omega)⟩, fun _ => rfl, rfl⟩
theorem fR_yw {w : hpW} {I : Nat → Nat → Int32} {z : Int64} (f : ∀ b, 381 ≤ b → I b = hp_i w b) : fR w (yw_ w 16 15 I z) := ⟨rfl, fun b hb => ⟨f b hb, rfl, by funext j; exact hp_u_nk _ _ (by omega)⟩, fun _ => rfl⟩
theorem k_X12_drawDay {E : sxE} {Q : Option Value → hpW → Prop} {f : Int64 → Int64} {v : Int64 → Int32 → Int32} (hf : f = d1r) (hv : v = dvr) (ho : ∀ z m, 0 < m → m < 2 ^ 31 → ∃ k, k < m ∧ v z (nI m) = nI k) {A : AS} {w : hpW} (V : AV A) (H : RR A w) (h0 : 0 < a_n A) {z : Int64} (ez : hp_j w 381 33 = z) (h : ∀ w', RR (pt_r A (stx f v (a_n A) (a_d A) (a_r A) z).1) w' → fC w w' → hp_j w' 381 33 = (stx f v (a_n A) (a_d A) (a_r A) z).2 → Q none w') : sx_C E mX12_drawDay 2 0 0 [.ref 381] w Q := by
  have e := yw_of ez
  rw [← e]
  have e8 : hp_i w 398 = a_r A := H.2.2.2.2.1
  refine dd1_ hf hv ho (w := w) H.1 h0 V.2.2.1.1 H.2.2.2.1.1 H.2.2.2.2.2.2.2.2.2.2 (fun J f1 f2 => ?_)
  rw [e8] at f2 ⊢
  exact h _ (RR_w H (yw_B H.1 _ _ _ _) f1 f2) (fC_yw (fun b hb => f1 b (by omega))) (yw_j _ _ _ _ _)
set_option maxHeartbeats 2000000 in
set_option maxRecDepth 20000 in
theorem yR_lp {E : sxE} {Q : Option Value → hpW → Prop} {f : Int64 → Int64} {v : Int64 → Int32 → Int32} (hf : f = d1r) (hv : v = dvr) (ho : ∀ z m, 0 < m → m < 2 ^ 31 → ∃ k, k < m ∧ v z (nI m) = nI k) {A : AS} {w : hpW} {z : Int64} {y : Int64} (VA : AV A) (h0 : 0 < a_n A) {d m : Nat} (ed : a_r A 44 = nI d) (hd : d + m ≤ 9999) (hm : m ≤ 60) (h : ∀ w', RR (yit_ f v A z m).1 w' → fC w w' → Q (some (.int (a_r (yit_ f v A z m).1 44))) w') : ∀ q k w1, k + q = m → RR (yit_ f v A z k).1 w1 → fC w w1 → hp_j w1 381 33 = (yit_ f v A z k).2 → V E mX12_years (sx_rm 10 0 0) 0 0 0 0 25 [(4, .int (nI k)), (2, .long y), (1, .int (nI m)), (0, .ref 381)] [] w1 Q := by
  intro q
  induction q with
  | zero =>
    intro k w1 hk H1 f1 ez
    have e1 : k = m := by omega
    subst e1
    have hB := H1.1
    have z1 := h w1 H1 f1
    have e44 : hp_i w1 398 44 = a_r (yit_ f v A z k).1 44 := congrFun H1.2.2.2.2.1 44
    refine V_iload (sx_di dX12_years 14 rfl) rfl ?_
    refine V_iload_n (i := 1) (sx_di dX12_years 15 rfl) rfl rfl ?_
    refine V_icN_ge (a := k) (b := k) (rfl) (rfl) (by omega) (by omega) (tgt := 49) (sx_di dX12_years 16 rfl) (by decide) (fun _ => ?_) (fun h28 => absurd h28 (by omega))
    refine V_aload_n (i := 0) (sx_di dX12_years 25 rfl) rfl rfl ?_
    refine V_getR (sx_di dX12_years 26 rfl) fX12_58 (fun _ => rfl) (hB.k _ rfl) (hB.r _ _ rfl) ?_
    refine V_bipush (v := 44) (sx_di dX12_years 27 rfl) (by decide) ?_
    refine V_ialdN (n := 226) (j := 44) (sx_di dX12_years 28 rfl) (hB.k _ rfl) (rfl) (by omega) (by omega) ?_
    refine V_iv (y := a_r (yit_ f v A z k).1 44) (e44) ?_
    refine V_iret (sx_di dX12_years 29 rfl) rfl (Nat.le_refl _) (Nat.le_refl _) ?_
    exact z1
  | succ q ih =>
    intro k w1 hk H1 f1 ez
    have hB := H1.1
    obtain ⟨V1, en1, e41⟩ := yit_ok (f := f) ho VA h0 ed z k (by omega)
    refine V_iload (sx_di dX12_years 14 rfl) rfl ?_
    refine V_iload_n (i := 1) (sx_di dX12_years 15 rfl) rfl rfl ?_
    refine V_icN_ge (a := k) (b := m) (rfl) (rfl) (by omega) (by omega) (tgt := 49) (sx_di dX12_years 16 rfl) (by decide) (fun h28 => absurd h28 (by omega)) (fun _ => ?_)
    refine V_aload_n (i := 0) (sx_di dX12_years 17 rfl) rfl rfl ?_
    refine V_cV0 (mc' := 0) (ms' := 0) (M' := mX12_keep) 1 (sx_di dX12_years 18 rfl) lX12_321 vX12_keep (hB.k _ rfl) (by decide) rfl (Nat.le_of_ble_eq_true rfl) ⟨Nat.le_of_ble_eq_true rfl, Nat.le_of_ble_eq_true rfl⟩ ⟨Nat.le_refl _, Nat.le_refl _⟩ ?_
    refine k_X12_keep V1 H1 (fun w2 H2 f2 j2 => ?_)
    have hB2 := H2.1
    refine V_aload_n (i := 0) (sx_di dX12_years 19 rfl) rfl rfl ?_
    refine V_cV0 (mc' := 0) (ms' := 0) (M' := mX12_drawDay) 2 (sx_di dX12_years 20 rfl) lX12_350 vX12_drawDay (hB2.k _ rfl) (by decide) rfl (Nat.le_of_ble_eq_true rfl) ⟨Nat.le_of_ble_eq_true rfl, Nat.le_of_ble_eq_true rfl⟩ ⟨Nat.le_refl _, Nat.le_refl _⟩ ?_
    refine k_X12_drawDay hf hv ho (AV_k V1 (by omega)) H2 (show 0 < a_n (yit_ f v A z k).1 by omega) ((congrFun (congrFun j2 381) 33).trans ez) (fun w3 H3 f3 j3 => ?_)
    have hB3 := H3.1
    refine V_aload_n (i := 0) (sx_di dX12_years 21 rfl) rfl rfl ?_
    refine V_cV0 (mc' := 0) (ms' := 0) (M' := mX12_passDay) 9 (sx_di dX12_years 22 rfl) lX12_330 vX12_passDay (hB3.k _ rfl) (by decide) rfl (Nat.le_of_ble_eq_true rfl) ⟨Nat.le_of_ble_eq_true rfl, Nat.le_of_ble_eq_true rfl⟩ ⟨Nat.le_refl _, Nat.le_refl _⟩ ?_
    refine k_X12_passDay (AV_r (AV_k V1 (by omega)) (OKF_stx (f := f) ho V1.2.2.1.1 (by omega) V1.2.2.2.1.1 _ _).1) H3 (show 0 < a_n (yit_ f v A z k).1 by omega) (fun w4 H4 f4 j4 => ?_)
    have q1 := ih (k + 1) w4 (by omega) H4 (fC_tr f1 (fC_tr f2 (fC_tr f3 f4))) ((congrFun (congrFun j4 381) 33).trans j3)
    rw [← nI_1] at q1
    refine V_inc (c := 1) (sx_di dX12_years 23 rfl) (by decide) rfl (by decide) (rfl) ?_
    refine V_goto (tgt := 25) (sx_di dX12_years 24 rfl) (by decide) ?_
    exact V_subk q1 ⟨rfl, rfl, rfl, rfl, trivial⟩
set_option maxHeartbeats 2000000 in
set_option maxRecDepth 20000 in
theorem oRy_ {E : sxE} {f : Int64 → Int64} {v : Int64 → Int32 → Int32} (hf : f = d1r) (hv : v = dvr) (ho : ∀ z m, 0 < m → m < 2 ^ 31 → ∃ k, k < m ∧ v z (nI m) = nI k) {A : AS} {w : hpW} (VA : AV A) (H : RR A w) (x : Int32) (z : Int64) : oR E mX12_years 10 [.ref 381, .int x, .long z] w A (qy_ f v A x z).1 (qy_ f v A x z).2 := by
  intro Q h
  have hB := H.1
  have hn8 := VA.2.2.1.1
  have hn : hp_i w 381 25 = nI (a_n A) := H.2.2.2.1.1
  have e44 : hp_i w 398 44 = a_r A 44 := congrFun H.2.2.2.2.1 44
  have hno : ¬ wdays (a_n A) x (a_r A 44) = -1 → Q (some (.int (-1))) w := fun e => by
    rw [qy_, if_neg e] at h
    exact h w H fC_rf
  rw [wd_y VA] at hno
  refine C_of (by decide +kernel) (Nat.le_of_ble_eq_true rfl) ?_
  refine V_aload_n (i := 0) (sx_di dX12_years 0 rfl) rfl rfl ?_
  refine V_getI (sx_di dX12_years 1 rfl) fX12_258 (fun _ => rfl) (hB.k _ rfl) ?_
  refine V_iv (y := nI (a_n A)) (hn) ?_
  refine V_ifN_eq (a := (a_n A)) (rfl) (by omega) (tgt := 15) (sx_di dX12_years 2 rfl) (by decide) (fun h4 => ?_) (fun h4 => ?_)
  · refine V_iconst (v := -1) (sx_di dX12_years 7 rfl) (by decide) ?_
    refine V_iret (sx_di dX12_years 8 rfl) rfl (Nat.le_refl _) (Nat.le_refl _) ?_
    exact hno (fun q => q.1 h4)
  · refine V_aload_n (i := 0) (sx_di dX12_years 3 rfl) rfl rfl ?_
    refine V_iload_n (i := 1) (sx_di dX12_years 4 rfl) rfl rfl ?_
    refine V_cV1 (mc' := 0) (ms' := 0) (M' := mX12_areDays) 2 (sx_di dX12_years 5 rfl) lX12_327 vX12_areDays (hB.k _ rfl) (by decide) rfl (Nat.le_of_ble_eq_true rfl) ⟨Nat.le_of_ble_eq_true rfl, Nat.le_of_ble_eq_true rfl⟩ ⟨Nat.le_refl _, Nat.le_refl _⟩ ?_
    refine c_X12_areDays hB ?_
    refine V_if_ne (tgt := 17) (sx_di dX12_years 6 rfl) (by decide) (fun h12 => ?_) (fun h12 => ?_)
    · rw [e44, ad_] at h12
      have h13 := in_ye (fun q => h12 (if_pos q))
      rw [if_neg (fun q => h12 (if_pos q))] at h12
      have e : wdays (a_n A) x (a_r A 44) = -1 := (wd_y VA).mpr ⟨h4, h13, fun q => h12 (if_pos q)⟩
      rw [qy_, if_pos e] at h
      obtain ⟨h00, k, d, hk, rfl, ed, hd⟩ := wdays_ok VA e
      rw [nI_clamp (by omega)] at h
      refine V_aload_n (i := 0) (sx_di dX12_years 9 rfl) rfl rfl ?_
      refine V_lload_n (i := 2) (sx_di dX12_years 10 rfl) rfl rfl ?_
      refine V_putJ (sx_di dX12_years 11 rfl) fX12_336 (fun _ => rfl) rfl (hB.k _ rfl) rfl rfl ?_
      refine V_iconst (v := 0) (sx_di dX12_years 12 rfl) (by decide) ?_
      refine V_istore (sx_di dX12_years 13 rfl) (by decide) (rfl) ?_
      refine V_sub (ls' := [(4, .int (nI 0)), (2, .long z), (1, .int (nI k)), (0, .ref 381)]) ⟨rfl, rfl, rfl, rfl, trivial⟩ ?_
      have e9 := yw_sj w 381 33 (hp_i w) (hp_j w 381 33) z
      rw [yw_of rfl] at e9
      rw [e9]
      exact yR_lp hf hv ho VA h00 ed hd hk h k 0 _ (by omega) (RR_w H (yw_B hB _ _ _ _) (fun _ _ => rfl) H.2.2.2.2.1) (fC_yw (fun _ _ => rfl)) (yw_j _ _ _ _ _)
    · rw [e44, ad_] at h12
      refine V_iconst (v := -1) (sx_di dX12_years 7 rfl) (by decide) ?_
      refine V_iret (sx_di dX12_years 8 rfl) rfl (Nat.le_refl _) (Nat.le_refl _) ?_
      exact hno (fun q => by rw [if_neg (fun y => q.2.1 (in_no y)), if_neg q.2.2] at h12; exact absurd h12 (by decide))

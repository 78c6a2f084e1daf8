/-! a street's first state -/
theorem V_ww {E : sxE} {M : sxM} {R : Room} {mc ms ce sl pc : Nat} {ls : List (Nat × Value)} {st : List Value} {w : hpW} {Q : Option Value → hpW → Prop} {w2 : hpW} (e : w = w2) (k : V E M R mc ms ce sl pc ls st w2 Q) : V E M R mc ms ce sl pc ls st w Q := by subst e; exact k
def h98 (I : Nat → Nat → Int32) (r : Nat → Int32) : Nat → Nat → Int32 := fun b => if b = 398 then r else I b
theorem h98_u (I : Nat → Nat → Int32) (r : Nat → Int32) (k : Nat) (x : Int32) : hp_u (h98 I r) 398 k x = h98 I (up_ r k x) := by
  funext b j
  unfold hp_u h98 up_
  by_cases h : b = 398
  · subst h
    rw [if_pos rfl]
    by_cases h2 : j = k
    · rw [if_pos ⟨rfl, h2⟩, if_pos rfl, if_pos h2]
    · rw [if_neg (fun z => h2 z.2), if_pos rfl, if_neg h2]
  · rw [if_neg (fun z => h z.1), if_neg h, if_neg h]
theorem h98_s (w : hpW) (I : Nat → Nat → Int32) (r : Nat → Int32) (k : Nat) (x : Int32) : hp_si (hp_wi w (h98 I r)) 398 k x = hp_wi w (h98 I (up_ r k x)) := by
  show hp_wi w (hp_u (h98 I r) 398 k x) = _
  rw [h98_u]
theorem h98_o (I : Nat → Nat → Int32) (r : Nat → Int32) {b : Nat} (h : b ≠ 398) : h98 I r b = I b := if_neg h
def zr_ (r : Nat → Int32) (k : Nat) : Nat → Int32 := fun j => if j < k then 0 else r j
theorem zr_s (r : Nat → Int32) (k : Nat) : up_ (zr_ r k) k 0 = zr_ r (k + 1) := by
  funext j
  unfold up_ zr_
  by_cases h : j = k
  · rw [if_pos h, if_pos (by omega)]
  · rw [if_neg h]
    by_cases h2 : j < k
    · rw [if_pos h2, if_pos (by omega)]
    · rw [if_neg h2, if_neg (by omega)]
def bpr_ (s : Nat → Int32) (h : Nat) (r : Nat → Int32) : Nat → Int32 := fun j => if j < h then s (4 + 4 * j) else if 16 ≤ j ∧ j < 16 + h then s (4 + 4 * (j - 16) + 1) else if 24 ≤ j ∧ j < 24 + h then s (4 + 4 * (j - 24) + 2) else if 32 ≤ j ∧ j < 32 + h then s (4 + 4 * (j - 32) + 3) else zr_ r 45 j
def bg_ (s : Nat → Int32) (n : Nat) (r : Nat → Int32) : Nat → Int32 := up_ (up_ (up_ (bpr_ s n r) 41 (s 3)) 42 (if s 1 = 8 then -1 else s 1)) 43 (s 2)
theorem bpr_0 (s r : Nat → Int32) : bpr_ s 0 r = zr_ r 45 := by
  funext j
  unfold bpr_
  rw [if_neg (by omega), if_neg (by omega), if_neg (by omega), if_neg (by omega)]
theorem bpr_s (s r : Nat → Int32) {h : Nat} (hh : h < 8) : up_ (up_ (up_ (up_ (bpr_ s h r) h (s (4 + 4 * h))) (16 + h) (s (4 + 4 * h + 1))) (24 + h) (s (4 + 4 * h + 2))) (32 + h) (s (4 + 4 * h + 3)) = bpr_ s (h + 1) r := by
  funext j
  unfold up_
  by_cases e4 : j = 32 + h
  · rw [if_pos e4, e4]
    unfold bpr_
    rw [if_neg (by omega), if_neg (by omega), if_neg (by omega), if_pos (by omega), Nat.add_sub_cancel_left]
  · rw [if_neg e4]
    by_cases e3 : j = 24 + h
    · rw [if_pos e3, e3]
      unfold bpr_
      rw [if_neg (by omega), if_neg (by omega), if_pos (by omega), Nat.add_sub_cancel_left]
    · rw [if_neg e3]
      by_cases e2 : j = 16 + h
      · rw [if_pos e2, e2]
        unfold bpr_
        rw [if_neg (by omega), if_pos (by omega), Nat.add_sub_cancel_left]
      · rw [if_neg e2]
        by_cases e1 : j = h
        · rw [if_pos e1, e1]
          unfold bpr_
          rw [if_pos (by omega)]
        · rw [if_neg e1]
          unfold bpr_
          by_cases c1 : j < h
          · rw [if_pos c1, if_pos (by omega)]
          · rw [if_neg c1, if_neg (show ¬ j < h + 1 by omega)]
            by_cases c2 : 16 ≤ j ∧ j < 16 + h
            · rw [if_pos c2, if_pos (show 16 ≤ j ∧ j < 16 + (h + 1) by omega)]
            · rw [if_neg c2, if_neg (show ¬ (16 ≤ j ∧ j < 16 + (h + 1)) by omega)]
              by_cases c3 : 24 ≤ j ∧ j < 24 + h
              · rw [if_pos c3, if_pos (show 24 ≤ j ∧ j < 24 + (h + 1) by omega)]
              · rw [if_neg c3, if_neg (show ¬ (24 ≤ j ∧ j < 24 + (h + 1)) by omega)]
                by_cases c4 : 32 ≤ j ∧ j < 32 + h
                · rw [if_pos c4, if_pos (show 32 ≤ j ∧ j < 32 + (h + 1) by omega)]
                · rw [if_neg c4, if_neg (show ¬ (32 ≤ j ∧ j < 32 + (h + 1)) by omega)]
set_option maxHeartbeats 2000000 in
set_option maxRecDepth 20000 in
theorem bR_l1 {E : sxE} {w : hpW} {Q : Option Value → hpW → Prop} (hB : ly_B w) (h : V E mX12_begin (sx_rm 2 0 0) 0 0 0 0 21 [(0, .ref 381)] [] (hp_wi w (h98 (hp_i w) (zr_ (hp_i w 398) 45))) Q) : ∀ d k, k + d = 45 → V E mX12_begin (sx_rm 2 0 0) 0 0 0 0 2 [(1, .int (nI k)), (0, .ref 381)] [] (hp_wi w (h98 (hp_i w) (zr_ (hp_i w 398) k))) Q := by
  intro d
  induction d with
  | zero =>
    intro k hk
    have e : k = 45 := by omega
    subst e
    refine V_iload_n (i := 1) (sx_di dX12_begin 2 rfl) rfl rfl ?_
    refine V_bipush (v := 45) (sx_di dX12_begin 3 rfl) (by decide) ?_
    refine V_icN_ge (a := 45) (b := 45) (rfl) (rfl) (by omega) (by omega) (tgt := 21) (sx_di dX12_begin 4 rfl) (by decide) (fun _ => ?_) (fun h5 => absurd h5 (by omega))
    refine V_sub (ls' := [(0, .ref 381)]) ⟨rfl, trivial⟩ ?_
    exact h
  | succ d ih =>
    intro k hk
    have q1 := ih (k + 1) (by omega)
    rw [← zr_s, ← nI_1, ← h98_s] at q1
    refine V_iload_n (i := 1) (sx_di dX12_begin 2 rfl) rfl rfl ?_
    refine V_bipush (v := 45) (sx_di dX12_begin 3 rfl) (by decide) ?_
    refine V_icN_ge (a := k) (b := 45) (rfl) (rfl) (by omega) (by omega) (tgt := 21) (sx_di dX12_begin 4 rfl) (by decide) (fun h5 => absurd h5 (by omega)) (fun _ => ?_)
    refine V_aload_n (i := 0) (sx_di dX12_begin 5 rfl) rfl rfl ?_
    refine V_getR (sx_di dX12_begin 6 rfl) fX12_58 (fun _ => rfl) (hB.k _ rfl) (hB.r _ _ rfl) ?_
    refine V_iload_n (i := 1) (sx_di dX12_begin 7 rfl) rfl rfl ?_
    refine V_iconst (v := 0) (sx_di dX12_begin 8 rfl) (by decide) ?_
    refine V_iastN (n := 226) (j := k) (sx_di dX12_begin 9 rfl) (hB.k _ rfl) (rfl) (by omega) (by omega) ?_
    refine V_inc (c := 1) (sx_di dX12_begin 10 rfl) (by decide) rfl (by decide) (rfl) ?_
    refine V_goto (tgt := 2) (sx_di dX12_begin 11 rfl) (by decide) ?_
    exact V_subk q1 ⟨rfl, rfl, trivial⟩
set_option maxHeartbeats 2000000 in
set_option maxRecDepth 20000 in
theorem bR_l2 {E : sxE} {w : hpW} {Q : Option Value → hpW → Prop} (hB : ly_B w) {n : Nat} (hn : hp_i w 381 25 = nI n) (hn8 : n ≤ 8) {s : Nat → Int32} (h5 : ∀ j, j < 4 → hp_i w 395 j = s j) (h6 : ∀ j, j < 4 * n → hp_i w 396 j = s (4 + j)) (h : Q none (hp_wi w (h98 (hp_i w) (bg_ s n (hp_i w 398))))) : ∀ d k, k + d = n → V E mX12_begin (sx_rm 2 0 0) 0 0 0 0 23 [(1, .int (nI k)), (0, .ref 381)] [] (hp_wi w (h98 (hp_i w) (bpr_ s k (hp_i w 398)))) Q := by
  intro d
  have o : ∀ r b, b ≠ 398 → h98 (hp_i w) r b = hp_i w b := fun r b hb => h98_o _ _ hb
  have en : ∀ r, h98 (hp_i w) r 381 25 = nI n := fun r => (congrFun (o r 381 (by omega)) 25).trans hn
  have e5 : ∀ r j, j < 4 → h98 (hp_i w) r 395 j = s j := fun r j hj => (congrFun (o r 395 (by omega)) j).trans (h5 j hj)
  have e6 : ∀ r j, j < 4 * n → h98 (hp_i w) r 396 j = s (4 + j) := fun r j hj => (congrFun (o r 396 (by omega)) j).trans (h6 j hj)
  induction d with
  | zero =>
    intro k hk
    have e : k = n := by omega
    subst e
    unfold bg_ at h
    refine V_iload_n (i := 1) (sx_di dX12_begin 14 rfl) rfl rfl ?_
    refine V_aload_n (i := 0) (sx_di dX12_begin 15 rfl) rfl rfl ?_
    refine V_getI (sx_di dX12_begin 16 rfl) fX12_258 (fun _ => rfl) (hB.k _ rfl) ?_
    refine V_iv (y := nI k) (en (bpr_ s k (hp_i w 398))) ?_
    refine V_icN_ge (a := k) (b := k) (rfl) (rfl) (by omega) (by omega) (tgt := 96) (sx_di dX12_begin 17 rfl) (by decide) (fun _ => ?_) (fun h28 => absurd h28 (by omega))
    refine V_aload_n (i := 0) (sx_di dX12_begin 60 rfl) rfl rfl ?_
    refine V_getR (sx_di dX12_begin 61 rfl) fX12_58 (fun _ => rfl) (hB.k _ rfl) (hB.r _ _ rfl) ?_
    refine V_bipush (v := 41) (sx_di dX12_begin 62 rfl) (by decide) ?_
    refine V_aload_n (i := 0) (sx_di dX12_begin 63 rfl) rfl rfl ?_
    refine V_getR (sx_di dX12_begin 64 rfl) fX12_49 (fun _ => rfl) (hB.k _ rfl) (hB.r _ _ rfl) ?_
    refine V_iconst (v := 3) (sx_di dX12_begin 65 rfl) (by decide) ?_
    refine V_ialdN (n := 4) (j := 3) (sx_di dX12_begin 66 rfl) (hB.k _ rfl) (rfl) (by omega) (by omega) ?_
    refine V_iv (y := s 3) (e5 (bpr_ s k (hp_i w 398)) 3 (by omega)) ?_
    refine V_iastN (n := 226) (j := 41) (sx_di dX12_begin 67 rfl) (hB.k _ rfl) (rfl) (by omega) (by omega) ?_
    refine V_ww (w2 := hp_wi w (h98 (hp_i w) (up_ (bpr_ s k (hp_i w 398)) 41 (s 3)))) (h98_s _ _ _ _ _) ?_
    refine V_aload_n (i := 0) (sx_di dX12_begin 68 rfl) rfl rfl ?_
    refine V_getR (sx_di dX12_begin 69 rfl) fX12_58 (fun _ => rfl) (hB.k _ rfl) (hB.r _ _ rfl) ?_
    refine V_bipush (v := 42) (sx_di dX12_begin 70 rfl) (by decide) ?_
    refine V_aload_n (i := 0) (sx_di dX12_begin 71 rfl) rfl rfl ?_
    refine V_getR (sx_di dX12_begin 72 rfl) fX12_49 (fun _ => rfl) (hB.k _ rfl) (hB.r _ _ rfl) ?_
    refine V_iconst (v := 1) (sx_di dX12_begin 73 rfl) (by decide) ?_
    refine V_ialdN (n := 4) (j := 1) (sx_di dX12_begin 74 rfl) (hB.k _ rfl) (rfl) (by omega) (by omega) ?_
    refine V_iv (y := s 1) (e5 (up_ (bpr_ s k (hp_i w 398)) 41 (s 3)) 1 (by omega)) ?_
    refine V_bipush (v := 8) (sx_di dX12_begin 75 rfl) (by decide) ?_
    refine V_icmp_ne (tgt := 130) (sx_di dX12_begin 76 rfl) (by decide) (fun h123 => ?_) (fun h123 => ?_)
    · rw [if_neg h123] at h
      refine V_aload_n (i := 0) (sx_di dX12_begin 79 rfl) rfl rfl ?_
      refine V_getR (sx_di dX12_begin 80 rfl) fX12_49 (fun _ => rfl) (hB.k _ rfl) (hB.r _ _ rfl) ?_
      refine V_iconst (v := 1) (sx_di dX12_begin 81 rfl) (by decide) ?_
      refine V_ialdN (n := 4) (j := 1) (sx_di dX12_begin 82 rfl) (hB.k _ rfl) (rfl) (by omega) (by omega) ?_
      refine V_iv (y := s 1) (e5 (up_ (bpr_ s k (hp_i w 398)) 41 (s 3)) 1 (by omega)) ?_
      refine V_iastN (n := 226) (j := 42) (sx_di dX12_begin 83 rfl) (hB.k _ rfl) (rfl) (by omega) (by omega) ?_
      refine V_ww (w2 := hp_wi w (h98 (hp_i w) (up_ (up_ (bpr_ s k (hp_i w 398)) 41 (s 3)) 42 (s 1)))) (h98_s _ _ _ _ _) ?_
      refine V_aload_n (i := 0) (sx_di dX12_begin 84 rfl) rfl rfl ?_
      refine V_getR (sx_di dX12_begin 85 rfl) fX12_58 (fun _ => rfl) (hB.k _ rfl) (hB.r _ _ rfl) ?_
      refine V_bipush (v := 43) (sx_di dX12_begin 86 rfl) (by decide) ?_
      refine V_aload_n (i := 0) (sx_di dX12_begin 87 rfl) rfl rfl ?_
      refine V_getR (sx_di dX12_begin 88 rfl) fX12_49 (fun _ => rfl) (hB.k _ rfl) (hB.r _ _ rfl) ?_
      refine V_iconst (v := 2) (sx_di dX12_begin 89 rfl) (by decide) ?_
      refine V_ialdN (n := 4) (j := 2) (sx_di dX12_begin 90 rfl) (hB.k _ rfl) (rfl) (by omega) (by omega) ?_
      refine V_iv (y := s 2) (e5 (up_ (up_ (bpr_ s k (hp_i w 398)) 41 (s 3)) 42 (s 1)) 2 (by omega)) ?_
      refine V_iastN (n := 226) (j := 43) (sx_di dX12_begin 91 rfl) (hB.k _ rfl) (rfl) (by omega) (by omega) ?_
      refine V_ww (w2 := hp_wi w (h98 (hp_i w) (up_ (up_ (up_ (bpr_ s k (hp_i w 398)) 41 (s 3)) 42 (s 1)) 43 (s 2)))) (h98_s _ _ _ _ _) ?_
      refine V_vret (sx_di dX12_begin 92 rfl) rfl (Nat.le_refl _) (Nat.le_refl _) ?_
      exact h
    · rw [if_pos h123] at h
      refine V_iconst (v := -1) (sx_di dX12_begin 77 rfl) (by decide) ?_
      refine V_goto (tgt := 136) (sx_di dX12_begin 78 rfl) (by decide) ?_
      refine V_iastN (n := 226) (j := 42) (sx_di dX12_begin 83 rfl) (hB.k _ rfl) (rfl) (by omega) (by omega) ?_
      refine V_ww (w2 := hp_wi w (h98 (hp_i w) (up_ (up_ (bpr_ s k (hp_i w 398)) 41 (s 3)) 42 (-1)))) (h98_s _ _ _ _ _) ?_
      refine V_aload_n (i := 0) (sx_di dX12_begin 84 rfl) rfl rfl ?_
      refine V_getR (sx_di dX12_begin 85 rfl) fX12_58 (fun _ => rfl) (hB.k _ rfl) (hB.r _ _ rfl) ?_
      refine V_bipush (v := 43) (sx_di dX12_begin 86 rfl) (by decide) ?_
      refine V_aload_n (i := 0) (sx_di dX12_begin 87 rfl) rfl rfl ?_
      refine V_getR (sx_di dX12_begin 88 rfl) fX12_49 (fun _ => rfl) (hB.k _ rfl) (hB.r _ _ rfl) ?_
      refine V_iconst (v := 2) (sx_di dX12_begin 89 rfl) (by decide) ?_
      refine V_ialdN (n := 4) (j := 2) (sx_di dX12_begin 90 rfl) (hB.k _ rfl) (rfl) (by omega) (by omega) ?_
      refine V_iv (y := s 2) (e5 (up_ (up_ (bpr_ s k (hp_i w 398)) 41 (s 3)) 42 (-1)) 2 (by omega)) ?_
      refine V_iastN (n := 226) (j := 43) (sx_di dX12_begin 91 rfl) (hB.k _ rfl) (rfl) (by omega) (by omega) ?_
      refine V_ww (w2 := hp_wi w (h98 (hp_i w) (up_ (up_ (up_ (bpr_ s k (hp_i w 398)) 41 (s 3)) 42 (-1)) 43 (s 2)))) (h98_s _ _ _ _ _) ?_
      refine V_vret (sx_di dX12_begin 92 rfl) rfl (Nat.le_refl _) (Nat.le_refl _) ?_
      exact h
  | succ d ih =>
    intro k hk
    have q1 := ih (k + 1) (by omega)
    rw [← bpr_s _ _ (show k < 8 by omega), ← nI_1] at q1
    refine V_iload_n (i := 1) (sx_di dX12_begin 14 rfl) rfl rfl ?_
    refine V_aload_n (i := 0) (sx_di dX12_begin 15 rfl) rfl rfl ?_
    refine V_getI (sx_di dX12_begin 16 rfl) fX12_258 (fun _ => rfl) (hB.k _ rfl) ?_
    refine V_iv (y := nI n) (en (bpr_ s k (hp_i w 398))) ?_
    refine V_icN_ge (a := k) (b := n) (rfl) (rfl) (by omega) (by omega) (tgt := 96) (sx_di dX12_begin 17 rfl) (by decide) (fun h28 => absurd h28 (by omega)) (fun _ => ?_)
    refine V_aload_n (i := 0) (sx_di dX12_begin 18 rfl) rfl rfl ?_
    refine V_getR (sx_di dX12_begin 19 rfl) fX12_58 (fun _ => rfl) (hB.k _ rfl) (hB.r _ _ rfl) ?_
    refine V_iconst (v := 0) (sx_di dX12_begin 20 rfl) (by decide) ?_
    refine V_iload_n (i := 1) (sx_di dX12_begin 21 rfl) rfl rfl ?_
    refine V_iadd (sx_di dX12_begin 22 rfl) ?_
    refine V_aload_n (i := 0) (sx_di dX12_begin 23 rfl) rfl rfl ?_
    refine V_iload_n (i := 1) (sx_di dX12_begin 24 rfl) rfl rfl ?_
    refine V_iconst (v := 0) (sx_di dX12_begin 25 rfl) (by decide) ?_
    refine V_cV2 (mc' := 0) (ms' := 0) (M' := mX12_of) 1 (sx_di dX12_begin 26 rfl) lX12_261 vX12_of (hB.k _ rfl) (by decide) rfl (Nat.le_of_ble_eq_true rfl) ⟨Nat.le_of_ble_eq_true rfl, Nat.le_of_ble_eq_true rfl⟩ ⟨Nat.le_refl _, Nat.le_refl _⟩ ?_
    refine c_X12_of (x := k) (y := 0) (ly_wi hB _) (by omega) (by omega) ?_
    refine V_iv (y := s (4 + 4 * k)) (e6 (bpr_ s k (hp_i w 398)) (4 * k + 0) (by omega)) ?_
    refine V_iastN (n := 226) (j := k) (sx_di dX12_begin 27 rfl) (hB.k _ rfl) (nx_z0 (rfl)) (by omega) (by omega) ?_
    refine V_ww (w2 := hp_wi w (h98 (hp_i w) (up_ (bpr_ s k (hp_i w 398)) k (s (4 + 4 * k))))) (h98_s _ _ _ _ _) ?_
    refine V_aload_n (i := 0) (sx_di dX12_begin 28 rfl) rfl rfl ?_
    refine V_getR (sx_di dX12_begin 29 rfl) fX12_58 (fun _ => rfl) (hB.k _ rfl) (hB.r _ _ rfl) ?_
    refine V_bipush (v := 16) (sx_di dX12_begin 30 rfl) (by decide) ?_
    refine V_iload_n (i := 1) (sx_di dX12_begin 31 rfl) rfl rfl ?_
    refine V_iadd (sx_di dX12_begin 32 rfl) ?_
    refine V_aload_n (i := 0) (sx_di dX12_begin 33 rfl) rfl rfl ?_
    refine V_iload_n (i := 1) (sx_di dX12_begin 34 rfl) rfl rfl ?_
    refine V_iconst (v := 1) (sx_di dX12_begin 35 rfl) (by decide) ?_
    refine V_cV2 (mc' := 0) (ms' := 0) (M' := mX12_of) 1 (sx_di dX12_begin 36 rfl) lX12_261 vX12_of (hB.k _ rfl) (by decide) rfl (Nat.le_of_ble_eq_true rfl) ⟨Nat.le_of_ble_eq_true rfl, Nat.le_of_ble_eq_true rfl⟩ ⟨Nat.le_refl _, Nat.le_refl _⟩ ?_
    refine c_X12_of (x := k) (y := 1) (ly_wi hB _) (by omega) (by omega) ?_
    refine V_iv (y := s (4 + 4 * k + 1)) ((e6 (up_ (bpr_ s k (hp_i w 398)) k (s (4 + 4 * k))) (4 * k + 1) (by omega)).trans (congrArg s (by omega))) ?_
    refine V_iastN (n := 226) (j := (16 + k)) (sx_di dX12_begin 37 rfl) (hB.k _ rfl) (nx_add (rfl) (rfl)) (by omega) (by omega) ?_
    refine V_ww (w2 := hp_wi w (h98 (hp_i w) (up_ (up_ (bpr_ s k (hp_i w 398)) k (s (4 + 4 * k))) (16 + k) (s (4 + 4 * k + 1))))) (h98_s _ _ _ _ _) ?_
    refine V_aload_n (i := 0) (sx_di dX12_begin 38 rfl) rfl rfl ?_
    refine V_getR (sx_di dX12_begin 39 rfl) fX12_58 (fun _ => rfl) (hB.k _ rfl) (hB.r _ _ rfl) ?_
    refine V_bipush (v := 24) (sx_di dX12_begin 40 rfl) (by decide) ?_
    refine V_iload_n (i := 1) (sx_di dX12_begin 41 rfl) rfl rfl ?_
    refine V_iadd (sx_di dX12_begin 42 rfl) ?_
    refine V_aload_n (i := 0) (sx_di dX12_begin 43 rfl) rfl rfl ?_
    refine V_iload_n (i := 1) (sx_di dX12_begin 44 rfl) rfl rfl ?_
    refine V_iconst (v := 2) (sx_di dX12_begin 45 rfl) (by decide) ?_
    refine V_cV2 (mc' := 0) (ms' := 0) (M' := mX12_of) 1 (sx_di dX12_begin 46 rfl) lX12_261 vX12_of (hB.k _ rfl) (by decide) rfl (Nat.le_of_ble_eq_true rfl) ⟨Nat.le_of_ble_eq_true rfl, Nat.le_of_ble_eq_true rfl⟩ ⟨Nat.le_refl _, Nat.le_refl _⟩ ?_
    refine c_X12_of (x := k) (y := 2) (ly_wi hB _) (by omega) (by omega) ?_
    refine V_iv (y := s (4 + 4 * k + 2)) ((e6 (up_ (up_ (bpr_ s k (hp_i w 398)) k (s (4 + 4 * k))) (16 + k) (s (4 + 4 * k + 1))) (4 * k + 2) (by omega)).trans (congrArg s (by omega))) ?_
    refine V_iastN (n := 226) (j := (24 + k)) (sx_di dX12_begin 47 rfl) (hB.k _ rfl) (nx_add (rfl) (rfl)) (by omega) (by omega) ?_
    refine V_ww (w2 := hp_wi w (h98 (hp_i w) (up_ (up_ (up_ (bpr_ s k (hp_i w 398)) k (s (4 + 4 * k))) (16 + k) (s (4 + 4 * k + 1))) (24 + k) (s (4 + 4 * k + 2))))) (h98_s _ _ _ _ _) ?_
    refine V_aload_n (i := 0) (sx_di dX12_begin 48 rfl) rfl rfl ?_
    refine V_getR (sx_di dX12_begin 49 rfl) fX12_58 (fun _ => rfl) (hB.k _ rfl) (hB.r _ _ rfl) ?_
    refine V_bipush (v := 32) (sx_di dX12_begin 50 rfl) (by decide) ?_
    refine V_iload_n (i := 1) (sx_di dX12_begin 51 rfl) rfl rfl ?_
    refine V_iadd (sx_di dX12_begin 52 rfl) ?_
    refine V_aload_n (i := 0) (sx_di dX12_begin 53 rfl) rfl rfl ?_
    refine V_iload_n (i := 1) (sx_di dX12_begin 54 rfl) rfl rfl ?_
    refine V_iconst (v := 3) (sx_di dX12_begin 55 rfl) (by decide) ?_
    refine V_cV2 (mc' := 0) (ms' := 0) (M' := mX12_of) 1 (sx_di dX12_begin 56 rfl) lX12_261 vX12_of (hB.k _ rfl) (by decide) rfl (Nat.le_of_ble_eq_true rfl) ⟨Nat.le_of_ble_eq_true rfl, Nat.le_of_ble_eq_true rfl⟩ ⟨Nat.le_refl _, Nat.le_refl _⟩ ?_
    refine c_X12_of (x := k) (y := 3) (ly_wi hB _) (by omega) (by omega) ?_
    refine V_iv (y := s (4 + 4 * k + 3)) ((e6 (up_ (up_ (up_ (bpr_ s k (hp_i w 398)) k (s (4 + 4 * k))) (16 + k) (s (4 + 4 * k + 1))) (24 + k) (s (4 + 4 * k + 2))) (4 * k + 3) (by omega)).trans (congrArg s (by omega))) ?_
    refine V_iastN (n := 226) (j := (32 + k)) (sx_di dX12_begin 57 rfl) (hB.k _ rfl) (nx_add (rfl) (rfl)) (by omega) (by omega) ?_
    refine V_ww (w2 := hp_wi w (h98 (hp_i w) (up_ (up_ (up_ (up_ (bpr_ s k (hp_i w 398)) k (s (4 + 4 * k))) (16 + k) (s (4 + 4 * k + 1))) (24 + k) (s (4 + 4 * k + 2))) (32 + k) (s (4 + 4 * k + 3))))) (h98_s _ _ _ _ _) ?_
    refine V_inc (c := 1) (sx_di dX12_begin 58 rfl) (by decide) rfl (by decide) (rfl) ?_
    refine V_goto (tgt := 23) (sx_di dX12_begin 59 rfl) (by decide) ?_
    exact V_subk q1 ⟨rfl, rfl, trivial⟩
set_option maxHeartbeats 2000000 in
set_option maxRecDepth 20000 in
theorem c_X12_begin {E : sxE} {w : hpW} {Q : Option Value → hpW → Prop} (hB : ly_B w) {n : Nat} (hn : hp_i w 381 25 = nI n) (hn8 : n ≤ 8) {s : Nat → Int32} (h5 : ∀ j, j < 4 → hp_i w 395 j = s j) (h6 : ∀ j, j < 4 * n → hp_i w 396 j = s (4 + j)) (h : Q none (hp_wi w (h98 (hp_i w) (bg_ s n (hp_i w 398))))) : sx_C E mX12_begin 2 0 0 [.ref 381] w Q := by
  have e0 : w = hp_wi w (h98 (hp_i w) (zr_ (hp_i w 398) 0)) := by
    have : h98 (hp_i w) (zr_ (hp_i w 398) 0) = hp_i w := by
      funext b j
      unfold h98 zr_
      by_cases e : b = 398
      · rw [if_pos e, if_neg (by omega), e]
      · rw [if_neg e]
    rw [this]
    rfl
  refine C_of (by decide +kernel) (Nat.le_of_ble_eq_true rfl) ?_
  refine V_iconst (v := 0) (sx_di dX12_begin 0 rfl) (by decide) ?_
  refine V_istore_n (i := 1) (sx_di dX12_begin 1 rfl) rfl (by decide) (rfl) ?_
  refine V_ww e0 ?_
  refine V_sub (ls' := [(1, .int (nI 0)), (0, .ref 381)]) ⟨rfl, rfl, trivial⟩ ?_
  refine bR_l1 hB ?_ 45 0 (by omega)
  refine V_iconst (v := 0) (sx_di dX12_begin 12 rfl) (by decide) ?_
  refine V_istore_n (i := 1) (sx_di dX12_begin 13 rfl) rfl (by decide) (rfl) ?_
  refine V_sub (ls' := [(1, .int (nI 0)), (0, .ref 381)]) ⟨rfl, rfl, trivial⟩ ?_
  rw [← bpr_0 s]
  exact bR_l2 hB hn hn8 h5 h6 h n 0 (by omega)
/-! the class -/
def bcK (I J : Nat → Nat → Int32) (a t k : Nat) : Prop := (∀ b, b < a ∨ a + 6 < b → J b = I b) ∧ (∀ j, J a j = I a j) ∧ ∀ h, h < k → J (a + 1) h = I (t + 1) (4 + 4 * h) ∧ J (a + 2) h = I (t + 1) (4 + 4 * h) ∧ J (a + 3) h = 0 ∧ J (a + 4) h = I (t + 1) (4 + 4 * h + 1) ∧ J (a + 5) h = I (t + 1) (4 + 4 * h + 2) ∧ J (a + 6) h = I (t + 1) (4 + 4 * h + 3)
def bu_ (J : Nat → Nat → Int32) (a k : Nat) (x y z u : Int32) : Nat → Nat → Int32 := hp_u (hp_u (hp_u (hp_u (hp_u (hp_u J (a + 1) k x) (a + 2) k x) (a + 3) k 0) (a + 4) k y) (a + 5) k z) (a + 6) k u
theorem bcK_s {I J : Nat → Nat → Int32} {a t k : Nat} (H : bcK I J a t k) : bcK I (bu_ J a k (I (t + 1) (4 + 4 * k)) (I (t + 1) (4 + 4 * k + 1)) (I (t + 1) (4 + 4 * k + 2)) (I (t + 1) (4 + 4 * k + 3))) a t (k + 1) := by
  refine ⟨fun b hb => ?_, fun j => ?_, fun h hh => ?_⟩
  · rw [← H.1 b hb]
    funext j
    unfold bu_
    rw [hp_u_nk _ _ (by omega), hp_u_nk _ _ (by omega), hp_u_nk _ _ (by omega), hp_u_nk _ _ (by omega), hp_u_nk _ _ (by omega), hp_u_nk _ _ (by omega)]
  · rw [← H.2.1 j]
    unfold bu_
    rw [hp_u_nk _ _ (by omega), hp_u_nk _ _ (by omega), hp_u_nk _ _ (by omega), hp_u_nk _ _ (by omega), hp_u_nk _ _ (by omega), hp_u_nk _ _ (by omega)]
  · by_cases e : h = k
    · subst e
      unfold bu_
      refine ⟨?_, ?_, ?_, ?_, ?_, ?_⟩
      · rw [hp_u_nk _ _ (by omega), hp_u_nk _ _ (by omega), hp_u_nk _ _ (by omega), hp_u_nk _ _ (by omega), hp_u_nk _ _ (by omega), hp_u_at]
      · rw [hp_u_nk _ _ (by omega), hp_u_nk _ _ (by omega), hp_u_nk _ _ (by omega), hp_u_nk _ _ (by omega), hp_u_at]
      · rw [hp_u_nk _ _ (by omega), hp_u_nk _ _ (by omega), hp_u_nk _ _ (by omega), hp_u_at]
      · rw [hp_u_nk _ _ (by omega), hp_u_nk _ _ (by omega), hp_u_at]
      · rw [hp_u_nk _ _ (by omega), hp_u_at]
      · rw [hp_u_at]
    · have z := H.2.2 h (by omega)
      unfold bu_
      rw [hp_u_nk _ _ (by omega), hp_u_nk _ _ (by omega), hp_u_nk _ _ (by omega), hp_u_nk _ _ (by omega), hp_u_nk _ _ (by omega), hp_u_nk _ _ (by omega)]
      rw [hp_u_nk _ _ (by omega), hp_u_nk _ _ (by omega), hp_u_nk _ _ (by omega), hp_u_nk _ _ (by omega), hp_u_nk _ _ (by omega), hp_u_nk _ _ (by omega)]
      rw [hp_u_nk _ _ (by omega), hp_u_nk _ _ (by omega), hp_u_nk _ _ (by omega), hp_u_nk _ _ (by omega), hp_u_nk _ _ (by omega), hp_u_nk _ _ (by omega)]
      rw [hp_u_nk _ _ (by omega), hp_u_nk _ _ (by omega), hp_u_nk _ _ (by omega), hp_u_nk _ _ (by omega), hp_u_nk _ _ (by omega), hp_u_nk _ _ (by omega)]
      rw [hp_u_nk _ _ (by omega), hp_u_nk _ _ (by omega), hp_u_nk _ _ (by omega), hp_u_nk _ _ (by omega), hp_u_nk _ _ (by omega), hp_u_nk _ _ (by omega)]
      rw [hp_u_nk _ _ (by omega), hp_u_nk _ _ (by omega), hp_u_nk _ _ (by omega), hp_u_nk _ _ (by omega), hp_u_nk _ _ (by omega), hp_u_nk _ _ (by omega)]
      exact z

/-! numbers on the tape -/
def rnF (T : List Int32) (mx : Nat) : Nat → Nat → Int32 → Nat → Bool × Nat × Int32
  | 0, _, v, p => (false, p, v)
  | f + 1, k, v, p => if p < T.length ∧ 48 ≤ T.getD p 0 ∧ T.getD p 0 ≤ 57 then (if k = mx then (false, p, v) else rnF T mx f (k + 1) (v * 10 + T.getD p 0 - 48) (p + 1)) else (decide (0 < k), p, v)
def rn_ (T : List Int32) (mx p : Nat) : Bool × Nat × Int32 := rnF T mx (mx + 1) 0 0 p
theorem rnF_p (T : List Int32) (mx : Nat) : ∀ f k v p, p ≤ (rnF T mx f k v p).2.1 ∧ (rnF T mx f k v p).2.1 ≤ p + f
  | 0, k, v, p => ⟨Nat.le_refl _, Nat.le_refl _⟩
  | f + 1, k, v, p => by
    unfold rnF
    split
    · split
      · exact ⟨Nat.le_refl _, by show p ≤ _; omega⟩
      · have z := rnF_p T mx f (k + 1) (v * 10 + T.getD p 0 - 48) (p + 1)
        exact ⟨by omega, by omega⟩
    · exact ⟨Nat.le_refl _, by show p ≤ _; omega⟩
/-- the class's head is at p, its number is v -/
def nw9 (w : hpW) (p : Nat) (v : Int32) : hpW := hp_wi w (hp_u (hp_u (hp_i w) 17 3 v) 17 2 (nI p))
theorem nw9_h (w : hpW) (p q : Nat) (v : Int32) : hp_si (nw9 w p v) 17 2 (nI q) = nw9 w q v := by
  show hp_wi w (hp_u (hp_u (hp_u (hp_i w) 17 3 v) 17 2 (nI p)) 17 2 (nI q)) = _
  rw [hp_uu]
  rfl
theorem hp_u_cm {α : Type} (f : Nat → Nat → α) {a k b j : Nat} (x y : α) (h : ¬ (a = b ∧ k = j)) : hp_u (hp_u f a k x) b j y = hp_u (hp_u f b j y) a k x := by
  funext c i
  unfold hp_u
  by_cases h1 : c = b ∧ i = j
  · rw [if_pos h1, if_neg (by omega), if_pos h1]
  · rw [if_neg h1]
    by_cases h2 : c = a ∧ i = k
    · rw [if_pos h2, if_pos h2]
    · rw [if_neg h2, if_neg h2, if_neg h1]
theorem nw9_v (w : hpW) (p : Nat) (v u : Int32) : hp_si (nw9 w p v) 17 3 u = nw9 w p u := by
  show hp_wi w (hp_u (hp_u (hp_u (hp_i w) 17 3 v) 17 2 (nI p)) 17 3 u) = _
  rw [hp_u_cm _ _ _ (by omega), hp_uu]
  rfl
theorem nw9_id {w : hpW} {p : Nat} {v : Int32} (e : hp_i w 17 2 = nI p) (e2 : hp_i w 17 3 = v) : nw9 w p v = w := by
  unfold nw9
  rw [← e2, hp_u_id, ← e, hp_u_id]
  rfl
theorem nw9_o {w : hpW} {p b j : Nat} {v : Int32} (h : ¬ (b = 17 ∧ j = 2)) (h2 : ¬ (b = 17 ∧ j = 3)) : hp_i (nw9 w p v) b j = hp_i w b j := by
  show hp_u (hp_u (hp_i w) 17 3 v) 17 2 (nI p) b j = _
  rw [hp_u_nk _ _ h, hp_u_nk _ _ h2]
theorem nw9_2 (w : hpW) (p : Nat) (v : Int32) : hp_i (nw9 w p v) 17 2 = nI p := by
  show hp_u (hp_u (hp_i w) 17 3 v) 17 2 (nI p) 17 2 = _
  rw [hp_u_at]
theorem nw9_3 (w : hpW) (p : Nat) (v : Int32) : hp_i (nw9 w p v) 17 3 = v := by
  show hp_u (hp_u (hp_i w) 17 3 v) 17 2 (nI p) 17 3 = _
  rw [hp_u_nk _ _ (by omega), hp_u_at]
set_option maxHeartbeats 2000000 in
set_option maxRecDepth 20000 in
theorem rn_lp {E : sxE} {w : hpW} {Q : Option Value → hpW → Prop} (hB : ly_B w) {T : List Int32} (hT : tp_ w 17 1 18 T) {mx : Nat} (hm : mx ≤ 4) : ∀ f k v p, k + f = mx → p ≤ 500 + k → Q (some (.int (if (rnF T mx (f + 1) k v p).1 then 1 else 0))) (nw9 w (rnF T mx (f + 1) k v p).2.1 (rnF T mx (f + 1) k v p).2.2) → V E mX10_readNumber (sx_rm 1 0 0) 0 0 0 0 7 [(2, .int (nI k)), (1, .int (nI mx)), (0, .ref 17)] [] (nw9 w p v) Q := by
  intro f
  have hl := hT.1
  have e2 : ∀ p v, hp_i (nw9 w p v) 17 1 = nI T.length := fun p v => (nw9_o (by omega) (by omega)).trans hT.2.1
  have e3 : ∀ p v k, k < T.length → hp_i (nw9 w p v) 18 k = T.getD k 0 := fun p v k hk => (nw9_o (by omega) (by omega)).trans (hT.2.2 k hk)
  have hstop : ∀ k v p, k ≤ 4 → p ≤ 504 → ¬ (p < T.length ∧ 48 ≤ T.getD p 0 ∧ T.getD p 0 ≤ 57) → Q (some (.int (if decide (0 < k) = true then 1 else 0))) (nw9 w p v) → V E mX10_readNumber (sx_rm 1 0 0) 0 0 0 0 7 [(2, .int (nI k)), (1, .int (nI mx)), (0, .ref 17)] [] (nw9 w p v) Q := fun k v p hk hp hn hz => by
    refine V_aload_n (i := 0) (sx_di dX10_readNumber 5 rfl) rfl rfl ?_
    refine V_getI (sx_di dX10_readNumber 6 rfl) fX10_19 (fun _ => rfl) (hB.k _ rfl) ?_
    refine V_iv (y := nI p) (nw9_2 w p v) ?_
    refine V_aload_n (i := 0) (sx_di dX10_readNumber 7 rfl) rfl rfl ?_
    refine V_getI (sx_di dX10_readNumber 8 rfl) fX10_15 (fun _ => rfl) (hB.k _ rfl) ?_
    refine V_iv (y := nI T.length) (e2 p v) ?_
    refine V_icN_ge (a := p) (b := T.length) (rfl) (rfl) (by omega) (by omega) (tgt := 103) (sx_di dX10_readNumber 9 rfl) (by decide) (fun h15 => ?_) (fun h15 => ?_)
    · refine V_iload_n (i := 2) (sx_di dX10_readNumber 55 rfl) rfl rfl ?_
      refine V_ifN_le (a := k) (rfl) (by omega) (tgt := 111) (sx_di dX10_readNumber 56 rfl) (by decide) (fun h104 => ?_) (fun h104 => ?_)
      · rw [if_neg (by rw [decide_eq_false (by omega)]; decide)] at hz
        refine V_iconst (v := 0) (sx_di dX10_readNumber 59 rfl) (by decide) ?_
        refine V_zret (sx_di dX10_readNumber 60 rfl) rfl (by first | rfl | decide) (Nat.le_refl _) (Nat.le_refl _) ?_
        exact hz
      · rw [if_pos (decide_eq_true (by omega))] at hz
        refine V_iconst (v := 1) (sx_di dX10_readNumber 57 rfl) (by decide) ?_
        refine V_goto (tgt := 112) (sx_di dX10_readNumber 58 rfl) (by decide) ?_
        refine V_zret (sx_di dX10_readNumber 60 rfl) rfl (by first | rfl | decide) (Nat.le_refl _) (Nat.le_refl _) ?_
        exact hz
    · refine V_aload_n (i := 0) (sx_di dX10_readNumber 10 rfl) rfl rfl ?_
      refine V_getI (sx_di dX10_readNumber 11 rfl) fX10_19 (fun _ => rfl) (hB.k _ rfl) ?_
      refine V_iv (y := nI p) (nw9_2 w p v) ?_
      refine V_sipush (v := 240) (sx_di dX10_readNumber 12 rfl) (by decide) ?_
      refine V_icN_ge (a := p) (b := 240) (rfl) (rfl) (by omega) (by omega) (tgt := 103) (sx_di dX10_readNumber 13 rfl) (by decide) (fun h25 => absurd h25 (by omega)) (fun _ => ?_)
      refine V_aload_n (i := 0) (sx_di dX10_readNumber 14 rfl) rfl rfl ?_
      refine V_getR (sx_di dX10_readNumber 15 rfl) fX10_9 (fun _ => rfl) (hB.k _ rfl) (hB.r _ _ rfl) ?_
      refine V_aload_n (i := 0) (sx_di dX10_readNumber 16 rfl) rfl rfl ?_
      refine V_getI (sx_di dX10_readNumber 17 rfl) fX10_19 (fun _ => rfl) (hB.k _ rfl) ?_
      refine V_iv (y := nI p) (nw9_2 w p v) ?_
      refine V_ialdN (n := 240) (j := p) (sx_di dX10_readNumber 18 rfl) (hB.k _ rfl) (rfl) (by omega) (by omega) ?_
      refine V_iv (y := T.getD p 0) (e3 p v p (by omega)) ?_
      refine V_bipush (v := 48) (sx_di dX10_readNumber 19 rfl) (by decide) ?_
      refine V_icmp_lt (tgt := 103) (sx_di dX10_readNumber 20 rfl) (by decide) (fun h39 => ?_) (fun h39 => ?_)
      · refine V_iload_n (i := 2) (sx_di dX10_readNumber 55 rfl) rfl rfl ?_
        refine V_ifN_le (a := k) (rfl) (by omega) (tgt := 111) (sx_di dX10_readNumber 56 rfl) (by decide) (fun h104 => ?_) (fun h104 => ?_)
        · rw [if_neg (by rw [decide_eq_false (by omega)]; decide)] at hz
          refine V_iconst (v := 0) (sx_di dX10_readNumber 59 rfl) (by decide) ?_
          refine V_zret (sx_di dX10_readNumber 60 rfl) rfl (by first | rfl | decide) (Nat.le_refl _) (Nat.le_refl _) ?_
          exact hz
        · rw [if_pos (decide_eq_true (by omega))] at hz
          refine V_iconst (v := 1) (sx_di dX10_readNumber 57 rfl) (by decide) ?_
          refine V_goto (tgt := 112) (sx_di dX10_readNumber 58 rfl) (by decide) ?_
          refine V_zret (sx_di dX10_readNumber 60 rfl) rfl (by first | rfl | decide) (Nat.le_refl _) (Nat.le_refl _) ?_
          exact hz
      · refine V_aload_n (i := 0) (sx_di dX10_readNumber 21 rfl) rfl rfl ?_
        refine V_getR (sx_di dX10_readNumber 22 rfl) fX10_9 (fun _ => rfl) (hB.k _ rfl) (hB.r _ _ rfl) ?_
        refine V_aload_n (i := 0) (sx_di dX10_readNumber 23 rfl) rfl rfl ?_
        refine V_getI (sx_di dX10_readNumber 24 rfl) fX10_19 (fun _ => rfl) (hB.k _ rfl) ?_
        refine V_iv (y := nI p) (nw9_2 w p v) ?_
        refine V_ialdN (n := 240) (j := p) (sx_di dX10_readNumber 25 rfl) (hB.k _ rfl) (rfl) (by omega) (by omega) ?_
        refine V_iv (y := T.getD p 0) (e3 p v p (by omega)) ?_
        refine V_bipush (v := 57) (sx_di dX10_readNumber 26 rfl) (by decide) ?_
        refine V_icmp_gt (tgt := 103) (sx_di dX10_readNumber 27 rfl) (by decide) (fun h53 => ?_) (fun h53 => ?_)
        · refine V_iload_n (i := 2) (sx_di dX10_readNumber 55 rfl) rfl rfl ?_
          refine V_ifN_le (a := k) (rfl) (by omega) (tgt := 111) (sx_di dX10_readNumber 56 rfl) (by decide) (fun h104 => ?_) (fun h104 => ?_)
          · rw [if_neg (by rw [decide_eq_false (by omega)]; decide)] at hz
            refine V_iconst (v := 0) (sx_di dX10_readNumber 59 rfl) (by decide) ?_
            refine V_zret (sx_di dX10_readNumber 60 rfl) rfl (by first | rfl | decide) (Nat.le_refl _) (Nat.le_refl _) ?_
            exact hz
          · rw [if_pos (decide_eq_true (by omega))] at hz
            refine V_iconst (v := 1) (sx_di dX10_readNumber 57 rfl) (by decide) ?_
            refine V_goto (tgt := 112) (sx_di dX10_readNumber 58 rfl) (by decide) ?_
            refine V_zret (sx_di dX10_readNumber 60 rfl) rfl (by first | rfl | decide) (Nat.le_refl _) (Nat.le_refl _) ?_
            exact hz
        · exact absurd ⟨by omega, Int32.not_lt.mp h39, Int32.not_lt.mp h53⟩ hn
  induction f with
  | zero =>
    intro k v p hk hp h
    unfold rnF at h
    by_cases hc : p < T.length ∧ 48 ≤ T.getD p 0 ∧ T.getD p 0 ≤ 57
    · rw [if_pos hc, if_pos (show k = mx by omega)] at h
      have hlt := hc.1
      refine V_aload_n (i := 0) (sx_di dX10_readNumber 5 rfl) rfl rfl ?_
      refine V_getI (sx_di dX10_readNumber 6 rfl) fX10_19 (fun _ => rfl) (hB.k _ rfl) ?_
      refine V_iv (y := nI p) (nw9_2 w p v) ?_
      refine V_aload_n (i := 0) (sx_di dX10_readNumber 7 rfl) rfl rfl ?_
      refine V_getI (sx_di dX10_readNumber 8 rfl) fX10_15 (fun _ => rfl) (hB.k _ rfl) ?_
      refine V_iv (y := nI T.length) (e2 p v) ?_
      refine V_icN_ge (a := p) (b := T.length) (rfl) (rfl) (by omega) (by omega) (tgt := 103) (sx_di dX10_readNumber 9 rfl) (by decide) (fun h15 => absurd h15 (by omega)) (fun _ => ?_)
      refine V_aload_n (i := 0) (sx_di dX10_readNumber 10 rfl) rfl rfl ?_
      refine V_getI (sx_di dX10_readNumber 11 rfl) fX10_19 (fun _ => rfl) (hB.k _ rfl) ?_
      refine V_iv (y := nI p) (nw9_2 w p v) ?_
      refine V_sipush (v := 240) (sx_di dX10_readNumber 12 rfl) (by decide) ?_
      refine V_icN_ge (a := p) (b := 240) (rfl) (rfl) (by omega) (by omega) (tgt := 103) (sx_di dX10_readNumber 13 rfl) (by decide) (fun h25 => absurd h25 (by omega)) (fun _ => ?_)
      refine V_aload_n (i := 0) (sx_di dX10_readNumber 14 rfl) rfl rfl ?_
      refine V_getR (sx_di dX10_readNumber 15 rfl) fX10_9 (fun _ => rfl) (hB.k _ rfl) (hB.r _ _ rfl) ?_
      refine V_aload_n (i := 0) (sx_di dX10_readNumber 16 rfl) rfl rfl ?_
      refine V_getI (sx_di dX10_readNumber 17 rfl) fX10_19 (fun _ => rfl) (hB.k _ rfl) ?_
      refine V_iv (y := nI p) (nw9_2 w p v) ?_
      refine V_ialdN (n := 240) (j := p) (sx_di dX10_readNumber 18 rfl) (hB.k _ rfl) (rfl) (by omega) (by omega) ?_
      refine V_iv (y := T.getD p 0) (e3 p v p (by omega)) ?_
      refine V_bipush (v := 48) (sx_di dX10_readNumber 19 rfl) (by decide) ?_
      refine V_icmp_lt (tgt := 103) (sx_di dX10_readNumber 20 rfl) (by decide) (fun h39 => absurd h39 (Int32.not_lt.mpr hc.2.1)) (fun _ => ?_)
      refine V_aload_n (i := 0) (sx_di dX10_readNumber 21 rfl) rfl rfl ?_
      refine V_getR (sx_di dX10_readNumber 22 rfl) fX10_9 (fun _ => rfl) (hB.k _ rfl) (hB.r _ _ rfl) ?_
      refine V_aload_n (i := 0) (sx_di dX10_readNumber 23 rfl) rfl rfl ?_
      refine V_getI (sx_di dX10_readNumber 24 rfl) fX10_19 (fun _ => rfl) (hB.k _ rfl) ?_
      refine V_iv (y := nI p) (nw9_2 w p v) ?_
      refine V_ialdN (n := 240) (j := p) (sx_di dX10_readNumber 25 rfl) (hB.k _ rfl) (rfl) (by omega) (by omega) ?_
      refine V_iv (y := T.getD p 0) (e3 p v p (by omega)) ?_
      refine V_bipush (v := 57) (sx_di dX10_readNumber 26 rfl) (by decide) ?_
      refine V_icmp_gt (tgt := 103) (sx_di dX10_readNumber 27 rfl) (by decide) (fun h53 => absurd h53 (Int32.not_lt.mpr hc.2.2)) (fun _ => ?_)
      refine V_iload_n (i := 2) (sx_di dX10_readNumber 28 rfl) rfl rfl ?_
      refine V_iload_n (i := 1) (sx_di dX10_readNumber 29 rfl) rfl rfl ?_
      refine V_icN_ne (a := k) (b := mx) (rfl) (rfl) (by omega) (by omega) (tgt := 63) (sx_di dX10_readNumber 30 rfl) (by decide) (fun h58 => absurd h58 (by omega)) (fun _ => ?_)
      refine V_iconst (v := 0) (sx_di dX10_readNumber 31 rfl) (by decide) ?_
      refine V_zret (sx_di dX10_readNumber 32 rfl) rfl (by first | rfl | decide) (Nat.le_refl _) (Nat.le_refl _) ?_
      exact h
    · rw [if_neg hc] at h
      exact hstop k v p (by omega) (by omega) hc h
  | succ f ih =>
    intro k v p hk hp h
    rw [rnF] at h
    by_cases hc : p < T.length ∧ 48 ≤ T.getD p 0 ∧ T.getD p 0 ≤ 57
    · rw [if_pos hc, if_neg (show ¬ k = mx by omega)] at h
      have hlt := hc.1
      have q1 := ih (k + 1) (v * 10 + T.getD p 0 - 48) (p + 1) (by omega) (by omega) h
      rw [← nI_1 (a := k)] at q1
      refine V_aload_n (i := 0) (sx_di dX10_readNumber 5 rfl) rfl rfl ?_
      refine V_getI (sx_di dX10_readNumber 6 rfl) fX10_19 (fun _ => rfl) (hB.k _ rfl) ?_
      refine V_iv (y := nI p) (nw9_2 w p v) ?_
      refine V_aload_n (i := 0) (sx_di dX10_readNumber 7 rfl) rfl rfl ?_
      refine V_getI (sx_di dX10_readNumber 8 rfl) fX10_15 (fun _ => rfl) (hB.k _ rfl) ?_
      refine V_iv (y := nI T.length) (e2 p v) ?_
      refine V_icN_ge (a := p) (b := T.length) (rfl) (rfl) (by omega) (by omega) (tgt := 103) (sx_di dX10_readNumber 9 rfl) (by decide) (fun h15 => absurd h15 (by omega)) (fun _ => ?_)
      refine V_aload_n (i := 0) (sx_di dX10_readNumber 10 rfl) rfl rfl ?_
      refine V_getI (sx_di dX10_readNumber 11 rfl) fX10_19 (fun _ => rfl) (hB.k _ rfl) ?_
      refine V_iv (y := nI p) (nw9_2 w p v) ?_
      refine V_sipush (v := 240) (sx_di dX10_readNumber 12 rfl) (by decide) ?_
      refine V_icN_ge (a := p) (b := 240) (rfl) (rfl) (by omega) (by omega) (tgt := 103) (sx_di dX10_readNumber 13 rfl) (by decide) (fun h25 => absurd h25 (by omega)) (fun _ => ?_)
      refine V_aload_n (i := 0) (sx_di dX10_readNumber 14 rfl) rfl rfl ?_
      refine V_getR (sx_di dX10_readNumber 15 rfl) fX10_9 (fun _ => rfl) (hB.k _ rfl) (hB.r _ _ rfl) ?_
      refine V_aload_n (i := 0) (sx_di dX10_readNumber 16 rfl) rfl rfl ?_
      refine V_getI (sx_di dX10_readNumber 17 rfl) fX10_19 (fun _ => rfl) (hB.k _ rfl) ?_
      refine V_iv (y := nI p) (nw9_2 w p v) ?_
      refine V_ialdN (n := 240) (j := p) (sx_di dX10_readNumber 18 rfl) (hB.k _ rfl) (rfl) (by omega) (by omega) ?_
      refine V_iv (y := T.getD p 0) (e3 p v p (by omega)) ?_
      refine V_bipush (v := 48) (sx_di dX10_readNumber 19 rfl) (by decide) ?_
      refine V_icmp_lt (tgt := 103) (sx_di dX10_readNumber 20 rfl) (by decide) (fun h39 => absurd h39 (Int32.not_lt.mpr hc.2.1)) (fun _ => ?_)
      refine V_aload_n (i := 0) (sx_di dX10_readNumber 21 rfl) rfl rfl ?_
      refine V_getR (sx_di dX10_readNumber 22 rfl) fX10_9 (fun _ => rfl) (hB.k _ rfl) (hB.r _ _ rfl) ?_
      refine V_aload_n (i := 0) (sx_di dX10_readNumber 23 rfl) rfl rfl ?_
      refine V_getI (sx_di dX10_readNumber 24 rfl) fX10_19 (fun _ => rfl) (hB.k _ rfl) ?_
      refine V_iv (y := nI p) (nw9_2 w p v) ?_
      refine V_ialdN (n := 240) (j := p) (sx_di dX10_readNumber 25 rfl) (hB.k _ rfl) (rfl) (by omega) (by omega) ?_
      refine V_iv (y := T.getD p 0) (e3 p v p (by omega)) ?_
      refine V_bipush (v := 57) (sx_di dX10_readNumber 26 rfl) (by decide) ?_
      refine V_icmp_gt (tgt := 103) (sx_di dX10_readNumber 27 rfl) (by decide) (fun h53 => absurd h53 (Int32.not_lt.mpr hc.2.2)) (fun _ => ?_)
      refine V_iload_n (i := 2) (sx_di dX10_readNumber 28 rfl) rfl rfl ?_
      refine V_iload_n (i := 1) (sx_di dX10_readNumber 29 rfl) rfl rfl ?_
      refine V_icN_ne (a := k) (b := mx) (rfl) (rfl) (by omega) (by omega) (tgt := 63) (sx_di dX10_readNumber 30 rfl) (by decide) (fun _ => ?_) (fun h58 => absurd h58 (by omega))
      refine V_aload_n (i := 0) (sx_di dX10_readNumber 33 rfl) rfl rfl ?_
      refine V_aload_n (i := 0) (sx_di dX10_readNumber 34 rfl) rfl rfl ?_
      refine V_getI (sx_di dX10_readNumber 35 rfl) fX10_22 (fun _ => rfl) (hB.k _ rfl) ?_
      refine V_iv (y := v) (nw9_3 w p v) ?_
      refine V_bipush (v := 10) (sx_di dX10_readNumber 36 rfl) (by decide) ?_
      refine V_imul (sx_di dX10_readNumber 37 rfl) ?_
      refine V_aload_n (i := 0) (sx_di dX10_readNumber 38 rfl) rfl rfl ?_
      refine V_getR (sx_di dX10_readNumber 39 rfl) fX10_9 (fun _ => rfl) (hB.k _ rfl) (hB.r _ _ rfl) ?_
      refine V_aload_n (i := 0) (sx_di dX10_readNumber 40 rfl) rfl rfl ?_
      refine V_getI (sx_di dX10_readNumber 41 rfl) fX10_19 (fun _ => rfl) (hB.k _ rfl) ?_
      refine V_iv (y := nI p) (nw9_2 w p v) ?_
      refine V_ialdN (n := 240) (j := p) (sx_di dX10_readNumber 42 rfl) (hB.k _ rfl) (rfl) (by omega) (by omega) ?_
      refine V_iv (y := T.getD p 0) (e3 p v p (by omega)) ?_
      refine V_iadd (sx_di dX10_readNumber 43 rfl) ?_
      refine V_bipush (v := 48) (sx_di dX10_readNumber 44 rfl) (by decide) ?_
      refine V_isub (sx_di dX10_readNumber 45 rfl) ?_
      refine V_putI (sx_di dX10_readNumber 46 rfl) fX10_22 (fun _ => rfl) rfl (hB.k _ rfl) (rfl) (rfl) ?_
      refine V_ww (w2 := nw9 w p (v * 10 + T.getD p 0 - 48)) (nw9_v w p v _) ?_
      refine V_inc (c := 1) (sx_di dX10_readNumber 47 rfl) (by decide) rfl (by decide) (rfl) ?_
      refine V_aload_n (i := 0) (sx_di dX10_readNumber 48 rfl) rfl rfl ?_
      refine V_dup (sx_di dX10_readNumber 49 rfl) rfl ?_
      refine V_getI (sx_di dX10_readNumber 50 rfl) fX10_19 (fun _ => rfl) (hB.k _ rfl) ?_
      refine V_iv (y := nI p) (nw9_2 w p (v * 10 + T.getD p 0 - 48)) ?_
      refine V_iconst (v := 1) (sx_di dX10_readNumber 51 rfl) (by decide) ?_
      refine V_iadd (sx_di dX10_readNumber 52 rfl) ?_
      refine V_iv (y := nI (p + 1)) (nI_add p 1) ?_
      refine V_putI (sx_di dX10_readNumber 53 rfl) fX10_19 (fun _ => rfl) rfl (hB.k _ rfl) (rfl) (rfl) ?_
      refine V_ww (w2 := nw9 w (p + 1) (v * 10 + T.getD p 0 - 48)) (nw9_h w p (p + 1) _) ?_
      refine V_goto (tgt := 7) (sx_di dX10_readNumber 54 rfl) (by decide) ?_
      exact V_subk q1 ⟨rfl, rfl, rfl, trivial⟩
    · rw [if_neg hc] at h
      exact hstop k v p (by omega) (by omega) hc h
set_option maxHeartbeats 2000000 in
set_option maxRecDepth 20000 in
theorem c_X10_readNumber {E : sxE} {w : hpW} {Q : Option Value → hpW → Prop} (hB : ly_B w) {T : List Int32} (hT : tp_ w 17 1 18 T) {mx p : Nat} (hm : mx ≤ 4) (hp : p ≤ 500) (e : hp_i w 17 2 = nI p) (h : Q (some (.int (if (rn_ T mx p).1 then 1 else 0))) (nw9 w (rn_ T mx p).2.1 (rn_ T mx p).2.2)) : sx_C E mX10_readNumber 1 0 0 [.ref 17, .int (nI mx)] w Q := by
  have e0 : hp_si w 17 3 0 = nw9 w p 0 := by
    show hp_wi w (hp_u (hp_i w) 17 3 0) = hp_wi w (hp_u (hp_u (hp_i w) 17 3 0) 17 2 (nI p))
    rw [← e, hp_u_cm _ _ _ (by omega), hp_u_id]
  refine C_of (by decide +kernel) (Nat.le_of_ble_eq_true rfl) ?_
  refine V_aload_n (i := 0) (sx_di dX10_readNumber 0 rfl) rfl rfl ?_
  refine V_iconst (v := 0) (sx_di dX10_readNumber 1 rfl) (by decide) ?_
  refine V_putI (sx_di dX10_readNumber 2 rfl) fX10_22 (fun _ => rfl) rfl (hB.k _ rfl) (rfl) (rfl) ?_
  refine V_ww (w2 := nw9 w p 0) (e0) ?_
  refine V_iconst (v := 0) (sx_di dX10_readNumber 3 rfl) (by decide) ?_
  refine V_istore_n (i := 2) (sx_di dX10_readNumber 4 rfl) rfl (by decide) (rfl) ?_
  refine V_sub (ls' := [(2, .int (nI 0)), (1, .int (nI mx)), (0, .ref 17)]) ⟨rfl, rfl, rfl, trivial⟩ ?_
  exact rn_lp hB hT hm mx 0 0 p (by omega) (by omega) h

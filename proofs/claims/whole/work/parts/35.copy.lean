/-! State.copyFrom -/
/-- the heap with other references and ints -/
def hp_wr (w : hpW) (R : Nat → Nat → Option Nat) (I : Nat → Nat → Int32) : hpW := (hp_n w, hp_k w, R, hp_j w, I)
theorem hp_wr_rf (w : hpW) (I : Nat → Nat → Int32) : hp_wr w (hp_r w) I = hp_wi w I := rfl
theorem hp_i_wr (w : hpW) (R : Nat → Nat → Option Nat) (I : Nat → Nat → Int32) : hp_i (hp_wr w R I) = I := rfl
theorem hp_r_wr (w : hpW) (R : Nat → Nat → Option Nat) (I : Nat → Nat → Int32) : hp_r (hp_wr w R I) = R := rfl
/-- the first k rows of the State at b copied to a, and its numbers below m -/
def cp_ (I : Nat → Nat → Int32) (a b k m : Nat) : Nat → Nat → Int32 := fun q j => if q = a ∧ 7 ≤ j ∧ j < m then I b j else if a < q ∧ q ≤ a + k ∧ j < 8 then I (b + (q - a)) j else I q j
theorem cp_0 (w : hpW) (a b : Nat) (x : Option Nat) : hp_sr w a 0 x = hp_wr w (hp_u (hp_r w) a 0 x) (cp_ (hp_i w) a b 0 7) := by
  show (hp_n w, hp_k w, hp_u (hp_r w) a 0 x, hp_j w, hp_i w) = (hp_n w, hp_k w, hp_u (hp_r w) a 0 x, hp_j w, cp_ (hp_i w) a b 0 7)
  have e : cp_ (hp_i w) a b 0 7 = hp_i w := by
    apply u_ff
    intro q j
    unfold cp_
    rw [if_neg (by omega), if_neg (by omega)]
  rw [e]
theorem cp_k {w : hpW} {R : Nat → Nat → Option Nat} {a b k : Nat} (hk : k < 6) (hab : a + 6 < b ∨ b + 6 < a) : hp_cp (hp_wr w R (cp_ (hp_i w) a b k 7)) (b + (k + 1)) 0 (a + (k + 1)) 0 8 = hp_wr w R (cp_ (hp_i w) a b (k + 1) 7) := by
  show (hp_n w, hp_k w, R, hp_j w, _) = (hp_n w, hp_k w, R, hp_j w, _)
  congr 4
  apply u_ff
  intro q j
  show (if q = a + (k + 1) then va_cpy (cp_ (hp_i w) a b k 7 (b + (k + 1))) (cp_ (hp_i w) a b k 7 (a + (k + 1))) 0 0 8 j else cp_ (hp_i w) a b k 7 q j) = _
  unfold va_cpy cp_
  repeat' split
  all_goals first | rfl | (exfalso; omega) | (congr <;> omega)
theorem cp_m {w : hpW} {R : Nat → Nat → Option Nat} {a b m : Nat} (hm : 7 ≤ m) (hab : a + 6 < b ∨ b + 6 < a) : hp_si (hp_wr w R (cp_ (hp_i w) a b 6 m)) a m (hp_i (hp_wr w R (cp_ (hp_i w) a b 6 m)) b m) = hp_wr w R (cp_ (hp_i w) a b 6 (m + 1)) := by
  show (hp_n w, hp_k w, R, hp_j w, hp_u (cp_ (hp_i w) a b 6 m) a m (cp_ (hp_i w) a b 6 m b m)) = (hp_n w, hp_k w, R, hp_j w, _)
  congr 4
  apply u_ff
  intro q j
  unfold hp_u cp_
  repeat' split
  all_goals first | rfl | (exfalso; omega) | (congr <;> omega)
set_option maxHeartbeats 2000000 in
set_option maxRecDepth 20000 in
theorem c_X7_copyFrom {E : sxE} {w : hpW} {Q : Option Value → hpW → Prop} {a b t : Nat} (hs : is_Ss w a) (ho : is_Ss w b) (hab : a + 6 < b ∨ b + 6 < a) (ht : hp_r w b 0 = some t) (h : Q none (hp_wr w (hp_u (hp_r w) a 0 (some t)) (cp_ (hp_i w) a b 6 13))) : sx_C E mX7_copyFrom 2 0 0 [.ref a, .ref b] w Q := by
  have ra1 : hp_u (hp_r w) a 0 (some t) a 1 = some (a + 1) := (hp_u_nk _ _ (by omega)).trans hs.2.2.2.2.2.2.2.1
  have ra2 : hp_u (hp_r w) a 0 (some t) a 2 = some (a + 2) := (hp_u_nk _ _ (by omega)).trans hs.2.2.2.2.2.2.2.2.1
  have ra3 : hp_u (hp_r w) a 0 (some t) a 3 = some (a + 3) := (hp_u_nk _ _ (by omega)).trans hs.2.2.2.2.2.2.2.2.2.1
  have ra4 : hp_u (hp_r w) a 0 (some t) a 4 = some (a + 4) := (hp_u_nk _ _ (by omega)).trans hs.2.2.2.2.2.2.2.2.2.2.1
  have ra5 : hp_u (hp_r w) a 0 (some t) a 5 = some (a + 5) := (hp_u_nk _ _ (by omega)).trans hs.2.2.2.2.2.2.2.2.2.2.2.1
  have ra6 : hp_u (hp_r w) a 0 (some t) a 6 = some (a + 6) := (hp_u_nk _ _ (by omega)).trans hs.2.2.2.2.2.2.2.2.2.2.2.2
  have rb1 : hp_u (hp_r w) a 0 (some t) b 1 = some (b + 1) := (hp_u_nk _ _ (by omega)).trans ho.2.2.2.2.2.2.2.1
  have rb2 : hp_u (hp_r w) a 0 (some t) b 2 = some (b + 2) := (hp_u_nk _ _ (by omega)).trans ho.2.2.2.2.2.2.2.2.1
  have rb3 : hp_u (hp_r w) a 0 (some t) b 3 = some (b + 3) := (hp_u_nk _ _ (by omega)).trans ho.2.2.2.2.2.2.2.2.2.1
  have rb4 : hp_u (hp_r w) a 0 (some t) b 4 = some (b + 4) := (hp_u_nk _ _ (by omega)).trans ho.2.2.2.2.2.2.2.2.2.2.1
  have rb5 : hp_u (hp_r w) a 0 (some t) b 5 = some (b + 5) := (hp_u_nk _ _ (by omega)).trans ho.2.2.2.2.2.2.2.2.2.2.2.1
  have rb6 : hp_u (hp_r w) a 0 (some t) b 6 = some (b + 6) := (hp_u_nk _ _ (by omega)).trans ho.2.2.2.2.2.2.2.2.2.2.2.2
  refine C_of (by decide +kernel) (Nat.le_of_ble_eq_true rfl) ?_
  refine V_aload_n (i := 0) (sx_di dX7_copyFrom 0 rfl) rfl rfl ?_
  refine V_aload_n (i := 1) (sx_di dX7_copyFrom 1 rfl) rfl rfl ?_
  refine V_getR (sx_di dX7_copyFrom 2 rfl) fX7_34 (fun _ => rfl) (by first | exact hs.1 | exact hs.2.1 | exact hs.2.2.1 | exact hs.2.2.2.1 | exact hs.2.2.2.2.1 | exact hs.2.2.2.2.2.1 | exact hs.2.2.2.2.2.2.1 | exact ho.1 | exact ho.2.1 | exact ho.2.2.1 | exact ho.2.2.2.1 | exact ho.2.2.2.2.1 | exact ho.2.2.2.2.2.1 | exact ho.2.2.2.2.2.2.1) (by first | exact ht | exact ra1 | exact ra2 | exact ra3 | exact ra4 | exact ra5 | exact ra6 | exact rb1 | exact rb2 | exact rb3 | exact rb4 | exact rb5 | exact rb6) ?_
  refine V_putR (sx_di dX7_copyFrom 3 rfl) fX7_34 (fun _ => rfl) rfl (by first | exact hs.1 | exact hs.2.1 | exact hs.2.2.1 | exact hs.2.2.2.1 | exact hs.2.2.2.2.1 | exact hs.2.2.2.2.2.1 | exact hs.2.2.2.2.2.2.1 | exact ho.1 | exact ho.2.1 | exact ho.2.2.1 | exact ho.2.2.2.1 | exact ho.2.2.2.2.1 | exact ho.2.2.2.2.2.1 | exact ho.2.2.2.2.2.2.1) (fun _ => rfl) (fun _ => rfl) ?_
  refine V_eq rfl rfl rfl (cp_0 w a b (some t)) ?_
  refine V_aload_n (i := 1) (sx_di dX7_copyFrom 4 rfl) rfl rfl ?_
  refine V_getR (sx_di dX7_copyFrom 5 rfl) fX7_9 (fun _ => rfl) (by first | exact hs.1 | exact hs.2.1 | exact hs.2.2.1 | exact hs.2.2.2.1 | exact hs.2.2.2.2.1 | exact hs.2.2.2.2.2.1 | exact hs.2.2.2.2.2.2.1 | exact ho.1 | exact ho.2.1 | exact ho.2.2.1 | exact ho.2.2.2.1 | exact ho.2.2.2.2.1 | exact ho.2.2.2.2.2.1 | exact ho.2.2.2.2.2.2.1) (by first | exact ht | exact ra1 | exact ra2 | exact ra3 | exact ra4 | exact ra5 | exact ra6 | exact rb1 | exact rb2 | exact rb3 | exact rb4 | exact rb5 | exact rb6) ?_
  refine V_iconst (v := 0) (sx_di dX7_copyFrom 6 rfl) (by decide) ?_
  refine V_aload_n (i := 0) (sx_di dX7_copyFrom 7 rfl) rfl rfl ?_
  refine V_getR (sx_di dX7_copyFrom 8 rfl) fX7_9 (fun _ => rfl) (by first | exact hs.1 | exact hs.2.1 | exact hs.2.2.1 | exact hs.2.2.2.1 | exact hs.2.2.2.2.1 | exact hs.2.2.2.2.2.1 | exact hs.2.2.2.2.2.2.1 | exact ho.1 | exact ho.2.1 | exact ho.2.2.1 | exact ho.2.2.2.1 | exact ho.2.2.2.2.1 | exact ho.2.2.2.2.2.1 | exact ho.2.2.2.2.2.2.1) (by first | exact ht | exact ra1 | exact ra2 | exact ra3 | exact ra4 | exact ra5 | exact ra6 | exact rb1 | exact rb2 | exact rb3 | exact rb4 | exact rb5 | exact rb6) ?_
  refine V_iconst (v := 0) (sx_di dX7_copyFrom 9 rfl) (by decide) ?_
  refine V_bipush (v := 8) (sx_di dX7_copyFrom 10 rfl) (by decide) ?_
  refine V_copy (sx_di dX7_copyFrom 11 rfl) (sx_a3 177 rfl rfl) (sx_a3 179 rfl rfl) (sx_a3 178 rfl rfl) (sx_a1 23 rfl rfl) (by first | exact hs.1 | exact hs.2.1 | exact hs.2.2.1 | exact hs.2.2.2.1 | exact hs.2.2.2.2.1 | exact hs.2.2.2.2.2.1 | exact hs.2.2.2.2.2.2.1 | exact ho.1 | exact ho.2.1 | exact ho.2.2.1 | exact ho.2.2.2.1 | exact ho.2.2.2.2.1 | exact ho.2.2.2.2.2.1 | exact ho.2.2.2.2.2.2.1) (by first | exact hs.1 | exact hs.2.1 | exact hs.2.2.1 | exact hs.2.2.2.1 | exact hs.2.2.2.2.1 | exact hs.2.2.2.2.2.1 | exact hs.2.2.2.2.2.2.1 | exact ho.1 | exact ho.2.1 | exact ho.2.2.1 | exact ho.2.2.2.1 | exact ho.2.2.2.2.1 | exact ho.2.2.2.2.2.1 | exact ho.2.2.2.2.2.2.1) (by decide) (by decide) (by decide) (by decide) (by decide) ⟨Nat.le_of_ble_eq_true rfl, Nat.le_of_ble_eq_true rfl⟩ ?_
  refine V_eq rfl rfl rfl (cp_k (k := 0) (by decide) hab) ?_
  refine V_aload_n (i := 1) (sx_di dX7_copyFrom 12 rfl) rfl rfl ?_
  refine V_getR (sx_di dX7_copyFrom 13 rfl) fX7_15 (fun _ => rfl) (by first | exact hs.1 | exact hs.2.1 | exact hs.2.2.1 | exact hs.2.2.2.1 | exact hs.2.2.2.2.1 | exact hs.2.2.2.2.2.1 | exact hs.2.2.2.2.2.2.1 | exact ho.1 | exact ho.2.1 | exact ho.2.2.1 | exact ho.2.2.2.1 | exact ho.2.2.2.2.1 | exact ho.2.2.2.2.2.1 | exact ho.2.2.2.2.2.2.1) (by first | exact ht | exact ra1 | exact ra2 | exact ra3 | exact ra4 | exact ra5 | exact ra6 | exact rb1 | exact rb2 | exact rb3 | exact rb4 | exact rb5 | exact rb6) ?_
  refine V_iconst (v := 0) (sx_di dX7_copyFrom 14 rfl) (by decide) ?_
  refine V_aload_n (i := 0) (sx_di dX7_copyFrom 15 rfl) rfl rfl ?_
  refine V_getR (sx_di dX7_copyFrom 16 rfl) fX7_15 (fun _ => rfl) (by first | exact hs.1 | exact hs.2.1 | exact hs.2.2.1 | exact hs.2.2.2.1 | exact hs.2.2.2.2.1 | exact hs.2.2.2.2.2.1 | exact hs.2.2.2.2.2.2.1 | exact ho.1 | exact ho.2.1 | exact ho.2.2.1 | exact ho.2.2.2.1 | exact ho.2.2.2.2.1 | exact ho.2.2.2.2.2.1 | exact ho.2.2.2.2.2.2.1) (by first | exact ht | exact ra1 | exact ra2 | exact ra3 | exact ra4 | exact ra5 | exact ra6 | exact rb1 | exact rb2 | exact rb3 | exact rb4 | exact rb5 | exact rb6) ?_
  refine V_iconst (v := 0) (sx_di dX7_copyFrom 17 rfl) (by decide) ?_
  refine V_bipush (v := 8) (sx_di dX7_copyFrom 18 rfl) (by decide) ?_
  refine V_copy (sx_di dX7_copyFrom 19 rfl) (sx_a3 177 rfl rfl) (sx_a3 179 rfl rfl) (sx_a3 178 rfl rfl) (sx_a1 23 rfl rfl) (by first | exact hs.1 | exact hs.2.1 | exact hs.2.2.1 | exact hs.2.2.2.1 | exact hs.2.2.2.2.1 | exact hs.2.2.2.2.2.1 | exact hs.2.2.2.2.2.2.1 | exact ho.1 | exact ho.2.1 | exact ho.2.2.1 | exact ho.2.2.2.1 | exact ho.2.2.2.2.1 | exact ho.2.2.2.2.2.1 | exact ho.2.2.2.2.2.2.1) (by first | exact hs.1 | exact hs.2.1 | exact hs.2.2.1 | exact hs.2.2.2.1 | exact hs.2.2.2.2.1 | exact hs.2.2.2.2.2.1 | exact hs.2.2.2.2.2.2.1 | exact ho.1 | exact ho.2.1 | exact ho.2.2.1 | exact ho.2.2.2.1 | exact ho.2.2.2.2.1 | exact ho.2.2.2.2.2.1 | exact ho.2.2.2.2.2.2.1) (by decide) (by decide) (by decide) (by decide) (by decide) ⟨Nat.le_of_ble_eq_true rfl, Nat.le_of_ble_eq_true rfl⟩ ?_
  refine V_eq rfl rfl rfl (cp_k (k := 1) (by decide) hab) ?_
  refine V_aload_n (i := 1) (sx_di dX7_copyFrom 20 rfl) rfl rfl ?_
  refine V_getR (sx_di dX7_copyFrom 21 rfl) fX7_18 (fun _ => rfl) (by first | exact hs.1 | exact hs.2.1 | exact hs.2.2.1 | exact hs.2.2.2.1 | exact hs.2.2.2.2.1 | exact hs.2.2.2.2.2.1 | exact hs.2.2.2.2.2.2.1 | exact ho.1 | exact ho.2.1 | exact ho.2.2.1 | exact ho.2.2.2.1 | exact ho.2.2.2.2.1 | exact ho.2.2.2.2.2.1 | exact ho.2.2.2.2.2.2.1) (by first | exact ht | exact ra1 | exact ra2 | exact ra3 | exact ra4 | exact ra5 | exact ra6 | exact rb1 | exact rb2 | exact rb3 | exact rb4 | exact rb5 | exact rb6) ?_
  refine V_iconst (v := 0) (sx_di dX7_copyFrom 22 rfl) (by decide) ?_
  refine V_aload_n (i := 0) (sx_di dX7_copyFrom 23 rfl) rfl rfl ?_
  refine V_getR (sx_di dX7_copyFrom 24 rfl) fX7_18 (fun _ => rfl) (by first | exact hs.1 | exact hs.2.1 | exact hs.2.2.1 | exact hs.2.2.2.1 | exact hs.2.2.2.2.1 | exact hs.2.2.2.2.2.1 | exact hs.2.2.2.2.2.2.1 | exact ho.1 | exact ho.2.1 | exact ho.2.2.1 | exact ho.2.2.2.1 | exact ho.2.2.2.2.1 | exact ho.2.2.2.2.2.1 | exact ho.2.2.2.2.2.2.1) (by first | exact ht | exact ra1 | exact ra2 | exact ra3 | exact ra4 | exact ra5 | exact ra6 | exact rb1 | exact rb2 | exact rb3 | exact rb4 | exact rb5 | exact rb6) ?_
  refine V_iconst (v := 0) (sx_di dX7_copyFrom 25 rfl) (by decide) ?_
  refine V_bipush (v := 8) (sx_di dX7_copyFrom 26 rfl) (by decide) ?_
  refine V_copy (sx_di dX7_copyFrom 27 rfl) (sx_a3 177 rfl rfl) (sx_a3 179 rfl rfl) (sx_a3 178 rfl rfl) (sx_a1 23 rfl rfl) (by first | exact hs.1 | exact hs.2.1 | exact hs.2.2.1 | exact hs.2.2.2.1 | exact hs.2.2.2.2.1 | exact hs.2.2.2.2.2.1 | exact hs.2.2.2.2.2.2.1 | exact ho.1 | exact ho.2.1 | exact ho.2.2.1 | exact ho.2.2.2.1 | exact ho.2.2.2.2.1 | exact ho.2.2.2.2.2.1 | exact ho.2.2.2.2.2.2.1) (by first | exact hs.1 | exact hs.2.1 | exact hs.2.2.1 | exact hs.2.2.2.1 | exact hs.2.2.2.2.1 | exact hs.2.2.2.2.2.1 | exact hs.2.2.2.2.2.2.1 | exact ho.1 | exact ho.2.1 | exact ho.2.2.1 | exact ho.2.2.2.1 | exact ho.2.2.2.2.1 | exact ho.2.2.2.2.2.1 | exact ho.2.2.2.2.2.2.1) (by decide) (by decide) (by decide) (by decide) (by decide) ⟨Nat.le_of_ble_eq_true rfl, Nat.le_of_ble_eq_true rfl⟩ ?_
  refine V_eq rfl rfl rfl (cp_k (k := 2) (by decide) hab) ?_
  refine V_aload_n (i := 1) (sx_di dX7_copyFrom 28 rfl) rfl rfl ?_
  refine V_getR (sx_di dX7_copyFrom 29 rfl) fX7_21 (fun _ => rfl) (by first | exact hs.1 | exact hs.2.1 | exact hs.2.2.1 | exact hs.2.2.2.1 | exact hs.2.2.2.2.1 | exact hs.2.2.2.2.2.1 | exact hs.2.2.2.2.2.2.1 | exact ho.1 | exact ho.2.1 | exact ho.2.2.1 | exact ho.2.2.2.1 | exact ho.2.2.2.2.1 | exact ho.2.2.2.2.2.1 | exact ho.2.2.2.2.2.2.1) (by first | exact ht | exact ra1 | exact ra2 | exact ra3 | exact ra4 | exact ra5 | exact ra6 | exact rb1 | exact rb2 | exact rb3 | exact rb4 | exact rb5 | exact rb6) ?_
  refine V_iconst (v := 0) (sx_di dX7_copyFrom 30 rfl) (by decide) ?_
  refine V_aload_n (i := 0) (sx_di dX7_copyFrom 31 rfl) rfl rfl ?_
  refine V_getR (sx_di dX7_copyFrom 32 rfl) fX7_21 (fun _ => rfl) (by first | exact hs.1 | exact hs.2.1 | exact hs.2.2.1 | exact hs.2.2.2.1 | exact hs.2.2.2.2.1 | exact hs.2.2.2.2.2.1 | exact hs.2.2.2.2.2.2.1 | exact ho.1 | exact ho.2.1 | exact ho.2.2.1 | exact ho.2.2.2.1 | exact ho.2.2.2.2.1 | exact ho.2.2.2.2.2.1 | exact ho.2.2.2.2.2.2.1) (by first | exact ht | exact ra1 | exact ra2 | exact ra3 | exact ra4 | exact ra5 | exact ra6 | exact rb1 | exact rb2 | exact rb3 | exact rb4 | exact rb5 | exact rb6) ?_
  refine V_iconst (v := 0) (sx_di dX7_copyFrom 33 rfl) (by decide) ?_
  refine V_bipush (v := 8) (sx_di dX7_copyFrom 34 rfl) (by decide) ?_
  refine V_copy (sx_di dX7_copyFrom 35 rfl) (sx_a3 177 rfl rfl) (sx_a3 179 rfl rfl) (sx_a3 178 rfl rfl) (sx_a1 23 rfl rfl) (by first | exact hs.1 | exact hs.2.1 | exact hs.2.2.1 | exact hs.2.2.2.1 | exact hs.2.2.2.2.1 | exact hs.2.2.2.2.2.1 | exact hs.2.2.2.2.2.2.1 | exact ho.1 | exact ho.2.1 | exact ho.2.2.1 | exact ho.2.2.2.1 | exact ho.2.2.2.2.1 | exact ho.2.2.2.2.2.1 | exact ho.2.2.2.2.2.2.1) (by first | exact hs.1 | exact hs.2.1 | exact hs.2.2.1 | exact hs.2.2.2.1 | exact hs.2.2.2.2.1 | exact hs.2.2.2.2.2.1 | exact hs.2.2.2.2.2.2.1 | exact ho.1 | exact ho.2.1 | exact ho.2.2.1 | exact ho.2.2.2.1 | exact ho.2.2.2.2.1 | exact ho.2.2.2.2.2.1 | exact ho.2.2.2.2.2.2.1) (by decide) (by decide) (by decide) (by decide) (by decide) ⟨Nat.le_of_ble_eq_true rfl, Nat.le_of_ble_eq_true rfl⟩ ?_
  refine V_eq rfl rfl rfl (cp_k (k := 3) (by decide) hab) ?_
  refine V_aload_n (i := 1) (sx_di dX7_copyFrom 36 rfl) rfl rfl ?_
  refine V_getR (sx_di dX7_copyFrom 37 rfl) fX7_24 (fun _ => rfl) (by first | exact hs.1 | exact hs.2.1 | exact hs.2.2.1 | exact hs.2.2.2.1 | exact hs.2.2.2.2.1 | exact hs.2.2.2.2.2.1 | exact hs.2.2.2.2.2.2.1 | exact ho.1 | exact ho.2.1 | exact ho.2.2.1 | exact ho.2.2.2.1 | exact ho.2.2.2.2.1 | exact ho.2.2.2.2.2.1 | exact ho.2.2.2.2.2.2.1) (by first | exact ht | exact ra1 | exact ra2 | exact ra3 | exact ra4 | exact ra5 | exact ra6 | exact rb1 | exact rb2 | exact rb3 | exact rb4 | exact rb5 | exact rb6) ?_
  refine V_iconst (v := 0) (sx_di dX7_copyFrom 38 rfl) (by decide) ?_
  refine V_aload_n (i := 0) (sx_di dX7_copyFrom 39 rfl) rfl rfl ?_
  refine V_getR (sx_di dX7_copyFrom 40 rfl) fX7_24 (fun _ => rfl) (by first | exact hs.1 | exact hs.2.1 | exact hs.2.2.1 | exact hs.2.2.2.1 | exact hs.2.2.2.2.1 | exact hs.2.2.2.2.2.1 | exact hs.2.2.2.2.2.2.1 | exact ho.1 | exact ho.2.1 | exact ho.2.2.1 | exact ho.2.2.2.1 | exact ho.2.2.2.2.1 | exact ho.2.2.2.2.2.1 | exact ho.2.2.2.2.2.2.1) (by first | exact ht | exact ra1 | exact ra2 | exact ra3 | exact ra4 | exact ra5 | exact ra6 | exact rb1 | exact rb2 | exact rb3 | exact rb4 | exact rb5 | exact rb6) ?_
  refine V_iconst (v := 0) (sx_di dX7_copyFrom 41 rfl) (by decide) ?_
  refine V_bipush (v := 8) (sx_di dX7_copyFrom 42 rfl) (by decide) ?_
  refine V_copy (sx_di dX7_copyFrom 43 rfl) (sx_a3 177 rfl rfl) (sx_a3 179 rfl rfl) (sx_a3 178 rfl rfl) (sx_a1 23 rfl rfl) (by first | exact hs.1 | exact hs.2.1 | exact hs.2.2.1 | exact hs.2.2.2.1 | exact hs.2.2.2.2.1 | exact hs.2.2.2.2.2.1 | exact hs.2.2.2.2.2.2.1 | exact ho.1 | exact ho.2.1 | exact ho.2.2.1 | exact ho.2.2.2.1 | exact ho.2.2.2.2.1 | exact ho.2.2.2.2.2.1 | exact ho.2.2.2.2.2.2.1) (by first | exact hs.1 | exact hs.2.1 | exact hs.2.2.1 | exact hs.2.2.2.1 | exact hs.2.2.2.2.1 | exact hs.2.2.2.2.2.1 | exact hs.2.2.2.2.2.2.1 | exact ho.1 | exact ho.2.1 | exact ho.2.2.1 | exact ho.2.2.2.1 | exact ho.2.2.2.2.1 | exact ho.2.2.2.2.2.1 | exact ho.2.2.2.2.2.2.1) (by decide) (by decide) (by decide) (by decide) (by decide) ⟨Nat.le_of_ble_eq_true rfl, Nat.le_of_ble_eq_true rfl⟩ ?_
  refine V_eq rfl rfl rfl (cp_k (k := 4) (by decide) hab) ?_
  refine V_aload_n (i := 1) (sx_di dX7_copyFrom 44 rfl) rfl rfl ?_
  refine V_getR (sx_di dX7_copyFrom 45 rfl) fX7_27 (fun _ => rfl) (by first | exact hs.1 | exact hs.2.1 | exact hs.2.2.1 | exact hs.2.2.2.1 | exact hs.2.2.2.2.1 | exact hs.2.2.2.2.2.1 | exact hs.2.2.2.2.2.2.1 | exact ho.1 | exact ho.2.1 | exact ho.2.2.1 | exact ho.2.2.2.1 | exact ho.2.2.2.2.1 | exact ho.2.2.2.2.2.1 | exact ho.2.2.2.2.2.2.1) (by first | exact ht | exact ra1 | exact ra2 | exact ra3 | exact ra4 | exact ra5 | exact ra6 | exact rb1 | exact rb2 | exact rb3 | exact rb4 | exact rb5 | exact rb6) ?_
  refine V_iconst (v := 0) (sx_di dX7_copyFrom 46 rfl) (by decide) ?_
  refine V_aload_n (i := 0) (sx_di dX7_copyFrom 47 rfl) rfl rfl ?_
  refine V_getR (sx_di dX7_copyFrom 48 rfl) fX7_27 (fun _ => rfl) (by first | exact hs.1 | exact hs.2.1 | exact hs.2.2.1 | exact hs.2.2.2.1 | exact hs.2.2.2.2.1 | exact hs.2.2.2.2.2.1 | exact hs.2.2.2.2.2.2.1 | exact ho.1 | exact ho.2.1 | exact ho.2.2.1 | exact ho.2.2.2.1 | exact ho.2.2.2.2.1 | exact ho.2.2.2.2.2.1 | exact ho.2.2.2.2.2.2.1) (by first | exact ht | exact ra1 | exact ra2 | exact ra3 | exact ra4 | exact ra5 | exact ra6 | exact rb1 | exact rb2 | exact rb3 | exact rb4 | exact rb5 | exact rb6) ?_
  refine V_iconst (v := 0) (sx_di dX7_copyFrom 49 rfl) (by decide) ?_
  refine V_bipush (v := 8) (sx_di dX7_copyFrom 50 rfl) (by decide) ?_
  refine V_copy (sx_di dX7_copyFrom 51 rfl) (sx_a3 177 rfl rfl) (sx_a3 179 rfl rfl) (sx_a3 178 rfl rfl) (sx_a1 23 rfl rfl) (by first | exact hs.1 | exact hs.2.1 | exact hs.2.2.1 | exact hs.2.2.2.1 | exact hs.2.2.2.2.1 | exact hs.2.2.2.2.2.1 | exact hs.2.2.2.2.2.2.1 | exact ho.1 | exact ho.2.1 | exact ho.2.2.1 | exact ho.2.2.2.1 | exact ho.2.2.2.2.1 | exact ho.2.2.2.2.2.1 | exact ho.2.2.2.2.2.2.1) (by first | exact hs.1 | exact hs.2.1 | exact hs.2.2.1 | exact hs.2.2.2.1 | exact hs.2.2.2.2.1 | exact hs.2.2.2.2.2.1 | exact hs.2.2.2.2.2.2.1 | exact ho.1 | exact ho.2.1 | exact ho.2.2.1 | exact ho.2.2.2.1 | exact ho.2.2.2.2.1 | exact ho.2.2.2.2.2.1 | exact ho.2.2.2.2.2.2.1) (by decide) (by decide) (by decide) (by decide) (by decide) ⟨Nat.le_of_ble_eq_true rfl, Nat.le_of_ble_eq_true rfl⟩ ?_
  refine V_eq rfl rfl rfl (cp_k (k := 5) (by decide) hab) ?_
  refine V_aload_n (i := 0) (sx_di dX7_copyFrom 52 rfl) rfl rfl ?_
  refine V_aload_n (i := 1) (sx_di dX7_copyFrom 53 rfl) rfl rfl ?_
  refine V_getI (sx_di dX7_copyFrom 54 rfl) fX7_44 (fun _ => rfl) (by first | exact hs.1 | exact hs.2.1 | exact hs.2.2.1 | exact hs.2.2.2.1 | exact hs.2.2.2.2.1 | exact hs.2.2.2.2.2.1 | exact hs.2.2.2.2.2.2.1 | exact ho.1 | exact ho.2.1 | exact ho.2.2.1 | exact ho.2.2.2.1 | exact ho.2.2.2.2.1 | exact ho.2.2.2.2.2.1 | exact ho.2.2.2.2.2.2.1) ?_
  refine V_putI (sx_di dX7_copyFrom 55 rfl) fX7_44 (fun _ => rfl) rfl (by first | exact hs.1 | exact hs.2.1 | exact hs.2.2.1 | exact hs.2.2.2.1 | exact hs.2.2.2.2.1 | exact hs.2.2.2.2.2.1 | exact hs.2.2.2.2.2.2.1 | exact ho.1 | exact ho.2.1 | exact ho.2.2.1 | exact ho.2.2.2.1 | exact ho.2.2.2.2.1 | exact ho.2.2.2.2.2.1 | exact ho.2.2.2.2.2.2.1) (rfl) (rfl) ?_
  refine V_eq rfl rfl rfl (cp_m (m := 7) (by decide) hab) ?_
  refine V_aload_n (i := 0) (sx_di dX7_copyFrom 56 rfl) rfl rfl ?_
  refine V_aload_n (i := 1) (sx_di dX7_copyFrom 57 rfl) rfl rfl ?_
  refine V_getI (sx_di dX7_copyFrom 58 rfl) fX7_51 (fun _ => rfl) (by first | exact hs.1 | exact hs.2.1 | exact hs.2.2.1 | exact hs.2.2.2.1 | exact hs.2.2.2.2.1 | exact hs.2.2.2.2.2.1 | exact hs.2.2.2.2.2.2.1 | exact ho.1 | exact ho.2.1 | exact ho.2.2.1 | exact ho.2.2.2.1 | exact ho.2.2.2.2.1 | exact ho.2.2.2.2.2.1 | exact ho.2.2.2.2.2.2.1) ?_
  refine V_putI (sx_di dX7_copyFrom 59 rfl) fX7_51 (fun _ => rfl) rfl (by first | exact hs.1 | exact hs.2.1 | exact hs.2.2.1 | exact hs.2.2.2.1 | exact hs.2.2.2.2.1 | exact hs.2.2.2.2.2.1 | exact hs.2.2.2.2.2.2.1 | exact ho.1 | exact ho.2.1 | exact ho.2.2.1 | exact ho.2.2.2.1 | exact ho.2.2.2.2.1 | exact ho.2.2.2.2.2.1 | exact ho.2.2.2.2.2.2.1) (rfl) (rfl) ?_
  refine V_eq rfl rfl rfl (cp_m (m := 8) (by decide) hab) ?_
  refine V_aload_n (i := 0) (sx_di dX7_copyFrom 60 rfl) rfl rfl ?_
  refine V_aload_n (i := 1) (sx_di dX7_copyFrom 61 rfl) rfl rfl ?_
  refine V_getI (sx_di dX7_copyFrom 62 rfl) fX7_30 (fun _ => rfl) (by first | exact hs.1 | exact hs.2.1 | exact hs.2.2.1 | exact hs.2.2.2.1 | exact hs.2.2.2.2.1 | exact hs.2.2.2.2.2.1 | exact hs.2.2.2.2.2.2.1 | exact ho.1 | exact ho.2.1 | exact ho.2.2.1 | exact ho.2.2.2.1 | exact ho.2.2.2.2.1 | exact ho.2.2.2.2.2.1 | exact ho.2.2.2.2.2.2.1) ?_
  refine V_putI (sx_di dX7_copyFrom 63 rfl) fX7_30 (fun _ => rfl) rfl (by first | exact hs.1 | exact hs.2.1 | exact hs.2.2.1 | exact hs.2.2.2.1 | exact hs.2.2.2.2.1 | exact hs.2.2.2.2.2.1 | exact hs.2.2.2.2.2.2.1 | exact ho.1 | exact ho.2.1 | exact ho.2.2.1 | exact ho.2.2.2.1 | exact ho.2.2.2.2.1 | exact ho.2.2.2.2.2.1 | exact ho.2.2.2.2.2.2.1) (rfl) (rfl) ?_
  refine V_eq rfl rfl rfl (cp_m (m := 9) (by decide) hab) ?_
  refine V_aload_n (i := 0) (sx_di dX7_copyFrom 64 rfl) rfl rfl ?_
  refine V_aload_n (i := 1) (sx_di dX7_copyFrom 65 rfl) rfl rfl ?_
  refine V_getI (sx_di dX7_copyFrom 66 rfl) fX7_60 (fun _ => rfl) (by first | exact hs.1 | exact hs.2.1 | exact hs.2.2.1 | exact hs.2.2.2.1 | exact hs.2.2.2.2.1 | exact hs.2.2.2.2.2.1 | exact hs.2.2.2.2.2.2.1 | exact ho.1 | exact ho.2.1 | exact ho.2.2.1 | exact ho.2.2.2.1 | exact ho.2.2.2.2.1 | exact ho.2.2.2.2.2.1 | exact ho.2.2.2.2.2.2.1) ?_
  refine V_putI (sx_di dX7_copyFrom 67 rfl) fX7_60 (fun _ => rfl) rfl (by first | exact hs.1 | exact hs.2.1 | exact hs.2.2.1 | exact hs.2.2.2.1 | exact hs.2.2.2.2.1 | exact hs.2.2.2.2.2.1 | exact hs.2.2.2.2.2.2.1 | exact ho.1 | exact ho.2.1 | exact ho.2.2.1 | exact ho.2.2.2.1 | exact ho.2.2.2.2.1 | exact ho.2.2.2.2.2.1 | exact ho.2.2.2.2.2.2.1) (rfl) (rfl) ?_
  refine V_eq rfl rfl rfl (cp_m (m := 10) (by decide) hab) ?_
  refine V_aload_n (i := 0) (sx_di dX7_copyFrom 68 rfl) rfl rfl ?_
  refine V_aload_n (i := 1) (sx_di dX7_copyFrom 69 rfl) rfl rfl ?_
  refine V_getI (sx_di dX7_copyFrom 70 rfl) fX7_63 (fun _ => rfl) (by first | exact hs.1 | exact hs.2.1 | exact hs.2.2.1 | exact hs.2.2.2.1 | exact hs.2.2.2.2.1 | exact hs.2.2.2.2.2.1 | exact hs.2.2.2.2.2.2.1 | exact ho.1 | exact ho.2.1 | exact ho.2.2.1 | exact ho.2.2.2.1 | exact ho.2.2.2.2.1 | exact ho.2.2.2.2.2.1 | exact ho.2.2.2.2.2.2.1) ?_
  refine V_putI (sx_di dX7_copyFrom 71 rfl) fX7_63 (fun _ => rfl) rfl (by first | exact hs.1 | exact hs.2.1 | exact hs.2.2.1 | exact hs.2.2.2.1 | exact hs.2.2.2.2.1 | exact hs.2.2.2.2.2.1 | exact hs.2.2.2.2.2.2.1 | exact ho.1 | exact ho.2.1 | exact ho.2.2.1 | exact ho.2.2.2.1 | exact ho.2.2.2.2.1 | exact ho.2.2.2.2.2.1 | exact ho.2.2.2.2.2.2.1) (rfl) (rfl) ?_
  refine V_eq rfl rfl rfl (cp_m (m := 11) (by decide) hab) ?_
  refine V_aload_n (i := 0) (sx_di dX7_copyFrom 72 rfl) rfl rfl ?_
  refine V_aload_n (i := 1) (sx_di dX7_copyFrom 73 rfl) rfl rfl ?_
  refine V_getI (sx_di dX7_copyFrom 74 rfl) fX7_66 (fun _ => rfl) (by first | exact hs.1 | exact hs.2.1 | exact hs.2.2.1 | exact hs.2.2.2.1 | exact hs.2.2.2.2.1 | exact hs.2.2.2.2.2.1 | exact hs.2.2.2.2.2.2.1 | exact ho.1 | exact ho.2.1 | exact ho.2.2.1 | exact ho.2.2.2.1 | exact ho.2.2.2.2.1 | exact ho.2.2.2.2.2.1 | exact ho.2.2.2.2.2.2.1) ?_
  refine V_putI (sx_di dX7_copyFrom 75 rfl) fX7_66 (fun _ => rfl) rfl (by first | exact hs.1 | exact hs.2.1 | exact hs.2.2.1 | exact hs.2.2.2.1 | exact hs.2.2.2.2.1 | exact hs.2.2.2.2.2.1 | exact hs.2.2.2.2.2.2.1 | exact ho.1 | exact ho.2.1 | exact ho.2.2.1 | exact ho.2.2.2.1 | exact ho.2.2.2.2.1 | exact ho.2.2.2.2.2.1 | exact ho.2.2.2.2.2.2.1) (rfl) (rfl) ?_
  refine V_eq rfl rfl rfl (cp_m (m := 12) (by decide) hab) ?_
  refine V_vret (sx_di dX7_copyFrom 76 rfl) rfl (Nat.le_refl _) (Nat.le_refl _) ?_
  exact h

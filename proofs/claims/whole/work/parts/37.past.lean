/-! log, past, image of the class -/
/-- a row of the log: the State at 57, row g -/
def lw2_ (I : Nat → Nat → Int32) (g : Nat) : Nat → Nat → Int32 := hp_u (hp_u (hp_u (hp_u I 72 (g % 128) (I 57 11)) 73 (g % 128) (I 57 9)) 74 (g % 128) (I 57 10)) 57 12 (nI (g + 1))
set_option maxHeartbeats 2000000 in
set_option maxRecDepth 20000 in
theorem c_X4_write {E : sxE} {w : hpW} {Q : Option Value → hpW → Prop} (hB : ly_B w) {g : Nat} (hg : hp_i w 57 12 = nI g) (h : Q none (hp_wi w (lw2_ (hp_i w) g))) : sx_C E mX4_write 2 0 0 [.ref 71, .ref 57] w Q := by
  have hi : vp_in (nI (g % 128)) 128 := vp_in_nI (Nat.mod_lt _ (by decide)) (by decide)
  have hc : (nI (g % 128)).toNatClampNeg = g % 128 := nI_clamp (Nat.lt_trans (Nat.mod_lt _ (by decide)) (by decide))
  refine C_of (by decide +kernel) (Nat.le_of_ble_eq_true rfl) ?_
  refine V_aload_n (i := 1) (sx_di dX4_write 0 rfl) rfl rfl ?_
  refine V_getI (sx_di dX4_write 1 rfl) fX4_21 (fun _ => rfl) (hB.k _ rfl) ?_
  rw [hg]
  refine V_cS1 (mc' := 0) (ms' := 0) (M' := mX4_slot) 1 (sx_di dX4_write 2 rfl) lX4_27 vX4_slot (Nat.le_of_ble_eq_true rfl) ⟨Nat.le_of_ble_eq_true rfl, Nat.le_of_ble_eq_true rfl⟩ ⟨Nat.le_refl _, Nat.le_refl _⟩ ?_
  refine c_X4_slot ?_
  refine V_istore_n (i := 2) (sx_di dX4_write 3 rfl) rfl (by decide) (rfl) ?_
  refine V_aload_n (i := 0) (sx_di dX4_write 4 rfl) rfl rfl ?_
  refine V_getR (sx_di dX4_write 5 rfl) fX4_9 (fun _ => rfl) (hB.k _ rfl) (hB.r _ _ rfl) ?_
  refine V_iload_n (i := 2) (sx_di dX4_write 6 rfl) rfl rfl ?_
  refine V_aload_n (i := 1) (sx_di dX4_write 7 rfl) rfl rfl ?_
  refine V_getI (sx_di dX4_write 8 rfl) fX4_31 (fun _ => rfl) (hB.k _ rfl) ?_
  refine V_iast (sx_di dX4_write 9 rfl) (hB.k _ rfl) (hi) ?_
  rw [hc, hp_si_wi]
  refine V_aload_n (i := 0) (sx_di dX4_write 10 rfl) rfl rfl ?_
  refine V_getR (sx_di dX4_write 11 rfl) fX4_15 (fun _ => rfl) (hB.k _ rfl) (hB.r _ _ rfl) ?_
  refine V_iload_n (i := 2) (sx_di dX4_write 12 rfl) rfl rfl ?_
  refine V_aload_n (i := 1) (sx_di dX4_write 13 rfl) rfl rfl ?_
  refine V_getI (sx_di dX4_write 14 rfl) fX4_34 (fun _ => rfl) (hB.k _ rfl) ?_
  refine V_iast (sx_di dX4_write 15 rfl) (hB.k _ rfl) (hi) ?_
  rw [hc, hp_si_wi2]
  refine V_aload_n (i := 0) (sx_di dX4_write 16 rfl) rfl rfl ?_
  refine V_getR (sx_di dX4_write 17 rfl) fX4_18 (fun _ => rfl) (hB.k _ rfl) (hB.r _ _ rfl) ?_
  refine V_iload_n (i := 2) (sx_di dX4_write 18 rfl) rfl rfl ?_
  refine V_aload_n (i := 1) (sx_di dX4_write 19 rfl) rfl rfl ?_
  refine V_getI (sx_di dX4_write 20 rfl) fX4_37 (fun _ => rfl) (hB.k _ rfl) ?_
  refine V_iast (sx_di dX4_write 21 rfl) (hB.k _ rfl) (hi) ?_
  rw [hc, hp_si_wi2]
  refine V_aload_n (i := 1) (sx_di dX4_write 22 rfl) rfl rfl ?_
  refine V_dup (sx_di dX4_write 23 rfl) rfl ?_
  refine V_getI (sx_di dX4_write 24 rfl) fX4_21 (fun _ => rfl) (hB.k _ rfl) ?_
  refine V_iconst (v := 1) (sx_di dX4_write 25 rfl) (by decide) ?_
  refine V_iadd (sx_di dX4_write 26 rfl) ?_
  rw [show hp_i (hp_wi w (hp_u (hp_u (hp_u (hp_i w) 72 (g % 128) (hp_i w 57 11)) 73 (g % 128) (hp_i (hp_wi w (hp_u (hp_i w) 72 (g % 128) (hp_i w 57 11))) 57 9)) 74 (g % 128) (hp_i (hp_wi w (hp_u (hp_u (hp_i w) 72 (g % 128) (hp_i w 57 11)) 73 (g % 128) (hp_i (hp_wi w (hp_u (hp_i w) 72 (g % 128) (hp_i w 57 11))) 57 9))) 57 10))) 57 12 = nI g from hg, nI_1]
  refine V_putI (sx_di dX4_write 27 rfl) fX4_21 (fun _ => rfl) rfl (hB.k _ rfl) (rfl) (rfl) ?_
  refine V_vret (sx_di dX4_write 28 rfl) rfl (Nat.le_refl _) (Nat.le_refl _) ?_
  exact h
/-- the first k rows of the log at b copied to a -/
def lc_ (I : Nat → Nat → Int32) (a b k : Nat) : Nat → Nat → Int32 := fun q j => if a < q ∧ q ≤ a + k ∧ j < 128 then I (b + (q - a)) j else I q j
theorem lc_0 (w : hpW) (a b : Nat) : w = hp_wi w (lc_ (hp_i w) a b 0) := by
  have e : lc_ (hp_i w) a b 0 = hp_i w := by
    apply u_ff
    intro q j
    unfold lc_
    rw [if_neg (by omega)]
  rw [e]
  rfl
theorem lc_k {w : hpW} {a b k : Nat} (hk : k < 3) (hab : a + 3 < b ∨ b + 3 < a) : hp_cp (hp_wi w (lc_ (hp_i w) a b k)) (b + (k + 1)) 0 (a + (k + 1)) 0 128 = hp_wi w (lc_ (hp_i w) a b (k + 1)) := by
  show (hp_n w, hp_k w, hp_r w, hp_j w, _) = (hp_n w, hp_k w, hp_r w, hp_j w, _)
  congr 4
  apply u_ff
  intro q j
  show (if q = a + (k + 1) then va_cpy (lc_ (hp_i w) a b k (b + (k + 1))) (lc_ (hp_i w) a b k (a + (k + 1))) 0 0 128 j else lc_ (hp_i w) a b k q j) = _
  unfold va_cpy lc_
  repeat' split
  all_goals first | rfl | (exfalso; omega) | (congr <;> omega)
set_option maxHeartbeats 2000000 in
set_option maxRecDepth 20000 in
theorem c_X4_copyFrom {E : sxE} {w : hpW} {Q : Option Value → hpW → Prop} {a b : Nat} (hs : is_Lg w a) (ho : is_Lg w b) (hab : a + 3 < b ∨ b + 3 < a) (h : Q none (hp_wi w (lc_ (hp_i w) a b 3))) : sx_C E mX4_copyFrom 2 0 0 [.ref a, .ref b] w Q := by
  refine C_of (by decide +kernel) (Nat.le_of_ble_eq_true rfl) ?_
  refine V_eq rfl rfl rfl (lc_0 w a b) ?_
  refine V_aload_n (i := 1) (sx_di dX4_copyFrom 0 rfl) rfl rfl ?_
  refine V_getR (sx_di dX4_copyFrom 1 rfl) fX4_9 (fun _ => rfl) (by first | exact hs.1 | exact hs.2.1 | exact hs.2.2.1 | exact hs.2.2.2.1 | exact ho.1 | exact ho.2.1 | exact ho.2.2.1 | exact ho.2.2.2.1) (by first | exact hs.2.2.2.2.1 | exact hs.2.2.2.2.2.1 | exact hs.2.2.2.2.2.2 | exact ho.2.2.2.2.1 | exact ho.2.2.2.2.2.1 | exact ho.2.2.2.2.2.2) ?_
  refine V_iconst (v := 0) (sx_di dX4_copyFrom 2 rfl) (by decide) ?_
  refine V_aload_n (i := 0) (sx_di dX4_copyFrom 3 rfl) rfl rfl ?_
  refine V_getR (sx_di dX4_copyFrom 4 rfl) fX4_9 (fun _ => rfl) (by first | exact hs.1 | exact hs.2.1 | exact hs.2.2.1 | exact hs.2.2.2.1 | exact ho.1 | exact ho.2.1 | exact ho.2.2.1 | exact ho.2.2.2.1) (by first | exact hs.2.2.2.2.1 | exact hs.2.2.2.2.2.1 | exact hs.2.2.2.2.2.2 | exact ho.2.2.2.2.1 | exact ho.2.2.2.2.2.1 | exact ho.2.2.2.2.2.2) ?_
  refine V_iconst (v := 0) (sx_di dX4_copyFrom 5 rfl) (by decide) ?_
  refine V_sipush (v := 128) (sx_di dX4_copyFrom 6 rfl) (by decide) ?_
  refine V_copy (sx_di dX4_copyFrom 7 rfl) (sx_a4 65 rfl rfl) (sx_a3 179 rfl rfl) (sx_a3 178 rfl rfl) (sx_a1 23 rfl rfl) (by first | exact hs.1 | exact hs.2.1 | exact hs.2.2.1 | exact hs.2.2.2.1 | exact ho.1 | exact ho.2.1 | exact ho.2.2.1 | exact ho.2.2.2.1) (by first | exact hs.1 | exact hs.2.1 | exact hs.2.2.1 | exact hs.2.2.2.1 | exact ho.1 | exact ho.2.1 | exact ho.2.2.1 | exact ho.2.2.2.1) (by decide) (by decide) (by decide) (by decide) (by decide) ⟨Nat.le_of_ble_eq_true rfl, Nat.le_of_ble_eq_true rfl⟩ ?_
  refine V_eq rfl rfl rfl (lc_k (k := 0) (by decide) hab) ?_
  refine V_aload_n (i := 1) (sx_di dX4_copyFrom 8 rfl) rfl rfl ?_
  refine V_getR (sx_di dX4_copyFrom 9 rfl) fX4_15 (fun _ => rfl) (by first | exact hs.1 | exact hs.2.1 | exact hs.2.2.1 | exact hs.2.2.2.1 | exact ho.1 | exact ho.2.1 | exact ho.2.2.1 | exact ho.2.2.2.1) (by first | exact hs.2.2.2.2.1 | exact hs.2.2.2.2.2.1 | exact hs.2.2.2.2.2.2 | exact ho.2.2.2.2.1 | exact ho.2.2.2.2.2.1 | exact ho.2.2.2.2.2.2) ?_
  refine V_iconst (v := 0) (sx_di dX4_copyFrom 10 rfl) (by decide) ?_
  refine V_aload_n (i := 0) (sx_di dX4_copyFrom 11 rfl) rfl rfl ?_
  refine V_getR (sx_di dX4_copyFrom 12 rfl) fX4_15 (fun _ => rfl) (by first | exact hs.1 | exact hs.2.1 | exact hs.2.2.1 | exact hs.2.2.2.1 | exact ho.1 | exact ho.2.1 | exact ho.2.2.1 | exact ho.2.2.2.1) (by first | exact hs.2.2.2.2.1 | exact hs.2.2.2.2.2.1 | exact hs.2.2.2.2.2.2 | exact ho.2.2.2.2.1 | exact ho.2.2.2.2.2.1 | exact ho.2.2.2.2.2.2) ?_
  refine V_iconst (v := 0) (sx_di dX4_copyFrom 13 rfl) (by decide) ?_
  refine V_sipush (v := 128) (sx_di dX4_copyFrom 14 rfl) (by decide) ?_
  refine V_copy (sx_di dX4_copyFrom 15 rfl) (sx_a4 65 rfl rfl) (sx_a3 179 rfl rfl) (sx_a3 178 rfl rfl) (sx_a1 23 rfl rfl) (by first | exact hs.1 | exact hs.2.1 | exact hs.2.2.1 | exact hs.2.2.2.1 | exact ho.1 | exact ho.2.1 | exact ho.2.2.1 | exact ho.2.2.2.1) (by first | exact hs.1 | exact hs.2.1 | exact hs.2.2.1 | exact hs.2.2.2.1 | exact ho.1 | exact ho.2.1 | exact ho.2.2.1 | exact ho.2.2.2.1) (by decide) (by decide) (by decide) (by decide) (by decide) ⟨Nat.le_of_ble_eq_true rfl, Nat.le_of_ble_eq_true rfl⟩ ?_
  refine V_eq rfl rfl rfl (lc_k (k := 1) (by decide) hab) ?_
  refine V_aload_n (i := 1) (sx_di dX4_copyFrom 16 rfl) rfl rfl ?_
  refine V_getR (sx_di dX4_copyFrom 17 rfl) fX4_18 (fun _ => rfl) (by first | exact hs.1 | exact hs.2.1 | exact hs.2.2.1 | exact hs.2.2.2.1 | exact ho.1 | exact ho.2.1 | exact ho.2.2.1 | exact ho.2.2.2.1) (by first | exact hs.2.2.2.2.1 | exact hs.2.2.2.2.2.1 | exact hs.2.2.2.2.2.2 | exact ho.2.2.2.2.1 | exact ho.2.2.2.2.2.1 | exact ho.2.2.2.2.2.2) ?_
  refine V_iconst (v := 0) (sx_di dX4_copyFrom 18 rfl) (by decide) ?_
  refine V_aload_n (i := 0) (sx_di dX4_copyFrom 19 rfl) rfl rfl ?_
  refine V_getR (sx_di dX4_copyFrom 20 rfl) fX4_18 (fun _ => rfl) (by first | exact hs.1 | exact hs.2.1 | exact hs.2.2.1 | exact hs.2.2.2.1 | exact ho.1 | exact ho.2.1 | exact ho.2.2.1 | exact ho.2.2.2.1) (by first | exact hs.2.2.2.2.1 | exact hs.2.2.2.2.2.1 | exact hs.2.2.2.2.2.2 | exact ho.2.2.2.2.1 | exact ho.2.2.2.2.2.1 | exact ho.2.2.2.2.2.2) ?_
  refine V_iconst (v := 0) (sx_di dX4_copyFrom 21 rfl) (by decide) ?_
  refine V_sipush (v := 128) (sx_di dX4_copyFrom 22 rfl) (by decide) ?_
  refine V_copy (sx_di dX4_copyFrom 23 rfl) (sx_a4 65 rfl rfl) (sx_a3 179 rfl rfl) (sx_a3 178 rfl rfl) (sx_a1 23 rfl rfl) (by first | exact hs.1 | exact hs.2.1 | exact hs.2.2.1 | exact hs.2.2.2.1 | exact ho.1 | exact ho.2.1 | exact ho.2.2.1 | exact ho.2.2.2.1) (by first | exact hs.1 | exact hs.2.1 | exact hs.2.2.1 | exact hs.2.2.2.1 | exact ho.1 | exact ho.2.1 | exact ho.2.2.1 | exact ho.2.2.2.1) (by decide) (by decide) (by decide) (by decide) (by decide) ⟨Nat.le_of_ble_eq_true rfl, Nat.le_of_ble_eq_true rfl⟩ ?_
  refine V_eq rfl rfl rfl (lc_k (k := 2) (by decide) hab) ?_
  refine V_vret (sx_di dX4_copyFrom 24 rfl) rfl (Nat.le_refl _) (Nat.le_refl _) ?_
  exact h
/-- one act more is kept: the State at 57, at place p of the ring; z were kept -/
def kp_ (I : Nat → Nat → Int32) (p z : Nat) : Nat → Nat → Int32 := hp_u (hp_u (cp_ I (77 + 7 * p) 57 6 13) 75 1 (nI ((p + 1) % 40))) 75 2 (nI (if z < 40 then z + 1 else 40))
theorem kp_r {I : Nat → Nat → Int32} {p : Nat} (j : Nat) : cp_ I (77 + 7 * p) 57 6 13 75 j = I 75 j := by unfold cp_; rw [if_neg (by omega), if_neg (by omega)]
theorem r40 {p : Nat} (hp : p < 40) : nI p + 1 - (nI p + 1) / 40 * 40 = nI ((p + 1) % 40) := by
  rw [nI_1]
  exact pk_rem (d := 40) (by omega) (by decide) (by decide)
theorem m40 {z : Nat} (hz : z ≤ 40) : mn_ (nI z + 1) 40 = nI (if z < 40 then z + 1 else 40) := by
  rw [nI_1]
  unfold mn_
  have c1 : (40 : Int32) < nI (z + 1) ↔ 40 < z + 1 := nI_ltI (a := 40) (b := z + 1) (by decide) (by omega)
  by_cases h : z < 40
  · rw [if_pos h, if_neg (fun q => absurd (c1.mp q) (by omega))]
  · rw [if_neg h, if_pos (c1.mpr (by omega))]
    rfl
set_option maxHeartbeats 2000000 in
set_option maxRecDepth 20000 in
theorem c_X6_keep {E : sxE} {w : hpW} {Q : Option Value → hpW → Prop} (hB : ly_B w) {p z t : Nat} (hp : hp_i w 75 1 = nI p) (hp4 : p < 40) (hz : hp_i w 75 2 = nI z) (hz4 : z ≤ 40) (ht : hp_r w 57 0 = some t) (h : Q none (hp_wr w (hp_u (hp_r w) (77 + 7 * p) 0 (some t)) (kp_ (hp_i w) p z))) : sx_C E mX6_keep 3 0 0 [.ref 75, .ref 57] w Q := by
  have hi : vp_in (nI p) 40 := vp_in_nI hp4 (by decide)
  have hc : (nI p).toNatClampNeg = p := nI_clamp (by omega)
  have er : hp_r w 76 (nI p).toNatClampNeg = some (77 + 7 * p) := by rw [hc]; exact hB.r _ _ (ly_pst p hp4)
  have hB2 : ly_B (hp_wr w (hp_u (hp_r w) (77 + 7 * p) 0 (some t)) (cp_ (hp_i w) (77 + 7 * p) 57 6 13)) := ly_wr hB (ly_ru hB.2 (ly_p0 p hp4) _) _
  have e1 : hp_i (hp_wr w (hp_u (hp_r w) (77 + 7 * p) 0 (some t)) (cp_ (hp_i w) (77 + 7 * p) 57 6 13)) 75 1 = nI p := (kp_r 1).trans hp
  have e2 : hp_i (hp_wr w (hp_u (hp_r w) (77 + 7 * p) 0 (some t)) (hp_u (cp_ (hp_i w) (77 + 7 * p) 57 6 13) 75 1 (nI ((p + 1) % 40)))) 75 2 = nI z := by rw [hp_i_wr, hp_u_nk _ _ (by decide)]; exact (kp_r 2).trans hz
  refine C_of (by decide +kernel) (Nat.le_of_ble_eq_true rfl) ?_
  refine V_aload_n (i := 0) (sx_di dX6_keep 0 rfl) rfl rfl ?_
  refine V_getI (sx_di dX6_keep 1 rfl) fX6_20 (fun _ => rfl) (hB.k _ rfl) ?_
  refine V_if_lt (tgt := 16) (sx_di dX6_keep 2 rfl) (by decide) (fun h4 => ?_) (fun h4 => ?_)
  · rw [hp] at h4
    exact absurd h4 (nI_pos (by omega))
  · refine V_aload_n (i := 0) (sx_di dX6_keep 3 rfl) rfl rfl ?_
    refine V_getI (sx_di dX6_keep 4 rfl) fX6_20 (fun _ => rfl) (hB.k _ rfl) ?_
    refine V_bipush (v := 40) (sx_di dX6_keep 5 rfl) (by decide) ?_
    refine V_icmp_lt (tgt := 21) (sx_di dX6_keep 6 rfl) (by decide) (fun h13 => ?_) (fun h13 => ?_)
    · refine V_aload_n (i := 0) (sx_di dX6_keep 10 rfl) rfl rfl ?_
      refine V_getR (sx_di dX6_keep 11 rfl) fX6_11 (fun _ => rfl) (hB.k _ rfl) (hB.r _ _ rfl) ?_
      refine V_aload_n (i := 0) (sx_di dX6_keep 12 rfl) rfl rfl ?_
      refine V_getI (sx_di dX6_keep 13 rfl) fX6_20 (fun _ => rfl) (hB.k _ rfl) ?_
      rw [hp]
      refine V_aald (sx_di dX6_keep 14 rfl) (hB.k _ rfl) (by decide) (hi) (er) ?_
      refine V_aload_n (i := 1) (sx_di dX6_keep 15 rfl) rfl rfl ?_
      refine V_cV1 (mc' := 0) (ms' := 0) (M' := mX7_copyFrom) 2 (sx_di dX6_keep 16 rfl) lX6_24 vX7_copyFrom ((ss_pst hB hp4).1) (by decide) rfl (Nat.le_of_ble_eq_true rfl) ⟨Nat.le_of_ble_eq_true rfl, Nat.le_of_ble_eq_true rfl⟩ ⟨Nat.le_refl _, Nat.le_refl _⟩ ?_
      refine c_X7_copyFrom (ss_pst hB hp4) (ss_57 hB) (by omega) ht ?_
      refine V_aload_n (i := 0) (sx_di dX6_keep 17 rfl) rfl rfl ?_
      refine V_aload_n (i := 0) (sx_di dX6_keep 18 rfl) rfl rfl ?_
      refine V_getI (sx_di dX6_keep 19 rfl) fX6_20 (fun _ => rfl) (hB2.k _ rfl) ?_
      rw [e1]
      refine V_iconst (v := 1) (sx_di dX6_keep 20 rfl) (by decide) ?_
      refine V_iadd (sx_di dX6_keep 21 rfl) ?_
      refine V_bipush (v := 40) (sx_di dX6_keep 22 rfl) (by decide) ?_
      refine V_irem (sx_di dX6_keep 23 rfl) (by decide) ?_
      rw [r40 hp4]
      refine V_putI (sx_di dX6_keep 24 rfl) fX6_20 (fun _ => rfl) rfl (hB2.k _ rfl) (rfl) (rfl) ?_
      refine V_eq (w' := hp_wr w (hp_u (hp_r w) (77 + 7 * p) 0 (some t)) (hp_u (cp_ (hp_i w) (77 + 7 * p) 57 6 13) 75 1 (nI ((p + 1) % 40)))) rfl rfl rfl rfl ?_
      refine V_aload_n (i := 0) (sx_di dX6_keep 25 rfl) rfl rfl ?_
      refine V_aload_n (i := 0) (sx_di dX6_keep 26 rfl) rfl rfl ?_
      refine V_getI (sx_di dX6_keep 27 rfl) fX6_28 (fun _ => rfl) (hB2.k _ rfl) ?_
      rw [e2]
      refine V_iconst (v := 1) (sx_di dX6_keep 28 rfl) (by decide) ?_
      refine V_iadd (sx_di dX6_keep 29 rfl) ?_
      refine V_bipush (v := 40) (sx_di dX6_keep 30 rfl) (by decide) ?_
      refine V_mmin (sx_di dX6_keep 31 rfl) (sx_a3 180 rfl rfl) (sx_a3 135 rfl rfl) (sx_a1 22 rfl rfl) (sx_a3 136 rfl rfl) ⟨Nat.le_of_ble_eq_true rfl, Nat.le_of_ble_eq_true rfl, Nat.le_refl _, Nat.le_refl _⟩ ?_
      rw [m40 hz4]
      refine V_putI (sx_di dX6_keep 32 rfl) fX6_28 (fun _ => rfl) rfl (hB2.k _ rfl) (rfl) (rfl) ?_
      refine V_vret (sx_di dX6_keep 33 rfl) rfl (Nat.le_refl _) (Nat.le_refl _) ?_
      exact h
    · rw [hp] at h13
      exact absurd (nI_lt hp4 (by decide)) h13
/-- the latest act undone: the State of place p goes to 57 -/
def ud_ (I : Nat → Nat → Int32) (p z : Nat) : Nat → Nat → Int32 := cp_ (hp_u (hp_u I 75 2 (nI z)) 75 1 (nI p)) 57 (77 + 7 * p) 6 13
theorem ly_wi {w : hpW} (hB : ly_B w) (I : Nat → Nat → Int32) : ly_B (hp_wi w I) := hB
set_option maxHeartbeats 2000000 in
set_option maxRecDepth 20000 in
theorem c_X6_takeBack {E : sxE} {w : hpW} {Q : Option Value → hpW → Prop} (hB : ly_B w) {p z t : Nat} (hp : hp_i w 75 1 = nI p) (hp4 : p < 40) (hz : hp_i w 75 2 = nI (z + 1)) (hz4 : z < 40) (ht : hp_r w (77 + 7 * (if p = 0 then 39 else p - 1)) 0 = some t) (h : Q (some (.int 1)) (hp_wr w (hp_u (hp_r w) 57 0 (some t)) (ud_ (hp_i w) (if p = 0 then 39 else p - 1) z))) : sx_C E mX6_takeBack 3 0 0 [.ref 75, .ref 57] w Q := by
  have hq4 : (if p = 0 then 39 else p - 1) < 40 := by split <;> omega
  have hi : vp_in (nI (if p = 0 then 39 else p - 1)) 40 := vp_in_nI hq4 (by decide)
  have hc : (nI (if p = 0 then 39 else p - 1)).toNatClampNeg = (if p = 0 then 39 else p - 1) := nI_clamp (by omega)
  have er : hp_r w 76 (nI (if p = 0 then 39 else p - 1)).toNatClampNeg = some (77 + 7 * (if p = 0 then 39 else p - 1)) := by rw [hc]; exact hB.r _ _ (ly_pst _ hq4)
  have e0 : nI (z + 1) - 1 = nI z := nI_pred z
  have e1 : hp_i (hp_wi w (hp_u (hp_i w) 75 2 (nI z))) 75 1 = nI p := by rw [hp_i_wi, hp_u_nk _ _ (by decide)]; exact hp
  have e2 : hp_i (hp_wi w (hp_u (hp_u (hp_i w) 75 2 (nI z)) 75 1 (nI (if p = 0 then 39 else p - 1)))) 75 1 = nI (if p = 0 then 39 else p - 1) := by rw [hp_i_wi]; exact hp_u_at _ _ _ _
  refine C_of (by decide +kernel) (Nat.le_of_ble_eq_true rfl) ?_
  refine V_aload_n (i := 0) (sx_di dX6_takeBack 0 rfl) rfl rfl ?_
  refine V_getI (sx_di dX6_takeBack 1 rfl) fX6_28 (fun _ => rfl) (hB.k _ rfl) ?_
  refine V_iconst (v := 1) (sx_di dX6_takeBack 2 rfl) (by decide) ?_
  refine V_icmp_ge (tgt := 10) (sx_di dX6_takeBack 3 rfl) (by decide) (fun h5 => ?_) (fun h5 => ?_)
  · refine V_aload_n (i := 0) (sx_di dX6_takeBack 6 rfl) rfl rfl ?_
    refine V_dup (sx_di dX6_takeBack 7 rfl) rfl ?_
    refine V_getI (sx_di dX6_takeBack 8 rfl) fX6_28 (fun _ => rfl) (hB.k _ rfl) ?_
    refine V_iconst (v := 1) (sx_di dX6_takeBack 9 rfl) (by decide) ?_
    refine V_isub (sx_di dX6_takeBack 10 rfl) ?_
    rw [hz, e0]
    refine V_putI (sx_di dX6_takeBack 11 rfl) fX6_28 (fun _ => rfl) rfl (hB.k _ rfl) (rfl) (rfl) ?_
    rw [hp_si_wi]
    refine V_aload_n (i := 0) (sx_di dX6_takeBack 12 rfl) rfl rfl ?_
    refine V_aload_n (i := 0) (sx_di dX6_takeBack 13 rfl) rfl rfl ?_
    refine V_getI (sx_di dX6_takeBack 14 rfl) fX6_20 (fun _ => rfl) (hB.k _ rfl) ?_
    refine V_iconst (v := 1) (sx_di dX6_takeBack 15 rfl) (by decide) ?_
    refine V_icmp_lt (tgt := 38) (sx_di dX6_takeBack 16 rfl) (by decide) (fun h26 => ?_) (fun h26 => ?_)
    · rw [e1] at h26
      have p0 : p = 0 := by
        have := (nI_ltI (b := 1) (by omega) (by decide)).mp h26
        omega
      refine V_bipush (v := 39) (sx_di dX6_takeBack 21 rfl) (by decide) ?_
      refine V_goto (tgt := 49) (sx_di dX6_takeBack 22 rfl) (by decide) ?_
      rw [show (39 : Int32) = nI (if p = 0 then 39 else p - 1) by rw [if_pos p0]; rfl]
      refine V_putI (sx_di dX6_takeBack 27 rfl) fX6_20 (fun _ => rfl) rfl (hB.k _ rfl) (rfl) (rfl) ?_
      rw [hp_si_wi2]
      refine V_aload_n (i := 1) (sx_di dX6_takeBack 28 rfl) rfl rfl ?_
      refine V_aload_n (i := 0) (sx_di dX6_takeBack 29 rfl) rfl rfl ?_
      refine V_getR (sx_di dX6_takeBack 30 rfl) fX6_11 (fun _ => rfl) (hB.k _ rfl) (hB.r _ _ rfl) ?_
      refine V_aload_n (i := 0) (sx_di dX6_takeBack 31 rfl) rfl rfl ?_
      refine V_getI (sx_di dX6_takeBack 32 rfl) fX6_20 (fun _ => rfl) (hB.k _ rfl) ?_
      rw [e2]
      refine V_aald (sx_di dX6_takeBack 33 rfl) (hB.k _ rfl) (by decide) (hi) (er) ?_
      refine V_cV1 (mc' := 0) (ms' := 0) (M' := mX7_copyFrom) 2 (sx_di dX6_takeBack 34 rfl) lX6_24 vX7_copyFrom ((ss_57 hB).1) (by decide) rfl (Nat.le_of_ble_eq_true rfl) ⟨Nat.le_of_ble_eq_true rfl, Nat.le_of_ble_eq_true rfl⟩ ⟨Nat.le_refl _, Nat.le_refl _⟩ ?_
      refine c_X7_copyFrom (w := hp_wi w (hp_u (hp_u (hp_i w) 75 2 (nI z)) 75 1 (nI (if p = 0 then 39 else p - 1)))) (ss_57 hB) (ss_pst hB hq4) (by omega) ht ?_
      refine V_iconst (v := 1) (sx_di dX6_takeBack 35 rfl) (by decide) ?_
      refine V_zret (sx_di dX6_takeBack 36 rfl) rfl (by first | rfl | decide) (Nat.le_refl _) (Nat.le_refl _) ?_
      exact h
    · rw [e1] at h26
      have p0 : ¬ p = 0 := fun q => h26 (by rw [q]; decide)
      refine V_aload_n (i := 0) (sx_di dX6_takeBack 17 rfl) rfl rfl ?_
      refine V_getI (sx_di dX6_takeBack 18 rfl) fX6_20 (fun _ => rfl) (hB.k _ rfl) ?_
      refine V_bipush (v := 40) (sx_di dX6_takeBack 19 rfl) (by decide) ?_
      refine V_icmp_lt (tgt := 43) (sx_di dX6_takeBack 20 rfl) (by decide) (fun h35 => ?_) (fun h35 => ?_)
      · refine V_aload_n (i := 0) (sx_di dX6_takeBack 23 rfl) rfl rfl ?_
        refine V_getI (sx_di dX6_takeBack 24 rfl) fX6_20 (fun _ => rfl) (hB.k _ rfl) ?_
        refine V_iconst (v := 1) (sx_di dX6_takeBack 25 rfl) (by decide) ?_
        refine V_isub (sx_di dX6_takeBack 26 rfl) ?_
        rw [e1, show nI p - 1 = nI (if p = 0 then 39 else p - 1) by rw [if_neg p0]; exact pk_sub (b := 1) (by omega)]
        refine V_putI (sx_di dX6_takeBack 27 rfl) fX6_20 (fun _ => rfl) rfl (hB.k _ rfl) (rfl) (rfl) ?_
        rw [hp_si_wi2]
        refine V_aload_n (i := 1) (sx_di dX6_takeBack 28 rfl) rfl rfl ?_
        refine V_aload_n (i := 0) (sx_di dX6_takeBack 29 rfl) rfl rfl ?_
        refine V_getR (sx_di dX6_takeBack 30 rfl) fX6_11 (fun _ => rfl) (hB.k _ rfl) (hB.r _ _ rfl) ?_
        refine V_aload_n (i := 0) (sx_di dX6_takeBack 31 rfl) rfl rfl ?_
        refine V_getI (sx_di dX6_takeBack 32 rfl) fX6_20 (fun _ => rfl) (hB.k _ rfl) ?_
        rw [e2]
        refine V_aald (sx_di dX6_takeBack 33 rfl) (hB.k _ rfl) (by decide) (hi) (er) ?_
        refine V_cV1 (mc' := 0) (ms' := 0) (M' := mX7_copyFrom) 2 (sx_di dX6_takeBack 34 rfl) lX6_24 vX7_copyFrom ((ss_57 hB).1) (by decide) rfl (Nat.le_of_ble_eq_true rfl) ⟨Nat.le_of_ble_eq_true rfl, Nat.le_of_ble_eq_true rfl⟩ ⟨Nat.le_refl _, Nat.le_refl _⟩ ?_
        refine c_X7_copyFrom (w := hp_wi w (hp_u (hp_u (hp_i w) 75 2 (nI z)) 75 1 (nI (if p = 0 then 39 else p - 1)))) (ss_57 hB) (ss_pst hB hq4) (by omega) ht ?_
        refine V_iconst (v := 1) (sx_di dX6_takeBack 35 rfl) (by decide) ?_
        refine V_zret (sx_di dX6_takeBack 36 rfl) rfl (by first | rfl | decide) (Nat.le_refl _) (Nat.le_refl _) ?_
        exact h
      · rw [e1] at h35
        exact absurd (nI_lt hp4 (by decide)) h35
  · rw [hz] at h5
    exact absurd (nI_le (a := 1) (by omega) (by omega)) h5
set_option maxHeartbeats 2000000 in
set_option maxRecDepth 20000 in
theorem c_X6_forget {E : sxE} {w : hpW} {Q : Option Value → hpW → Prop} (hB : ly_B w) (h : Q none (hp_si w 75 2 0)) : sx_C E mX6_forget 1 0 0 [.ref 75] w Q := by
  refine C_of (by decide +kernel) (Nat.le_of_ble_eq_true rfl) ?_
  refine V_aload_n (i := 0) (sx_di dX6_forget 0 rfl) rfl rfl ?_
  refine V_iconst (v := 0) (sx_di dX6_forget 1 rfl) (by decide) ?_
  refine V_putI (sx_di dX6_forget 2 rfl) fX6_28 (fun _ => rfl) rfl (hB.k _ rfl) (rfl) (rfl) ?_
  refine V_vret (sx_di dX6_forget 3 rfl) rfl (Nat.le_refl _) (Nat.le_refl _) ?_
  exact h
def im_ (I : Nat → Nat → Int32) : Nat → Nat → Int32 := hp_u (lc_ (cp_ I 362 57 6 13) 358 71 3) 357 2 1
def br_ (I : Nat → Nat → Int32) : Nat → Nat → Int32 := lc_ (cp_ I 57 362 6 13) 71 358 3
set_option maxHeartbeats 2000000 in
set_option maxRecDepth 20000 in
theorem c_X0_keep {E : sxE} {w : hpW} {Q : Option Value → hpW → Prop} (hB : ly_B w) {t : Nat} (ht : hp_r w 57 0 = some t) (h : Q none (hp_wr w (hp_u (hp_r w) 362 0 (some t)) (im_ (hp_i w)))) : sx_C E mX0_keep 3 0 0 [.ref 357, .ref 57, .ref 71] w Q := by
  have hB2 : ly_B (hp_wr w (hp_u (hp_r w) 362 0 (some t)) (cp_ (hp_i w) 362 57 6 13)) := ly_wr hB (ly_ru hB.2 rfl _) _
  refine C_of (by decide +kernel) (Nat.le_of_ble_eq_true rfl) ?_
  refine V_aload_n (i := 0) (sx_di dX0_keep 0 rfl) rfl rfl ?_
  refine V_getR (sx_di dX0_keep 1 rfl) fX0_21 (fun _ => rfl) (hB.k _ rfl) (hB.r _ _ rfl) ?_
  refine V_aload_n (i := 1) (sx_di dX0_keep 2 rfl) rfl rfl ?_
  refine V_cV1 (mc' := 0) (ms' := 0) (M' := mX7_copyFrom) 2 (sx_di dX0_keep 3 rfl) lX0_25 vX7_copyFrom (hB.k _ rfl) (by decide) rfl (Nat.le_of_ble_eq_true rfl) ⟨Nat.le_of_ble_eq_true rfl, Nat.le_of_ble_eq_true rfl⟩ ⟨Nat.le_refl _, Nat.le_refl _⟩ ?_
  refine c_X7_copyFrom (ss_362 hB) (ss_57 hB) (by decide) ht ?_
  refine V_aload_n (i := 0) (sx_di dX0_keep 4 rfl) rfl rfl ?_
  refine V_getR (sx_di dX0_keep 5 rfl) fX0_10 (fun _ => rfl) (hB2.k _ rfl) (hB2.r _ _ rfl) ?_
  refine V_aload_n (i := 2) (sx_di dX0_keep 6 rfl) rfl rfl ?_
  refine V_cV1 (mc' := 0) (ms' := 0) (M' := mX4_copyFrom) 2 (sx_di dX0_keep 7 rfl) lX0_29 vX4_copyFrom (hB2.k _ rfl) (by decide) rfl (Nat.le_of_ble_eq_true rfl) ⟨Nat.le_of_ble_eq_true rfl, Nat.le_of_ble_eq_true rfl⟩ ⟨Nat.le_refl _, Nat.le_refl _⟩ ?_
  refine c_X4_copyFrom (w := hp_wr w (hp_u (hp_r w) 362 0 (some t)) (cp_ (hp_i w) 362 57 6 13)) (lg_358 hB2) (lg_71 hB2) (by decide) ?_
  refine V_aload_n (i := 0) (sx_di dX0_keep 8 rfl) rfl rfl ?_
  refine V_iconst (v := 1) (sx_di dX0_keep 9 rfl) (by decide) ?_
  refine V_putI (sx_di dX0_keep 10 rfl) fX0_32 (fun _ => rfl) rfl (hB2.k _ rfl) (rfl) (rfl) ?_
  refine V_vret (sx_di dX0_keep 11 rfl) rfl (Nat.le_refl _) (Nat.le_refl _) ?_
  exact h
set_option maxHeartbeats 2000000 in
set_option maxRecDepth 20000 in
theorem c_X0_bringBack {E : sxE} {w : hpW} {Q : Option Value → hpW → Prop} (hB : ly_B w) {t : Nat} (ht : hp_r w 362 0 = some t) (h : Q none (hp_wr w (hp_u (hp_r w) 57 0 (some t)) (br_ (hp_i w)))) : sx_C E mX0_bringBack 3 0 0 [.ref 357, .ref 57, .ref 71] w Q := by
  have hB2 : ly_B (hp_wr w (hp_u (hp_r w) 57 0 (some t)) (cp_ (hp_i w) 57 362 6 13)) := ly_wr hB (ly_ru hB.2 rfl _) _
  refine C_of (by decide +kernel) (Nat.le_of_ble_eq_true rfl) ?_
  refine V_aload_n (i := 1) (sx_di dX0_bringBack 0 rfl) rfl rfl ?_
  refine V_aload_n (i := 0) (sx_di dX0_bringBack 1 rfl) rfl rfl ?_
  refine V_getR (sx_di dX0_bringBack 2 rfl) fX0_21 (fun _ => rfl) (hB.k _ rfl) (hB.r _ _ rfl) ?_
  refine V_cV1 (mc' := 0) (ms' := 0) (M' := mX7_copyFrom) 2 (sx_di dX0_bringBack 3 rfl) lX0_25 vX7_copyFrom (hB.k _ rfl) (by decide) rfl (Nat.le_of_ble_eq_true rfl) ⟨Nat.le_of_ble_eq_true rfl, Nat.le_of_ble_eq_true rfl⟩ ⟨Nat.le_refl _, Nat.le_refl _⟩ ?_
  refine c_X7_copyFrom (ss_57 hB) (ss_362 hB) (by decide) ht ?_
  refine V_aload_n (i := 2) (sx_di dX0_bringBack 4 rfl) rfl rfl ?_
  refine V_aload_n (i := 0) (sx_di dX0_bringBack 5 rfl) rfl rfl ?_
  refine V_getR (sx_di dX0_bringBack 6 rfl) fX0_10 (fun _ => rfl) (hB2.k _ rfl) (hB2.r _ _ rfl) ?_
  refine V_cV1 (mc' := 0) (ms' := 0) (M' := mX4_copyFrom) 2 (sx_di dX0_bringBack 7 rfl) lX0_29 vX4_copyFrom (hB2.k _ rfl) (by decide) rfl (Nat.le_of_ble_eq_true rfl) ⟨Nat.le_of_ble_eq_true rfl, Nat.le_of_ble_eq_true rfl⟩ ⟨Nat.le_refl _, Nat.le_refl _⟩ ?_
  refine c_X4_copyFrom (w := hp_wr w (hp_u (hp_r w) 57 0 (some t)) (cp_ (hp_i w) 57 362 6 13)) (lg_71 hB2) (lg_358 hB2) (by decide) ?_
  refine V_vret (sx_di dX0_bringBack 8 rfl) rfl (Nat.le_refl _) (Nat.le_refl _) ?_
  exact h

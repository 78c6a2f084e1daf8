/-! small things of the class: book, notes, log, past, image -/
set_option maxRecDepth 20000 in
theorem ly_law : ∀ k, k < 5 → ly_r 21 k = some (22 + 6 * k) := by decide +kernel
set_option maxRecDepth 20000 in
theorem ly_pst : ∀ k, k < 40 → ly_r 76 k = some (77 + 7 * k) := by decide +kernel
set_option maxRecDepth 20000 in
theorem ly_pk : ∀ k, k < 40 → ly_k (77 + 7 * k) = (7, 13) ∧ ly_k (77 + 7 * k + 1) = (13, 8) ∧ ly_k (77 + 7 * k + 2) = (13, 8) ∧ ly_k (77 + 7 * k + 3) = (13, 8) ∧ ly_k (77 + 7 * k + 4) = (13, 8) ∧ ly_k (77 + 7 * k + 5) = (13, 8) ∧ ly_k (77 + 7 * k + 6) = (13, 8) := by decide +kernel
set_option maxRecDepth 20000 in
theorem ly_pr : ∀ k, k < 40 → ly_r (77 + 7 * k) 1 = some (77 + 7 * k + 1) ∧ ly_r (77 + 7 * k) 2 = some (77 + 7 * k + 2) ∧ ly_r (77 + 7 * k) 3 = some (77 + 7 * k + 3) ∧ ly_r (77 + 7 * k) 4 = some (77 + 7 * k + 4) ∧ ly_r (77 + 7 * k) 5 = some (77 + 7 * k + 5) ∧ ly_r (77 + 7 * k) 6 = some (77 + 7 * k + 6) := by decide +kernel
set_option maxRecDepth 20000 in
theorem ly_p0 : ∀ k, k < 40 → ly_r (77 + 7 * k) 0 = none := by decide +kernel
set_option maxRecDepth 20000 in
theorem ly_lk : ∀ k, k < 5 → ly_k (22 + 6 * k) = (1, 7) ∧ ly_k (22 + 6 * k + 1) = (13, 240) ∧ ly_k (22 + 6 * k + 2) = (13, 64) ∧ ly_k (22 + 6 * k + 3) = (13, 64) ∧ ly_k (22 + 6 * k + 4) = (13, 6) ∧ ly_k (22 + 6 * k + 5) = (13, 48) := by decide +kernel
set_option maxRecDepth 20000 in
theorem ly_lr : ∀ k, k < 5 → ly_r (22 + 6 * k) 2 = some (22 + 6 * k + 1) ∧ ly_r (22 + 6 * k) 3 = some (22 + 6 * k + 2) ∧ ly_r (22 + 6 * k) 4 = some (22 + 6 * k + 3) ∧ ly_r (22 + 6 * k) 5 = some (22 + 6 * k + 4) ∧ ly_r (22 + 6 * k) 6 = some (22 + 6 * k + 5) := by decide +kernel
theorem ss_pst {w : hpW} (hB : ly_B w) {k : Nat} (hk : k < 40) : is_Ss w (77 + 7 * k) := by
  obtain ⟨k0, k1, k2, k3, k4, k5, k6⟩ := ly_pk k hk
  obtain ⟨r1, r2, r3, r4, r5, r6⟩ := ly_pr k hk
  exact ⟨(hB.1 _ (by omega) (by omega)).trans k0, (hB.1 _ (by omega) (by omega)).trans k1, (hB.1 _ (by omega) (by omega)).trans k2, (hB.1 _ (by omega) (by omega)).trans k3, (hB.1 _ (by omega) (by omega)).trans k4, (hB.1 _ (by omega) (by omega)).trans k5, (hB.1 _ (by omega) (by omega)).trans k6, hB.r _ _ r1, hB.r _ _ r2, hB.r _ _ r3, hB.r _ _ r4, hB.r _ _ r5, hB.r _ _ r6⟩
theorem lw_law {w : hpW} (hB : ly_B w) {k : Nat} (hk : k < 5) : is_Lw w (22 + 6 * k) := by
  obtain ⟨k0, k1, k2, k3, k4, k5⟩ := ly_lk k hk
  obtain ⟨r1, r2, r3, r4, r5⟩ := ly_lr k hk
  exact ⟨(hB.1 _ (by omega) (by omega)).trans k0, (hB.1 _ (by omega) (by omega)).trans k1, (hB.1 _ (by omega) (by omega)).trans k2, (hB.1 _ (by omega) (by omega)).trans k3, (hB.1 _ (by omega) (by omega)).trans k4, (hB.1 _ (by omega) (by omega)).trans k5, hB.r _ _ r1, hB.r _ _ r2, hB.r _ _ r3, hB.r _ _ r4, hB.r _ _ r5⟩
theorem ss_57 {w : hpW} (hB : ly_B w) : is_Ss w 57 := ⟨hB.k _ rfl, hB.k _ rfl, hB.k _ rfl, hB.k _ rfl, hB.k _ rfl, hB.k _ rfl, hB.k _ rfl, hB.r _ _ rfl, hB.r _ _ rfl, hB.r _ _ rfl, hB.r _ _ rfl, hB.r _ _ rfl, hB.r _ _ rfl⟩
theorem ss_64 {w : hpW} (hB : ly_B w) : is_Ss w 64 := ⟨hB.k _ rfl, hB.k _ rfl, hB.k _ rfl, hB.k _ rfl, hB.k _ rfl, hB.k _ rfl, hB.k _ rfl, hB.r _ _ rfl, hB.r _ _ rfl, hB.r _ _ rfl, hB.r _ _ rfl, hB.r _ _ rfl, hB.r _ _ rfl⟩
theorem ss_362 {w : hpW} (hB : ly_B w) : is_Ss w 362 := ⟨hB.k _ rfl, hB.k _ rfl, hB.k _ rfl, hB.k _ rfl, hB.k _ rfl, hB.k _ rfl, hB.k _ rfl, hB.r _ _ rfl, hB.r _ _ rfl, hB.r _ _ rfl, hB.r _ _ rfl, hB.r _ _ rfl, hB.r _ _ rfl⟩
theorem st_53 {w : hpW} (hB : ly_B w) : is_St w 53 := ⟨hB.k _ rfl, hB.k _ rfl, hB.r _ _ rfl⟩
theorem st_55 {w : hpW} (hB : ly_B w) : is_St w 55 := ⟨hB.k _ rfl, hB.k _ rfl, hB.r _ _ rfl⟩
/-- the references that stay, in another row of references -/
def ly_R2 (R : Nat → Nat → Option Nat) : Prop := ∀ a j t, ly_r a j = some t → R a j = some t
theorem ly_wr {w : hpW} (hB : ly_B w) {R : Nat → Nat → Option Nat} (hR : ly_R2 R) (I : Nat → Nat → Int32) : ly_B (hp_wr w R I) := ⟨hB.1, hR⟩
theorem ly_ru {R : Nat → Nat → Option Nat} (hR : ly_R2 R) {a k : Nat} (h : ly_r a k = none) (x : Option Nat) : ly_R2 (hp_u R a k x) := fun b j t ht => by
  rw [hp_u_nk _ _ (fun z => by rw [z.1, z.2, h] at ht; cases ht)]
  exact hR b j t ht
set_option maxHeartbeats 2000000 in
set_option maxRecDepth 20000 in
theorem c_X2_holding {E : sxE} {w : hpW} {Q : Option Value → hpW → Prop} (hB : ly_B w) (h0 : (hp_i w 20 2 < 0 ∨ hp_i w 20 1 ≤ hp_i w 20 2 ∨ 4 ≤ hp_i w 20 2) → Q (some .null) w) (h1 : ∀ k, k < 4 → hp_i w 20 2 = nI k → hp_i w 20 2 < hp_i w 20 1 → Q (some (.ref (22 + 6 * k))) w) : sx_C E mX2_holding 1 0 0 [.ref 20] w Q := by
  refine C_of (by decide +kernel) (Nat.le_of_ble_eq_true rfl) ?_
  refine V_aload_n (i := 0) (sx_di dX2_holding 0 rfl) rfl rfl ?_
  refine V_getI (sx_di dX2_holding 1 rfl) fX2_17 (fun _ => rfl) (hB.k _ rfl) ?_
  refine V_if_lt (tgt := 38) (sx_di dX2_holding 2 rfl) (by decide) (fun h4 => ?_) (fun h4 => ?_)
  · refine V_null (sx_di dX2_holding 18 rfl) ?_
    refine V_aret (sx_di dX2_holding 19 rfl) rfl (by first | exact Or.inl rfl | exact Or.inr ⟨_, rfl⟩) (Nat.le_refl _) (Nat.le_refl _) ?_
    exact h0 (Or.inl h4)
  · refine V_aload_n (i := 0) (sx_di dX2_holding 3 rfl) rfl rfl ?_
    refine V_getI (sx_di dX2_holding 4 rfl) fX2_17 (fun _ => rfl) (hB.k _ rfl) ?_
    refine V_aload_n (i := 0) (sx_di dX2_holding 5 rfl) rfl rfl ?_
    refine V_getI (sx_di dX2_holding 6 rfl) fX2_22 (fun _ => rfl) (hB.k _ rfl) ?_
    refine V_icmp_ge (tgt := 38) (sx_di dX2_holding 7 rfl) (by decide) (fun h15 => ?_) (fun h15 => ?_)
    · refine V_null (sx_di dX2_holding 18 rfl) ?_
      refine V_aret (sx_di dX2_holding 19 rfl) rfl (by first | exact Or.inl rfl | exact Or.inr ⟨_, rfl⟩) (Nat.le_refl _) (Nat.le_refl _) ?_
      exact h0 (Or.inr (Or.inl h15))
    · refine V_aload_n (i := 0) (sx_di dX2_holding 8 rfl) rfl rfl ?_
      refine V_getI (sx_di dX2_holding 9 rfl) fX2_17 (fun _ => rfl) (hB.k _ rfl) ?_
      refine V_iconst (v := 4) (sx_di dX2_holding 10 rfl) (by decide) ?_
      refine V_icmp_ge (tgt := 38) (sx_di dX2_holding 11 rfl) (by decide) (fun h23 => ?_) (fun h23 => ?_)
      · refine V_null (sx_di dX2_holding 18 rfl) ?_
        refine V_aret (sx_di dX2_holding 19 rfl) rfl (by first | exact Or.inl rfl | exact Or.inr ⟨_, rfl⟩) (Nat.le_refl _) (Nat.le_refl _) ?_
        exact h0 (Or.inr (Or.inr h23))
      · obtain ⟨k, hk, ek⟩ := vp_in_of (sl_in (n := 4) (by decide) h4 h23) (by decide)
        have er : hp_r w 21 (hp_i w 20 2).toNatClampNeg = some (22 + 6 * k) := by rw [ek, nI_clamp (by omega)]; exact hB.r _ _ (ly_law k (by omega))
        refine V_aload_n (i := 0) (sx_di dX2_holding 12 rfl) rfl rfl ?_
        refine V_getR (sx_di dX2_holding 13 rfl) fX2_11 (fun _ => rfl) (hB.k _ rfl) (hB.r _ _ rfl) ?_
        refine V_aload_n (i := 0) (sx_di dX2_holding 14 rfl) rfl rfl ?_
        refine V_getI (sx_di dX2_holding 15 rfl) fX2_17 (fun _ => rfl) (hB.k _ rfl) ?_
        refine V_aald (sx_di dX2_holding 16 rfl) (hB.k _ rfl) (by decide) (by rw [ek]; exact vp_in_nI (by omega) (by decide)) (er) ?_
        refine V_goto (tgt := 39) (sx_di dX2_holding 17 rfl) (by decide) ?_
        refine V_aret (sx_di dX2_holding 19 rfl) rfl (by first | exact Or.inl rfl | exact Or.inr ⟨_, rfl⟩) (Nat.le_refl _) (Nat.le_refl _) ?_
        exact h1 k hk ek (Int32.not_le.mp h15)
set_option maxHeartbeats 2000000 in
set_option maxRecDepth 20000 in
theorem c_X2_next {E : sxE} {w : hpW} {Q : Option Value → hpW → Prop} (hB : ly_B w) {n : Nat} (hn : hp_i w 20 1 = nI n) (hn4 : n ≤ 4) (h : Q (some (.ref (22 + 6 * n))) w) : sx_C E mX2_next 1 0 0 [.ref 20] w Q := by
  refine C_of (by decide +kernel) (Nat.le_of_ble_eq_true rfl) ?_
  refine V_aload_n (i := 0) (sx_di dX2_next 0 rfl) rfl rfl ?_
  refine V_getR (sx_di dX2_next 1 rfl) fX2_11 (fun _ => rfl) (hB.k _ rfl) (hB.r _ _ rfl) ?_
  refine V_aload_n (i := 0) (sx_di dX2_next 2 rfl) rfl rfl ?_
  refine V_getI (sx_di dX2_next 3 rfl) fX2_22 (fun _ => rfl) (hB.k _ rfl) ?_
  refine V_if_lt (tgt := 26) (sx_di dX2_next 4 rfl) (by decide) (fun h8 => ?_) (fun h8 => ?_)
  · rw [hn] at h8
    exact absurd h8 (nI_pos (by omega))
  · refine V_aload_n (i := 0) (sx_di dX2_next 5 rfl) rfl rfl ?_
    refine V_getI (sx_di dX2_next 6 rfl) fX2_22 (fun _ => rfl) (hB.k _ rfl) ?_
    refine V_iconst (v := 4) (sx_di dX2_next 7 rfl) (by decide) ?_
    refine V_icmp_ge (tgt := 26) (sx_di dX2_next 8 rfl) (by decide) (fun h16 => ?_) (fun h16 => ?_)
    · rw [hn] at h16
      have e4 : n = 4 := by have := (nI_leI (a := 4) (by decide) (by omega)).mp h16; omega
      subst e4
      refine V_iconst (v := 4) (sx_di dX2_next 12 rfl) (by decide) ?_
      refine V_aald (sx_di dX2_next 13 rfl) (hB.k _ rfl) (by decide) (by first | (unfold vp_in; decide) | (rw [hn]; exact vp_in_nI (by omega) (by decide))) (by first | exact hB.r _ _ rfl | (rw [hn, nI_clamp (by omega)]; exact hB.r _ _ (ly_law n (by omega)))) ?_
      refine V_aret (sx_di dX2_next 14 rfl) rfl (by first | exact Or.inl rfl | exact Or.inr ⟨_, rfl⟩) (Nat.le_refl _) (Nat.le_refl _) ?_
      exact h
    · rw [hn] at h16
      have l4 : n < 4 := by
        rcases Nat.lt_or_ge n 4 with z | z
        · exact z
        · exact absurd (nI_le z (by omega)) h16
      refine V_aload_n (i := 0) (sx_di dX2_next 9 rfl) rfl rfl ?_
      refine V_getI (sx_di dX2_next 10 rfl) fX2_22 (fun _ => rfl) (hB.k _ rfl) ?_
      refine V_goto (tgt := 27) (sx_di dX2_next 11 rfl) (by decide) ?_
      refine V_aald (sx_di dX2_next 13 rfl) (hB.k _ rfl) (by decide) (by first | (unfold vp_in; decide) | (rw [hn]; exact vp_in_nI (by omega) (by decide))) (by first | exact hB.r _ _ rfl | (rw [hn, nI_clamp (by omega)]; exact hB.r _ _ (ly_law n (by omega)))) ?_
      refine V_aret (sx_di dX2_next 14 rfl) rfl (by first | exact Or.inl rfl | exact Or.inr ⟨_, rfl⟩) (Nat.le_refl _) (Nat.le_refl _) ?_
      exact h
set_option maxHeartbeats 2000000 in
set_option maxRecDepth 20000 in
theorem c_X2_take {E : sxE} {w : hpW} {Q : Option Value → hpW → Prop} (hB : ly_B w) {n : Nat} (hn : hp_i w 20 1 = nI n) (hn4 : n < 4) (h : Q (some (.int (nI n))) (hp_si w 20 1 (nI (n + 1)))) : sx_C E mX2_take 1 0 0 [.ref 20] w Q := by
  have e1 : hp_i w 20 1 + 1 = nI (n + 1) := by rw [hn]; exact nI_1 n
  have e2 : hp_i (hp_si w 20 1 (nI (n + 1))) 20 1 - 1 = nI n := by rw [hp_i_si, if_pos ⟨rfl, rfl⟩]; exact nI_pred n
  refine C_of (by decide +kernel) (Nat.le_of_ble_eq_true rfl) ?_
  refine V_aload_n (i := 0) (sx_di dX2_take 0 rfl) rfl rfl ?_
  refine V_getI (sx_di dX2_take 1 rfl) fX2_22 (fun _ => rfl) (hB.k _ rfl) ?_
  refine V_iconst (v := 4) (sx_di dX2_take 2 rfl) (by decide) ?_
  refine V_icmp_ge (tgt := 18) (sx_di dX2_take 3 rfl) (by decide) (fun h5 => ?_) (fun h5 => ?_)
  · rw [hn] at h5
    exact absurd h5 (nI_ge hn4 (by decide))
  · refine V_aload_n (i := 0) (sx_di dX2_take 4 rfl) rfl rfl ?_
    refine V_dup (sx_di dX2_take 5 rfl) rfl ?_
    refine V_getI (sx_di dX2_take 6 rfl) fX2_22 (fun _ => rfl) (hB.k _ rfl) ?_
    refine V_iconst (v := 1) (sx_di dX2_take 7 rfl) (by decide) ?_
    refine V_iadd (sx_di dX2_take 8 rfl) ?_
    rw [e1]
    refine V_putI (sx_di dX2_take 9 rfl) fX2_22 (fun _ => rfl) rfl (hB.k _ rfl) (rfl) (rfl) ?_
    refine V_aload_n (i := 0) (sx_di dX2_take 10 rfl) rfl rfl ?_
    refine V_getI (sx_di dX2_take 11 rfl) fX2_22 (fun _ => rfl) (hB.k _ rfl) ?_
    refine V_iconst (v := 1) (sx_di dX2_take 12 rfl) (by decide) ?_
    refine V_isub (sx_di dX2_take 13 rfl) ?_
    rw [e2]
    refine V_iret (sx_di dX2_take 14 rfl) rfl (Nat.le_refl _) (Nat.le_refl _) ?_
    exact h
def is_Nt (w : hpW) (a : Nat) : Prop := hp_k w a = (5, 4) ∧ hp_k w (a + 1) = (13, 10) ∧ hp_k w (a + 2) = (13, 10) ∧ hp_k w (a + 3) = (14, 10) ∧ hp_r w a 0 = some (a + 1) ∧ hp_r w a 1 = some (a + 2) ∧ hp_r w a 2 = some (a + 3)
theorem nt_369 {w : hpW} (hB : ly_B w) : is_Nt w 369 := ⟨hB.k _ rfl, hB.k _ rfl, hB.k _ rfl, hB.k _ rfl, hB.r _ _ rfl, hB.r _ _ rfl, hB.r _ _ rfl⟩
theorem nt_373 {w : hpW} (hB : ly_B w) : is_Nt w 373 := ⟨hB.k _ rfl, hB.k _ rfl, hB.k _ rfl, hB.k _ rfl, hB.r _ _ rfl, hB.r _ _ rfl, hB.r _ _ rfl⟩
/-- one note more -/
def nt_ (I : Nat → Nat → Int32) (a n : Nat) (x y z : Int32) : Nat → Nat → Int32 := hp_u (hp_u (hp_u (hp_u I (a + 1) n x) (a + 2) n y) (a + 3) n z) a 3 (nI (n + 1))
set_option maxHeartbeats 2000000 in
set_option maxRecDepth 20000 in
theorem c_X5_add {E : sxE} {w : hpW} {Q : Option Value → hpW → Prop} {a n : Nat} {x y z : Int32} (hs : is_Nt w a) (hn : hp_i w a 3 = nI n) (hn2 : n ≤ 10) (hz : narrow .boolean (.int z) = .int z) (h0 : n = 10 → Q (some (.int 0)) w) (h1 : n < 10 → Q (some (.int 1)) (hp_wi w (nt_ (hp_i w) a n x y z))) : sx_C E mX5_add 1 0 0 [.ref a, .int x, .int y, .int z] w Q := by
  have g1 : ∀ I : Nat → Nat → Int32, I a 3 = nI n → hp_u I (a + 1) n x a 3 = nI n := fun I h => (hp_u_nk _ _ (by omega)).trans h
  have g2 : ∀ I : Nat → Nat → Int32, I a 3 = nI n → hp_u I (a + 2) n y a 3 = nI n := fun I h => (hp_u_nk _ _ (by omega)).trans h
  have g3 : ∀ I : Nat → Nat → Int32, I a 3 = nI n → hp_u I (a + 3) n z a 3 = nI n := fun I h => (hp_u_nk _ _ (by omega)).trans h
  have e1 : hp_i (hp_wi w (hp_u (hp_i w) (a + 1) n x)) a 3 = nI n := g1 _ hn
  have e2 : hp_i (hp_wi w (hp_u (hp_u (hp_i w) (a + 1) n x) (a + 2) n y)) a 3 = nI n := g2 _ e1
  have e3 : hp_i (hp_wi w (hp_u (hp_u (hp_u (hp_i w) (a + 1) n x) (a + 2) n y) (a + 3) n z)) a 3 = nI n := g3 _ e2
  refine C_of (by decide +kernel) (Nat.le_of_ble_eq_true rfl) ?_
  refine V_aload_n (i := 0) (sx_di dX5_add 0 rfl) rfl rfl ?_
  refine V_getI (sx_di dX5_add 1 rfl) fX5_22 (fun _ => rfl) (by first | exact hs.1 | exact hs.2.1 | exact hs.2.2.1 | exact hs.2.2.2.1) ?_
  refine V_if_lt (tgt := 16) (sx_di dX5_add 2 rfl) (by decide) (fun h4 => ?_) (fun h4 => ?_)
  · rw [hn] at h4
    exact absurd h4 (nI_pos (by omega))
  · refine V_aload_n (i := 0) (sx_di dX5_add 3 rfl) rfl rfl ?_
    refine V_getI (sx_di dX5_add 4 rfl) fX5_22 (fun _ => rfl) (by first | exact hs.1 | exact hs.2.1 | exact hs.2.2.1 | exact hs.2.2.2.1) ?_
    refine V_bipush (v := 10) (sx_di dX5_add 5 rfl) (by decide) ?_
    refine V_icmp_lt (tgt := 18) (sx_di dX5_add 6 rfl) (by decide) (fun h13 => ?_) (fun h13 => ?_)
    · rw [hn] at h13
      have l10 : n < 10 := (nI_ltI (b := 10) (by omega) (by decide)).mp h13
      have hi : vp_in (nI n) 10 := vp_in_nI l10 (by decide)
      have hc : (nI n).toNatClampNeg = n := nI_clamp (by omega)
      refine V_aload_n (i := 0) (sx_di dX5_add 9 rfl) rfl rfl ?_
      refine V_getR (sx_di dX5_add 10 rfl) fX5_9 (fun _ => rfl) (by first | exact hs.1 | exact hs.2.1 | exact hs.2.2.1 | exact hs.2.2.2.1) (by first | exact hs.2.2.2.2.1 | exact hs.2.2.2.2.2.1 | exact hs.2.2.2.2.2.2) ?_
      refine V_aload_n (i := 0) (sx_di dX5_add 11 rfl) rfl rfl ?_
      refine V_getI (sx_di dX5_add 12 rfl) fX5_22 (fun _ => rfl) (by first | exact hs.1 | exact hs.2.1 | exact hs.2.2.1 | exact hs.2.2.2.1) ?_
      rw [hn]
      refine V_iload_n (i := 1) (sx_di dX5_add 13 rfl) rfl rfl ?_
      refine V_iast (sx_di dX5_add 14 rfl) (by first | exact hs.1 | exact hs.2.1 | exact hs.2.2.1 | exact hs.2.2.2.1) (hi) ?_
      rw [hc, hp_si_wi]
      refine V_aload_n (i := 0) (sx_di dX5_add 15 rfl) rfl rfl ?_
      refine V_getR (sx_di dX5_add 16 rfl) fX5_15 (fun _ => rfl) (by first | exact hs.1 | exact hs.2.1 | exact hs.2.2.1 | exact hs.2.2.2.1) (by first | exact hs.2.2.2.2.1 | exact hs.2.2.2.2.2.1 | exact hs.2.2.2.2.2.2) ?_
      refine V_aload_n (i := 0) (sx_di dX5_add 17 rfl) rfl rfl ?_
      refine V_getI (sx_di dX5_add 18 rfl) fX5_22 (fun _ => rfl) (by first | exact hs.1 | exact hs.2.1 | exact hs.2.2.1 | exact hs.2.2.2.1) ?_
      rw [e1]
      refine V_iload_n (i := 2) (sx_di dX5_add 19 rfl) rfl rfl ?_
      refine V_iast (sx_di dX5_add 20 rfl) (by first | exact hs.1 | exact hs.2.1 | exact hs.2.2.1 | exact hs.2.2.2.1) (hi) ?_
      rw [hc, hp_si_wi2]
      refine V_aload_n (i := 0) (sx_di dX5_add 21 rfl) rfl rfl ?_
      refine V_getR (sx_di dX5_add 22 rfl) fX5_18 (fun _ => rfl) (by first | exact hs.1 | exact hs.2.1 | exact hs.2.2.1 | exact hs.2.2.2.1) (by first | exact hs.2.2.2.2.1 | exact hs.2.2.2.2.2.1 | exact hs.2.2.2.2.2.2) ?_
      refine V_aload_n (i := 0) (sx_di dX5_add 23 rfl) rfl rfl ?_
      refine V_getI (sx_di dX5_add 24 rfl) fX5_22 (fun _ => rfl) (by first | exact hs.1 | exact hs.2.1 | exact hs.2.2.1 | exact hs.2.2.2.1) ?_
      rw [e2]
      refine V_iload_n (i := 3) (sx_di dX5_add 25 rfl) rfl rfl ?_
      refine V_zast (sx_di dX5_add 26 rfl) (by first | exact hs.1 | exact hs.2.1 | exact hs.2.2.1 | exact hs.2.2.2.1) (hi) (hz) ?_
      rw [hc, hp_si_wi2]
      refine V_aload_n (i := 0) (sx_di dX5_add 27 rfl) rfl rfl ?_
      refine V_dup (sx_di dX5_add 28 rfl) rfl ?_
      refine V_getI (sx_di dX5_add 29 rfl) fX5_22 (fun _ => rfl) (by first | exact hs.1 | exact hs.2.1 | exact hs.2.2.1 | exact hs.2.2.2.1) ?_
      refine V_iconst (v := 1) (sx_di dX5_add 30 rfl) (by decide) ?_
      refine V_iadd (sx_di dX5_add 31 rfl) ?_
      rw [e3, nI_1]
      refine V_putI (sx_di dX5_add 32 rfl) fX5_22 (fun _ => rfl) rfl (by first | exact hs.1 | exact hs.2.1 | exact hs.2.2.1 | exact hs.2.2.2.1) (rfl) (rfl) ?_
      refine V_iconst (v := 1) (sx_di dX5_add 33 rfl) (by decide) ?_
      refine V_zret (sx_di dX5_add 34 rfl) rfl (by first | rfl | decide) (Nat.le_refl _) (Nat.le_refl _) ?_
      exact h1 l10
    · rw [hn] at h13
      have l10 : n = 10 := by
        rcases Nat.lt_or_ge n 10 with q | q
        · exact absurd (nI_lt q (by decide)) h13
        · omega
      refine V_iconst (v := 0) (sx_di dX5_add 7 rfl) (by decide) ?_
      refine V_zret (sx_di dX5_add 8 rfl) rfl (by first | rfl | decide) (Nat.le_refl _) (Nat.le_refl _) ?_
      exact h0 l10
def is_Lg (w : hpW) (a : Nat) : Prop := hp_k w a = (4, 3) ∧ hp_k w (a + 1) = (13, 128) ∧ hp_k w (a + 2) = (13, 128) ∧ hp_k w (a + 3) = (13, 128) ∧ hp_r w a 0 = some (a + 1) ∧ hp_r w a 1 = some (a + 2) ∧ hp_r w a 2 = some (a + 3)
theorem lg_71 {w : hpW} (hB : ly_B w) : is_Lg w 71 := ⟨hB.k _ rfl, hB.k _ rfl, hB.k _ rfl, hB.k _ rfl, hB.r _ _ rfl, hB.r _ _ rfl, hB.r _ _ rfl⟩
theorem lg_358 {w : hpW} (hB : ly_B w) : is_Lg w 358 := ⟨hB.k _ rfl, hB.k _ rfl, hB.k _ rfl, hB.k _ rfl, hB.r _ _ rfl, hB.r _ _ rfl, hB.r _ _ rfl⟩
theorem a127 (n : Nat) : nI n &&& 127 = nI (n % 128) := fa_mask n 7
set_option maxHeartbeats 2000000 in
set_option maxRecDepth 20000 in
theorem c_X4_slot {E : sxE} {w : hpW} {Q : Option Value → hpW → Prop} {n : Nat} (h : Q (some (.int (nI (n % 128)))) w) : sx_C E mX4_slot 1 0 0 [.int (nI n)] w Q := by
  refine C_of (by decide +kernel) (Nat.le_of_ble_eq_true rfl) ?_
  refine V_iload_n (i := 0) (sx_di dX4_slot 0 rfl) rfl rfl ?_
  refine V_bipush (v := 127) (sx_di dX4_slot 1 rfl) (by decide) ?_
  refine V_iand (sx_di dX4_slot 2 rfl) ?_
  rw [a127]
  refine V_iret (sx_di dX4_slot 3 rfl) rfl (Nat.le_refl _) (Nat.le_refl _) ?_
  exact h
set_option maxHeartbeats 2000000 in
set_option maxRecDepth 20000 in
theorem c_X4_dayAt {E : sxE} {w : hpW} {Q : Option Value → hpW → Prop} {a n : Nat} (hs : is_Lg w a) (h : Q (some (.int (hp_i w (a + 1) (n % 128)))) w) : sx_C E mX4_dayAt 2 0 0 [.ref a, .int (nI n)] w Q := by
  have hi : vp_in (nI (n % 128)) 128 := vp_in_nI (Nat.mod_lt _ (by decide)) (by decide)
  have hc : (nI (n % 128)).toNatClampNeg = n % 128 := nI_clamp (Nat.lt_trans (Nat.mod_lt _ (by decide)) (by decide))
  refine C_of (by decide +kernel) (Nat.le_of_ble_eq_true rfl) ?_
  refine V_aload_n (i := 0) (sx_di dX4_dayAt 0 rfl) rfl rfl ?_
  refine V_getR (sx_di dX4_dayAt 1 rfl) fX4_9 (fun _ => rfl) (by first | exact hs.1 | exact hs.2.1 | exact hs.2.2.1 | exact hs.2.2.2.1) (by first | exact hs.2.2.2.2.1 | exact hs.2.2.2.2.2.1 | exact hs.2.2.2.2.2.2) ?_
  refine V_iload_n (i := 1) (sx_di dX4_dayAt 2 rfl) rfl rfl ?_
  refine V_cS1 (mc' := 0) (ms' := 0) (M' := mX4_slot) 1 (sx_di dX4_dayAt 3 rfl) lX4_27 vX4_slot (Nat.le_of_ble_eq_true rfl) ⟨Nat.le_of_ble_eq_true rfl, Nat.le_of_ble_eq_true rfl⟩ ⟨Nat.le_refl _, Nat.le_refl _⟩ ?_
  refine c_X4_slot ?_
  refine V_iald (sx_di dX4_dayAt 4 rfl) (by first | exact hs.1 | exact hs.2.1 | exact hs.2.2.1 | exact hs.2.2.2.1) (hi) ?_
  refine V_iret (sx_di dX4_dayAt 5 rfl) rfl (Nat.le_refl _) (Nat.le_refl _) ?_
  (rw [hc]; exact h)
set_option maxHeartbeats 2000000 in
set_option maxRecDepth 20000 in
theorem c_X4_placeAt {E : sxE} {w : hpW} {Q : Option Value → hpW → Prop} {a n : Nat} (hs : is_Lg w a) (h : Q (some (.int (hp_i w (a + 2) (n % 128)))) w) : sx_C E mX4_placeAt 2 0 0 [.ref a, .int (nI n)] w Q := by
  have hi : vp_in (nI (n % 128)) 128 := vp_in_nI (Nat.mod_lt _ (by decide)) (by decide)
  have hc : (nI (n % 128)).toNatClampNeg = n % 128 := nI_clamp (Nat.lt_trans (Nat.mod_lt _ (by decide)) (by decide))
  refine C_of (by decide +kernel) (Nat.le_of_ble_eq_true rfl) ?_
  refine V_aload_n (i := 0) (sx_di dX4_placeAt 0 rfl) rfl rfl ?_
  refine V_getR (sx_di dX4_placeAt 1 rfl) fX4_15 (fun _ => rfl) (by first | exact hs.1 | exact hs.2.1 | exact hs.2.2.1 | exact hs.2.2.2.1) (by first | exact hs.2.2.2.2.1 | exact hs.2.2.2.2.2.1 | exact hs.2.2.2.2.2.2) ?_
  refine V_iload_n (i := 1) (sx_di dX4_placeAt 2 rfl) rfl rfl ?_
  refine V_cS1 (mc' := 0) (ms' := 0) (M' := mX4_slot) 1 (sx_di dX4_placeAt 3 rfl) lX4_27 vX4_slot (Nat.le_of_ble_eq_true rfl) ⟨Nat.le_of_ble_eq_true rfl, Nat.le_of_ble_eq_true rfl⟩ ⟨Nat.le_refl _, Nat.le_refl _⟩ ?_
  refine c_X4_slot ?_
  refine V_iald (sx_di dX4_placeAt 4 rfl) (by first | exact hs.1 | exact hs.2.1 | exact hs.2.2.1 | exact hs.2.2.2.1) (hi) ?_
  refine V_iret (sx_di dX4_placeAt 5 rfl) rfl (Nat.le_refl _) (Nat.le_refl _) ?_
  (rw [hc]; exact h)
set_option maxHeartbeats 2000000 in
set_option maxRecDepth 20000 in
theorem c_X4_formAt {E : sxE} {w : hpW} {Q : Option Value → hpW → Prop} {a n : Nat} (hs : is_Lg w a) (h : Q (some (.int (hp_i w (a + 3) (n % 128)))) w) : sx_C E mX4_formAt 2 0 0 [.ref a, .int (nI n)] w Q := by
  have hi : vp_in (nI (n % 128)) 128 := vp_in_nI (Nat.mod_lt _ (by decide)) (by decide)
  have hc : (nI (n % 128)).toNatClampNeg = n % 128 := nI_clamp (Nat.lt_trans (Nat.mod_lt _ (by decide)) (by decide))
  refine C_of (by decide +kernel) (Nat.le_of_ble_eq_true rfl) ?_
  refine V_aload_n (i := 0) (sx_di dX4_formAt 0 rfl) rfl rfl ?_
  refine V_getR (sx_di dX4_formAt 1 rfl) fX4_18 (fun _ => rfl) (by first | exact hs.1 | exact hs.2.1 | exact hs.2.2.1 | exact hs.2.2.2.1) (by first | exact hs.2.2.2.2.1 | exact hs.2.2.2.2.2.1 | exact hs.2.2.2.2.2.2) ?_
  refine V_iload_n (i := 1) (sx_di dX4_formAt 2 rfl) rfl rfl ?_
  refine V_cS1 (mc' := 0) (ms' := 0) (M' := mX4_slot) 1 (sx_di dX4_formAt 3 rfl) lX4_27 vX4_slot (Nat.le_of_ble_eq_true rfl) ⟨Nat.le_of_ble_eq_true rfl, Nat.le_of_ble_eq_true rfl⟩ ⟨Nat.le_refl _, Nat.le_refl _⟩ ?_
  refine c_X4_slot ?_
  refine V_iald (sx_di dX4_formAt 4 rfl) (by first | exact hs.1 | exact hs.2.1 | exact hs.2.2.1 | exact hs.2.2.2.1) (hi) ?_
  refine V_iret (sx_di dX4_formAt 5 rfl) rfl (Nat.le_refl _) (Nat.le_refl _) ?_
  (rw [hc]; exact h)

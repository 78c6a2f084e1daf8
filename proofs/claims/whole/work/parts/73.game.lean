/-! games -/
def gu_ (r : Nat → Int32) (i j a b : Nat) : Nat → Int32 := up_ (up_ r (8 + i) (nI a - 3)) (8 + j) (nI b - 3)
noncomputable def gg_ (A : AS) (i j a b : Nat) : Int32 := go2 A (gu_ (a_r A) i j a b)
noncomputable def gn_ (z i : Int32) (a : Nat) : Int32 := (if z = i then -9 else 0) - ab_ (nI a - 3)
noncomputable def gv_ (A : AS) (i j a b : Nat) : Int32 := gn_ (gg_ A i j a b) (nI i) a
theorem gu_sw (r : Nat → Int32) {i j : Nat} (h : i ≠ j) (a b : Nat) : gu_ r i j a b = gu_ r j i b a := up_cm _ _ _ (by omega)
theorem gg_sw (A : AS) {i j : Nat} (h : i ≠ j) (a b : Nat) : gg_ A i j a b = gg_ A j i b a := by unfold gg_; rw [gu_sw _ h]
theorem gu_gu (r : Nat → Int32) {i j : Nat} (h : i ≠ j) (x y : Int32) (a b : Nat) : gu_ (up_ (up_ r (8 + i) x) (8 + j) y) i j a b = gu_ r i j a b := by
  unfold gu_
  rw [up_cm _ x y (show 8 + i ≠ 8 + j by omega), up_up, up_cm _ y _ (show 8 + j ≠ 8 + i by omega), up_up]
theorem s3_i {a : Nat} (h : a ≤ 6) : (nI a - 3).toInt = (a : Int) - 3 := pk_sub_toInt (a := a) (b := 3) (by omega) (by omega)
theorem OKF_gu {n m : Nat} {r : Nat → Int32} {i j a b : Nat} (hn : n ≤ 8) (hi : i < n) (hj : j < n) (ha : a ≤ 6) (hb : b ≤ 6) (H : OKF n m r) : OKF n m (gu_ r i j a b) := OKF_sh hn hj (OKF_sh hn hi H (by rw [s3_i ha]; omega) (by rw [s3_i ha]; omega)) (by rw [s3_i hb]; omega) (by rw [s3_i hb]; omega)
def gx_ (A : AS) (x y a b c : Int32) : Prop := ih_ (a_n A) x = 0 ∨ ih_ (a_n A) y = 0 ∨ x = y ∨ c < 0 ∨ 1 < c ∨ a < 0 ∨ 6 < a ∨ b < 0 ∨ 6 < b
noncomputable def q_game (A : AS) (x y a b c : Int32) : Int32 := @ite _ (gx_ A x y a b c) (Classical.propDecidable _) (-1000000) (if c = 0 then gv_ A x.toNatClampNeg y.toNatClampNeg a.toNatClampNeg b.toNatClampNeg else gv_ A y.toNatClampNeg x.toNatClampNeg b.toNatClampNeg a.toNatClampNeg)
theorem gx_no {A : AS} (V : AV A) {x y a b c : Int32} (h : ¬ gx_ A x y a b c) : ∃ i j p q, i < a_n A ∧ j < a_n A ∧ i ≠ j ∧ p ≤ 6 ∧ q ≤ 6 ∧ x = nI i ∧ y = nI j ∧ a = nI p ∧ b = nI q := by
  have hn8 := V.2.2.1.1
  unfold gx_ at h
  obtain ⟨i, hi, ei⟩ := ih_ye (n := a_n A) (x := x) (by omega) (fun z => h (Or.inl z))
  obtain ⟨j, hj, ej⟩ := ih_ye (n := a_n A) (x := y) (by omega) (fun z => h (Or.inr (Or.inl z)))
  obtain ⟨p, hp, ep⟩ := nb_ (v := a) (k := 6) (by decide) (fun z => h (Or.inr (Or.inr (Or.inr (Or.inr (Or.inr (Or.inl z))))))) (fun z => h (Or.inr (Or.inr (Or.inr (Or.inr (Or.inr (Or.inr (Or.inl z))))))))
  obtain ⟨q, hq, eq⟩ := nb_ (v := b) (k := 6) (by decide) (fun z => h (Or.inr (Or.inr (Or.inr (Or.inr (Or.inr (Or.inr (Or.inr (Or.inl z))))))))) (fun z => h (Or.inr (Or.inr (Or.inr (Or.inr (Or.inr (Or.inr (Or.inr (Or.inr z)))))))))
  exact ⟨i, j, p, q, hi, hj, fun z => h (Or.inr (Or.inr (Or.inl (by rw [ei, ej, z])))), hp, hq, ei, ej, ep, eq⟩
set_option maxHeartbeats 2000000 in
set_option maxRecDepth 20000 in
theorem c_X11_gain {E : sxE} {w : hpW} {Q : Option Value → hpW → Prop} {c : Nat} (hc : c = 0 ∨ c = 1) {a : Nat} (h : Q (some (.int ((if c = 1 then -9 else 0) - ab_ (nI a - 3)))) w) : sx_C E mX11_gain 2 0 0 [.int (nI c), .int (nI a)] w Q := by
  refine C_of (by decide +kernel) (Nat.le_of_ble_eq_true rfl) ?_
  refine V_iload_n (i := 0) (sx_di dX11_gain 0 rfl) rfl rfl ?_
  refine V_ifN_eq (a := c) (rfl) (by omega) (tgt := 9) (sx_di dX11_gain 1 rfl) (by decide) (fun h1 => ?_) (fun h1 => ?_)
  · rw [if_neg (by omega)] at h
    refine V_iconst (v := 0) (sx_di dX11_gain 4 rfl) (by decide) ?_
    refine V_iload_n (i := 1) (sx_di dX11_gain 5 rfl) rfl rfl ?_
    refine V_iconst (v := 3) (sx_di dX11_gain 6 rfl) (by decide) ?_
    refine V_isub (sx_di dX11_gain 7 rfl) ?_
    refine V_mabs (sx_di dX11_gain 8 rfl) (sx_a4 121 rfl rfl) (sx_a4 0 rfl rfl) (sx_a1 22 rfl rfl) (sx_a4 1 rfl rfl) ⟨Nat.le_of_ble_eq_true rfl, Nat.le_of_ble_eq_true rfl, Nat.le_refl _, Nat.le_refl _⟩ ?_
    refine V_isub (sx_di dX11_gain 9 rfl) ?_
    refine V_iret (sx_di dX11_gain 10 rfl) rfl (Nat.le_refl _) (Nat.le_refl _) ?_
    exact h
  · rw [if_pos (by omega)] at h
    refine V_bipush (v := -9) (sx_di dX11_gain 2 rfl) (by decide) ?_
    refine V_goto (tgt := 10) (sx_di dX11_gain 3 rfl) (by decide) ?_
    refine V_iload_n (i := 1) (sx_di dX11_gain 5 rfl) rfl rfl ?_
    refine V_iconst (v := 3) (sx_di dX11_gain 6 rfl) (by decide) ?_
    refine V_isub (sx_di dX11_gain 7 rfl) ?_
    refine V_mabs (sx_di dX11_gain 8 rfl) (sx_a4 121 rfl rfl) (sx_a4 0 rfl rfl) (sx_a1 22 rfl rfl) (sx_a4 1 rfl rfl) ⟨Nat.le_of_ble_eq_true rfl, Nat.le_of_ble_eq_true rfl, Nat.le_refl _, Nat.le_refl _⟩ ?_
    refine V_isub (sx_di dX11_gain 9 rfl) ?_
    refine V_iret (sx_di dX11_gain 10 rfl) rfl (Nat.le_refl _) (Nat.le_refl _) ?_
    exact h
set_option maxHeartbeats 2000000 in
set_option maxRecDepth 20000 in
theorem e_goalOfGame {E : sxE} {Q : Option Value → hpW → Prop} {A : AS} {w : hpW} {m0 r : Nat → Int32} (VA : AV A) (H : CR A w) {i j a b : Nat} (hi : i < a_n A) (hj : j < a_n A) (ha : a ≤ 6) (hb : b ≤ 6) (hA : AW A w m0 r) (hO : OKF (a_n A) (a_m A) r) (hq : ∀ w', CR A w' → fR w w' → tb3 w w' → AW A w' m0 (gu_ r i j a b) → Q (some (.int (go2 A (gu_ r i j a b)))) w') : sx_C E mX11_goalOfGame 6 0 0 [.ref 16, .int (nI i), .int (nI j), .int (nI a), .int (nI b)] w Q := by
  have hB := H.1
  have hn8 := VA.2.2.1.1
  obtain ⟨H2, f2, t2, hA2⟩ := AW_sham (x := nI a - 3) VA H hA hi
  obtain ⟨H3, f3, t3, hA3⟩ := AW_sham (x := nI b - 3) VA H2 hA2 hj
  refine C_of (by decide +kernel) (Nat.le_of_ble_eq_true rfl) ?_
  refine V_aload_n (i := 0) (sx_di dX11_goalOfGame 0 rfl) rfl rfl ?_
  refine V_getR (sx_di dX11_goalOfGame 1 rfl) fX11_64 (fun _ => rfl) (hB.k _ rfl) (hB.r _ _ rfl) ?_
  refine V_getR (sx_di dX11_goalOfGame 2 rfl) fX11_189 (fun _ => rfl) (hB.k _ rfl) (hB.r _ _ rfl) ?_
  refine V_iload_n (i := 1) (sx_di dX11_goalOfGame 3 rfl) rfl rfl ?_
  refine V_iload_n (i := 3) (sx_di dX11_goalOfGame 4 rfl) rfl rfl ?_
  refine V_iconst (v := 3) (sx_di dX11_goalOfGame 5 rfl) (by decide) ?_
  refine V_isub (sx_di dX11_goalOfGame 6 rfl) ?_
  refine V_iastN (n := 8) (j := i) (sx_di dX11_goalOfGame 7 rfl) (hB.k _ rfl) (rfl) (by omega) (by omega) ?_
  refine V_aload_n (i := 0) (sx_di dX11_goalOfGame 8 rfl) rfl rfl ?_
  refine V_getR (sx_di dX11_goalOfGame 9 rfl) fX11_64 (fun _ => rfl) (hB.k _ rfl) (hB.r _ _ rfl) ?_
  refine V_getR (sx_di dX11_goalOfGame 10 rfl) fX11_189 (fun _ => rfl) (hB.k _ rfl) (hB.r _ _ rfl) ?_
  refine V_iload_n (i := 2) (sx_di dX11_goalOfGame 11 rfl) rfl rfl ?_
  refine V_iload (sx_di dX11_goalOfGame 12 rfl) rfl ?_
  refine V_iconst (v := 3) (sx_di dX11_goalOfGame 13 rfl) (by decide) ?_
  refine V_isub (sx_di dX11_goalOfGame 14 rfl) ?_
  refine V_iastN (n := 8) (j := j) (sx_di dX11_goalOfGame 15 rfl) (hB.k _ rfl) (rfl) (by omega) (by omega) ?_
  refine V_aload_n (i := 0) (sx_di dX11_goalOfGame 16 rfl) rfl rfl ?_
  refine V_getR (sx_di dX11_goalOfGame 17 rfl) fX11_64 (fun _ => rfl) (hB.k _ rfl) (hB.r _ _ rfl) ?_
  refine V_aload_n (i := 0) (sx_di dX11_goalOfGame 18 rfl) rfl rfl ?_
  refine V_getR (sx_di dX11_goalOfGame 19 rfl) fX11_28 (fun _ => rfl) (hB.k _ rfl) (hB.r _ _ rfl) ?_
  refine V_cV0 (mc' := 0) (ms' := 0) (M' := mX2_holding) 1 (sx_di dX11_goalOfGame 20 rfl) lX11_195 vX2_holding (hB.k _ rfl) (by decide) rfl (Nat.le_of_ble_eq_true rfl) ⟨Nat.le_of_ble_eq_true rfl, Nat.le_of_ble_eq_true rfl⟩ ⟨Nat.le_refl _, Nat.le_refl _⟩ ?_
  refine e_holding VA H3 (fun lv hl => ?_)
  refine V_cV1 (mc' := 0) (ms' := 0) (M' := mX7_goal) 5 (sx_di dX11_goalOfGame 21 rfl) lX11_299 vX7_goal (hB.k _ rfl) (by decide) rfl (Nat.le_of_ble_eq_true rfl) ⟨Nat.le_of_ble_eq_true rfl, Nat.le_of_ble_eq_true rfl⟩ ⟨Nat.le_refl _, Nat.le_refl _⟩ ?_
  refine k_goalA VA H3 (by omega) hA3 (OKF_gu hn8 hi hj ha hb hO).1 hl (fun w4 H4 f4 t4 hA4 => ?_)
  refine V_iret (sx_di dX11_goalOfGame 22 rfl) rfl (Nat.le_refl _) (Nat.le_refl _) ?_
  exact hq w4 H4 (fR_tr f2 (fR_tr f3 f4)) (tb3_tr t2 (tb3_tr t3 t4)) hA4
set_option maxHeartbeats 2000000 in
set_option maxRecDepth 20000 in
theorem oC_game {E : sxE} {A : AS} {w : hpW} (VA : AV A) (H : CR A w) (x y a b c : Int32) : oC E mX11_game 7 [.ref 16, .int x, .int y, .int a, .int b, .int c] w A (q_game A x y a b c) A := by
  intro Q h
  obtain ⟨t, hB, ht, hst, hn, _, _⟩ := CRn VA H
  have hn8 := VA.2.2.1.1
  have hno : gx_ A x y a b c → Q (some (.int (-1000000))) w := fun e => by
    rw [q_game, if_pos e] at h
    exact h w H fR_rf
  have c7 : ∀ z : Int32, 7 ≤ z → 6 < z := fun z q => by
    rw [fa_le, ti_7] at q
    rw [fa_lt, ti_6]
    omega
  have c6 : ∀ z : Int32, 6 < z → 7 ≤ z := fun z q => by
    rw [fa_lt, ti_6] at q
    rw [fa_le, ti_7]
    omega
  refine C_of (by decide +kernel) (Nat.le_of_ble_eq_true rfl) ?_
  refine V_aload_n (i := 0) (sx_di dX11_game 0 rfl) rfl rfl ?_
  refine V_iload_n (i := 1) (sx_di dX11_game 1 rfl) rfl rfl ?_
  refine V_cV1 (mc' := 0) (ms' := 0) (M' := mX11_isHouse) 1 (sx_di dX11_game 2 rfl) lX11_170 vX11_isHouse (hB.k _ rfl) (by decide) rfl (Nat.le_of_ble_eq_true rfl) ⟨Nat.le_of_ble_eq_true rfl, Nat.le_of_ble_eq_true rfl⟩ ⟨Nat.le_refl _, Nat.le_refl _⟩ ?_
  refine c_X11_isHouse hB ht hst hn hn8 ?_
  refine V_if_eq (tgt := 32) (sx_di dX11_game 3 rfl) (by decide) (fun h5 => ?_) (fun h5 => ?_)
  · refine V_ldc (sx_di dX11_game 16 rfl) kX11_217 ?_
    refine V_iret (sx_di dX11_game 17 rfl) rfl (Nat.le_refl _) (Nat.le_refl _) ?_
    exact hno (Or.inl h5)
  · refine V_aload_n (i := 0) (sx_di dX11_game 4 rfl) rfl rfl ?_
    refine V_iload_n (i := 2) (sx_di dX11_game 5 rfl) rfl rfl ?_
    refine V_cV1 (mc' := 0) (ms' := 0) (M' := mX11_isHouse) 1 (sx_di dX11_game 6 rfl) lX11_170 vX11_isHouse (hB.k _ rfl) (by decide) rfl (Nat.le_of_ble_eq_true rfl) ⟨Nat.le_of_ble_eq_true rfl, Nat.le_of_ble_eq_true rfl⟩ ⟨Nat.le_refl _, Nat.le_refl _⟩ ?_
    refine c_X11_isHouse hB ht hst hn hn8 ?_
    refine V_if_eq (tgt := 32) (sx_di dX11_game 7 rfl) (by decide) (fun h13 => ?_) (fun h13 => ?_)
    · refine V_ldc (sx_di dX11_game 16 rfl) kX11_217 ?_
      refine V_iret (sx_di dX11_game 17 rfl) rfl (Nat.le_refl _) (Nat.le_refl _) ?_
      exact hno (Or.inr (Or.inl h13))
    · refine V_iload_n (i := 1) (sx_di dX11_game 8 rfl) rfl rfl ?_
      refine V_iload_n (i := 2) (sx_di dX11_game 9 rfl) rfl rfl ?_
      refine V_icmp_eq (tgt := 32) (sx_di dX11_game 10 rfl) (by decide) (fun h18 => ?_) (fun h18 => ?_)
      · refine V_ldc (sx_di dX11_game 16 rfl) kX11_217 ?_
        refine V_iret (sx_di dX11_game 17 rfl) rfl (Nat.le_refl _) (Nat.le_refl _) ?_
        exact hno (Or.inr (Or.inr (Or.inl h18)))
      · refine V_iload (sx_di dX11_game 11 rfl) rfl ?_
        refine V_if_lt (tgt := 32) (sx_di dX11_game 12 rfl) (by decide) (fun h23 => ?_) (fun h23 => ?_)
        · refine V_ldc (sx_di dX11_game 16 rfl) kX11_217 ?_
          refine V_iret (sx_di dX11_game 17 rfl) rfl (Nat.le_refl _) (Nat.le_refl _) ?_
          exact hno (Or.inr (Or.inr (Or.inr (Or.inl h23))))
        · refine V_iload (sx_di dX11_game 13 rfl) rfl ?_
          refine V_iconst (v := 1) (sx_di dX11_game 14 rfl) (by decide) ?_
          refine V_icmp_le (tgt := 35) (sx_di dX11_game 15 rfl) (by decide) (fun h29 => ?_) (fun h29 => ?_)
          · refine V_iload_n (i := 3) (sx_di dX11_game 18 rfl) rfl rfl ?_
            refine V_if_lt (tgt := 57) (sx_di dX11_game 19 rfl) (by decide) (fun h36 => ?_) (fun h36 => ?_)
            · refine V_ldc (sx_di dX11_game 28 rfl) kX11_217 ?_
              refine V_iret (sx_di dX11_game 29 rfl) rfl (Nat.le_refl _) (Nat.le_refl _) ?_
              exact hno (Or.inr (Or.inr (Or.inr (Or.inr (Or.inr (Or.inl h36))))))
            · refine V_iload_n (i := 3) (sx_di dX11_game 20 rfl) rfl rfl ?_
              refine V_bipush (v := 7) (sx_di dX11_game 21 rfl) (by decide) ?_
              refine V_icmp_ge (tgt := 57) (sx_di dX11_game 22 rfl) (by decide) (fun h42 => ?_) (fun h42 => ?_)
              · refine V_ldc (sx_di dX11_game 28 rfl) kX11_217 ?_
                refine V_iret (sx_di dX11_game 29 rfl) rfl (Nat.le_refl _) (Nat.le_refl _) ?_
                exact hno (Or.inr (Or.inr (Or.inr (Or.inr (Or.inr (Or.inr (Or.inl (c7 _ h42))))))))
              · refine V_iload (sx_di dX11_game 23 rfl) rfl ?_
                refine V_if_lt (tgt := 57) (sx_di dX11_game 24 rfl) (by decide) (fun h47 => ?_) (fun h47 => ?_)
                · refine V_ldc (sx_di dX11_game 28 rfl) kX11_217 ?_
                  refine V_iret (sx_di dX11_game 29 rfl) rfl (Nat.le_refl _) (Nat.le_refl _) ?_
                  exact hno (Or.inr (Or.inr (Or.inr (Or.inr (Or.inr (Or.inr (Or.inr (Or.inl h47))))))))
                · refine V_iload (sx_di dX11_game 25 rfl) rfl ?_
                  refine V_bipush (v := 7) (sx_di dX11_game 26 rfl) (by decide) ?_
                  refine V_icmp_lt (tgt := 60) (sx_di dX11_game 27 rfl) (by decide) (fun h54 => ?_) (fun h54 => ?_)
                  · have hg : ¬ gx_ A x y a b c := fun z => z.elim h5 (fun z => z.elim h13 (fun z => z.elim h18 (fun z => z.elim h23 (fun z => z.elim (Int32.not_lt.mpr h29) (fun z => z.elim h36 (fun z => z.elim (fun z => h42 (c6 _ z)) (fun z => z.elim h47 (fun z => absurd (c6 _ z) (Int32.not_le.mpr h54)))))))))
                    rw [q_game, if_neg hg] at h
                    obtain ⟨i, j, p, q, hi, hj, hij, hp, hq, rfl, rfl, rfl, rfl⟩ := gx_no VA hg
                    rw [nI_clamp (by omega), nI_clamp (by omega), nI_clamp (by omega), nI_clamp (by omega)] at h
                    refine V_aload_n (i := 0) (sx_di dX11_game 30 rfl) rfl rfl ?_
                    refine V_getR (sx_di dX11_game 31 rfl) fX11_64 (fun _ => rfl) (hB.k _ rfl) (hB.r _ _ rfl) ?_
                    refine V_aload_n (i := 0) (sx_di dX11_game 32 rfl) rfl rfl ?_
                    refine V_getR (sx_di dX11_game 33 rfl) fX11_60 (fun _ => rfl) (hB.k _ rfl) (hB.r _ _ rfl) ?_
                    refine V_cV1 (mc' := 0) (ms' := 0) (M' := mX7_copyFrom) 2 (sx_di dX11_game 34 rfl) lX11_293 vX7_copyFrom (hB.k _ rfl) (by decide) rfl (Nat.le_of_ble_eq_true rfl) ⟨Nat.le_of_ble_eq_true rfl, Nat.le_of_ble_eq_true rfl⟩ ⟨Nat.le_refl _, Nat.le_refl _⟩ ?_
                    refine k_copyFrom VA H (by omega) (fun w2 H2 f2 _ hA2 => ?_)
                    have hB2 := H2.1
                    refine V_aload_n (i := 0) (sx_di dX11_game 35 rfl) rfl rfl ?_
                    refine V_iload_n (i := 1) (sx_di dX11_game 36 rfl) rfl rfl ?_
                    refine V_iload_n (i := 2) (sx_di dX11_game 37 rfl) rfl rfl ?_
                    refine V_iload_n (i := 3) (sx_di dX11_game 38 rfl) rfl rfl ?_
                    refine V_iload (sx_di dX11_game 39 rfl) rfl ?_
                    refine V_cV4 (mc' := 0) (ms' := 0) (M' := mX11_goalOfGame) 6 (sx_di dX11_game 40 rfl) lX11_335 vX11_goalOfGame (hB2.k _ rfl) (by decide) rfl (Nat.le_of_ble_eq_true rfl) ⟨Nat.le_of_ble_eq_true rfl, Nat.le_of_ble_eq_true rfl⟩ ⟨Nat.le_refl _, Nat.le_refl _⟩ ?_
                    refine e_goalOfGame VA H2 hi hj hp hq hA2 VA.2.2.2.1.1 (fun w3 H3 f3 _ hA3 => ?_)
                    refine V_istore (sx_di dX11_game 41 rfl) (by decide) (rfl) ?_
                    refine V_iload (sx_di dX11_game 42 rfl) rfl ?_
                    refine V_if_ne (tgt := 105) (sx_di dX11_game 43 rfl) (by decide) (fun h84 => ?_) (fun h84 => ?_)
                    · rw [if_neg h84] at h
                      refine V_iload (sx_di dX11_game 53 rfl) rfl ?_
                      refine V_iload_n (i := 2) (sx_di dX11_game 54 rfl) rfl rfl ?_
                      refine V_icmp_ne (tgt := 115) (sx_di dX11_game 55 rfl) (by decide) (fun h108 => ?_) (fun h108 => ?_)
                      · refine V_iconst (v := 0) (sx_di dX11_game 58 rfl) (by decide) ?_
                        refine V_iload (sx_di dX11_game 59 rfl) rfl ?_
                        refine V_cS2 (mc' := 0) (ms' := 0) (M' := mX11_gain) 2 (sx_di dX11_game 60 rfl) lX11_339 vX11_gain (Nat.le_of_ble_eq_true rfl) ⟨Nat.le_of_ble_eq_true rfl, Nat.le_of_ble_eq_true rfl⟩ ⟨Nat.le_refl _, Nat.le_refl _⟩ ?_
                        refine c_X11_gain (c := 0) (Or.inl rfl) ?_
                        refine V_iret (sx_di dX11_game 61 rfl) rfl (Nat.le_refl _) (Nat.le_refl _) ?_
                        have z := h w3 H3 (fR_tr f2 f3)
                        rw [gv_, gn_, ← gg_sw A hij, if_neg (show ¬ gg_ A i j p q = nI j from h108)] at z
                        exact z
                      · refine V_iconst (v := 1) (sx_di dX11_game 56 rfl) (by decide) ?_
                        refine V_goto (tgt := 116) (sx_di dX11_game 57 rfl) (by decide) ?_
                        refine V_iload (sx_di dX11_game 59 rfl) rfl ?_
                        refine V_cS2 (mc' := 0) (ms' := 0) (M' := mX11_gain) 2 (sx_di dX11_game 60 rfl) lX11_339 vX11_gain (Nat.le_of_ble_eq_true rfl) ⟨Nat.le_of_ble_eq_true rfl, Nat.le_of_ble_eq_true rfl⟩ ⟨Nat.le_refl _, Nat.le_refl _⟩ ?_
                        refine c_X11_gain (c := 1) (Or.inr rfl) ?_
                        refine V_iret (sx_di dX11_game 61 rfl) rfl (Nat.le_refl _) (Nat.le_refl _) ?_
                        have z := h w3 H3 (fR_tr f2 f3)
                        rw [gv_, gn_, ← gg_sw A hij, if_pos (show gg_ A i j p q = nI j from h108)] at z
                        exact z
                    · rw [if_pos h84] at h
                      refine V_iload (sx_di dX11_game 44 rfl) rfl ?_
                      refine V_iload_n (i := 1) (sx_di dX11_game 45 rfl) rfl rfl ?_
                      refine V_icmp_ne (tgt := 97) (sx_di dX11_game 46 rfl) (by decide) (fun h90 => ?_) (fun h90 => ?_)
                      · refine V_iconst (v := 0) (sx_di dX11_game 49 rfl) (by decide) ?_
                        refine V_iload_n (i := 3) (sx_di dX11_game 50 rfl) rfl rfl ?_
                        refine V_cS2 (mc' := 0) (ms' := 0) (M' := mX11_gain) 2 (sx_di dX11_game 51 rfl) lX11_339 vX11_gain (Nat.le_of_ble_eq_true rfl) ⟨Nat.le_of_ble_eq_true rfl, Nat.le_of_ble_eq_true rfl⟩ ⟨Nat.le_refl _, Nat.le_refl _⟩ ?_
                        refine c_X11_gain (c := 0) (Or.inl rfl) ?_
                        refine V_goto (tgt := 121) (sx_di dX11_game 52 rfl) (by decide) ?_
                        refine V_iret (sx_di dX11_game 61 rfl) rfl (Nat.le_refl _) (Nat.le_refl _) ?_
                        have z := h w3 H3 (fR_tr f2 f3)
                        rw [gv_, gn_, if_neg (show ¬ gg_ A i j p q = nI i from h90)] at z
                        exact z
                      · refine V_iconst (v := 1) (sx_di dX11_game 47 rfl) (by decide) ?_
                        refine V_goto (tgt := 98) (sx_di dX11_game 48 rfl) (by decide) ?_
                        refine V_iload_n (i := 3) (sx_di dX11_game 50 rfl) rfl rfl ?_
                        refine V_cS2 (mc' := 0) (ms' := 0) (M' := mX11_gain) 2 (sx_di dX11_game 51 rfl) lX11_339 vX11_gain (Nat.le_of_ble_eq_true rfl) ⟨Nat.le_of_ble_eq_true rfl, Nat.le_of_ble_eq_true rfl⟩ ⟨Nat.le_refl _, Nat.le_refl _⟩ ?_
                        refine c_X11_gain (c := 1) (Or.inr rfl) ?_
                        refine V_goto (tgt := 121) (sx_di dX11_game 52 rfl) (by decide) ?_
                        refine V_iret (sx_di dX11_game 61 rfl) rfl (Nat.le_refl _) (Nat.le_refl _) ?_
                        have z := h w3 H3 (fR_tr f2 f3)
                        rw [gv_, gn_, if_pos (show gg_ A i j p q = nI i from h90)] at z
                        exact z
                  · refine V_ldc (sx_di dX11_game 28 rfl) kX11_217 ?_
                    refine V_iret (sx_di dX11_game 29 rfl) rfl (Nat.le_refl _) (Nat.le_refl _) ?_
                    exact hno (Or.inr (Or.inr (Or.inr (Or.inr (Or.inr (Or.inr (Or.inr (Or.inr ((c7 _ (Int32.not_lt.mp h54)))))))))))
          · refine V_ldc (sx_di dX11_game 16 rfl) kX11_217 ?_
            refine V_iret (sx_di dX11_game 17 rfl) rfl (Nat.le_refl _) (Nat.le_refl _) ?_
            exact hno (Or.inr (Or.inr (Or.inr (Or.inr (Or.inl (Int32.not_le.mp h29))))))
set_option maxHeartbeats 2000000 in
set_option maxRecDepth 20000 in
theorem e_gameOf {E : sxE} {Q : Option Value → hpW → Prop} {A : AS} {w : hpW} (VA : AV A) (H : RR A w) {i j a b : Nat} (hi : i < a_n A) (hj : j < a_n A) (hij : i ≠ j) (ha : a ≤ 6) (hb : b ≤ 6) (h : ∀ w', RR A w' → fC w w' → Q (some (.int (gv_ A i j a b))) w') : sx_C E mX12_gameOf 8 0 0 [.ref 381, .int (nI i), .int (nI j), .int (nI a), .int (nI b)] w Q := by
  have hB := H.1
  have hn8 := VA.2.2.1.1
  have hr : ∀ j, hp_i w 398 j = a_r A j := fun j => congrFun H.2.2.2.2.1 j
  have H0 : RR (pt_r A (a_r A)) w := H
  obtain ⟨H1, f1⟩ := RR_st H0 (8 + i) (nI a - 3)
  obtain ⟨H2, f2⟩ := RR_st H1 (8 + j) (nI b - 3)
  unfold gv_ gn_ at h
  refine C_of (by decide +kernel) (Nat.le_of_ble_eq_true rfl) ?_
  refine V_aload_n (i := 0) (sx_di dX12_gameOf 0 rfl) rfl rfl ?_
  refine V_getR (sx_di dX12_gameOf 1 rfl) fX12_58 (fun _ => rfl) (by first | exact hB.k _ rfl | exact hB3.k _ rfl) (by first | exact hB.r _ _ rfl | exact hB3.r _ _ rfl) ?_
  refine V_bipush (v := 8) (sx_di dX12_gameOf 2 rfl) (by decide) ?_
  refine V_iload_n (i := 1) (sx_di dX12_gameOf 3 rfl) rfl rfl ?_
  refine V_iadd (sx_di dX12_gameOf 4 rfl) ?_
  refine V_ialdN (n := 226) (j := (8 + i)) (sx_di dX12_gameOf 5 rfl) (by first | exact hB.k _ rfl | exact hB3.k _ rfl) (nx_add (rfl) (rfl)) (by omega) (by omega) ?_
  refine V_iv (y := a_r A (8 + i)) (hr _) ?_
  refine V_istore (sx_di dX12_gameOf 6 rfl) (by decide) (rfl) ?_
  refine V_aload_n (i := 0) (sx_di dX12_gameOf 7 rfl) rfl rfl ?_
  refine V_getR (sx_di dX12_gameOf 8 rfl) fX12_58 (fun _ => rfl) (by first | exact hB.k _ rfl | exact hB3.k _ rfl) (by first | exact hB.r _ _ rfl | exact hB3.r _ _ rfl) ?_
  refine V_bipush (v := 8) (sx_di dX12_gameOf 9 rfl) (by decide) ?_
  refine V_iload_n (i := 2) (sx_di dX12_gameOf 10 rfl) rfl rfl ?_
  refine V_iadd (sx_di dX12_gameOf 11 rfl) ?_
  refine V_ialdN (n := 226) (j := (8 + j)) (sx_di dX12_gameOf 12 rfl) (by first | exact hB.k _ rfl | exact hB3.k _ rfl) (nx_add (rfl) (rfl)) (by omega) (by omega) ?_
  refine V_iv (y := a_r A (8 + j)) (hr _) ?_
  refine V_istore (sx_di dX12_gameOf 13 rfl) (by decide) (rfl) ?_
  refine V_aload_n (i := 0) (sx_di dX12_gameOf 14 rfl) rfl rfl ?_
  refine V_getR (sx_di dX12_gameOf 15 rfl) fX12_58 (fun _ => rfl) (by first | exact hB.k _ rfl | exact hB3.k _ rfl) (by first | exact hB.r _ _ rfl | exact hB3.r _ _ rfl) ?_
  refine V_bipush (v := 8) (sx_di dX12_gameOf 16 rfl) (by decide) ?_
  refine V_iload_n (i := 1) (sx_di dX12_gameOf 17 rfl) rfl rfl ?_
  refine V_iadd (sx_di dX12_gameOf 18 rfl) ?_
  refine V_iload_n (i := 3) (sx_di dX12_gameOf 19 rfl) rfl rfl ?_
  refine V_iconst (v := 3) (sx_di dX12_gameOf 20 rfl) (by decide) ?_
  refine V_isub (sx_di dX12_gameOf 21 rfl) ?_
  refine V_iastN (n := 226) (j := (8 + i)) (sx_di dX12_gameOf 22 rfl) (by first | exact hB.k _ rfl | exact hB3.k _ rfl) (nx_add (rfl) (rfl)) (by omega) (by omega) ?_
  refine V_aload_n (i := 0) (sx_di dX12_gameOf 23 rfl) rfl rfl ?_
  refine V_getR (sx_di dX12_gameOf 24 rfl) fX12_58 (fun _ => rfl) (by first | exact hB.k _ rfl | exact hB3.k _ rfl) (by first | exact hB.r _ _ rfl | exact hB3.r _ _ rfl) ?_
  refine V_bipush (v := 8) (sx_di dX12_gameOf 25 rfl) (by decide) ?_
  refine V_iload_n (i := 2) (sx_di dX12_gameOf 26 rfl) rfl rfl ?_
  refine V_iadd (sx_di dX12_gameOf 27 rfl) ?_
  refine V_iload (sx_di dX12_gameOf 28 rfl) rfl ?_
  refine V_iconst (v := 3) (sx_di dX12_gameOf 29 rfl) (by decide) ?_
  refine V_isub (sx_di dX12_gameOf 30 rfl) ?_
  refine V_iastN (n := 226) (j := (8 + j)) (sx_di dX12_gameOf 31 rfl) (by first | exact hB.k _ rfl | exact hB3.k _ rfl) (nx_add (rfl) (rfl)) (by omega) (by omega) ?_
  refine V_aload_n (i := 0) (sx_di dX12_gameOf 32 rfl) rfl rfl ?_
  refine V_cV0 (mc' := 0) (ms' := 0) (M' := mX12_wouldGo) 7 (sx_di dX12_gameOf 33 rfl) lX12_305 vX12_wouldGo (by first | exact hB.k _ rfl | exact hB3.k _ rfl) (by decide) rfl (Nat.le_of_ble_eq_true rfl) ⟨Nat.le_of_ble_eq_true rfl, Nat.le_of_ble_eq_true rfl⟩ ⟨Nat.le_refl _, Nat.le_refl _⟩ ?_
  refine e_wouldGo VA (OKF_gu hn8 hi hj ha hb VA.2.2.2.1.1) H2 (fun w3 H3 f3 => ?_)
  have hB3 := H3.1
  obtain ⟨H4, f4⟩ := RR_st H3 (8 + i) (a_r A (8 + i))
  obtain ⟨H5, f5⟩ := RR_st H4 (8 + j) (a_r A (8 + j))
  have e5 : up_ (up_ (gu_ (a_r A) i j a b) (8 + i) (a_r A (8 + i))) (8 + j) (a_r A (8 + j)) = a_r A := by unfold gu_; rw [up_cm _ (nI b - 3) (a_r A (8 + i)) (show 8 + j ≠ 8 + i by omega), up_up, up_up, up_id, up_id]
  rw [e5] at H5
  have z := h _ H5 (fC_tr f1 (fC_tr f2 (fC_tr f3 (fC_tr f4 f5))))
  refine V_iload_n (i := 1) (sx_di dX12_gameOf 34 rfl) rfl rfl ?_
  refine V_icmp_ne (tgt := 60) (sx_di dX12_gameOf 35 rfl) (by decide) (fun h52 => ?_) (fun h52 => ?_)
  · rw [if_neg (show ¬ gg_ A i j a b = nI i from h52)] at z
    refine V_iconst (v := 0) (sx_di dX12_gameOf 38 rfl) (by decide) ?_
    refine V_iload_n (i := 3) (sx_di dX12_gameOf 39 rfl) rfl rfl ?_
    refine V_iconst (v := 3) (sx_di dX12_gameOf 40 rfl) (by decide) ?_
    refine V_isub (sx_di dX12_gameOf 41 rfl) ?_
    refine V_mabs (sx_di dX12_gameOf 42 rfl) (sx_a6 199 rfl rfl) (sx_a4 0 rfl rfl) (sx_a1 22 rfl rfl) (sx_a4 1 rfl rfl) ⟨Nat.le_of_ble_eq_true rfl, Nat.le_of_ble_eq_true rfl, Nat.le_refl _, Nat.le_refl _⟩ ?_
    refine V_isub (sx_di dX12_gameOf 43 rfl) ?_
    refine V_istore (sx_di dX12_gameOf 44 rfl) (by decide) (rfl) ?_
    refine V_aload_n (i := 0) (sx_di dX12_gameOf 45 rfl) rfl rfl ?_
    refine V_getR (sx_di dX12_gameOf 46 rfl) fX12_58 (fun _ => rfl) (by first | exact hB.k _ rfl | exact hB3.k _ rfl) (by first | exact hB.r _ _ rfl | exact hB3.r _ _ rfl) ?_
    refine V_bipush (v := 8) (sx_di dX12_gameOf 47 rfl) (by decide) ?_
    refine V_iload_n (i := 1) (sx_di dX12_gameOf 48 rfl) rfl rfl ?_
    refine V_iadd (sx_di dX12_gameOf 49 rfl) ?_
    refine V_iload (sx_di dX12_gameOf 50 rfl) rfl ?_
    refine V_iastN (n := 226) (j := (8 + i)) (sx_di dX12_gameOf 51 rfl) (by first | exact hB.k _ rfl | exact hB3.k _ rfl) (nx_add (rfl) (rfl)) (by omega) (by omega) ?_
    refine V_aload_n (i := 0) (sx_di dX12_gameOf 52 rfl) rfl rfl ?_
    refine V_getR (sx_di dX12_gameOf 53 rfl) fX12_58 (fun _ => rfl) (by first | exact hB.k _ rfl | exact hB3.k _ rfl) (by first | exact hB.r _ _ rfl | exact hB3.r _ _ rfl) ?_
    refine V_bipush (v := 8) (sx_di dX12_gameOf 54 rfl) (by decide) ?_
    refine V_iload_n (i := 2) (sx_di dX12_gameOf 55 rfl) rfl rfl ?_
    refine V_iadd (sx_di dX12_gameOf 56 rfl) ?_
    refine V_iload (sx_di dX12_gameOf 57 rfl) rfl ?_
    refine V_iastN (n := 226) (j := (8 + j)) (sx_di dX12_gameOf 58 rfl) (by first | exact hB.k _ rfl | exact hB3.k _ rfl) (nx_add (rfl) (rfl)) (by omega) (by omega) ?_
    refine V_iload (sx_di dX12_gameOf 59 rfl) rfl ?_
    refine V_iret (sx_di dX12_gameOf 60 rfl) rfl (Nat.le_refl _) (Nat.le_refl _) ?_
    exact z
  · rw [if_pos (show gg_ A i j a b = nI i from h52)] at z
    refine V_bipush (v := -9) (sx_di dX12_gameOf 36 rfl) (by decide) ?_
    refine V_goto (tgt := 61) (sx_di dX12_gameOf 37 rfl) (by decide) ?_
    refine V_iload_n (i := 3) (sx_di dX12_gameOf 39 rfl) rfl rfl ?_
    refine V_iconst (v := 3) (sx_di dX12_gameOf 40 rfl) (by decide) ?_
    refine V_isub (sx_di dX12_gameOf 41 rfl) ?_
    refine V_mabs (sx_di dX12_gameOf 42 rfl) (sx_a6 199 rfl rfl) (sx_a4 0 rfl rfl) (sx_a1 22 rfl rfl) (sx_a4 1 rfl rfl) ⟨Nat.le_of_ble_eq_true rfl, Nat.le_of_ble_eq_true rfl, Nat.le_refl _, Nat.le_refl _⟩ ?_
    refine V_isub (sx_di dX12_gameOf 43 rfl) ?_
    refine V_istore (sx_di dX12_gameOf 44 rfl) (by decide) (rfl) ?_
    refine V_aload_n (i := 0) (sx_di dX12_gameOf 45 rfl) rfl rfl ?_
    refine V_getR (sx_di dX12_gameOf 46 rfl) fX12_58 (fun _ => rfl) (by first | exact hB.k _ rfl | exact hB3.k _ rfl) (by first | exact hB.r _ _ rfl | exact hB3.r _ _ rfl) ?_
    refine V_bipush (v := 8) (sx_di dX12_gameOf 47 rfl) (by decide) ?_
    refine V_iload_n (i := 1) (sx_di dX12_gameOf 48 rfl) rfl rfl ?_
    refine V_iadd (sx_di dX12_gameOf 49 rfl) ?_
    refine V_iload (sx_di dX12_gameOf 50 rfl) rfl ?_
    refine V_iastN (n := 226) (j := (8 + i)) (sx_di dX12_gameOf 51 rfl) (by first | exact hB.k _ rfl | exact hB3.k _ rfl) (nx_add (rfl) (rfl)) (by omega) (by omega) ?_
    refine V_aload_n (i := 0) (sx_di dX12_gameOf 52 rfl) rfl rfl ?_
    refine V_getR (sx_di dX12_gameOf 53 rfl) fX12_58 (fun _ => rfl) (by first | exact hB.k _ rfl | exact hB3.k _ rfl) (by first | exact hB.r _ _ rfl | exact hB3.r _ _ rfl) ?_
    refine V_bipush (v := 8) (sx_di dX12_gameOf 54 rfl) (by decide) ?_
    refine V_iload_n (i := 2) (sx_di dX12_gameOf 55 rfl) rfl rfl ?_
    refine V_iadd (sx_di dX12_gameOf 56 rfl) ?_
    refine V_iload (sx_di dX12_gameOf 57 rfl) rfl ?_
    refine V_iastN (n := 226) (j := (8 + j)) (sx_di dX12_gameOf 58 rfl) (by first | exact hB.k _ rfl | exact hB3.k _ rfl) (nx_add (rfl) (rfl)) (by omega) (by omega) ?_
    refine V_iload (sx_di dX12_gameOf 59 rfl) rfl ?_
    refine V_iret (sx_di dX12_gameOf 60 rfl) rfl (Nat.le_refl _) (Nat.le_refl _) ?_
    exact z
theorem ar_two {A : AS} (V : AV A) {x y : Int32} (h : ¬ (ih_ (a_n A) x = 0 ∨ ih_ (a_n A) y = 0 ∨ x = y)) : ∃ i j, i < a_n A ∧ j < a_n A ∧ i ≠ j ∧ x = nI i ∧ y = nI j := by
  have hn8 := V.2.2.1.1
  obtain ⟨i, hi, ei⟩ := ih_ye (n := a_n A) (x := x) (by omega) (fun z => h (Or.inl z))
  obtain ⟨j, hj, ej⟩ := ih_ye (n := a_n A) (x := y) (by omega) (fun z => h (Or.inr (Or.inl z)))
  exact ⟨i, j, hi, hj, fun z => h (Or.inr (Or.inr (by rw [ei, ej, z]))), ei, ej⟩
set_option maxHeartbeats 2000000 in
set_option maxRecDepth 20000 in
theorem c_X12_areTwo {E : sxE} {w : hpW} {Q : Option Value → hpW → Prop} (hB : ly_B w) {n : Nat} (hn : hp_i w 381 25 = nI n) (hn8 : n ≤ 8) {x y : Int32} (h : Q (some (.int (if ih_ n x = 0 ∨ ih_ n y = 0 ∨ x = y then 0 else 1))) w) : sx_C E mX12_areTwo 3 0 0 [.ref 381, .int x, .int y] w Q := by
  refine C_of (by decide +kernel) (Nat.le_of_ble_eq_true rfl) ?_
  refine V_aload_n (i := 0) (sx_di dX12_areTwo 0 rfl) rfl rfl ?_
  refine V_iload_n (i := 1) (sx_di dX12_areTwo 1 rfl) rfl rfl ?_
  refine V_cV1 (mc' := 0) (ms' := 0) (M' := mX12_isHouse) 2 (sx_di dX12_areTwo 2 rfl) lX12_311 vX12_isHouse (hB.k _ rfl) (by decide) rfl (Nat.le_of_ble_eq_true rfl) ⟨Nat.le_of_ble_eq_true rfl, Nat.le_of_ble_eq_true rfl⟩ ⟨Nat.le_refl _, Nat.le_refl _⟩ ?_
  refine c_X12_isHouse hB hn hn8 ?_
  refine V_if_eq (tgt := 25) (sx_di dX12_areTwo 3 rfl) (by decide) (fun h5 => ?_) (fun h5 => ?_)
  · rw [if_pos (Or.inl h5)] at h
    refine V_iconst (v := 0) (sx_di dX12_areTwo 13 rfl) (by decide) ?_
    refine V_zret (sx_di dX12_areTwo 14 rfl) rfl (by first | rfl | decide) (Nat.le_refl _) (Nat.le_refl _) ?_
    exact h
  · refine V_aload_n (i := 0) (sx_di dX12_areTwo 4 rfl) rfl rfl ?_
    refine V_iload_n (i := 2) (sx_di dX12_areTwo 5 rfl) rfl rfl ?_
    refine V_cV1 (mc' := 0) (ms' := 0) (M' := mX12_isHouse) 2 (sx_di dX12_areTwo 6 rfl) lX12_311 vX12_isHouse (hB.k _ rfl) (by decide) rfl (Nat.le_of_ble_eq_true rfl) ⟨Nat.le_of_ble_eq_true rfl, Nat.le_of_ble_eq_true rfl⟩ ⟨Nat.le_refl _, Nat.le_refl _⟩ ?_
    refine c_X12_isHouse hB hn hn8 ?_
    refine V_if_eq (tgt := 25) (sx_di dX12_areTwo 7 rfl) (by decide) (fun h13 => ?_) (fun h13 => ?_)
    · rw [if_pos (Or.inr (Or.inl h13))] at h
      refine V_iconst (v := 0) (sx_di dX12_areTwo 13 rfl) (by decide) ?_
      refine V_zret (sx_di dX12_areTwo 14 rfl) rfl (by first | rfl | decide) (Nat.le_refl _) (Nat.le_refl _) ?_
      exact h
    · refine V_iload_n (i := 1) (sx_di dX12_areTwo 8 rfl) rfl rfl ?_
      refine V_iload_n (i := 2) (sx_di dX12_areTwo 9 rfl) rfl rfl ?_
      refine V_icmp_eq (tgt := 25) (sx_di dX12_areTwo 10 rfl) (by decide) (fun h18 => ?_) (fun h18 => ?_)
      · rw [if_pos (Or.inr (Or.inr h18))] at h
        refine V_iconst (v := 0) (sx_di dX12_areTwo 13 rfl) (by decide) ?_
        refine V_zret (sx_di dX12_areTwo 14 rfl) rfl (by first | rfl | decide) (Nat.le_refl _) (Nat.le_refl _) ?_
        exact h
      · rw [if_neg (fun z => z.elim h5 (fun z => z.elim h13 h18))] at h
        refine V_iconst (v := 1) (sx_di dX12_areTwo 11 rfl) (by decide) ?_
        refine V_goto (tgt := 26) (sx_di dX12_areTwo 12 rfl) (by decide) ?_
        refine V_zret (sx_di dX12_areTwo 14 rfl) rfl (by first | rfl | decide) (Nat.le_refl _) (Nat.le_refl _) ?_
        exact h
set_option maxHeartbeats 2000000 in
set_option maxRecDepth 20000 in
theorem oR_game {E : sxE} {A : AS} {w : hpW} (VA : AV A) (H : RR A w) (x y a b c : Int32) : oR E mX12_game 9 [.ref 381, .int x, .int y, .int a, .int b, .int c] w A (q_game A x y a b c) A := by
  intro Q h
  have hB := H.1
  have hn := H.2.2.2.1.1
  have hn8 := VA.2.2.1.1
  have hno : gx_ A x y a b c → Q (some (.int (-1000000))) w := fun e => by
    rw [q_game, if_pos e] at h
    exact h w H fC_rf
  refine C_of (by decide +kernel) (Nat.le_of_ble_eq_true rfl) ?_
  refine V_aload_n (i := 0) (sx_di dX12_game 0 rfl) rfl rfl ?_
  refine V_iload_n (i := 1) (sx_di dX12_game 1 rfl) rfl rfl ?_
  refine V_iload_n (i := 2) (sx_di dX12_game 2 rfl) rfl rfl ?_
  refine V_cV2 (mc' := 0) (ms' := 0) (M' := mX12_areTwo) 3 (sx_di dX12_game 3 rfl) lX12_391 vX12_areTwo (hB.k _ rfl) (by decide) rfl (Nat.le_of_ble_eq_true rfl) ⟨Nat.le_of_ble_eq_true rfl, Nat.le_of_ble_eq_true rfl⟩ ⟨Nat.le_refl _, Nat.le_refl _⟩ ?_
  refine c_X12_areTwo hB hn hn8 ?_
  refine V_if_eq (tgt := 40) (sx_di dX12_game 4 rfl) (by decide) (fun h6 => ?_) (fun h6 => ?_)
  · have h7 : (ih_ (a_n A) x = 0 ∨ ih_ (a_n A) y = 0 ∨ x = y) := Classical.byContradiction (fun z => by rw [if_neg z] at h6; exact absurd h6 (by decide))
    refine V_ldcw (sx_di dX12_game 20 rfl) kX12_320 ?_
    refine V_iret (sx_di dX12_game 21 rfl) rfl (Nat.le_refl _) (Nat.le_refl _) ?_
    exact hno (h7.elim Or.inl (fun z => z.elim (fun z => Or.inr (Or.inl z)) (fun z => Or.inr (Or.inr (Or.inl z)))))
  · have h7 : ¬ (ih_ (a_n A) x = 0 ∨ ih_ (a_n A) y = 0 ∨ x = y) := fun z => h6 (if_pos z)
    refine V_iload_n (i := 3) (sx_di dX12_game 5 rfl) rfl rfl ?_
    refine V_iconst (v := 0) (sx_di dX12_game 6 rfl) (by decide) ?_
    refine V_bipush (v := 6) (sx_di dX12_game 7 rfl) (by decide) ?_
    refine V_cS3 (mc' := 0) (ms' := 0) (M' := mX12_in) 1 (sx_di dX12_game 8 rfl) lX12_214 vX12_in (Nat.le_of_ble_eq_true rfl) ⟨Nat.le_of_ble_eq_true rfl, Nat.le_of_ble_eq_true rfl⟩ ⟨Nat.le_refl _, Nat.le_refl _⟩ ?_
    refine c_X12_in ?_
    refine V_if_eq (tgt := 40) (sx_di dX12_game 9 rfl) (by decide) (fun h16 => ?_) (fun h16 => ?_)
    · refine V_ldcw (sx_di dX12_game 20 rfl) kX12_320 ?_
      refine V_iret (sx_di dX12_game 21 rfl) rfl (Nat.le_refl _) (Nat.le_refl _) ?_
      exact hno (Or.inr (Or.inr (Or.inr (Or.inr (Or.inr ((in_no h16).elim Or.inl (fun z => Or.inr (Or.inl z))))))))
    · have h17 := in_ye h16
      refine V_iload (sx_di dX12_game 10 rfl) rfl ?_
      refine V_iconst (v := 0) (sx_di dX12_game 11 rfl) (by decide) ?_
      refine V_bipush (v := 6) (sx_di dX12_game 12 rfl) (by decide) ?_
      refine V_cS3 (mc' := 0) (ms' := 0) (M' := mX12_in) 1 (sx_di dX12_game 13 rfl) lX12_214 vX12_in (Nat.le_of_ble_eq_true rfl) ⟨Nat.le_of_ble_eq_true rfl, Nat.le_of_ble_eq_true rfl⟩ ⟨Nat.le_refl _, Nat.le_refl _⟩ ?_
      refine c_X12_in ?_
      refine V_if_eq (tgt := 40) (sx_di dX12_game 14 rfl) (by decide) (fun h27 => ?_) (fun h27 => ?_)
      · refine V_ldcw (sx_di dX12_game 20 rfl) kX12_320 ?_
        refine V_iret (sx_di dX12_game 21 rfl) rfl (Nat.le_refl _) (Nat.le_refl _) ?_
        exact hno (Or.inr (Or.inr (Or.inr (Or.inr (Or.inr (Or.inr (Or.inr (in_no h27))))))))
      · have h28 := in_ye h27
        refine V_iload (sx_di dX12_game 15 rfl) rfl ?_
        refine V_iconst (v := 0) (sx_di dX12_game 16 rfl) (by decide) ?_
        refine V_iconst (v := 1) (sx_di dX12_game 17 rfl) (by decide) ?_
        refine V_cS3 (mc' := 0) (ms' := 0) (M' := mX12_in) 1 (sx_di dX12_game 18 rfl) lX12_214 vX12_in (Nat.le_of_ble_eq_true rfl) ⟨Nat.le_of_ble_eq_true rfl, Nat.le_of_ble_eq_true rfl⟩ ⟨Nat.le_refl _, Nat.le_refl _⟩ ?_
        refine c_X12_in ?_
        refine V_if_ne (tgt := 44) (sx_di dX12_game 19 rfl) (by decide) (fun h37 => ?_) (fun h37 => ?_)
        · have h38 := in_ye h37
          have hg : ¬ gx_ A x y a b c := fun z => z.elim (fun z => h7 (Or.inl z)) (fun z => z.elim (fun z => h7 (Or.inr (Or.inl z))) (fun z => z.elim (fun z => h7 (Or.inr (Or.inr z))) (fun z => z.elim (fun z => h38 (Or.inl z)) (fun z => z.elim (fun z => h38 (Or.inr z)) (fun z => z.elim (fun z => h17 (Or.inl z)) (fun z => z.elim (fun z => h17 (Or.inr z)) h28))))))
          rw [q_game, if_neg hg] at h
          obtain ⟨i, j, p, q, hi, hj, hij, hp, hq, rfl, rfl, rfl, rfl⟩ := gx_no VA hg
          rw [nI_clamp (by omega), nI_clamp (by omega), nI_clamp (by omega), nI_clamp (by omega)] at h
          refine V_iload (sx_di dX12_game 22 rfl) rfl ?_
          refine V_if_ne (tgt := 61) (sx_di dX12_game 23 rfl) (by decide) (fun h46 => ?_) (fun h46 => ?_)
          · rw [if_neg h46] at h
            refine V_aload_n (i := 0) (sx_di dX12_game 31 rfl) rfl rfl ?_
            refine V_iload_n (i := 2) (sx_di dX12_game 32 rfl) rfl rfl ?_
            refine V_iload_n (i := 1) (sx_di dX12_game 33 rfl) rfl rfl ?_
            refine V_iload (sx_di dX12_game 34 rfl) rfl ?_
            refine V_iload_n (i := 3) (sx_di dX12_game 35 rfl) rfl rfl ?_
            refine V_cV4 (mc' := 0) (ms' := 0) (M' := mX12_gameOf) 8 (sx_di dX12_game 36 rfl) lX12_394 vX12_gameOf (hB.k _ rfl) (by decide) rfl (Nat.le_of_ble_eq_true rfl) ⟨Nat.le_of_ble_eq_true rfl, Nat.le_of_ble_eq_true rfl⟩ ⟨Nat.le_refl _, Nat.le_refl _⟩ ?_
            refine e_gameOf VA H hj hi (Ne.symm hij) hq hp (fun w2 H2 f2 => ?_)
            refine V_iret (sx_di dX12_game 37 rfl) rfl (Nat.le_refl _) (Nat.le_refl _) ?_
            exact h w2 H2 f2
          · rw [if_pos h46] at h
            refine V_aload_n (i := 0) (sx_di dX12_game 24 rfl) rfl rfl ?_
            refine V_iload_n (i := 1) (sx_di dX12_game 25 rfl) rfl rfl ?_
            refine V_iload_n (i := 2) (sx_di dX12_game 26 rfl) rfl rfl ?_
            refine V_iload_n (i := 3) (sx_di dX12_game 27 rfl) rfl rfl ?_
            refine V_iload (sx_di dX12_game 28 rfl) rfl ?_
            refine V_cV4 (mc' := 0) (ms' := 0) (M' := mX12_gameOf) 8 (sx_di dX12_game 29 rfl) lX12_394 vX12_gameOf (hB.k _ rfl) (by decide) rfl (Nat.le_of_ble_eq_true rfl) ⟨Nat.le_of_ble_eq_true rfl, Nat.le_of_ble_eq_true rfl⟩ ⟨Nat.le_refl _, Nat.le_refl _⟩ ?_
            refine e_gameOf VA H hi hj hij hp hq (fun w2 H2 f2 => ?_)
            refine V_goto (tgt := 70) (sx_di dX12_game 30 rfl) (by decide) ?_
            refine V_iret (sx_di dX12_game 37 rfl) rfl (Nat.le_refl _) (Nat.le_refl _) ?_
            exact h w2 H2 f2
        · refine V_ldcw (sx_di dX12_game 20 rfl) kX12_320 ?_
          refine V_iret (sx_di dX12_game 21 rfl) rfl (Nat.le_refl _) (Nat.le_refl _) ?_
          exact hno (Or.inr (Or.inr (Or.inr ((in_no h37).elim Or.inl (fun z => Or.inr (Or.inl z))))))

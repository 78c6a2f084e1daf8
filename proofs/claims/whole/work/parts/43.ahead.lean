/-! days ahead, of the class -/
/-- the law that holds, by the book's cells -/
def hd_ (I : Nat → Nat → Int32) (F : wF) : Prop := ((I 20 2 < 0 ∨ I 20 1 ≤ I 20 2 ∨ 4 ≤ I 20 2) → F = wf0) ∧ ∀ k, k < 4 → I 20 2 = nI k → I 20 2 < I 20 1 → ∃ n sz cd sm, ld_ I (22 + 6 * k) n sz cd sm ∧ F = wf1 I (22 + 6 * k) n sz cd sm
theorem hd_mv {I J : Nat → Nat → Int32} {F : wF} (h : hd_ I F) (h0 : J 20 = I 20) (h1 : ∀ i j, i < 5 → j < 4 → J (22 + 6 * i + j) = I (22 + 6 * i + j)) : hd_ J F := by
  unfold hd_
  rw [h0]
  refine ⟨h.1, fun k hk e1 e2 => ?_⟩
  obtain ⟨n, sz, cd, sm, a1, a2⟩ := h.2 k hk e1 e2
  refine ⟨n, sz, cd, sm, ?_, ?_⟩
  · have g0 : J (22 + 6 * k) = I (22 + 6 * k) := h1 k 0 (by omega) (by omega)
    unfold ld_ at a1 ⊢
    rw [g0, h1 k 2 (by omega) (by omega), h1 k 3 (by omega) (by omega)]
    exact a1
  · rw [a2]
    unfold wf1 wo_
    rw [h1 k 1 (by omega) (by omega)]
theorem e_hold {E : sxE} {w : hpW} {Q : Option Value → hpW → Prop} {F : wF} (hB : ly_B w) (hh : hd_ (hp_i w) F) (h : ∀ lv, lw_ok w lv F → Q (some lv) w) : sx_C E mX2_holding 1 0 0 [.ref 20] w Q := by
  refine c_X2_holding hB (fun c => h _ (Or.inl ⟨rfl, hh.1 c⟩)) (fun k hk e1 e2 => ?_)
  obtain ⟨n, sz, cd, sm, a1, a2⟩ := hh.2 k hk e1 e2
  exact h _ (Or.inr ⟨k, n, sz, cd, sm, Nat.lt_trans hk (by decide), rfl, lw_law hB (Nat.lt_trans hk (by decide)), a1, a2⟩)
/-- what a question of the class begins with -/
def CQ (w : hpW) (t n : Nat) (F : wF) (m0 s : Nat → Int32) : Prop := ly_B w ∧ hp_r w 16 4 = some t ∧ is_St w t ∧ hp_i w t 0 = nI n ∧ n ≤ 8 ∧ hp_r w 57 0 = some t ∧ (t = 53 ∨ t = 55) ∧ hd_ (hp_i w) F ∧ vw_ n (hp_i w) 57 s ∧ tm_ n (hp_i w) 57 m0
/-- the places that questions may use -/
def QS (b : Nat) : Prop := (64 ≤ b ∧ b ≤ 70) ∨ sc_ b
/-- the references, the State apart on the street t -/
def ra_ (w : hpW) (t : Nat) : Nat → Nat → Option Nat := hp_u (hp_r w) 64 0 (some t)
theorem ra_B {w : hpW} (hB : ly_B w) (t : Nat) (J : Nat → Nat → Int32) : ly_B (hp_wr w (ra_ w t) J) := ly_wr hB (ly_ru hB.2 rfl _) J
theorem ra_64 (w : hpW) (t : Nat) (J : Nat → Nat → Int32) : hp_r (hp_wr w (ra_ w t) J) 64 0 = some t := by
  show hp_u (hp_r w) 64 0 (some t) 64 0 = some t
  exact hp_u_at _ _ _ _
/-- the State apart holds s, nothing else has changed -/
def AP (w : hpW) (n : Nat) (m0 : Nat → Int32) (J : Nat → Nat → Int32) (s : Nat → Int32) : Prop := fr_ w J QS ∧ vw_ n J 64 s ∧ tm_ n J 64 m0
theorem AP_0 {w : hpW} {t n : Nat} {F : wF} {m0 s : Nat → Int32} (C : CQ w t n F m0 s) : AP w n m0 (cp_ (hp_i w) 64 57 6 13) s := ⟨fun b hb => cp_o (Classical.byContradiction fun z => hb (Or.inl (by omega))), vw_cp C.2.2.2.2.1 C.2.2.2.2.2.2.2.2.1, tm_cp C.2.2.2.2.1 C.2.2.2.2.2.2.2.2.2⟩
theorem QS_no {b : Nat} (h : b < 22 ∨ (52 ≤ b ∧ b < 64) ∨ 71 ≤ b) : ¬ QS b := fun z => z.elim (fun z => by omega) (fun z => sc_no (by omega) z)
theorem AP_hd {w : hpW} {n : Nat} {F : wF} {m0 s : Nat → Int32} {J : Nat → Nat → Int32} (h : hd_ (hp_i w) F) (hA : AP w n m0 J s) : hd_ J F := hd_mv h (hA.1 20 (QS_no (by omega))) (fun i j hi hj => hA.1 _ (fun z => z.elim (fun z => by omega) (sc_lw hj)))
/-- k days on -/
noncomputable def dn_ (F : wF) (I : Nat → Nat → Int32) (t n : Nat) (m0 s : Nat → Int32) : Nat → Nat → Int32
  | 0 => s
  | k + 1 => dv_ F (fs_ I t) (fo_ I t) (sl_ I t 0) n m0 (dn_ F I t n m0 s k)
/-- the State apart lives a day -/
theorem e_apart {E : sxE} {w : hpW} {Q : Option Value → hpW → Prop} {t n : Nat} {F : wF} {m0 s s2 : Nat → Int32} {J : Nat → Nat → Int32} {lv : Value} (C : CQ w t n F m0 s) (hA : AP w n m0 J s2) (hl : lw_ok (hp_wr w (ra_ w t) J) lv F) (h : ∀ J2 r, AP w n m0 J2 (dv_ F (fs_ (hp_i w) t) (fo_ (hp_i w) t) (sl_ (hp_i w) t 0) n m0 s2) → Q (some (.int r)) (hp_wr w (ra_ w t) J2)) : sx_C E mX7_passDay 6 0 0 [.ref 64, lv] (hp_wr w (ra_ w t) J) Q := by
  obtain ⟨hB, ht, hst, hn, hn8, ht57, ht2, hh, hv, hm⟩ := C
  have hB2 := ra_B hB t J
  have e1 : J (t + 1) = hp_i w (t + 1) := hA.1 _ (QS_no (by omega))
  have e0 : J t = hp_i w t := hA.1 _ (QS_no (by omega))
  have hst2 : is_St (hp_wr w (ra_ w t) J) t := by
    rcases ht2 with rfl | rfl
    · exact st_53 hB2
    · exact st_55 hB2
  refine e_passDay (w := hp_wr w (ra_ w t) J) (ss_64 hB2) (ra_64 w t J) hst2 hl (by decide) (by omega) (show J t 0 = nI n by rw [e0]; exact hn) hn8 hA.2.1 hA.2.2 (fun J2 r f2 v2 m2 _ _ => ?_)
  refine h J2 r ⟨fun b hb => ?_, ?_, m2⟩
  · rw [f2 b (fun z => z.elim (fun z => hb (Or.inl (by omega))) (fun z => z.elim (fun z => hb (Or.inl (by omega))) (fun z => hb (Or.inr z))))]
    exact hA.1 b hb
  · rw [show hp_i (hp_wr w (ra_ w t) J) = J from rfl, fs_cg e1, fo_cg e1, sl_cg e1] at v2
    exact v2
set_option maxHeartbeats 2000000 in
set_option maxRecDepth 20000 in
theorem ah_lp {E : sxE} {w : hpW} {Q : Option Value → hpW → Prop} {t n : Nat} {F : wF} {m0 s : Nat → Int32} (C : CQ w t n F m0 s) {m : Nat} {y : Int32} (hm60 : m ≤ 60) (h : ∀ J, fr_ w J QS → Q (some (.int (if y = 0 then dn_ F (hp_i w) t n m0 s m 42 else dn_ F (hp_i w) t n m0 s m 43))) (hp_wr w (ra_ w t) J)) : ∀ q k J, k + q = m → AP w n m0 J (dn_ F (hp_i w) t n m0 s k) → V E mX11_ahead (sx_rm 7 0 0) 0 0 0 0 42 [(3, .int (nI k)), (2, .int y), (1, .int (nI m)), (0, .ref 16)] [] (hp_wr w (ra_ w t) J) Q := by
  obtain ⟨hB, ht, hst, hn, hn8, ht57, ht2, hh, hv, hm⟩ := id C
  have hB3 := ra_B hB t (hp_i w)
  intro q
  induction q with
  | zero =>
    intro k J hk hA
    have e : k = m := by omega
    subst e
    refine V_iload_n (i := 3) (sx_di dX11_ahead 22 rfl) rfl rfl ?_
    refine V_iload_n (i := 1) (sx_di dX11_ahead 23 rfl) rfl rfl ?_
    refine V_icmp_ge (tgt := 68) (sx_di dX11_ahead 24 rfl) (by decide) (fun _ => ?_) (fun h44 => absurd (Int32.le_refl _) h44)
    refine V_iload_n (i := 2) (sx_di dX11_ahead 34 rfl) rfl rfl ?_
    refine V_if_ne (tgt := 82) (sx_di dX11_ahead 35 rfl) (by decide) (fun h69 => ?_) (fun h69 => ?_)
    · refine V_aload_n (i := 0) (sx_di dX11_ahead 40 rfl) rfl rfl ?_
      refine V_getR (sx_di dX11_ahead 41 rfl) fX11_64 (fun _ => rfl) (hB3.k _ rfl) (hB3.r _ _ rfl) ?_
      refine V_getI (sx_di dX11_ahead 42 rfl) fX11_164 (fun _ => rfl) (hB3.k _ rfl) ?_
      refine V_iret (sx_di dX11_ahead 43 rfl) rfl (Nat.le_refl _) (Nat.le_refl _) ?_
      have q := h J hA.1
      rw [if_neg h69] at q
      rw [show hp_i (hp_wr w (ra_ w t) J) 64 10 = dn_ F (hp_i w) t n m0 s k 43 from hA.2.1.2.2.2.2.1]
      exact q
    · refine V_aload_n (i := 0) (sx_di dX11_ahead 36 rfl) rfl rfl ?_
      refine V_getR (sx_di dX11_ahead 37 rfl) fX11_64 (fun _ => rfl) (hB3.k _ rfl) (hB3.r _ _ rfl) ?_
      refine V_getI (sx_di dX11_ahead 38 rfl) fX11_161 (fun _ => rfl) (hB3.k _ rfl) ?_
      refine V_goto (tgt := 89) (sx_di dX11_ahead 39 rfl) (by decide) ?_
      refine V_iret (sx_di dX11_ahead 43 rfl) rfl (Nat.le_refl _) (Nat.le_refl _) ?_
      have q := h J hA.1
      rw [if_pos h69] at q
      rw [show hp_i (hp_wr w (ra_ w t) J) 64 9 = dn_ F (hp_i w) t n m0 s k 42 from hA.2.1.2.2.2.1]
      exact q
  | succ q ih =>
    intro k J hk hA
    have q1 := ih (k + 1)
    rw [← nI_1] at q1
    refine V_iload_n (i := 3) (sx_di dX11_ahead 22 rfl) rfl rfl ?_
    refine V_iload_n (i := 1) (sx_di dX11_ahead 23 rfl) rfl rfl ?_
    refine V_icmp_ge (tgt := 68) (sx_di dX11_ahead 24 rfl) (by decide) (fun h44 => absurd h44 (fun z => absurd ((nI_leI (a := m) (b := k) (by omega) (by omega)).mp z) (by omega))) (fun _ => ?_)
    refine V_aload_n (i := 0) (sx_di dX11_ahead 25 rfl) rfl rfl ?_
    refine V_getR (sx_di dX11_ahead 26 rfl) fX11_64 (fun _ => rfl) (hB3.k _ rfl) (hB3.r _ _ rfl) ?_
    refine V_aload_n (i := 0) (sx_di dX11_ahead 27 rfl) rfl rfl ?_
    refine V_getR (sx_di dX11_ahead 28 rfl) fX11_28 (fun _ => rfl) (hB3.k _ rfl) (hB3.r _ _ rfl) ?_
    refine V_cV0 (mc' := 0) (ms' := 0) (M' := mX2_holding) 1 (sx_di dX11_ahead 29 rfl) lX11_195 vX2_holding (hB3.k _ rfl) (by decide) rfl (Nat.le_of_ble_eq_true rfl) ⟨Nat.le_of_ble_eq_true rfl, Nat.le_of_ble_eq_true rfl⟩ ⟨Nat.le_refl _, Nat.le_refl _⟩ ?_
    refine e_hold (w := hp_wr w (ra_ w t) J) (ra_B hB t _) (AP_hd hh hA) (fun lv hlv => ?_)
    refine V_cV1 (mc' := 0) (ms' := 0) (M' := mX7_passDay) 6 (sx_di dX11_ahead 30 rfl) lX11_262 vX7_passDay (hB3.k _ rfl) (by decide) rfl (Nat.le_of_ble_eq_true rfl) ⟨Nat.le_of_ble_eq_true rfl, Nat.le_of_ble_eq_true rfl⟩ ⟨Nat.le_refl _, Nat.le_refl _⟩ ?_
    refine e_apart C hA hlv (fun J2 r A2 => ?_)
    refine V_pop (sx_di dX11_ahead 31 rfl) rfl ?_
    refine V_inc (c := 1) (sx_di dX11_ahead 32 rfl) (by decide) rfl (by decide) (rfl) ?_
    refine V_goto (tgt := 42) (sx_di dX11_ahead 33 rfl) (by decide) ?_
    exact V_subk (q1 J2 (by omega) A2) ⟨rfl, rfl, rfl, rfl, trivial⟩
/-- asked within: a street, x in 0 .. 60, y 0 or 1 -/
def ax_ (n : Nat) (x y : Int32) : Prop := n = 0 ∨ x < 0 ∨ 60 < x ∨ y < 0 ∨ 1 < y
set_option maxHeartbeats 2000000 in
set_option maxRecDepth 20000 in
theorem c_X11_ahead {E : sxE} {w : hpW} {Q : Option Value → hpW → Prop} {t n : Nat} {F : wF} {m0 s : Nat → Int32} (C : CQ w t n F m0 s) {x y : Int32} (h0 : ax_ n x y → Q (some (.int (-1000000))) w) (h1 : ¬ ax_ n x y → ∀ m, m ≤ 60 → x = nI m → ∀ J, fr_ w J QS → Q (some (.int (if y = 0 then dn_ F (hp_i w) t n m0 s m 42 else dn_ F (hp_i w) t n m0 s m 43))) (hp_wr w (ra_ w t) J)) : sx_C E mX11_ahead 7 0 0 [.ref 16, .int x, .int y] w Q := by
  obtain ⟨hB, ht, hst, hn, hn8, ht57, ht2, hh, hv, hm⟩ := id C
  refine C_of (by decide +kernel) (Nat.le_of_ble_eq_true rfl) ?_
  refine V_aload_n (i := 0) (sx_di dX11_ahead 0 rfl) rfl rfl ?_
  refine V_cV0 (mc' := 0) (ms' := 0) (M' := mX11_isStreet) 1 (sx_di dX11_ahead 1 rfl) lX11_154 vX11_isStreet (hB.k _ rfl) (by decide) rfl (Nat.le_of_ble_eq_true rfl) ⟨Nat.le_of_ble_eq_true rfl, Nat.le_of_ble_eq_true rfl⟩ ⟨Nat.le_refl _, Nat.le_refl _⟩ ?_
  refine c_X11_isStreet hB ht hst hn hn8 ?_
  refine V_if_eq (tgt := 26) (sx_di dX11_ahead 2 rfl) (by decide) (fun h4 => ?_) (fun h4 => ?_)
  · have h5 : n = 0 := by
      rcases Classical.em (n = 0) with q | q
      · exact q
      · rw [if_neg q] at h4; exact absurd h4 (by decide)
    refine V_ldc (sx_di dX11_ahead 13 rfl) kX11_217 ?_
    refine V_iret (sx_di dX11_ahead 14 rfl) rfl (Nat.le_refl _) (Nat.le_refl _) ?_
    exact h0 (Or.inl h5)
  · have h5 : ¬ n = 0 := fun q => h4 (if_pos q)
    refine V_iload_n (i := 1) (sx_di dX11_ahead 3 rfl) rfl rfl ?_
    refine V_if_lt (tgt := 26) (sx_di dX11_ahead 4 rfl) (by decide) (fun h8 => ?_) (fun h8 => ?_)
    · refine V_ldc (sx_di dX11_ahead 13 rfl) kX11_217 ?_
      refine V_iret (sx_di dX11_ahead 14 rfl) rfl (Nat.le_refl _) (Nat.le_refl _) ?_
      exact h0 (Or.inr (Or.inl h8))
    · refine V_iload_n (i := 1) (sx_di dX11_ahead 5 rfl) rfl rfl ?_
      refine V_bipush (v := 60) (sx_di dX11_ahead 6 rfl) (by decide) ?_
      refine V_icmp_gt (tgt := 26) (sx_di dX11_ahead 7 rfl) (by decide) (fun h14 => ?_) (fun h14 => ?_)
      · refine V_ldc (sx_di dX11_ahead 13 rfl) kX11_217 ?_
        refine V_iret (sx_di dX11_ahead 14 rfl) rfl (Nat.le_refl _) (Nat.le_refl _) ?_
        exact h0 (Or.inr (Or.inr (Or.inl h14)))
      · refine V_iload_n (i := 2) (sx_di dX11_ahead 8 rfl) rfl rfl ?_
        refine V_if_lt (tgt := 26) (sx_di dX11_ahead 9 rfl) (by decide) (fun h18 => ?_) (fun h18 => ?_)
        · refine V_ldc (sx_di dX11_ahead 13 rfl) kX11_217 ?_
          refine V_iret (sx_di dX11_ahead 14 rfl) rfl (Nat.le_refl _) (Nat.le_refl _) ?_
          exact h0 (Or.inr (Or.inr (Or.inr (Or.inl h18))))
        · refine V_iload_n (i := 2) (sx_di dX11_ahead 10 rfl) rfl rfl ?_
          refine V_iconst (v := 1) (sx_di dX11_ahead 11 rfl) (by decide) ?_
          refine V_icmp_le (tgt := 29) (sx_di dX11_ahead 12 rfl) (by decide) (fun h23 => ?_) (fun h23 => ?_)
          · have hok : ¬ ax_ n x y := fun q => q.elim h5 (fun q => q.elim h8 (fun q => q.elim h14 (fun q => q.elim h18 (Int32.not_lt.mpr h23))))
            obtain ⟨m, hm60, rfl⟩ := nI_of2 (M := 60) (n := 60) (by decide) h8 (Int32.not_lt.mp h14)
            refine V_aload_n (i := 0) (sx_di dX11_ahead 15 rfl) rfl rfl ?_
            refine V_getR (sx_di dX11_ahead 16 rfl) fX11_64 (fun _ => rfl) (hB.k _ rfl) (hB.r _ _ rfl) ?_
            refine V_aload_n (i := 0) (sx_di dX11_ahead 17 rfl) rfl rfl ?_
            refine V_getR (sx_di dX11_ahead 18 rfl) fX11_60 (fun _ => rfl) (hB.k _ rfl) (hB.r _ _ rfl) ?_
            refine V_cV1 (mc' := 0) (ms' := 0) (M' := mX7_copyFrom) 2 (sx_di dX11_ahead 19 rfl) lX11_293 vX7_copyFrom (hB.k _ rfl) (by decide) rfl (Nat.le_of_ble_eq_true rfl) ⟨Nat.le_of_ble_eq_true rfl, Nat.le_of_ble_eq_true rfl⟩ ⟨Nat.le_refl _, Nat.le_refl _⟩ ?_
            refine c_X7_copyFrom (ss_64 hB) (ss_57 hB) (by decide) ht57 ?_
            refine V_iconst (v := 0) (sx_di dX11_ahead 20 rfl) (by decide) ?_
            refine V_istore_n (i := 3) (sx_di dX11_ahead 21 rfl) rfl (by decide) (rfl) ?_
            refine V_sub (ls' := [(3, .int (nI 0)), (2, .int y), (1, .int (nI m)), (0, .ref 16)]) ⟨rfl, rfl, rfl, rfl, trivial⟩ ?_
            exact ah_lp C hm60 (h1 hok m hm60 rfl) m 0 _ (by omega) (AP_0 C)
          · refine V_ldc (sx_di dX11_ahead 13 rfl) kX11_217 ?_
            refine V_iret (sx_di dX11_ahead 14 rfl) rfl (Nat.le_refl _) (Nat.le_refl _) ?_
            exact h0 (Or.inr (Or.inr (Or.inr (Or.inr (Int32.not_le.mp h23)))))
set_option maxHeartbeats 2000000 in
set_option maxRecDepth 20000 in
theorem c_X11_goesTo {E : sxE} {w : hpW} {Q : Option Value → hpW → Prop} {t n : Nat} {F : wF} {m0 s : Nat → Int32} (C : CQ w t n F m0 s) (h0 : n = 0 → Q (some (.int (-1000000))) w) (h1 : ¬ n = 0 → ∀ I, fr_ w I sc_ → Q (some (.int (go_ F (fs_ (hp_i w) t) n s))) (hp_wi w I)) : sx_C E mX11_goesTo 6 0 0 [.ref 16] w Q := by
  obtain ⟨hB, ht, hst, hn, hn8, ht57, ht2, hh, hv, hm⟩ := id C
  refine C_of (by decide +kernel) (Nat.le_of_ble_eq_true rfl) ?_
  refine V_aload_n (i := 0) (sx_di dX11_goesTo 0 rfl) rfl rfl ?_
  refine V_cV0 (mc' := 0) (ms' := 0) (M' := mX11_isStreet) 1 (sx_di dX11_goesTo 1 rfl) lX11_154 vX11_isStreet (hB.k _ rfl) (by decide) rfl (Nat.le_of_ble_eq_true rfl) ⟨Nat.le_of_ble_eq_true rfl, Nat.le_of_ble_eq_true rfl⟩ ⟨Nat.le_refl _, Nat.le_refl _⟩ ?_
  refine c_X11_isStreet hB ht hst hn hn8 ?_
  refine V_if_eq (tgt := 24) (sx_di dX11_goesTo 2 rfl) (by decide) (fun h4 => ?_) (fun h4 => ?_)
  · have h5 : n = 0 := by
      rcases Classical.em (n = 0) with q | q
      · exact q
      · rw [if_neg q] at h4; exact absurd h4 (by decide)
    refine V_ldc (sx_di dX11_goesTo 10 rfl) kX11_217 ?_
    refine V_iret (sx_di dX11_goesTo 11 rfl) rfl (Nat.le_refl _) (Nat.le_refl _) ?_
    exact h0 h5
  · have h5 : ¬ n = 0 := fun q => h4 (if_pos q)
    refine V_aload_n (i := 0) (sx_di dX11_goesTo 3 rfl) rfl rfl ?_
    refine V_getR (sx_di dX11_goesTo 4 rfl) fX11_60 (fun _ => rfl) (hB.k _ rfl) (hB.r _ _ rfl) ?_
    refine V_aload_n (i := 0) (sx_di dX11_goesTo 5 rfl) rfl rfl ?_
    refine V_getR (sx_di dX11_goesTo 6 rfl) fX11_28 (fun _ => rfl) (hB.k _ rfl) (hB.r _ _ rfl) ?_
    refine V_cV0 (mc' := 0) (ms' := 0) (M' := mX2_holding) 1 (sx_di dX11_goesTo 7 rfl) lX11_195 vX2_holding (hB.k _ rfl) (by decide) rfl (Nat.le_of_ble_eq_true rfl) ⟨Nat.le_of_ble_eq_true rfl, Nat.le_of_ble_eq_true rfl⟩ ⟨Nat.le_refl _, Nat.le_refl _⟩ ?_
    refine e_hold hB hh (fun lv hlv => ?_)
    refine V_cV1 (mc' := 0) (ms' := 0) (M' := mX7_goal) 5 (sx_di dX11_goesTo 8 rfl) lX11_299 vX7_goal (hB.k _ rfl) (by decide) rfl (Nat.le_of_ble_eq_true rfl) ⟨Nat.le_of_ble_eq_true rfl, Nat.le_of_ble_eq_true rfl⟩ ⟨Nat.le_refl _, Nat.le_refl _⟩ ?_
    refine c_X7_goal (ss_57 hB) ht57 hst hlv (by decide) (by omega) hn hn8 (fun I f => ?_)
    refine V_goto (tgt := 26) (sx_di dX11_goesTo 9 rfl) (by decide) ?_
    refine V_iret (sx_di dX11_goesTo 11 rfl) rfl (Nat.le_refl _) (Nat.le_refl _) ?_
    rw [gl_v hv]
    exact h1 h5 I f
def bi_ (p : Int32) : Int32 := if p = -1 then 0 else 1 <<< (p &&& 31)
/-- the first day from k on (q days are looked at) on which it is at x -/
def sn_ (D : Nat → Nat → Int32) (x : Int32) : Nat → Nat → Int32
  | 0, _ => -1
  | q + 1, k => if D k 42 = x then nI k else sn_ D x q (k + 1)
def vs_ (D : Nat → Nat → Int32) : Nat → Int32
  | 0 => 0
  | k + 1 => vs_ D k ||| bi_ (D (k + 1) 42)
def em_ (D : Nat → Nat → Int32) : Nat → Int32
  | 0 => 0
  | k + 1 => em_ D k + (if D (k + 1) 42 = -1 then 1 else 0)
set_option maxHeartbeats 2000000 in
set_option maxRecDepth 20000 in
theorem c_X11_bitOf {E : sxE} {w : hpW} {Q : Option Value → hpW → Prop} {p : Int32} (h : Q (some (.int (bi_ p))) w) : sx_C E mX11_bitOf 1 0 0 [.int p] w Q := by
  refine C_of (by decide +kernel) (Nat.le_of_ble_eq_true rfl) ?_
  refine V_iload_n (i := 0) (sx_di dX11_bitOf 0 rfl) rfl rfl ?_
  refine V_iconst (v := -1) (sx_di dX11_bitOf 1 rfl) (by decide) ?_
  refine V_icmp_ne (tgt := 9) (sx_di dX11_bitOf 2 rfl) (by decide) (fun h2 => ?_) (fun h2 => ?_)
  · refine V_iconst (v := 1) (sx_di dX11_bitOf 5 rfl) (by decide) ?_
    refine V_iload_n (i := 0) (sx_di dX11_bitOf 6 rfl) rfl rfl ?_
    refine V_ishl (sx_di dX11_bitOf 7 rfl) ?_
    refine V_iret (sx_di dX11_bitOf 8 rfl) rfl (Nat.le_refl _) (Nat.le_refl _) ?_
    first | (rw [bi_, if_neg h2] at h; exact h) | (rw [bi_, if_pos h2] at h; exact h)
  · refine V_iconst (v := 0) (sx_di dX11_bitOf 3 rfl) (by decide) ?_
    refine V_goto (tgt := 12) (sx_di dX11_bitOf 4 rfl) (by decide) ?_
    refine V_iret (sx_di dX11_bitOf 8 rfl) rfl (Nat.le_refl _) (Nat.le_refl _) ?_
    first | (rw [bi_, if_neg h2] at h; exact h) | (rw [bi_, if_pos h2] at h; exact h)
set_option maxHeartbeats 2000000 in
set_option maxRecDepth 20000 in
theorem sn_lp {E : sxE} {w : hpW} {Q : Option Value → hpW → Prop} {t n : Nat} {F : wF} {m0 s : Nat → Int32} (C : CQ w t n F m0 s) {x v : Int32} (h : ∀ J, fr_ w J QS → Q (some (.int (v))) (hp_wr w (ra_ w t) J)) : ∀ q k J, k + q = 61 → AP w n m0 J (dn_ F (hp_i w) t n m0 s k) → sn_ (dn_ F (hp_i w) t n m0 s) x q k = v → V E mX11_soonest (sx_rm 7 0 0) 0 0 0 0 23 [(2, .int (nI k)), (1, .int x), (0, .ref 16)] [] (hp_wr w (ra_ w t) J) Q := by
  obtain ⟨hB, ht, hst, hn, hn8, ht57, ht2, hh, hv, hm⟩ := id C
  have hB3 := ra_B hB t (hp_i w)
  intro q
  induction q with
  | zero =>
    intro k J hk hA hv2
    have e : k = 61 := by omega
    subst e
    have hv2 : -1 = v := hv2
    subst hv2
    refine V_iload_n (i := 2) (sx_di dX11_soonest 13 rfl) rfl rfl ?_
    refine V_bipush (v := 60) (sx_di dX11_soonest 14 rfl) (by decide) ?_
    refine V_icmp_gt (tgt := 63) (sx_di dX11_soonest 15 rfl) (by decide) (fun _ => ?_) (fun h26 => absurd (by decide) h26)
    refine V_iconst (v := -1) (sx_di dX11_soonest 32 rfl) (by decide) ?_
    refine V_iret (sx_di dX11_soonest 33 rfl) rfl (Nat.le_refl _) (Nat.le_refl _) ?_
    exact h J hA.1
  | succ q ih =>
    intro k J hk hA hv2
    have q1 := ih (k + 1)
    rw [← nI_1] at q1
    have e42 : hp_i (hp_wr w (ra_ w t) J) 64 9 = dn_ F (hp_i w) t n m0 s k 42 := hA.2.1.2.2.2.1
    rw [sn_] at hv2
    refine V_iload_n (i := 2) (sx_di dX11_soonest 13 rfl) rfl rfl ?_
    refine V_bipush (v := 60) (sx_di dX11_soonest 14 rfl) (by decide) ?_
    refine V_icmp_gt (tgt := 63) (sx_di dX11_soonest 15 rfl) (by decide) (fun h26 => absurd h26 (fun z => absurd ((nI_ltI (a := 60) (b := k) (by decide) (by omega)).mp z) (by omega))) (fun _ => ?_)
    refine V_aload_n (i := 0) (sx_di dX11_soonest 16 rfl) rfl rfl ?_
    refine V_getR (sx_di dX11_soonest 17 rfl) fX11_64 (fun _ => rfl) (hB3.k _ rfl) (hB3.r _ _ rfl) ?_
    refine V_getI (sx_di dX11_soonest 18 rfl) fX11_161 (fun _ => rfl) (hB3.k _ rfl) ?_
    refine V_iload_n (i := 1) (sx_di dX11_soonest 19 rfl) rfl rfl ?_
    refine V_icmp_ne (tgt := 42) (sx_di dX11_soonest 20 rfl) (by decide) (fun h37 => ?_) (fun h37 => ?_)
    · rw [e42] at h37
      rw [if_neg h37] at hv2
      refine V_aload_n (i := 0) (sx_di dX11_soonest 23 rfl) rfl rfl ?_
      refine V_getR (sx_di dX11_soonest 24 rfl) fX11_64 (fun _ => rfl) (hB3.k _ rfl) (hB3.r _ _ rfl) ?_
      refine V_aload_n (i := 0) (sx_di dX11_soonest 25 rfl) rfl rfl ?_
      refine V_getR (sx_di dX11_soonest 26 rfl) fX11_28 (fun _ => rfl) (hB3.k _ rfl) (hB3.r _ _ rfl) ?_
      refine V_cV0 (mc' := 0) (ms' := 0) (M' := mX2_holding) 1 (sx_di dX11_soonest 27 rfl) lX11_195 vX2_holding (hB3.k _ rfl) (by decide) rfl (Nat.le_of_ble_eq_true rfl) ⟨Nat.le_of_ble_eq_true rfl, Nat.le_of_ble_eq_true rfl⟩ ⟨Nat.le_refl _, Nat.le_refl _⟩ ?_
      refine e_hold (w := hp_wr w (ra_ w t) J) (ra_B hB t _) (AP_hd hh hA) (fun lv hlv => ?_)
      refine V_cV1 (mc' := 0) (ms' := 0) (M' := mX7_passDay) 6 (sx_di dX11_soonest 28 rfl) lX11_262 vX7_passDay (hB3.k _ rfl) (by decide) rfl (Nat.le_of_ble_eq_true rfl) ⟨Nat.le_of_ble_eq_true rfl, Nat.le_of_ble_eq_true rfl⟩ ⟨Nat.le_refl _, Nat.le_refl _⟩ ?_
      refine e_apart C hA hlv (fun J2 r A2 => ?_)
      refine V_pop (sx_di dX11_soonest 29 rfl) rfl ?_
      refine V_inc (c := 1) (sx_di dX11_soonest 30 rfl) (by decide) rfl (by decide) (rfl) ?_
      refine V_goto (tgt := 23) (sx_di dX11_soonest 31 rfl) (by decide) ?_
      exact V_subk (q1 J2 (by omega) A2 hv2) ⟨rfl, rfl, rfl, trivial⟩
    · rw [e42] at h37
      rw [if_pos h37] at hv2
      subst hv2
      refine V_iload_n (i := 2) (sx_di dX11_soonest 21 rfl) rfl rfl ?_
      refine V_iret (sx_di dX11_soonest 22 rfl) rfl (Nat.le_refl _) (Nat.le_refl _) ?_
      exact h J hA.1
set_option maxHeartbeats 2000000 in
set_option maxRecDepth 20000 in
theorem c_X11_soonest {E : sxE} {w : hpW} {Q : Option Value → hpW → Prop} {t n : Nat} {F : wF} {m0 s : Nat → Int32} (C : CQ w t n F m0 s) {x : Int32} (h0 : ih_ n x = 0 → Q (some (.int (-1))) w) (h1 : ¬ ih_ n x = 0 → ∀ J, fr_ w J QS → Q (some (.int (sn_ (dn_ F (hp_i w) t n m0 s) x 61 0))) (hp_wr w (ra_ w t) J)) : sx_C E mX11_soonest 7 0 0 [.ref 16, .int x] w Q := by
  obtain ⟨hB, ht, hst, hn, hn8, ht57, ht2, hh, hv, hm⟩ := id C
  refine C_of (by decide +kernel) (Nat.le_of_ble_eq_true rfl) ?_
  refine V_aload_n (i := 0) (sx_di dX11_soonest 0 rfl) rfl rfl ?_
  refine V_iload_n (i := 1) (sx_di dX11_soonest 1 rfl) rfl rfl ?_
  refine V_cV1 (mc' := 0) (ms' := 0) (M' := mX11_isHouse) 1 (sx_di dX11_soonest 2 rfl) lX11_170 vX11_isHouse (hB.k _ rfl) (by decide) rfl (Nat.le_of_ble_eq_true rfl) ⟨Nat.le_of_ble_eq_true rfl, Nat.le_of_ble_eq_true rfl⟩ ⟨Nat.le_refl _, Nat.le_refl _⟩ ?_
  refine c_X11_isHouse hB ht hst hn hn8 ?_
  refine V_if_ne (tgt := 10) (sx_di dX11_soonest 3 rfl) (by decide) (fun h5 => ?_) (fun h5 => ?_)
  · refine V_aload_n (i := 0) (sx_di dX11_soonest 6 rfl) rfl rfl ?_
    refine V_getR (sx_di dX11_soonest 7 rfl) fX11_64 (fun _ => rfl) (hB.k _ rfl) (hB.r _ _ rfl) ?_
    refine V_aload_n (i := 0) (sx_di dX11_soonest 8 rfl) rfl rfl ?_
    refine V_getR (sx_di dX11_soonest 9 rfl) fX11_60 (fun _ => rfl) (hB.k _ rfl) (hB.r _ _ rfl) ?_
    refine V_cV1 (mc' := 0) (ms' := 0) (M' := mX7_copyFrom) 2 (sx_di dX11_soonest 10 rfl) lX11_293 vX7_copyFrom (hB.k _ rfl) (by decide) rfl (Nat.le_of_ble_eq_true rfl) ⟨Nat.le_of_ble_eq_true rfl, Nat.le_of_ble_eq_true rfl⟩ ⟨Nat.le_refl _, Nat.le_refl _⟩ ?_
    refine c_X7_copyFrom (ss_64 hB) (ss_57 hB) (by decide) ht57 ?_
    refine V_iconst (v := 0) (sx_di dX11_soonest 11 rfl) (by decide) ?_
    refine V_istore_n (i := 2) (sx_di dX11_soonest 12 rfl) rfl (by decide) (rfl) ?_
    refine V_sub (ls' := [(2, .int (nI 0)), (1, .int x), (0, .ref 16)]) ⟨rfl, rfl, rfl, trivial⟩ ?_
    exact sn_lp C (h1 h5) 61 0 _ (by omega) (AP_0 C) rfl
  · refine V_iconst (v := -1) (sx_di dX11_soonest 4 rfl) (by decide) ?_
    refine V_iret (sx_di dX11_soonest 5 rfl) rfl (Nat.le_refl _) (Nat.le_refl _) ?_
    exact h0 h5
def ay_ (n : Nat) (x : Int32) : Prop := n = 0 ∨ x < 1 ∨ 60 < x
set_option maxHeartbeats 2000000 in
set_option maxRecDepth 20000 in
theorem vs_lp {E : sxE} {w : hpW} {Q : Option Value → hpW → Prop} {t n : Nat} {F : wF} {m0 s : Nat → Int32} (C : CQ w t n F m0 s) {m : Nat} (hm60 : m ≤ 60) (h : ∀ J, fr_ w J QS → Q (some (.int (vs_ (dn_ F (hp_i w) t n m0 s) m))) (hp_wr w (ra_ w t) J)) : ∀ q k J, k + q = m → AP w n m0 J (dn_ F (hp_i w) t n m0 s k) → V E mX11_visits (sx_rm 7 0 0) 0 0 0 0 35 [(3, .int (nI k)), (2, .int (vs_ (dn_ F (hp_i w) t n m0 s) k)), (1, .int (nI m)), (0, .ref 16)] [] (hp_wr w (ra_ w t) J) Q := by
  obtain ⟨hB, ht, hst, hn, hn8, ht57, ht2, hh, hv, hm⟩ := id C
  have hB3 := ra_B hB t (hp_i w)
  intro q
  induction q with
  | zero =>
    intro k J hk hA
    have e : k = m := by omega
    subst e
    refine V_iload_n (i := 3) (sx_di dX11_visits 20 rfl) rfl rfl ?_
    refine V_iload_n (i := 1) (sx_di dX11_visits 21 rfl) rfl rfl ?_
    refine V_icmp_ge (tgt := 74) (sx_di dX11_visits 22 rfl) (by decide) (fun _ => ?_) (fun h37 => absurd (Int32.le_refl _) h37)
    refine V_iload_n (i := 2) (sx_di dX11_visits 39 rfl) rfl rfl ?_
    refine V_iret (sx_di dX11_visits 40 rfl) rfl (Nat.le_refl _) (Nat.le_refl _) ?_
    exact h J hA.1
  | succ q ih =>
    intro k J hk hA
    have q1 := ih (k + 1)
    rw [← nI_1] at q1
    refine V_iload_n (i := 3) (sx_di dX11_visits 20 rfl) rfl rfl ?_
    refine V_iload_n (i := 1) (sx_di dX11_visits 21 rfl) rfl rfl ?_
    refine V_icmp_ge (tgt := 74) (sx_di dX11_visits 22 rfl) (by decide) (fun h37 => absurd h37 (fun z => absurd ((nI_leI (a := m) (b := k) (by omega) (by omega)).mp z) (by omega))) (fun _ => ?_)
    refine V_aload_n (i := 0) (sx_di dX11_visits 23 rfl) rfl rfl ?_
    refine V_getR (sx_di dX11_visits 24 rfl) fX11_64 (fun _ => rfl) (hB3.k _ rfl) (hB3.r _ _ rfl) ?_
    refine V_aload_n (i := 0) (sx_di dX11_visits 25 rfl) rfl rfl ?_
    refine V_getR (sx_di dX11_visits 26 rfl) fX11_28 (fun _ => rfl) (hB3.k _ rfl) (hB3.r _ _ rfl) ?_
    refine V_cV0 (mc' := 0) (ms' := 0) (M' := mX2_holding) 1 (sx_di dX11_visits 27 rfl) lX11_195 vX2_holding (hB3.k _ rfl) (by decide) rfl (Nat.le_of_ble_eq_true rfl) ⟨Nat.le_of_ble_eq_true rfl, Nat.le_of_ble_eq_true rfl⟩ ⟨Nat.le_refl _, Nat.le_refl _⟩ ?_
    refine e_hold (w := hp_wr w (ra_ w t) J) (ra_B hB t _) (AP_hd hh hA) (fun lv hlv => ?_)
    refine V_cV1 (mc' := 0) (ms' := 0) (M' := mX7_passDay) 6 (sx_di dX11_visits 28 rfl) lX11_262 vX7_passDay (hB3.k _ rfl) (by decide) rfl (Nat.le_of_ble_eq_true rfl) ⟨Nat.le_of_ble_eq_true rfl, Nat.le_of_ble_eq_true rfl⟩ ⟨Nat.le_refl _, Nat.le_refl _⟩ ?_
    refine e_apart C hA hlv (fun J2 r A2 => ?_)
    have e42 : hp_i (hp_wr w (ra_ w t) J2) 64 9 = dn_ F (hp_i w) t n m0 s (k + 1) 42 := A2.2.1.2.2.2.1
    refine V_pop (sx_di dX11_visits 29 rfl) rfl ?_
    refine V_iload_n (i := 2) (sx_di dX11_visits 30 rfl) rfl rfl ?_
    refine V_aload_n (i := 0) (sx_di dX11_visits 31 rfl) rfl rfl ?_
    refine V_getR (sx_di dX11_visits 32 rfl) fX11_64 (fun _ => rfl) (hB3.k _ rfl) (hB3.r _ _ rfl) ?_
    refine V_getI (sx_di dX11_visits 33 rfl) fX11_161 (fun _ => rfl) (hB3.k _ rfl) ?_
    refine V_cS1 (mc' := 0) (ms' := 0) (M' := mX11_bitOf) 1 (sx_di dX11_visits 34 rfl) lX11_296 vX11_bitOf (Nat.le_of_ble_eq_true rfl) ⟨Nat.le_of_ble_eq_true rfl, Nat.le_of_ble_eq_true rfl⟩ ⟨Nat.le_refl _, Nat.le_refl _⟩ ?_
    refine c_X11_bitOf ?_
    rw [e42]
    refine V_ior (sx_di dX11_visits 35 rfl) ?_
    refine V_istore_n (i := 2) (sx_di dX11_visits 36 rfl) rfl (by decide) (rfl) ?_
    refine V_inc (c := 1) (sx_di dX11_visits 37 rfl) (by decide) rfl (by decide) (rfl) ?_
    refine V_goto (tgt := 35) (sx_di dX11_visits 38 rfl) (by decide) ?_
    exact V_subk (q1 J2 (by omega) A2) ⟨rfl, rfl, rfl, rfl, trivial⟩
set_option maxHeartbeats 2000000 in
set_option maxRecDepth 20000 in
theorem c_X11_visits {E : sxE} {w : hpW} {Q : Option Value → hpW → Prop} {t n : Nat} {F : wF} {m0 s : Nat → Int32} (C : CQ w t n F m0 s) {x : Int32} (h0 : ay_ n x → Q (some (.int (-1))) w) (h1 : ¬ ay_ n x → ∀ m, m ≤ 60 → x = nI m → ∀ J, fr_ w J QS → Q (some (.int (vs_ (dn_ F (hp_i w) t n m0 s) m))) (hp_wr w (ra_ w t) J)) : sx_C E mX11_visits 7 0 0 [.ref 16, .int x] w Q := by
  obtain ⟨hB, ht, hst, hn, hn8, ht57, ht2, hh, hv, hm⟩ := id C
  refine C_of (by decide +kernel) (Nat.le_of_ble_eq_true rfl) ?_
  refine V_aload_n (i := 0) (sx_di dX11_visits 0 rfl) rfl rfl ?_
  refine V_cV0 (mc' := 0) (ms' := 0) (M' := mX11_isStreet) 1 (sx_di dX11_visits 1 rfl) lX11_154 vX11_isStreet (hB.k _ rfl) (by decide) rfl (Nat.le_of_ble_eq_true rfl) ⟨Nat.le_of_ble_eq_true rfl, Nat.le_of_ble_eq_true rfl⟩ ⟨Nat.le_refl _, Nat.le_refl _⟩ ?_
  refine c_X11_isStreet hB ht hst hn hn8 ?_
  refine V_if_eq (tgt := 18) (sx_di dX11_visits 2 rfl) (by decide) (fun h4 => ?_) (fun h4 => ?_)
  · have h5 : n = 0 := by
      rcases Classical.em (n = 0) with q | q
      · exact q
      · rw [if_neg q] at h4; exact absurd h4 (by decide)
    refine V_iconst (v := -1) (sx_di dX11_visits 9 rfl) (by decide) ?_
    refine V_iret (sx_di dX11_visits 10 rfl) rfl (Nat.le_refl _) (Nat.le_refl _) ?_
    exact h0 (Or.inl h5)
  · have h5 : ¬ n = 0 := fun q => h4 (if_pos q)
    refine V_iload_n (i := 1) (sx_di dX11_visits 3 rfl) rfl rfl ?_
    refine V_iconst (v := 1) (sx_di dX11_visits 4 rfl) (by decide) ?_
    refine V_icmp_lt (tgt := 18) (sx_di dX11_visits 5 rfl) (by decide) (fun h9 => ?_) (fun h9 => ?_)
    · refine V_iconst (v := -1) (sx_di dX11_visits 9 rfl) (by decide) ?_
      refine V_iret (sx_di dX11_visits 10 rfl) rfl (Nat.le_refl _) (Nat.le_refl _) ?_
      exact h0 (Or.inr (Or.inl h9))
    · have hp9 : ¬ x < 0 := fun q => h9 (Int32.lt_trans q (by decide))
      refine V_iload_n (i := 1) (sx_di dX11_visits 6 rfl) rfl rfl ?_
      refine V_bipush (v := 60) (sx_di dX11_visits 7 rfl) (by decide) ?_
      refine V_icmp_le (tgt := 20) (sx_di dX11_visits 8 rfl) (by decide) (fun h15 => ?_) (fun h15 => ?_)
      · have hok : ¬ ay_ n x := fun q => q.elim h5 (fun q => q.elim h9 (Int32.not_lt.mpr h15))
        obtain ⟨m, hm60, rfl⟩ := nI_of2 (M := 60) (n := 60) (by decide) hp9 h15
        refine V_iconst (v := 0) (sx_di dX11_visits 11 rfl) (by decide) ?_
        refine V_istore_n (i := 2) (sx_di dX11_visits 12 rfl) rfl (by decide) (rfl) ?_
        refine V_aload_n (i := 0) (sx_di dX11_visits 13 rfl) rfl rfl ?_
        refine V_getR (sx_di dX11_visits 14 rfl) fX11_64 (fun _ => rfl) (hB.k _ rfl) (hB.r _ _ rfl) ?_
        refine V_aload_n (i := 0) (sx_di dX11_visits 15 rfl) rfl rfl ?_
        refine V_getR (sx_di dX11_visits 16 rfl) fX11_60 (fun _ => rfl) (hB.k _ rfl) (hB.r _ _ rfl) ?_
        refine V_cV1 (mc' := 0) (ms' := 0) (M' := mX7_copyFrom) 2 (sx_di dX11_visits 17 rfl) lX11_293 vX7_copyFrom (hB.k _ rfl) (by decide) rfl (Nat.le_of_ble_eq_true rfl) ⟨Nat.le_of_ble_eq_true rfl, Nat.le_of_ble_eq_true rfl⟩ ⟨Nat.le_refl _, Nat.le_refl _⟩ ?_
        refine c_X7_copyFrom (ss_64 hB) (ss_57 hB) (by decide) ht57 ?_
        refine V_iconst (v := 0) (sx_di dX11_visits 18 rfl) (by decide) ?_
        refine V_istore_n (i := 3) (sx_di dX11_visits 19 rfl) rfl (by decide) (rfl) ?_
        refine V_sub (ls' := [(3, .int (nI 0)), (2, .int (vs_ (dn_ F (hp_i w) t n m0 s) 0)), (1, .int (nI m)), (0, .ref 16)]) ⟨rfl, rfl, rfl, rfl, trivial⟩ ?_
        exact vs_lp C hm60 (h1 hok m hm60 rfl) m 0 _ (by omega) (AP_0 C)
      · refine V_iconst (v := -1) (sx_di dX11_visits 9 rfl) (by decide) ?_
        refine V_iret (sx_di dX11_visits 10 rfl) rfl (Nat.le_refl _) (Nat.le_refl _) ?_
        exact h0 (Or.inr (Or.inr (Int32.not_le.mp h15)))
set_option maxHeartbeats 2000000 in
set_option maxRecDepth 20000 in
theorem em_lp {E : sxE} {w : hpW} {Q : Option Value → hpW → Prop} {t n : Nat} {F : wF} {m0 s : Nat → Int32} (C : CQ w t n F m0 s) {m : Nat} (hm60 : m ≤ 60) (h : ∀ J, fr_ w J QS → Q (some (.int (em_ (dn_ F (hp_i w) t n m0 s) m))) (hp_wr w (ra_ w t) J)) : ∀ q k J, k + q = m → AP w n m0 J (dn_ F (hp_i w) t n m0 s k) → V E mX11_empty (sx_rm 7 0 0) 0 0 0 0 35 [(3, .int (nI k)), (2, .int (em_ (dn_ F (hp_i w) t n m0 s) k)), (1, .int (nI m)), (0, .ref 16)] [] (hp_wr w (ra_ w t) J) Q := by
  obtain ⟨hB, ht, hst, hn, hn8, ht57, ht2, hh, hv, hm⟩ := id C
  have hB3 := ra_B hB t (hp_i w)
  intro q
  induction q with
  | zero =>
    intro k J hk hA
    have e : k = m := by omega
    subst e
    refine V_iload_n (i := 3) (sx_di dX11_empty 20 rfl) rfl rfl ?_
    refine V_iload_n (i := 1) (sx_di dX11_empty 21 rfl) rfl rfl ?_
    refine V_icmp_ge (tgt := 75) (sx_di dX11_empty 22 rfl) (by decide) (fun _ => ?_) (fun h37 => absurd (Int32.le_refl _) h37)
    refine V_iload_n (i := 2) (sx_di dX11_empty 38 rfl) rfl rfl ?_
    refine V_iret (sx_di dX11_empty 39 rfl) rfl (Nat.le_refl _) (Nat.le_refl _) ?_
    exact h J hA.1
  | succ q ih =>
    intro k J hk hA
    have q1 := ih (k + 1)
    rw [← nI_1] at q1
    refine V_iload_n (i := 3) (sx_di dX11_empty 20 rfl) rfl rfl ?_
    refine V_iload_n (i := 1) (sx_di dX11_empty 21 rfl) rfl rfl ?_
    refine V_icmp_ge (tgt := 75) (sx_di dX11_empty 22 rfl) (by decide) (fun h37 => absurd h37 (fun z => absurd ((nI_leI (a := m) (b := k) (by omega) (by omega)).mp z) (by omega))) (fun _ => ?_)
    refine V_aload_n (i := 0) (sx_di dX11_empty 23 rfl) rfl rfl ?_
    refine V_getR (sx_di dX11_empty 24 rfl) fX11_64 (fun _ => rfl) (hB3.k _ rfl) (hB3.r _ _ rfl) ?_
    refine V_aload_n (i := 0) (sx_di dX11_empty 25 rfl) rfl rfl ?_
    refine V_getR (sx_di dX11_empty 26 rfl) fX11_28 (fun _ => rfl) (hB3.k _ rfl) (hB3.r _ _ rfl) ?_
    refine V_cV0 (mc' := 0) (ms' := 0) (M' := mX2_holding) 1 (sx_di dX11_empty 27 rfl) lX11_195 vX2_holding (hB3.k _ rfl) (by decide) rfl (Nat.le_of_ble_eq_true rfl) ⟨Nat.le_of_ble_eq_true rfl, Nat.le_of_ble_eq_true rfl⟩ ⟨Nat.le_refl _, Nat.le_refl _⟩ ?_
    refine e_hold (w := hp_wr w (ra_ w t) J) (ra_B hB t _) (AP_hd hh hA) (fun lv hlv => ?_)
    refine V_cV1 (mc' := 0) (ms' := 0) (M' := mX7_passDay) 6 (sx_di dX11_empty 28 rfl) lX11_262 vX7_passDay (hB3.k _ rfl) (by decide) rfl (Nat.le_of_ble_eq_true rfl) ⟨Nat.le_of_ble_eq_true rfl, Nat.le_of_ble_eq_true rfl⟩ ⟨Nat.le_refl _, Nat.le_refl _⟩ ?_
    refine e_apart C hA hlv (fun J2 r A2 => ?_)
    have e42 : hp_i (hp_wr w (ra_ w t) J2) 64 9 = dn_ F (hp_i w) t n m0 s (k + 1) 42 := A2.2.1.2.2.2.1
    refine V_pop (sx_di dX11_empty 29 rfl) rfl ?_
    refine V_aload_n (i := 0) (sx_di dX11_empty 30 rfl) rfl rfl ?_
    refine V_getR (sx_di dX11_empty 31 rfl) fX11_64 (fun _ => rfl) (hB3.k _ rfl) (hB3.r _ _ rfl) ?_
    refine V_getI (sx_di dX11_empty 32 rfl) fX11_161 (fun _ => rfl) (hB3.k _ rfl) ?_
    refine V_iconst (v := -1) (sx_di dX11_empty 33 rfl) (by decide) ?_
    refine V_icmp_ne (tgt := 69) (sx_di dX11_empty 34 rfl) (by decide) (fun h63 => ?_) (fun h63 => ?_)
    · rw [e42] at h63
      have q2 := q1 J2 (by omega) A2
      rw [em_, if_neg h63, Int32.add_zero] at q2
      refine V_inc (c := 1) (sx_di dX11_empty 36 rfl) (by decide) rfl (by decide) (rfl) ?_
      refine V_goto (tgt := 35) (sx_di dX11_empty 37 rfl) (by decide) ?_
      exact V_subk q2 ⟨rfl, rfl, rfl, rfl, trivial⟩
    · rw [e42] at h63
      have q2 := q1 J2 (by omega) A2
      rw [em_, if_pos h63] at q2
      refine V_inc (c := 1) (sx_di dX11_empty 35 rfl) (by decide) rfl (by decide) (rfl) ?_
      refine V_inc (c := 1) (sx_di dX11_empty 36 rfl) (by decide) rfl (by decide) (rfl) ?_
      refine V_goto (tgt := 35) (sx_di dX11_empty 37 rfl) (by decide) ?_
      exact V_subk q2 ⟨rfl, rfl, rfl, rfl, trivial⟩
set_option maxHeartbeats 2000000 in
set_option maxRecDepth 20000 in
theorem c_X11_empty {E : sxE} {w : hpW} {Q : Option Value → hpW → Prop} {t n : Nat} {F : wF} {m0 s : Nat → Int32} (C : CQ w t n F m0 s) {x : Int32} (h0 : ay_ n x → Q (some (.int (-1))) w) (h1 : ¬ ay_ n x → ∀ m, m ≤ 60 → x = nI m → ∀ J, fr_ w J QS → Q (some (.int (em_ (dn_ F (hp_i w) t n m0 s) m))) (hp_wr w (ra_ w t) J)) : sx_C E mX11_empty 7 0 0 [.ref 16, .int x] w Q := by
  obtain ⟨hB, ht, hst, hn, hn8, ht57, ht2, hh, hv, hm⟩ := id C
  refine C_of (by decide +kernel) (Nat.le_of_ble_eq_true rfl) ?_
  refine V_aload_n (i := 0) (sx_di dX11_empty 0 rfl) rfl rfl ?_
  refine V_cV0 (mc' := 0) (ms' := 0) (M' := mX11_isStreet) 1 (sx_di dX11_empty 1 rfl) lX11_154 vX11_isStreet (hB.k _ rfl) (by decide) rfl (Nat.le_of_ble_eq_true rfl) ⟨Nat.le_of_ble_eq_true rfl, Nat.le_of_ble_eq_true rfl⟩ ⟨Nat.le_refl _, Nat.le_refl _⟩ ?_
  refine c_X11_isStreet hB ht hst hn hn8 ?_
  refine V_if_eq (tgt := 18) (sx_di dX11_empty 2 rfl) (by decide) (fun h4 => ?_) (fun h4 => ?_)
  · have h5 : n = 0 := by
      rcases Classical.em (n = 0) with q | q
      · exact q
      · rw [if_neg q] at h4; exact absurd h4 (by decide)
    refine V_iconst (v := -1) (sx_di dX11_empty 9 rfl) (by decide) ?_
    refine V_iret (sx_di dX11_empty 10 rfl) rfl (Nat.le_refl _) (Nat.le_refl _) ?_
    exact h0 (Or.inl h5)
  · have h5 : ¬ n = 0 := fun q => h4 (if_pos q)
    refine V_iload_n (i := 1) (sx_di dX11_empty 3 rfl) rfl rfl ?_
    refine V_iconst (v := 1) (sx_di dX11_empty 4 rfl) (by decide) ?_
    refine V_icmp_lt (tgt := 18) (sx_di dX11_empty 5 rfl) (by decide) (fun h9 => ?_) (fun h9 => ?_)
    · refine V_iconst (v := -1) (sx_di dX11_empty 9 rfl) (by decide) ?_
      refine V_iret (sx_di dX11_empty 10 rfl) rfl (Nat.le_refl _) (Nat.le_refl _) ?_
      exact h0 (Or.inr (Or.inl h9))
    · have hp9 : ¬ x < 0 := fun q => h9 (Int32.lt_trans q (by decide))
      refine V_iload_n (i := 1) (sx_di dX11_empty 6 rfl) rfl rfl ?_
      refine V_bipush (v := 60) (sx_di dX11_empty 7 rfl) (by decide) ?_
      refine V_icmp_le (tgt := 20) (sx_di dX11_empty 8 rfl) (by decide) (fun h15 => ?_) (fun h15 => ?_)
      · have hok : ¬ ay_ n x := fun q => q.elim h5 (fun q => q.elim h9 (Int32.not_lt.mpr h15))
        obtain ⟨m, hm60, rfl⟩ := nI_of2 (M := 60) (n := 60) (by decide) hp9 h15
        refine V_iconst (v := 0) (sx_di dX11_empty 11 rfl) (by decide) ?_
        refine V_istore_n (i := 2) (sx_di dX11_empty 12 rfl) rfl (by decide) (rfl) ?_
        refine V_aload_n (i := 0) (sx_di dX11_empty 13 rfl) rfl rfl ?_
        refine V_getR (sx_di dX11_empty 14 rfl) fX11_64 (fun _ => rfl) (hB.k _ rfl) (hB.r _ _ rfl) ?_
        refine V_aload_n (i := 0) (sx_di dX11_empty 15 rfl) rfl rfl ?_
        refine V_getR (sx_di dX11_empty 16 rfl) fX11_60 (fun _ => rfl) (hB.k _ rfl) (hB.r _ _ rfl) ?_
        refine V_cV1 (mc' := 0) (ms' := 0) (M' := mX7_copyFrom) 2 (sx_di dX11_empty 17 rfl) lX11_293 vX7_copyFrom (hB.k _ rfl) (by decide) rfl (Nat.le_of_ble_eq_true rfl) ⟨Nat.le_of_ble_eq_true rfl, Nat.le_of_ble_eq_true rfl⟩ ⟨Nat.le_refl _, Nat.le_refl _⟩ ?_
        refine c_X7_copyFrom (ss_64 hB) (ss_57 hB) (by decide) ht57 ?_
        refine V_iconst (v := 0) (sx_di dX11_empty 18 rfl) (by decide) ?_
        refine V_istore_n (i := 3) (sx_di dX11_empty 19 rfl) rfl (by decide) (rfl) ?_
        refine V_sub (ls' := [(3, .int (nI 0)), (2, .int (em_ (dn_ F (hp_i w) t n m0 s) 0)), (1, .int (nI m)), (0, .ref 16)]) ⟨rfl, rfl, rfl, rfl, trivial⟩ ?_
        exact em_lp C hm60 (h1 hok m hm60 rfl) m 0 _ (by omega) (AP_0 C)
      · refine V_iconst (v := -1) (sx_di dX11_empty 9 rfl) (by decide) ?_
        refine V_iret (sx_di dX11_empty 10 rfl) rfl (Nat.le_refl _) (Nat.le_refl _) ?_
        exact h0 (Or.inr (Or.inr (Int32.not_le.mp h15)))

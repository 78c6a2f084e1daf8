/-! odds of moods -/
def mo_ (p ch : Int32) : Int32 := (p.toInt64 * ch.toInt64 / 100).toInt32
noncomputable def od_ (A : AS) (g ch : Int32) : Nat → Nat → (Nat → Int32) → Int32 → Int32
  | 0, _, r, p => if go2 A r = g then p else 0
  | q + 1, h, r, p => od_ A g ch q (h + 1) r (p - mo_ p ch) + od_ A g ch q (h + 1) (up_ r h (mn_ 9 (r h + 1))) (mo_ p ch)
def pr_ (ch : Int32) : Nat → Nat → Int32
  | 0, _ => 1000000000
  | h + 1, s => if 2 ^ h ≤ s then mo_ (pr_ ch h (s - 2 ^ h)) ch else pr_ ch h s - mo_ (pr_ ch h s) ch
def or_ (r : Nat → Int32) (s k : Nat) : Nat → Int32 := fun j => if j < k ∧ s.testBit j = true then mn_ 9 (r j + 1) else r j
noncomputable def fo1 (A : AS) (h : Nat) : Int32 := mv2 A (up_ (a_r A) h (mn_ 9 (a_r A h + 1))) h
noncomputable def og_ (A : AS) (s : Nat) : Int32 := gmx_ (mv2 A (a_r A)) (fo1 A) (nI s) (a_n A)
theorem tbit_ : ∀ h, h < 8 → ∀ s, s < 256 → ((nI s >>> (nI h &&& 31)) &&& 1 = 0 ↔ s.testBit h = false) := by decide +kernel
theorem mn9 {k : Nat} (h : k ≤ 9) : ∃ q, q ≤ 9 ∧ mn_ 9 (nI k + 1) = nI q := by
  have key : ∀ k, k < 10 → mn_ 9 (nI k + 1) = nI (if k < 9 then k + 1 else 9) := by decide +kernel
  exact ⟨_, by split <;> omega, key k (by omega)⟩
theorem or_0 (r : Nat → Int32) (s : Nat) : or_ r s 0 = r := by funext j; unfold or_; rw [if_neg (by omega)]
theorem or_lo (r : Nat → Int32) {s h : Nat} (hs : s < 2 ^ h) : or_ r s (h + 1) = or_ r s h := by
  funext j
  unfold or_
  by_cases e : j = h
  · rw [e, Nat.testBit_lt_two_pow hs, if_neg (by simp), if_neg (by simp)]
  · by_cases h2 : j < h ∧ s.testBit j = true
    · rw [if_pos h2, if_pos ⟨by omega, h2.2⟩]
    · rw [if_neg h2, if_neg (fun z => h2 ⟨by omega, z.2⟩)]
theorem or_hi (r : Nat → Int32) {s h : Nat} (hs : s < 2 ^ h) : or_ r (s + 2 ^ h) (h + 1) = up_ (or_ r s h) h (mn_ 9 (or_ r s h h + 1)) := by
  funext j
  unfold up_
  have e0 : or_ r s h h = r h := by unfold or_; rw [if_neg (by omega)]
  rw [e0]
  unfold or_
  rw [Nat.add_comm s]
  by_cases e : j = h
  · rw [if_pos e, e, Nat.testBit_two_pow_add_eq, Nat.testBit_lt_two_pow hs, if_pos ⟨by omega, rfl⟩]
  · rw [if_neg e]
    by_cases hj : j < h
    · rw [Nat.testBit_two_pow_add_gt hj]
      by_cases h2 : s.testBit j = true
      · rw [if_pos ⟨by omega, h2⟩, if_pos ⟨hj, h2⟩]
      · rw [if_neg (fun z => h2 z.2), if_neg (fun z => h2 z.2)]
    · rw [if_neg (fun z => by omega), if_neg (fun z => by omega)]
theorem OKF_o1 {n m : Nat} {r : Nat → Int32} {h : Nat} (hn : n ≤ 8) (hh : h < n) (H : OKF n m r) : OKF n m (up_ r h (mn_ 9 (r h + 1))) := by
  obtain ⟨⟨k, hk, ek⟩, _⟩ := H.1.1 h hh
  obtain ⟨q, hq, eq⟩ := mn9 hk
  rw [ek, eq]
  exact OKF_mi hn hh H hq
theorem or_go {A : AS} (V : AV A) {s : Nat} (hs : s < 2 ^ a_n A) : go2 A (or_ (a_r A) s (a_n A)) = og_ A s := by
  have hn8 := V.2.2.1.1
  have hp := p2_le hn8
  refine gl_cg (fun h hh => ?_)
  show mv2 A (or_ (a_r A) s (a_n A)) h = if (nI s >>> (nI h &&& 31)) &&& 1 = 0 then mv2 A (a_r A) h else fo1 A h
  have tb := tbit_ h (by omega) s (by omega)
  by_cases hb : (nI s >>> (nI h &&& 31)) &&& 1 = 0
  · rw [if_pos hb]
    refine mv2_cg (fun j hj => ?_)
    unfold or_
    rw [if_neg (fun z => ?_)]
    have e : j = h := by omega
    rw [e, tb.mp hb] at z
    exact absurd z.2 (by simp)
  · rw [if_neg hb]
    have ht : s.testBit h = true := by
      cases hx : s.testBit h with
      | true => rfl
      | false => exact absurd (tb.mpr hx) hb
    refine mv2_cg (fun j hj => ?_)
    unfold or_ up_
    by_cases e : j = h
    · rw [if_pos ⟨by omega, by rw [e]; exact ht⟩, if_pos e, e]
    · rw [if_neg (fun z => by omega), if_neg e]
noncomputable def oF_ (A : AS) (g ch : Int32) (s : Nat) : Int32 := if og_ A s = g then pr_ ch (a_n A) s else 0
theorem sm_eo (f : Nat → Int32) : ∀ m, sm_ f (2 * m) = sm_ (fun t => f (2 * t)) m + sm_ (fun t => f (2 * t + 1)) m
  | 0 => by
    show (0 : Int32) = 0 + 0
    decide
  | m + 1 => by
    show sm_ f (2 * m) + f (2 * m) + f (2 * m + 1) = (sm_ (fun t => f (2 * t)) m + f (2 * m)) + (sm_ (fun t => f (2 * t + 1)) m + f (2 * m + 1))
    rw [sm_eo f m]
    generalize sm_ (fun t => f (2 * t)) m = a
    generalize sm_ (fun t => f (2 * t + 1)) m = b
    generalize f (2 * m) = c
    generalize f (2 * m + 1) = d
    rw [Int32.add_assoc, Int32.add_assoc, Int32.add_assoc, ← Int32.add_assoc b c d, Int32.add_comm b c, Int32.add_assoc c b d]
theorem sm_cg {f g : Nat → Int32} : ∀ m, (∀ t, t < m → f t = g t) → sm_ f m = sm_ g m
  | 0, _ => rfl
  | m + 1, h => by
    show sm_ f m + f m = sm_ g m + g m
    rw [sm_cg m (fun t ht => h t (by omega)), h m (by omega)]
theorem od_sum {A : AS} (V : AV A) (g ch : Int32) : ∀ q h s, h + q = a_n A → s < 2 ^ h → od_ A g ch q h (or_ (a_r A) s h) (pr_ ch h s) = sm_ (fun t => oF_ A g ch (s + 2 ^ h * t)) (2 ^ q)
  | 0, h, s, hq, hs => by
    have e : h = a_n A := by omega
    subst e
    show (if go2 A (or_ (a_r A) s (a_n A)) = g then pr_ ch (a_n A) s else 0) = 0 + oF_ A g ch (s + 2 ^ a_n A * 0)
    rw [or_go V hs, Int32.zero_add, Nat.mul_zero, Nat.add_zero]
    rfl
  | q + 1, h, s, hq, hs => by
    have h1 := od_sum V g ch q (h + 1) s (by omega) (by rw [Nat.pow_succ]; omega)
    have h2 := od_sum V g ch q (h + 1) (s + 2 ^ h) (by omega) (by rw [Nat.pow_succ]; omega)
    rw [or_lo _ hs] at h1
    rw [or_hi _ hs] at h2
    have p1 : pr_ ch (h + 1) s = pr_ ch h s - mo_ (pr_ ch h s) ch := if_neg (by omega)
    have p2 : pr_ ch (h + 1) (s + 2 ^ h) = mo_ (pr_ ch h s) ch := by
      show (if 2 ^ h ≤ s + 2 ^ h then mo_ (pr_ ch h (s + 2 ^ h - 2 ^ h)) ch else _) = _
      rw [if_pos (by omega), Nat.add_sub_cancel]
    rw [p1] at h1
    rw [p2] at h2
    show od_ A g ch q (h + 1) (or_ (a_r A) s h) (pr_ ch h s - mo_ (pr_ ch h s) ch) + od_ A g ch q (h + 1) (up_ (or_ (a_r A) s h) h (mn_ 9 (or_ (a_r A) s h h + 1))) (mo_ (pr_ ch h s) ch) = _
    rw [h1, h2, show 2 ^ (q + 1) = 2 * 2 ^ q by rw [Nat.pow_succ]; omega, sm_eo]
    congr 1
    · refine sm_cg _ (fun t _ => ?_)
      show oF_ A g ch (s + 2 ^ (h + 1) * t) = oF_ A g ch (s + 2 ^ h * (2 * t))
      rw [Nat.pow_succ, Nat.mul_assoc]
    · refine sm_cg _ (fun t _ => ?_)
      show oF_ A g ch (s + 2 ^ h + 2 ^ (h + 1) * t) = oF_ A g ch (s + 2 ^ h * (2 * t + 1))
      rw [Nat.pow_succ, Nat.mul_assoc, Nat.mul_add, Nat.mul_one, Nat.add_assoc, Nat.add_comm (2 ^ h)]
noncomputable def q_odds (A : AS) (x y : Int32) : Int32 := if a_n A = 0 ∨ (¬ x = -1 ∧ ih_ (a_n A) x = 0) ∨ y < 0 ∨ 100 < y then -1 else sm_ (oF_ A x y) (2 ^ a_n A)
set_option maxHeartbeats 2000000 in
set_option maxRecDepth 20000 in
theorem e_oddsFrom {E : sxE} {A : AS} (VA : AV A) {g ch : Int32} : ∀ q h r p (w : hpW) (Q : Option Value → hpW → Prop), h + q = a_n A → OKF (a_n A) (a_m A) r → RR (pt_r A r) w → (∀ w', RR (pt_r A r) w' → fC w w' → Q (some (.int (od_ A g ch q h r p))) w') → sx_C E mX12_oddsFrom (8 + q) 0 0 [.ref 381, .int (nI h), .int g, .int ch, .int p] w Q := by
  intro q
  have hn8 := VA.2.2.1.1
  induction q with
  | zero =>
    intro h r p w Q hq hO H hQ
    have hB := H.1
    have hn := H.2.2.2.1.1
    have e : h = a_n A := by omega
    subst e
    unfold od_ at hQ
    refine C_of (by decide +kernel) (Nat.le_of_ble_eq_true rfl) ?_
    refine V_iload_n (i := 1) (sx_di dX12_oddsFrom 0 rfl) rfl rfl ?_
    refine V_aload_n (i := 0) (sx_di dX12_oddsFrom 1 rfl) rfl rfl ?_
    refine V_getI (sx_di dX12_oddsFrom 2 rfl) fX12_258 (fun _ => rfl) (hB.k _ rfl) ?_
    refine V_iv (y := nI (a_n A)) (hn) ?_
    refine V_icN_ne (a := (a_n A)) (b := (a_n A)) (rfl) (rfl) (by omega) (by omega) (tgt := 23) (sx_di dX12_oddsFrom 3 rfl) (by decide) (fun h5 => absurd h5 (by omega)) (fun _ => ?_)
    refine V_aload_n (i := 0) (sx_di dX12_oddsFrom 4 rfl) rfl rfl ?_
    refine V_cV0 (mc' := 0) (ms' := 0) (M' := mX12_wouldGo) 7 (sx_di dX12_oddsFrom 5 rfl) lX12_305 vX12_wouldGo (hB.k _ rfl) (by decide) rfl (Nat.le_of_ble_eq_true rfl) ⟨Nat.le_of_ble_eq_true rfl, Nat.le_of_ble_eq_true rfl⟩ ⟨Nat.le_refl _, Nat.le_refl _⟩ ?_
    refine e_wouldGo VA hO H (fun w2 H2 f2 => ?_)
    refine V_iload_n (i := 2) (sx_di dX12_oddsFrom 6 rfl) rfl rfl ?_
    refine V_icmp_ne (tgt := 21) (sx_di dX12_oddsFrom 7 rfl) (by decide) (fun h13 => ?_) (fun h13 => ?_)
    · rw [if_neg h13] at hQ
      refine V_iconst (v := 0) (sx_di dX12_oddsFrom 10 rfl) (by decide) ?_
      refine V_iret (sx_di dX12_oddsFrom 11 rfl) rfl (Nat.le_refl _) (Nat.le_refl _) ?_
      exact hQ w2 H2 f2
    · rw [if_pos h13] at hQ
      refine V_iload (sx_di dX12_oddsFrom 8 rfl) rfl ?_
      refine V_goto (tgt := 22) (sx_di dX12_oddsFrom 9 rfl) (by decide) ?_
      refine V_iret (sx_di dX12_oddsFrom 11 rfl) rfl (Nat.le_refl _) (Nat.le_refl _) ?_
      exact hQ w2 H2 f2
  | succ q ih =>
    intro h r p w Q hq hO H hQ
    have hB := H.1
    have hn := H.2.2.2.1.1
    have hr : hp_i w 398 h = r h := congrFun H.2.2.2.2.1 h
    unfold od_ at hQ
    refine C_of (by decide +kernel) (Nat.le_of_ble_eq_true rfl) ?_
    refine V_iload_n (i := 1) (sx_di dX12_oddsFrom 0 rfl) rfl rfl ?_
    refine V_aload_n (i := 0) (sx_di dX12_oddsFrom 1 rfl) rfl rfl ?_
    refine V_getI (sx_di dX12_oddsFrom 2 rfl) fX12_258 (fun _ => rfl) (by first | exact hB.k _ rfl | exact hB2.k _ rfl | exact hB4.k _ rfl) ?_
    refine V_iv (y := nI (a_n A)) (hn) ?_
    refine V_icN_ne (a := h) (b := (a_n A)) (rfl) (rfl) (by omega) (by omega) (tgt := 23) (sx_di dX12_oddsFrom 3 rfl) (by decide) (fun _ => ?_) (fun h5 => absurd h5 (by omega))
    refine V_iload (sx_di dX12_oddsFrom 12 rfl) rfl ?_
    refine V_i2l (sx_di dX12_oddsFrom 13 rfl) ?_
    refine V_iload_n (i := 3) (sx_di dX12_oddsFrom 14 rfl) rfl rfl ?_
    refine V_i2l (sx_di dX12_oddsFrom 15 rfl) ?_
    refine V_lmul (sx_di dX12_oddsFrom 16 rfl) ?_
    refine V_ldc2 (sx_di dX12_oddsFrom 17 rfl) kX12_423 ?_
    refine V_ldiv (sx_di dX12_oddsFrom 18 rfl) (by decide) ?_
    refine V_l2i (sx_di dX12_oddsFrom 19 rfl) ?_
    refine V_iv (y := mo_ p ch) (rfl) ?_
    refine V_istore (sx_di dX12_oddsFrom 20 rfl) (by decide) (rfl) ?_
    refine V_aload_n (i := 0) (sx_di dX12_oddsFrom 21 rfl) rfl rfl ?_
    refine V_getR (sx_di dX12_oddsFrom 22 rfl) fX12_58 (fun _ => rfl) (by first | exact hB.k _ rfl | exact hB2.k _ rfl | exact hB4.k _ rfl) (by first | exact hB.r _ _ rfl | exact hB2.r _ _ rfl | exact hB4.r _ _ rfl) ?_
    refine V_iconst (v := 0) (sx_di dX12_oddsFrom 23 rfl) (by decide) ?_
    refine V_iload_n (i := 1) (sx_di dX12_oddsFrom 24 rfl) rfl rfl ?_
    refine V_iadd (sx_di dX12_oddsFrom 25 rfl) ?_
    refine V_ialdN (n := 226) (j := h) (sx_di dX12_oddsFrom 26 rfl) (by first | exact hB.k _ rfl | exact hB2.k _ rfl | exact hB4.k _ rfl) (nx_z0 (rfl)) (by omega) (by omega) ?_
    refine V_iv (y := r h) (hr) ?_
    refine V_istore (sx_di dX12_oddsFrom 27 rfl) (by decide) (rfl) ?_
    refine V_aload_n (i := 0) (sx_di dX12_oddsFrom 28 rfl) rfl rfl ?_
    refine V_iload_n (i := 1) (sx_di dX12_oddsFrom 29 rfl) rfl rfl ?_
    refine V_iconst (v := 1) (sx_di dX12_oddsFrom 30 rfl) (by decide) ?_
    refine V_iadd (sx_di dX12_oddsFrom 31 rfl) ?_
    refine V_iv (y := nI (h + 1)) (nI_add h 1) ?_
    refine V_iload_n (i := 2) (sx_di dX12_oddsFrom 32 rfl) rfl rfl ?_
    refine V_iload_n (i := 3) (sx_di dX12_oddsFrom 33 rfl) rfl rfl ?_
    refine V_iload (sx_di dX12_oddsFrom 34 rfl) rfl ?_
    refine V_iload (sx_di dX12_oddsFrom 35 rfl) rfl ?_
    refine V_isub (sx_di dX12_oddsFrom 36 rfl) ?_
    refine V_cV4 (mc' := 0) (ms' := 0) (M' := mX12_oddsFrom) (8 + q) (sx_di dX12_oddsFrom 37 rfl) lX12_425 vX12_oddsFrom (by first | exact hB.k _ rfl | exact hB2.k _ rfl | exact hB4.k _ rfl) (by decide) rfl (Nat.le_of_ble_eq_true rfl) ⟨by show 8 + q + 1 ≤ 8 + (q + 1); omega, by show 64 + 64 * (8 + q) ≤ 64 * (8 + (q + 1)); omega⟩ ⟨Nat.le_refl _, Nat.le_refl _⟩ ?_
    refine ih (h + 1) r _ w _ (by omega) hO H (fun w2 H2 f2 => ?_)
    have hB2 := H2.1
    obtain ⟨H3, f3⟩ := RR_st H2 h (mn_ 9 (r h + 1))
    refine V_istore (sx_di dX12_oddsFrom 38 rfl) (by decide) (rfl) ?_
    refine V_aload_n (i := 0) (sx_di dX12_oddsFrom 39 rfl) rfl rfl ?_
    refine V_getR (sx_di dX12_oddsFrom 40 rfl) fX12_58 (fun _ => rfl) (by first | exact hB.k _ rfl | exact hB2.k _ rfl | exact hB4.k _ rfl) (by first | exact hB.r _ _ rfl | exact hB2.r _ _ rfl | exact hB4.r _ _ rfl) ?_
    refine V_iconst (v := 0) (sx_di dX12_oddsFrom 41 rfl) (by decide) ?_
    refine V_iload_n (i := 1) (sx_di dX12_oddsFrom 42 rfl) rfl rfl ?_
    refine V_iadd (sx_di dX12_oddsFrom 43 rfl) ?_
    refine V_bipush (v := 9) (sx_di dX12_oddsFrom 44 rfl) (by decide) ?_
    refine V_iload (sx_di dX12_oddsFrom 45 rfl) rfl ?_
    refine V_iconst (v := 1) (sx_di dX12_oddsFrom 46 rfl) (by decide) ?_
    refine V_iadd (sx_di dX12_oddsFrom 47 rfl) ?_
    refine V_mmin (sx_di dX12_oddsFrom 48 rfl) (sx_a6 222 rfl rfl) (sx_a3 135 rfl rfl) (sx_a1 22 rfl rfl) (sx_a3 136 rfl rfl) ⟨Nat.le_of_ble_eq_true rfl, Nat.le_of_ble_eq_true rfl, Nat.le_refl _, Nat.le_refl _⟩ ?_
    refine V_iv (y := mn_ 9 (r h + 1)) (rfl) ?_
    refine V_iastN (n := 226) (j := h) (sx_di dX12_oddsFrom 49 rfl) (by first | exact hB.k _ rfl | exact hB2.k _ rfl | exact hB4.k _ rfl) (nx_z0 (rfl)) (by omega) (by omega) ?_
    refine V_iload (sx_di dX12_oddsFrom 50 rfl) rfl ?_
    refine V_aload_n (i := 0) (sx_di dX12_oddsFrom 51 rfl) rfl rfl ?_
    refine V_iload_n (i := 1) (sx_di dX12_oddsFrom 52 rfl) rfl rfl ?_
    refine V_iconst (v := 1) (sx_di dX12_oddsFrom 53 rfl) (by decide) ?_
    refine V_iadd (sx_di dX12_oddsFrom 54 rfl) ?_
    refine V_iv (y := nI (h + 1)) (nI_add h 1) ?_
    refine V_iload_n (i := 2) (sx_di dX12_oddsFrom 55 rfl) rfl rfl ?_
    refine V_iload_n (i := 3) (sx_di dX12_oddsFrom 56 rfl) rfl rfl ?_
    refine V_iload (sx_di dX12_oddsFrom 57 rfl) rfl ?_
    refine V_cV4 (mc' := 0) (ms' := 0) (M' := mX12_oddsFrom) (8 + q) (sx_di dX12_oddsFrom 58 rfl) lX12_425 vX12_oddsFrom (by first | exact hB.k _ rfl | exact hB2.k _ rfl | exact hB4.k _ rfl) (by decide) rfl (Nat.le_of_ble_eq_true rfl) ⟨by show 8 + q + 1 ≤ 8 + (q + 1); omega, by show 64 + 64 * (8 + q) ≤ 64 * (8 + (q + 1)); omega⟩ ⟨Nat.le_refl _, Nat.le_refl _⟩ ?_
    refine ih (h + 1) (up_ r h (mn_ 9 (r h + 1))) _ _ _ (by omega) (OKF_o1 hn8 (by omega) hO) H3 (fun w4 H4 f4 => ?_)
    have hB4 := H4.1
    obtain ⟨H5, f5⟩ := RR_st H4 h (r h)
    rw [up_up, up_id] at H5
    refine V_iadd (sx_di dX12_oddsFrom 59 rfl) ?_
    refine V_istore (sx_di dX12_oddsFrom 60 rfl) (by decide) (rfl) ?_
    refine V_aload_n (i := 0) (sx_di dX12_oddsFrom 61 rfl) rfl rfl ?_
    refine V_getR (sx_di dX12_oddsFrom 62 rfl) fX12_58 (fun _ => rfl) (by first | exact hB.k _ rfl | exact hB2.k _ rfl | exact hB4.k _ rfl) (by first | exact hB.r _ _ rfl | exact hB2.r _ _ rfl | exact hB4.r _ _ rfl) ?_
    refine V_iconst (v := 0) (sx_di dX12_oddsFrom 63 rfl) (by decide) ?_
    refine V_iload_n (i := 1) (sx_di dX12_oddsFrom 64 rfl) rfl rfl ?_
    refine V_iadd (sx_di dX12_oddsFrom 65 rfl) ?_
    refine V_iload (sx_di dX12_oddsFrom 66 rfl) rfl ?_
    refine V_iastN (n := 226) (j := h) (sx_di dX12_oddsFrom 67 rfl) (by first | exact hB.k _ rfl | exact hB2.k _ rfl | exact hB4.k _ rfl) (nx_z0 (rfl)) (by omega) (by omega) ?_
    refine V_iload (sx_di dX12_oddsFrom 68 rfl) rfl ?_
    refine V_iret (sx_di dX12_oddsFrom 69 rfl) rfl (Nat.le_refl _) (Nat.le_refl _) ?_
    exact hQ _ H5 (fC_tr f2 (fC_tr f3 (fC_tr f4 f5)))
set_option maxHeartbeats 2000000 in
set_option maxRecDepth 20000 in
theorem oR_odds {E : sxE} {A : AS} {w : hpW} (VA : AV A) (H : RR A w) (x y : Int32) : oR E mX12_odds 17 [.ref 381, .int x, .int y] w A (q_odds A x y) A := by
  intro Q h
  have hB := H.1
  have hn := H.2.2.2.1.1
  have hn8 := VA.2.2.1.1
  unfold q_odds at h
  have hin : in_ x (-1) (nI (a_n A) - 1) = 0 ↔ (¬ x = -1 ∧ ih_ (a_n A) x = 0) := by
    have e1 : (in_ x (-1) (nI (a_n A) - 1) = 0) ↔ (x < -1 ∨ nI (a_n A) ≤ x) := by
      constructor
      · intro z
        have q := in_no z
        rw [pr_lt (by omega)] at q
        exact q
      · intro z
        unfold in_
        rw [if_pos (by rw [pr_lt (by omega)]; exact z)]
    have e2 : (ih_ (a_n A) x = 0) ↔ (x < 0 ∨ nI (a_n A) ≤ x) := by
      unfold ih_
      constructor
      · intro z
        exact Classical.byContradiction (fun q => by rw [if_neg q] at z; exact absurd z (by decide))
      · intro z
        rw [if_pos z]
    rw [e1, e2]
    rw [fa_lt, fa_lt, fa_le, fa_eq, ti_m1, ti_0, nI_toInt (by omega)]
    omega
  refine C_of (by decide +kernel) (Nat.le_of_ble_eq_true rfl) ?_
  refine V_aload_n (i := 0) (sx_di dX12_odds 0 rfl) rfl rfl ?_
  refine V_getI (sx_di dX12_odds 1 rfl) fX12_258 (fun _ => rfl) (hB.k _ rfl) ?_
  refine V_iv (y := nI (a_n A)) (hn) ?_
  refine V_ifN_le (a := (a_n A)) (rfl) (by omega) (tgt := 44) (sx_di dX12_odds 2 rfl) (by decide) (fun h4 => ?_) (fun h4 => ?_)
  · rw [if_pos (Or.inl (by omega))] at h
    refine V_iconst (v := -1) (sx_di dX12_odds 23 rfl) (by decide) ?_
    refine V_iret (sx_di dX12_odds 24 rfl) rfl (Nat.le_refl _) (Nat.le_refl _) ?_
    exact h w H fC_rf
  · have h0 : 0 < a_n A := by omega
    refine V_iload_n (i := 1) (sx_di dX12_odds 3 rfl) rfl rfl ?_
    refine V_iconst (v := -1) (sx_di dX12_odds 4 rfl) (by decide) ?_
    refine V_aload_n (i := 0) (sx_di dX12_odds 5 rfl) rfl rfl ?_
    refine V_getI (sx_di dX12_odds 6 rfl) fX12_258 (fun _ => rfl) (hB.k _ rfl) ?_
    refine V_iv (y := nI (a_n A)) (hn) ?_
    refine V_iconst (v := 1) (sx_di dX12_odds 7 rfl) (by decide) ?_
    refine V_isub (sx_di dX12_odds 8 rfl) ?_
    refine V_cS3 (mc' := 0) (ms' := 0) (M' := mX12_in) 1 (sx_di dX12_odds 9 rfl) lX12_214 vX12_in (Nat.le_of_ble_eq_true rfl) ⟨Nat.le_of_ble_eq_true rfl, Nat.le_of_ble_eq_true rfl⟩ ⟨Nat.le_refl _, Nat.le_refl _⟩ ?_
    refine c_X12_in ?_
    refine V_if_eq (tgt := 44) (sx_di dX12_odds 10 rfl) (by decide) (fun h18 => ?_) (fun h18 => ?_)
    · rw [if_pos (Or.inr (Or.inl (hin.mp h18)))] at h
      refine V_iconst (v := -1) (sx_di dX12_odds 23 rfl) (by decide) ?_
      refine V_iret (sx_di dX12_odds 24 rfl) rfl (Nat.le_refl _) (Nat.le_refl _) ?_
      exact h w H fC_rf
    · have h19 : ¬ (¬ x = -1 ∧ ih_ (a_n A) x = 0) := fun z => h18 (hin.mpr z)
      refine V_iload_n (i := 2) (sx_di dX12_odds 11 rfl) rfl rfl ?_
      refine V_iconst (v := 0) (sx_di dX12_odds 12 rfl) (by decide) ?_
      refine V_bipush (v := 100) (sx_di dX12_odds 13 rfl) (by decide) ?_
      refine V_cS3 (mc' := 0) (ms' := 0) (M' := mX12_in) 1 (sx_di dX12_odds 14 rfl) lX12_214 vX12_in (Nat.le_of_ble_eq_true rfl) ⟨Nat.le_of_ble_eq_true rfl, Nat.le_of_ble_eq_true rfl⟩ ⟨Nat.le_refl _, Nat.le_refl _⟩ ?_
      refine c_X12_in ?_
      refine V_if_eq (tgt := 44) (sx_di dX12_odds 15 rfl) (by decide) (fun h28 => ?_) (fun h28 => ?_)
      · rw [if_pos (Or.inr (Or.inr (in_no h28)))] at h
        refine V_iconst (v := -1) (sx_di dX12_odds 23 rfl) (by decide) ?_
        refine V_iret (sx_di dX12_odds 24 rfl) rfl (Nat.le_refl _) (Nat.le_refl _) ?_
        exact h w H fC_rf
      · have h29 := in_ye h28
        rw [if_neg (fun z => z.elim (by omega) (fun z => z.elim h19 h29))] at h
        refine V_aload_n (i := 0) (sx_di dX12_odds 16 rfl) rfl rfl ?_
        refine V_iconst (v := 0) (sx_di dX12_odds 17 rfl) (by decide) ?_
        refine V_iload_n (i := 1) (sx_di dX12_odds 18 rfl) rfl rfl ?_
        refine V_iload_n (i := 2) (sx_di dX12_odds 19 rfl) rfl rfl ?_
        refine V_ldcw (sx_di dX12_odds 20 rfl) kX12_428 ?_
        refine V_cV4 (mc' := 0) (ms' := 0) (M' := mX12_oddsFrom) (8 + a_n A) (sx_di dX12_odds 21 rfl) lX12_425 vX12_oddsFrom (hB.k _ rfl) (by decide) rfl (Nat.le_of_ble_eq_true rfl) ⟨by show 8 + a_n A + 1 ≤ 17; omega, by show 64 + 64 * (8 + a_n A) ≤ 64 * 17; omega⟩ ⟨Nat.le_refl _, Nat.le_refl _⟩ ?_
        refine e_oddsFrom VA (a_n A) 0 (a_r A) _ w _ (by omega) VA.2.2.2.1.1 H (fun w2 H2 f2 => ?_)
        have eo := od_sum VA x y (a_n A) 0 0 (by omega) (by decide)
        rw [or_0] at eo
        refine V_goto (tgt := 45) (sx_di dX12_odds 22 rfl) (by decide) ?_
        refine V_iret (sx_di dX12_odds 24 rfl) rfl (Nat.le_refl _) (Nat.le_refl _) ?_
        have z := h w2 H2 f2
        have e3 : sm_ (oF_ A x y) (2 ^ a_n A) = sm_ (fun t => oF_ A x y (0 + 2 ^ 0 * t)) (2 ^ a_n A) := sm_cg _ (fun t _ => congrArg _ (by omega))
        rw [e3, ← eo] at z
        exact z

/-! the reference: how much a house minds, where it goes, a day -/
theorem nx_z0 {x : Int32} {a : Nat} (h : x = nI a) : 0 + x = nI a := by rw [h]; exact (nI_add 0 a).trans (by rw [Nat.zero_add])
theorem nx_z1 {x : Int32} {a : Nat} (h : x = nI a) : x + 0 = nI a := by rw [h]; exact nI_add a 0
theorem nI_m1 {k : Nat} (h : k < 2 ^ 31) : ¬ nI k = -1 := fun z => nI_pos h (by rw [z]; decide)
theorem and1 (x : Int32) : x &&& 1 = 0 ∨ x &&& 1 = 1 := by
  obtain ⟨j, hj, e⟩ := pk_andE x (m := 1) 1 (by decide)
  rw [e]
  rcases Nat.lt_or_ge j 1 with h | h
  · exact Or.inl (by rw [show j = 0 by omega]; rfl)
  · exact Or.inr (by rw [show j = 1 by omega]; rfl)
def wfL (W : lwT) : wF := fun mi sh wh ha pe s f => lwv_ (lt_ (mi + sh) wh ha pe s f) W
/-- the state's numbers are in their bounds -/
def OKS (n m : Nat) (s : Nat → Int32) : Prop := (∀ h, h < n → (∃ k, k ≤ 9 ∧ s h = nI k) ∧ (-9 ≤ (s (8 + h)).toInt ∧ (s (8 + h)).toInt ≤ 9) ∧ (∃ k, k ≤ 9 ∧ s (16 + h) = nI k) ∧ (∃ k, k ≤ 9 ∧ s (24 + h) = nI k) ∧ (∃ k, k ≤ 9 ∧ s (32 + h) = nI k)) ∧ (0 < n → ∃ f, f < m ∧ s 43 = nI f) ∧ (0 < n → s 42 = -1 ∨ ∃ p, p < n ∧ s 42 = nI p)
/-- the law that holds, by the reference's cells -/
def RL (I : Nat → Nat → Int32) (F : wF) : Prop := (I 381 29 = -1 ∧ F = wf0) ∨ ∃ k W, k < 4 ∧ I 381 29 = nI k ∧ rl_ I k W ∧ F = wfL W
/-- the street told, by the reference's cells -/
def RS (I : Nat → Nat → Int32) (n m : Nat) (sz fo : Int32 → Int32) (bt : Int32) (m0 : Nat → Int32) : Prop := I 381 25 = nI n ∧ n ≤ 8 ∧ I 381 26 = nI m ∧ m ≤ 6 ∧ (∀ f, f < m → sz (nI f) = I 397 (2 * f) ∧ fo (nI f) = I 397 (2 * f + 1) ∧ (∃ g, g < m ∧ fo (nI f) = nI g) ∧ bn_ (sz (nI f))) ∧ I 395 0 = bt ∧ (0 < n → ∃ b, 0 < b ∧ b ≤ 9 ∧ bt = nI b) ∧ ∀ h, h < n → I 396 (4 * h) = m0 h ∧ ∃ k, k ≤ 9 ∧ m0 h = nI k
def RQ (w : hpW) (n m : Nat) (F : wF) (sz fo : Int32 → Int32) (bt : Int32) (m0 s : Nat → Int32) : Prop := ly_B w ∧ RS (hp_i w) n m sz fo bt m0 ∧ RL (hp_i w) F ∧ OKS n m s ∧ hp_i w 398 = s
def RX (b : Nat) : Prop := b = 390 ∨ b = 391
def RY (b : Nat) : Prop := b = 398 ∨ b = 390 ∨ b = 391
theorem rt_mv {I J : Nat → Nat → Int32} (h3 : J 383 = I 383) (h4 : J 384 = I 384) : ∀ T b, rt_ I b T → rt_ J b T
  | [], _, _ => trivial
  | c :: T, b, h => ⟨⟨by rw [h3]; exact h.1.1, by rw [h4]; exact h.1.2⟩, rt_mv h3 h4 T (b + 1) h.2⟩
theorem rw_mv {I J : Nat → Nat → Int32} {k : Nat} (h : ∀ b, 383 ≤ b → b ≤ 389 → J b = I b) : ∀ W c, rw_ I k c W → rw_ J k c W
  | [], _, _ => trivial
  | (A, B) :: r, c, ⟨⟨i, a1, a2, a3, a4, a5, a6⟩, h2⟩ => ⟨⟨i, by rw [h 387 (by omega) (by omega)]; exact a1, by rw [h 388 (by omega) (by omega)]; exact a2, by rw [h 389 (by omega) (by omega)]; exact a3, a4, rt_mv (h 383 (by omega) (by omega)) (h 384 (by omega) (by omega)) _ _ a5, rt_mv (h 383 (by omega) (by omega)) (h 384 (by omega) (by omega)) _ _ a6⟩, rw_mv h r (c + 1) h2⟩
theorem rl_mv {I J : Nat → Nat → Int32} {k : Nat} {W : lwT} (h : ∀ b, 383 ≤ b → b ≤ 389 → J b = I b) (hr : rl_ I k W) : rl_ J k W := ⟨by rw [h 386 (by omega) (by omega)]; exact hr.1, hr.2.1, rw_mv h W 0 hr.2.2.1, hr.2.2.2⟩
theorem RL_mv {I J : Nat → Nat → Int32} {F : wF} (h : ∀ b, 383 ≤ b → b ≤ 389 → J b = I b) (h2 : J 381 29 = I 381 29) (hr : RL I F) : RL J F := by
  rcases hr with ⟨a, b⟩ | ⟨k, W, a, b, c, d⟩
  · exact Or.inl ⟨h2.trans a, b⟩
  · exact Or.inr ⟨k, W, a, h2.trans b, rl_mv h c, d⟩
theorem RS_mv {I J : Nat → Nat → Int32} {n m : Nat} {sz fo : Int32 → Int32} {bt : Int32} {m0 : Nat → Int32} (h25 : J 381 25 = I 381 25) (h26 : J 381 26 = I 381 26) (h5 : J 395 = I 395) (h6 : J 396 = I 396) (h7 : J 397 = I 397) (hr : RS I n m sz fo bt m0) : RS J n m sz fo bt m0 := by
  unfold RS
  rw [h25, h26, h5, h6, h7]
  exact hr
theorem RQ_mv {w : hpW} {n m : Nat} {F : wF} {sz fo : Int32 → Int32} {bt : Int32} {m0 s s2 : Nat → Int32} {I : Nat → Nat → Int32} (R : RQ w n m F sz fo bt m0 s) (hf : fr_ w I RY) (hs : I 398 = s2) (hO : OKS n m s2) : RQ (hp_wi w I) n m F sz fo bt m0 s2 := by
  have e : ∀ b, ¬ RY b → I b = hp_i w b := hf
  have g : ∀ b, b < 390 ∨ (391 < b ∧ b < 398) → I b = hp_i w b := fun b hb => e b (by unfold RY; omega)
  exact ⟨ly_wi R.1 I, RS_mv (congrFun (g 381 (by omega)) 25) (congrFun (g 381 (by omega)) 26) (g 395 (by omega)) (g 396 (by omega)) (g 397 (by omega)) R.2.1, RL_mv (fun b h1 h2 => g b (by omega)) (congrFun (g 381 (by omega)) 29) R.2.2.1, hO, hs⟩
theorem RX_RY {b : Nat} (h : RX b) : RY b := Or.inr h
theorem RQ_x {w : hpW} {n m : Nat} {F : wF} {sz fo : Int32 → Int32} {bt : Int32} {m0 s : Nat → Int32} {I : Nat → Nat → Int32} (R : RQ w n m F sz fo bt m0 s) (hf : fr_ w I RX) : RQ (hp_wi w I) n m F sz fo bt m0 s := RQ_mv R (fun b hb => hf b (fun z => hb (RX_RY z))) ((hf 398 (by unfold RX; omega)).trans R.2.2.2.2) R.2.2.2.1
theorem rs_fc {L L' : Nat → Int32} (h : ∀ j, j < 6 → L j = L' j) : ∀ (T st : List Int32), T.foldl (rs_ L) st = T.foldl (rs_ L') st
  | [], _ => rfl
  | c :: T, st => by rw [List.foldl_cons, List.foldl_cons, rs_cg h, rs_fc h T]
theorem lwv_cg {L L' : Nat → Int32} (h : ∀ j, j < 6 → L j = L' j) : ∀ W, lwv_ L W = lwv_ L' W
  | [] => rfl
  | (A, B) :: r => by rw [lwv_, lwv_, rs_fc h, rs_fc h, lwv_cg h r]
/-- the letters set -/
def l6_ (I : Nat → Nat → Int32) (a b c d e f : Int32) : Nat → Nat → Int32 := hp_u (hp_u (hp_u (hp_u (hp_u (hp_u I 390 0 a) 390 1 b) 390 2 c) 390 3 d) 390 4 e) 390 5 f
theorem l6_at (I : Nat → Nat → Int32) (a b c d e f : Int32) : ∀ j, j < 6 → l6_ I a b c d e f 390 j = lt_ a b c d e f j
  | 0, _ => rfl
  | 1, _ => rfl
  | 2, _ => rfl
  | 3, _ => rfl
  | 4, _ => rfl
  | 5, _ => rfl
  | j + 6, h => absurd h (by omega)
theorem l6_o (I : Nat → Nat → Int32) (a b c d e f : Int32) {q : Nat} (h : q ≠ 390) : l6_ I a b c d e f q = I q := by
  funext j
  unfold l6_
  simp [hp_u, h]
theorem bn_k {k : Nat} (h : k ≤ 9) : bn_ (nI k) := by unfold bn_; rw [nI_toInt (by omega)]; omega
theorem bn_ms {k : Nat} {y : Int32} (h : k ≤ 9) (h1 : -9 ≤ y.toInt) (h2 : y.toInt ≤ 9) : bn_ (nI k + y) := by
  unfold bn_
  rw [Int32.toInt_add, nI_toInt (by omega), Int.bmod_eq_of_le (by omega) (by omega)]
  omega
theorem bn_ab {h p : Nat} (hh : h ≤ 9) (hp : p ≤ 9) : bn_ (ab_ (nI h - nI p)) := by
  have e : (nI h - nI p).toInt = (h : Int) - p := pk_sub_toInt (by omega) (by omega)
  unfold ab_ bn_
  split
  · omega
  · rw [Int32.toInt_sub, e, ti_0, Int.bmod_eq_of_le (by omega) (by omega)]; omega
theorem lb_lt {a b c d e f : Int32} (h1 : bn_ a) (h2 : bn_ b) (h3 : bn_ c) (h4 : bn_ d) (h5 : bn_ e) (h6 : bn_ f) : lb_ (lt_ a b c d e f) := by
  intro j _
  unfold lt_
  repeat' split
  all_goals assumption
set_option maxHeartbeats 2000000 in
set_option maxRecDepth 20000 in
theorem c_X12_mindedOf {E : sxE} {w : hpW} {Q : Option Value → hpW → Prop} {n m : Nat} {F : wF} {sz fo : Int32 → Int32} {bt : Int32} {m0 s : Nat → Int32} (R : RQ w n m F sz fo bt m0 s) {h : Nat} (hh : h < n) (hq : ∀ I, fr_ w I RX → Q (some (.int (mv_ F sz s h))) (hp_wi w I)) : sx_C E mX12_mindedOf 6 0 0 [.ref 381, .int (nI h)] w Q := by
  obtain ⟨hB, hRS, hL, hO, hs⟩ := id R
  obtain ⟨hn, hn8, hm, hm6, hfo, hbt, hb, hm0⟩ := id hRS
  subst hs
  obtain ⟨⟨k1, g1, q1⟩, ⟨g2, g3⟩, ⟨k3, g4, q3⟩, ⟨k4, g5, q4⟩, ⟨k5, g6, q5⟩⟩ := hO.1 h hh
  obtain ⟨f, hf6, hf⟩ := hO.2.1 (by omega)
  have hz := hfo f hf6
  have z0 : Q (some (.int (mv_ F sz (hp_i w 398) h))) w := hq (hp_i w) fr_rf
  refine C_of (by decide +kernel) (Nat.le_of_ble_eq_true rfl) ?_
  rcases hL with ⟨hho, hF⟩ | ⟨k, W, hk4, hho, hrl, hF⟩
  · skip
    refine V_aload_n (i := 0) (sx_di dX12_mindedOf 0 rfl) rfl rfl ?_
    refine V_getR (sx_di dX12_mindedOf 1 rfl) fX12_58 (fun _ => rfl) (hB.k _ rfl) (hB.r _ _ rfl) ?_
    refine V_bipush (v := 32) (sx_di dX12_mindedOf 2 rfl) (by decide) ?_
    refine V_iload_n (i := 1) (sx_di dX12_mindedOf 3 rfl) rfl rfl ?_
    refine V_iadd (sx_di dX12_mindedOf 4 rfl) ?_
    refine V_ialdN (n := 226) (j := (32 + h)) (sx_di dX12_mindedOf 5 rfl) (hB.k _ rfl) (nx_add (rfl) (rfl)) (by omega) (by omega) ?_
    refine V_if_eq (tgt := 26) (sx_di dX12_mindedOf 6 rfl) (by decide) (fun h9 => ?_) (fun h9 => ?_)
    · refine V_iconst (v := 0) (sx_di dX12_mindedOf 14 rfl) (by decide) ?_
      refine V_iret (sx_di dX12_mindedOf 15 rfl) rfl (Nat.le_refl _) (Nat.le_refl _) ?_
      refine Q_int z0 ?_
      unfold mv_ md_
      exact if_pos h9
    · refine V_aload_n (i := 0) (sx_di dX12_mindedOf 7 rfl) rfl rfl ?_
      refine V_getR (sx_di dX12_mindedOf 8 rfl) fX12_58 (fun _ => rfl) (hB.k _ rfl) (hB.r _ _ rfl) ?_
      refine V_bipush (v := 40) (sx_di dX12_mindedOf 9 rfl) (by decide) ?_
      refine V_ialdN (n := 226) (j := 40) (sx_di dX12_mindedOf 10 rfl) (hB.k _ rfl) (rfl) (by omega) (by omega) ?_
      refine V_iload_n (i := 1) (sx_di dX12_mindedOf 11 rfl) rfl rfl ?_
      refine V_cS2 (mc' := 0) (ms' := 0) (M' := mX12_has) 1 (sx_di dX12_mindedOf 12 rfl) lX12_225 vX12_has (Nat.le_of_ble_eq_true rfl) ⟨Nat.le_of_ble_eq_true rfl, Nat.le_of_ble_eq_true rfl⟩ ⟨Nat.le_refl _, Nat.le_refl _⟩ ?_
      refine c_X12_has ?_
      refine V_if_eq (tgt := 28) (sx_di dX12_mindedOf 13 rfl) (by decide) (fun h23 => ?_) (fun h23 => ?_)
      · have hp0 : (hp_i w 398 40 >>> (nI h &&& 31)) &&& 1 = 0 := (and1 _).elim id (fun z => absurd h23 (by rw [if_pos z]; decide))
        refine V_aload_n (i := 0) (sx_di dX12_mindedOf 16 rfl) rfl rfl ?_
        refine V_getR (sx_di dX12_mindedOf 17 rfl) fX12_58 (fun _ => rfl) (hB.k _ rfl) (hB.r _ _ rfl) ?_
        refine V_iconst (v := 0) (sx_di dX12_mindedOf 18 rfl) (by decide) ?_
        refine V_iload_n (i := 1) (sx_di dX12_mindedOf 19 rfl) rfl rfl ?_
        refine V_iadd (sx_di dX12_mindedOf 20 rfl) ?_
        refine V_ialdN (n := 226) (j := h) (sx_di dX12_mindedOf 21 rfl) (hB.k _ rfl) (nx_z0 (rfl)) (by omega) (by omega) ?_
        refine V_aload_n (i := 0) (sx_di dX12_mindedOf 22 rfl) rfl rfl ?_
        refine V_getR (sx_di dX12_mindedOf 23 rfl) fX12_58 (fun _ => rfl) (hB.k _ rfl) (hB.r _ _ rfl) ?_
        refine V_bipush (v := 8) (sx_di dX12_mindedOf 24 rfl) (by decide) ?_
        refine V_iload_n (i := 1) (sx_di dX12_mindedOf 25 rfl) rfl rfl ?_
        refine V_iadd (sx_di dX12_mindedOf 26 rfl) ?_
        refine V_ialdN (n := 226) (j := (8 + h)) (sx_di dX12_mindedOf 27 rfl) (hB.k _ rfl) (nx_add (rfl) (rfl)) (by omega) (by omega) ?_
        refine V_iadd (sx_di dX12_mindedOf 28 rfl) ?_
        refine V_aload_n (i := 0) (sx_di dX12_mindedOf 29 rfl) rfl rfl ?_
        refine V_getR (sx_di dX12_mindedOf 30 rfl) fX12_58 (fun _ => rfl) (hB.k _ rfl) (hB.r _ _ rfl) ?_
        refine V_bipush (v := 16) (sx_di dX12_mindedOf 31 rfl) (by decide) ?_
        refine V_iload_n (i := 1) (sx_di dX12_mindedOf 32 rfl) rfl rfl ?_
        refine V_iadd (sx_di dX12_mindedOf 33 rfl) ?_
        refine V_ialdN (n := 226) (j := (16 + h)) (sx_di dX12_mindedOf 34 rfl) (hB.k _ rfl) (nx_add (rfl) (rfl)) (by omega) (by omega) ?_
        refine V_iadd (sx_di dX12_mindedOf 35 rfl) ?_
        refine V_aload_n (i := 0) (sx_di dX12_mindedOf 36 rfl) rfl rfl ?_
        refine V_getR (sx_di dX12_mindedOf 37 rfl) fX12_58 (fun _ => rfl) (hB.k _ rfl) (hB.r _ _ rfl) ?_
        refine V_bipush (v := 32) (sx_di dX12_mindedOf 38 rfl) (by decide) ?_
        refine V_iload_n (i := 1) (sx_di dX12_mindedOf 39 rfl) rfl rfl ?_
        refine V_iadd (sx_di dX12_mindedOf 40 rfl) ?_
        refine V_ialdN (n := 226) (j := (32 + h)) (sx_di dX12_mindedOf 41 rfl) (hB.k _ rfl) (nx_add (rfl) (rfl)) (by omega) (by omega) ?_
        refine V_iconst (v := 2) (sx_di dX12_mindedOf 42 rfl) (by decide) ?_
        refine V_idiv (sx_di dX12_mindedOf 43 rfl) (by decide) ?_
        refine V_iadd (sx_di dX12_mindedOf 44 rfl) ?_
        refine V_aload_n (i := 0) (sx_di dX12_mindedOf 45 rfl) rfl rfl ?_
        refine V_getR (sx_di dX12_mindedOf 46 rfl) fX12_58 (fun _ => rfl) (hB.k _ rfl) (hB.r _ _ rfl) ?_
        refine V_bipush (v := 24) (sx_di dX12_mindedOf 47 rfl) (by decide) ?_
        refine V_iload_n (i := 1) (sx_di dX12_mindedOf 48 rfl) rfl rfl ?_
        refine V_iadd (sx_di dX12_mindedOf 49 rfl) ?_
        refine V_ialdN (n := 226) (j := (24 + h)) (sx_di dX12_mindedOf 50 rfl) (hB.k _ rfl) (nx_add (rfl) (rfl)) (by omega) (by omega) ?_
        refine V_isub (sx_di dX12_mindedOf 51 rfl) ?_
        refine V_istore_n (i := 2) (sx_di dX12_mindedOf 52 rfl) rfl (by decide) (rfl) ?_
        refine V_aload_n (i := 0) (sx_di dX12_mindedOf 53 rfl) rfl rfl ?_
        refine V_getI (sx_di dX12_mindedOf 54 rfl) fX12_64 (fun _ => rfl) (hB.k _ rfl) ?_
        refine V_iconst (v := -1) (sx_di dX12_mindedOf 55 rfl) (by decide) ?_
        refine V_icmp_eq (tgt := 221) (sx_di dX12_mindedOf 56 rfl) (by decide) (fun _ => ?_) (fun h84 => absurd hho h84)
        refine V_iconst (v := 0) (sx_di dX12_mindedOf 143 rfl) (by decide) ?_
        refine V_bipush (v := 99) (sx_di dX12_mindedOf 144 rfl) (by decide) ?_
        refine V_iload_n (i := 2) (sx_di dX12_mindedOf 145 rfl) rfl rfl ?_
        refine V_mmin (sx_di dX12_mindedOf 146 rfl) (sx_a6 222 rfl rfl) (sx_a3 135 rfl rfl) (sx_a1 22 rfl rfl) (sx_a3 136 rfl rfl) ⟨Nat.le_of_ble_eq_true rfl, Nat.le_of_ble_eq_true rfl, Nat.le_refl _, Nat.le_refl _⟩ ?_
        refine V_mmax (sx_di dX12_mindedOf 147 rfl) (sx_a6 223 rfl rfl) (sx_a3 186 rfl rfl) (sx_a1 22 rfl rfl) (sx_a3 187 rfl rfl) ⟨Nat.le_of_ble_eq_true rfl, Nat.le_of_ble_eq_true rfl, Nat.le_refl _, Nat.le_refl _⟩ ?_
        refine V_iret (sx_di dX12_mindedOf 148 rfl) rfl (Nat.le_refl _) (Nat.le_refl _) ?_
        refine Q_int z0 ?_
        unfold mv_ md_
        rw [if_neg h9, if_pos hp0, hF]
        rfl
      · have hp1 : ¬ (hp_i w 398 40 >>> (nI h &&& 31)) &&& 1 = 0 := fun z => h23 (by rw [z]; rfl)
        refine V_iconst (v := 0) (sx_di dX12_mindedOf 14 rfl) (by decide) ?_
        refine V_iret (sx_di dX12_mindedOf 15 rfl) rfl (Nat.le_refl _) (Nat.le_refl _) ?_
        refine Q_int z0 ?_
        unfold mv_ md_
        rw [if_neg h9, if_neg hp1]
  · skip
    refine V_aload_n (i := 0) (sx_di dX12_mindedOf 0 rfl) rfl rfl ?_
    refine V_getR (sx_di dX12_mindedOf 1 rfl) fX12_58 (fun _ => rfl) (hB.k _ rfl) (hB.r _ _ rfl) ?_
    refine V_bipush (v := 32) (sx_di dX12_mindedOf 2 rfl) (by decide) ?_
    refine V_iload_n (i := 1) (sx_di dX12_mindedOf 3 rfl) rfl rfl ?_
    refine V_iadd (sx_di dX12_mindedOf 4 rfl) ?_
    refine V_ialdN (n := 226) (j := (32 + h)) (sx_di dX12_mindedOf 5 rfl) (hB.k _ rfl) (nx_add (rfl) (rfl)) (by omega) (by omega) ?_
    refine V_if_eq (tgt := 26) (sx_di dX12_mindedOf 6 rfl) (by decide) (fun h9 => ?_) (fun h9 => ?_)
    · refine V_iconst (v := 0) (sx_di dX12_mindedOf 14 rfl) (by decide) ?_
      refine V_iret (sx_di dX12_mindedOf 15 rfl) rfl (Nat.le_refl _) (Nat.le_refl _) ?_
      refine Q_int z0 ?_
      unfold mv_ md_
      exact if_pos h9
    · refine V_aload_n (i := 0) (sx_di dX12_mindedOf 7 rfl) rfl rfl ?_
      refine V_getR (sx_di dX12_mindedOf 8 rfl) fX12_58 (fun _ => rfl) (hB.k _ rfl) (hB.r _ _ rfl) ?_
      refine V_bipush (v := 40) (sx_di dX12_mindedOf 9 rfl) (by decide) ?_
      refine V_ialdN (n := 226) (j := 40) (sx_di dX12_mindedOf 10 rfl) (hB.k _ rfl) (rfl) (by omega) (by omega) ?_
      refine V_iload_n (i := 1) (sx_di dX12_mindedOf 11 rfl) rfl rfl ?_
      refine V_cS2 (mc' := 0) (ms' := 0) (M' := mX12_has) 1 (sx_di dX12_mindedOf 12 rfl) lX12_225 vX12_has (Nat.le_of_ble_eq_true rfl) ⟨Nat.le_of_ble_eq_true rfl, Nat.le_of_ble_eq_true rfl⟩ ⟨Nat.le_refl _, Nat.le_refl _⟩ ?_
      refine c_X12_has ?_
      refine V_if_eq (tgt := 28) (sx_di dX12_mindedOf 13 rfl) (by decide) (fun h23 => ?_) (fun h23 => ?_)
      · have hp0 : (hp_i w 398 40 >>> (nI h &&& 31)) &&& 1 = 0 := (and1 _).elim id (fun z => absurd h23 (by rw [if_pos z]; decide))
        refine V_aload_n (i := 0) (sx_di dX12_mindedOf 16 rfl) rfl rfl ?_
        refine V_getR (sx_di dX12_mindedOf 17 rfl) fX12_58 (fun _ => rfl) (hB.k _ rfl) (hB.r _ _ rfl) ?_
        refine V_iconst (v := 0) (sx_di dX12_mindedOf 18 rfl) (by decide) ?_
        refine V_iload_n (i := 1) (sx_di dX12_mindedOf 19 rfl) rfl rfl ?_
        refine V_iadd (sx_di dX12_mindedOf 20 rfl) ?_
        refine V_ialdN (n := 226) (j := h) (sx_di dX12_mindedOf 21 rfl) (hB.k _ rfl) (nx_z0 (rfl)) (by omega) (by omega) ?_
        refine V_aload_n (i := 0) (sx_di dX12_mindedOf 22 rfl) rfl rfl ?_
        refine V_getR (sx_di dX12_mindedOf 23 rfl) fX12_58 (fun _ => rfl) (hB.k _ rfl) (hB.r _ _ rfl) ?_
        refine V_bipush (v := 8) (sx_di dX12_mindedOf 24 rfl) (by decide) ?_
        refine V_iload_n (i := 1) (sx_di dX12_mindedOf 25 rfl) rfl rfl ?_
        refine V_iadd (sx_di dX12_mindedOf 26 rfl) ?_
        refine V_ialdN (n := 226) (j := (8 + h)) (sx_di dX12_mindedOf 27 rfl) (hB.k _ rfl) (nx_add (rfl) (rfl)) (by omega) (by omega) ?_
        refine V_iadd (sx_di dX12_mindedOf 28 rfl) ?_
        refine V_aload_n (i := 0) (sx_di dX12_mindedOf 29 rfl) rfl rfl ?_
        refine V_getR (sx_di dX12_mindedOf 30 rfl) fX12_58 (fun _ => rfl) (hB.k _ rfl) (hB.r _ _ rfl) ?_
        refine V_bipush (v := 16) (sx_di dX12_mindedOf 31 rfl) (by decide) ?_
        refine V_iload_n (i := 1) (sx_di dX12_mindedOf 32 rfl) rfl rfl ?_
        refine V_iadd (sx_di dX12_mindedOf 33 rfl) ?_
        refine V_ialdN (n := 226) (j := (16 + h)) (sx_di dX12_mindedOf 34 rfl) (hB.k _ rfl) (nx_add (rfl) (rfl)) (by omega) (by omega) ?_
        refine V_iadd (sx_di dX12_mindedOf 35 rfl) ?_
        refine V_aload_n (i := 0) (sx_di dX12_mindedOf 36 rfl) rfl rfl ?_
        refine V_getR (sx_di dX12_mindedOf 37 rfl) fX12_58 (fun _ => rfl) (hB.k _ rfl) (hB.r _ _ rfl) ?_
        refine V_bipush (v := 32) (sx_di dX12_mindedOf 38 rfl) (by decide) ?_
        refine V_iload_n (i := 1) (sx_di dX12_mindedOf 39 rfl) rfl rfl ?_
        refine V_iadd (sx_di dX12_mindedOf 40 rfl) ?_
        refine V_ialdN (n := 226) (j := (32 + h)) (sx_di dX12_mindedOf 41 rfl) (hB.k _ rfl) (nx_add (rfl) (rfl)) (by omega) (by omega) ?_
        refine V_iconst (v := 2) (sx_di dX12_mindedOf 42 rfl) (by decide) ?_
        refine V_idiv (sx_di dX12_mindedOf 43 rfl) (by decide) ?_
        refine V_iadd (sx_di dX12_mindedOf 44 rfl) ?_
        refine V_aload_n (i := 0) (sx_di dX12_mindedOf 45 rfl) rfl rfl ?_
        refine V_getR (sx_di dX12_mindedOf 46 rfl) fX12_58 (fun _ => rfl) (hB.k _ rfl) (hB.r _ _ rfl) ?_
        refine V_bipush (v := 24) (sx_di dX12_mindedOf 47 rfl) (by decide) ?_
        refine V_iload_n (i := 1) (sx_di dX12_mindedOf 48 rfl) rfl rfl ?_
        refine V_iadd (sx_di dX12_mindedOf 49 rfl) ?_
        refine V_ialdN (n := 226) (j := (24 + h)) (sx_di dX12_mindedOf 50 rfl) (hB.k _ rfl) (nx_add (rfl) (rfl)) (by omega) (by omega) ?_
        refine V_isub (sx_di dX12_mindedOf 51 rfl) ?_
        refine V_istore_n (i := 2) (sx_di dX12_mindedOf 52 rfl) rfl (by decide) (rfl) ?_
        refine V_aload_n (i := 0) (sx_di dX12_mindedOf 53 rfl) rfl rfl ?_
        refine V_getI (sx_di dX12_mindedOf 54 rfl) fX12_64 (fun _ => rfl) (hB.k _ rfl) ?_
        refine V_iconst (v := -1) (sx_di dX12_mindedOf 55 rfl) (by decide) ?_
        refine V_icmp_eq (tgt := 221) (sx_di dX12_mindedOf 56 rfl) (by decide) (fun h84 => absurd (hho.symm.trans h84) (nI_m1 (by omega))) (fun _ => ?_)
        refine V_aload_n (i := 0) (sx_di dX12_mindedOf 57 rfl) rfl rfl ?_
        refine V_getR (sx_di dX12_mindedOf 58 rfl) fX12_34 (fun _ => rfl) (hB.k _ rfl) (hB.r _ _ rfl) ?_
        refine V_iconst (v := 0) (sx_di dX12_mindedOf 59 rfl) (by decide) ?_
        refine V_aload_n (i := 0) (sx_di dX12_mindedOf 60 rfl) rfl rfl ?_
        refine V_getR (sx_di dX12_mindedOf 61 rfl) fX12_58 (fun _ => rfl) (hB.k _ rfl) (hB.r _ _ rfl) ?_
        refine V_iconst (v := 0) (sx_di dX12_mindedOf 62 rfl) (by decide) ?_
        refine V_iload_n (i := 1) (sx_di dX12_mindedOf 63 rfl) rfl rfl ?_
        refine V_iadd (sx_di dX12_mindedOf 64 rfl) ?_
        refine V_ialdN (n := 226) (j := h) (sx_di dX12_mindedOf 65 rfl) (hB.k _ rfl) (nx_z0 (rfl)) (by omega) (by omega) ?_
        refine V_aload_n (i := 0) (sx_di dX12_mindedOf 66 rfl) rfl rfl ?_
        refine V_getR (sx_di dX12_mindedOf 67 rfl) fX12_58 (fun _ => rfl) (hB.k _ rfl) (hB.r _ _ rfl) ?_
        refine V_bipush (v := 8) (sx_di dX12_mindedOf 68 rfl) (by decide) ?_
        refine V_iload_n (i := 1) (sx_di dX12_mindedOf 69 rfl) rfl rfl ?_
        refine V_iadd (sx_di dX12_mindedOf 70 rfl) ?_
        refine V_ialdN (n := 226) (j := (8 + h)) (sx_di dX12_mindedOf 71 rfl) (hB.k _ rfl) (nx_add (rfl) (rfl)) (by omega) (by omega) ?_
        refine V_iadd (sx_di dX12_mindedOf 72 rfl) ?_
        refine V_iastN (n := 6) (j := 0) (sx_di dX12_mindedOf 73 rfl) (hB.k _ rfl) (rfl) (by omega) (by omega) ?_
        refine V_aload_n (i := 0) (sx_di dX12_mindedOf 74 rfl) rfl rfl ?_
        refine V_getR (sx_di dX12_mindedOf 75 rfl) fX12_34 (fun _ => rfl) (hB.k _ rfl) (hB.r _ _ rfl) ?_
        refine V_iconst (v := 1) (sx_di dX12_mindedOf 76 rfl) (by decide) ?_
        refine V_aload_n (i := 0) (sx_di dX12_mindedOf 77 rfl) rfl rfl ?_
        refine V_getR (sx_di dX12_mindedOf 78 rfl) fX12_58 (fun _ => rfl) (hB.k _ rfl) (hB.r _ _ rfl) ?_
        refine V_bipush (v := 16) (sx_di dX12_mindedOf 79 rfl) (by decide) ?_
        refine V_iload_n (i := 1) (sx_di dX12_mindedOf 80 rfl) rfl rfl ?_
        refine V_iadd (sx_di dX12_mindedOf 81 rfl) ?_
        refine V_ialdN (n := 226) (j := (16 + h)) (sx_di dX12_mindedOf 82 rfl) (hB.k _ rfl) (nx_add (rfl) (rfl)) (by omega) (by omega) ?_
        refine V_iastN (n := 6) (j := 1) (sx_di dX12_mindedOf 83 rfl) (hB.k _ rfl) (rfl) (by omega) (by omega) ?_
        refine V_aload_n (i := 0) (sx_di dX12_mindedOf 84 rfl) rfl rfl ?_
        refine V_getR (sx_di dX12_mindedOf 85 rfl) fX12_34 (fun _ => rfl) (hB.k _ rfl) (hB.r _ _ rfl) ?_
        refine V_iconst (v := 2) (sx_di dX12_mindedOf 86 rfl) (by decide) ?_
        refine V_aload_n (i := 0) (sx_di dX12_mindedOf 87 rfl) rfl rfl ?_
        refine V_getR (sx_di dX12_mindedOf 88 rfl) fX12_58 (fun _ => rfl) (hB.k _ rfl) (hB.r _ _ rfl) ?_
        refine V_bipush (v := 24) (sx_di dX12_mindedOf 89 rfl) (by decide) ?_
        refine V_iload_n (i := 1) (sx_di dX12_mindedOf 90 rfl) rfl rfl ?_
        refine V_iadd (sx_di dX12_mindedOf 91 rfl) ?_
        refine V_ialdN (n := 226) (j := (24 + h)) (sx_di dX12_mindedOf 92 rfl) (hB.k _ rfl) (nx_add (rfl) (rfl)) (by omega) (by omega) ?_
        refine V_iastN (n := 6) (j := 2) (sx_di dX12_mindedOf 93 rfl) (hB.k _ rfl) (rfl) (by omega) (by omega) ?_
        refine V_aload_n (i := 0) (sx_di dX12_mindedOf 94 rfl) rfl rfl ?_
        refine V_getR (sx_di dX12_mindedOf 95 rfl) fX12_34 (fun _ => rfl) (hB.k _ rfl) (hB.r _ _ rfl) ?_
        refine V_iconst (v := 3) (sx_di dX12_mindedOf 96 rfl) (by decide) ?_
        refine V_aload_n (i := 0) (sx_di dX12_mindedOf 97 rfl) rfl rfl ?_
        refine V_getR (sx_di dX12_mindedOf 98 rfl) fX12_58 (fun _ => rfl) (hB.k _ rfl) (hB.r _ _ rfl) ?_
        refine V_bipush (v := 32) (sx_di dX12_mindedOf 99 rfl) (by decide) ?_
        refine V_iload_n (i := 1) (sx_di dX12_mindedOf 100 rfl) rfl rfl ?_
        refine V_iadd (sx_di dX12_mindedOf 101 rfl) ?_
        refine V_ialdN (n := 226) (j := (32 + h)) (sx_di dX12_mindedOf 102 rfl) (hB.k _ rfl) (nx_add (rfl) (rfl)) (by omega) (by omega) ?_
        refine V_iastN (n := 6) (j := 3) (sx_di dX12_mindedOf 103 rfl) (hB.k _ rfl) (rfl) (by omega) (by omega) ?_
        refine V_aload_n (i := 0) (sx_di dX12_mindedOf 104 rfl) rfl rfl ?_
        refine V_getR (sx_di dX12_mindedOf 105 rfl) fX12_34 (fun _ => rfl) (hB.k _ rfl) (hB.r _ _ rfl) ?_
        refine V_iconst (v := 4) (sx_di dX12_mindedOf 106 rfl) (by decide) ?_
        refine V_aload_n (i := 0) (sx_di dX12_mindedOf 107 rfl) rfl rfl ?_
        refine V_getR (sx_di dX12_mindedOf 108 rfl) fX12_55 (fun _ => rfl) (hB.k _ rfl) (hB.r _ _ rfl) ?_
        refine V_iconst (v := 2) (sx_di dX12_mindedOf 109 rfl) (by decide) ?_
        refine V_aload_n (i := 0) (sx_di dX12_mindedOf 110 rfl) rfl rfl ?_
        refine V_getR (sx_di dX12_mindedOf 111 rfl) fX12_58 (fun _ => rfl) (hB.k _ rfl) (hB.r _ _ rfl) ?_
        refine V_bipush (v := 43) (sx_di dX12_mindedOf 112 rfl) (by decide) ?_
        refine V_ialdN (n := 226) (j := 43) (sx_di dX12_mindedOf 113 rfl) (hB.k _ rfl) (rfl) (by omega) (by omega) ?_
        refine V_imul (sx_di dX12_mindedOf 114 rfl) ?_
        refine V_iconst (v := 0) (sx_di dX12_mindedOf 115 rfl) (by decide) ?_
        refine V_iadd (sx_di dX12_mindedOf 116 rfl) ?_
        refine V_ialdN (n := 12) (j := (2 * f)) (sx_di dX12_mindedOf 117 rfl) (hB.k _ rfl) (nx_z1 (nx_mul (rfl) (hf))) (by omega) (by omega) ?_
        refine V_iastN (n := 6) (j := 4) (sx_di dX12_mindedOf 118 rfl) (hB.k _ rfl) (rfl) (by omega) (by omega) ?_
        refine V_aload_n (i := 0) (sx_di dX12_mindedOf 119 rfl) rfl rfl ?_
        refine V_getR (sx_di dX12_mindedOf 120 rfl) fX12_34 (fun _ => rfl) (hB.k _ rfl) (hB.r _ _ rfl) ?_
        refine V_iconst (v := 5) (sx_di dX12_mindedOf 121 rfl) (by decide) ?_
        refine V_aload_n (i := 0) (sx_di dX12_mindedOf 122 rfl) rfl rfl ?_
        refine V_getR (sx_di dX12_mindedOf 123 rfl) fX12_58 (fun _ => rfl) (hB.k _ rfl) (hB.r _ _ rfl) ?_
        refine V_bipush (v := 42) (sx_di dX12_mindedOf 124 rfl) (by decide) ?_
        refine V_ialdN (n := 226) (j := 42) (sx_di dX12_mindedOf 125 rfl) (hB.k _ rfl) (rfl) (by omega) (by omega) ?_
        refine V_iconst (v := -1) (sx_di dX12_mindedOf 126 rfl) (by decide) ?_
        refine V_icmp_ne (tgt := 199) (sx_di dX12_mindedOf 127 rfl) (by decide) (fun h191 => ?_) (fun h191 => ?_)
        · obtain ⟨p, hp9, hp⟩ : ∃ p, p < n ∧ hp_i w 398 42 = nI p := (hO.2.2 (by omega)).elim (fun z => absurd z h191) id
          refine V_iload_n (i := 1) (sx_di dX12_mindedOf 130 rfl) rfl rfl ?_
          refine V_aload_n (i := 0) (sx_di dX12_mindedOf 131 rfl) rfl rfl ?_
          refine V_getR (sx_di dX12_mindedOf 132 rfl) fX12_58 (fun _ => rfl) (hB.k _ rfl) (hB.r _ _ rfl) ?_
          refine V_bipush (v := 42) (sx_di dX12_mindedOf 133 rfl) (by decide) ?_
          refine V_ialdN (n := 226) (j := 42) (sx_di dX12_mindedOf 134 rfl) (hB.k _ rfl) (rfl) (by omega) (by omega) ?_
          refine V_isub (sx_di dX12_mindedOf 135 rfl) ?_
          refine V_mabs (sx_di dX12_mindedOf 136 rfl) (sx_a6 199 rfl rfl) (sx_a4 0 rfl rfl) (sx_a1 22 rfl rfl) (sx_a4 1 rfl rfl) ⟨Nat.le_of_ble_eq_true rfl, Nat.le_of_ble_eq_true rfl, Nat.le_refl _, Nat.le_refl _⟩ ?_
          refine V_iastN (n := 6) (j := 5) (sx_di dX12_mindedOf 137 rfl) (hB.k _ rfl) (rfl) (by omega) (by omega) ?_
          refine V_aload_n (i := 0) (sx_di dX12_mindedOf 138 rfl) rfl rfl ?_
          refine V_aload_n (i := 0) (sx_di dX12_mindedOf 139 rfl) rfl rfl ?_
          refine V_getI (sx_di dX12_mindedOf 140 rfl) fX12_64 (fun _ => rfl) (hB.k _ rfl) ?_
          refine V_eq (st' := [.int (nI k), .ref 381]) (w' := hp_wi w (l6_ (hp_i w) (hp_i w 398 h + hp_i w 398 (8 + h)) (hp_i w 398 (16 + h)) (hp_i w 398 (24 + h)) (hp_i w 398 (32 + h)) (hp_i w 397 (2 * f))  (ab_ (nI h - hp_i w 398 42)))) rfl rfl (congrArg (fun z => [Value.int z, Value.ref 381]) hho) rfl ?_
          refine V_cV1 (mc' := 0) (ms' := 0) (M' := mX12_worthOf) 5 (sx_di dX12_mindedOf 141 rfl) lX12_292 vX12_worthOf (hB.k _ rfl) (by decide) rfl (Nat.le_of_ble_eq_true rfl) ⟨Nat.le_of_ble_eq_true rfl, Nat.le_of_ble_eq_true rfl⟩ ⟨Nat.le_refl _, Nat.le_refl _⟩ ?_
          have hL6 : lb_ ((l6_ (hp_i w) (hp_i w 398 h + hp_i w 398 (8 + h)) (hp_i w 398 (16 + h)) (hp_i w 398 (24 + h)) (hp_i w 398 (32 + h)) (hp_i w 397 (2 * f))  (ab_ (nI h - hp_i w 398 42))) 390) := fun j hj => by
            rw [l6_at _ _ _ _ _ _ _ j hj]
            exact lb_lt (by rw [q1]; exact bn_ms g1 g2 g3) (by rw [q3]; exact bn_k g4) (by rw [q4]; exact bn_k g5) (by rw [q5]; exact bn_k g6) (by rw [← hz.1]; exact hz.2.2.2) (by rw [hp]; exact bn_ab (by omega) (by omega)) j hj
          refine c_X12_worthOf (w := hp_wi w (l6_ (hp_i w) (hp_i w 398 h + hp_i w 398 (8 + h)) (hp_i w 398 (16 + h)) (hp_i w 398 (24 + h)) (hp_i w 398 (32 + h)) (hp_i w 397 (2 * f))  (ab_ (nI h - hp_i w 398 42)))) (ly_wi hB _) (Nat.le_of_lt hk4) (rl_mv (fun b b1 b2 => l6_o _ _ _ _ _ _ _ (by omega)) hrl) hL6 (fun I2 f2 => ?_)
          have ev : mv_ F sz (hp_i w 398) h = mx_ 0 (mn_ 99 (lwv_ (hp_i (hp_wi w (l6_ (hp_i w) (hp_i w 398 h + hp_i w 398 (8 + h)) (hp_i w 398 (16 + h)) (hp_i w 398 (24 + h)) (hp_i w 398 (32 + h)) (hp_i w 397 (2 * f))  (ab_ (nI h - hp_i w 398 42)))) 390) W)) := by
            unfold mv_ md_
            rw [if_neg h9, if_pos hp0, hF, hf, hz.1]
            show mx_ 0 (mn_ 99 (lwv_ (lt_ (hp_i w 398 h + hp_i w 398 (8 + h)) (hp_i w 398 (16 + h)) (hp_i w 398 (24 + h)) (hp_i w 398 (32 + h)) (hp_i w 397 (2 * f))  (if hp_i w 398 42 = -1 then 9 else ab_ (nI h - hp_i w 398 42))) W)) = _
            rw [if_neg (show ¬ hp_i w 398 42 = -1 from h191)]
            rw [lwv_cg (fun j hj => (l6_at (hp_i w) _ _ _ _ _ _ j hj).symm)]
            rfl
          refine V_istore_n (i := 2) (sx_di dX12_mindedOf 142 rfl) rfl (by decide) (rfl) ?_
          refine V_iconst (v := 0) (sx_di dX12_mindedOf 143 rfl) (by decide) ?_
          refine V_bipush (v := 99) (sx_di dX12_mindedOf 144 rfl) (by decide) ?_
          refine V_iload_n (i := 2) (sx_di dX12_mindedOf 145 rfl) rfl rfl ?_
          refine V_mmin (sx_di dX12_mindedOf 146 rfl) (sx_a6 222 rfl rfl) (sx_a3 135 rfl rfl) (sx_a1 22 rfl rfl) (sx_a3 136 rfl rfl) ⟨Nat.le_of_ble_eq_true rfl, Nat.le_of_ble_eq_true rfl, Nat.le_refl _, Nat.le_refl _⟩ ?_
          refine V_mmax (sx_di dX12_mindedOf 147 rfl) (sx_a6 223 rfl rfl) (sx_a3 186 rfl rfl) (sx_a1 22 rfl rfl) (sx_a3 187 rfl rfl) ⟨Nat.le_of_ble_eq_true rfl, Nat.le_of_ble_eq_true rfl, Nat.le_refl _, Nat.le_refl _⟩ ?_
          refine V_iret (sx_di dX12_mindedOf 148 rfl) rfl (Nat.le_refl _) (Nat.le_refl _) ?_
          refine Q_int (hq I2 (fun b hb => (f2 b (fun z => hb (Or.inr z))).trans (l6_o _ _ _ _ _ _ _ (fun z => hb (Or.inl z))))) ?_
          exact ev
        · refine V_bipush (v := 9) (sx_di dX12_mindedOf 128 rfl) (by decide) ?_
          refine V_goto (tgt := 211) (sx_di dX12_mindedOf 129 rfl) (by decide) ?_
          refine V_iastN (n := 6) (j := 5) (sx_di dX12_mindedOf 137 rfl) (hB.k _ rfl) (rfl) (by omega) (by omega) ?_
          refine V_aload_n (i := 0) (sx_di dX12_mindedOf 138 rfl) rfl rfl ?_
          refine V_aload_n (i := 0) (sx_di dX12_mindedOf 139 rfl) rfl rfl ?_
          refine V_getI (sx_di dX12_mindedOf 140 rfl) fX12_64 (fun _ => rfl) (hB.k _ rfl) ?_
          refine V_eq (st' := [.int (nI k), .ref 381]) (w' := hp_wi w (l6_ (hp_i w) (hp_i w 398 h + hp_i w 398 (8 + h)) (hp_i w 398 (16 + h)) (hp_i w 398 (24 + h)) (hp_i w 398 (32 + h)) (hp_i w 397 (2 * f))  9)) rfl rfl (congrArg (fun z => [Value.int z, Value.ref 381]) hho) rfl ?_
          refine V_cV1 (mc' := 0) (ms' := 0) (M' := mX12_worthOf) 5 (sx_di dX12_mindedOf 141 rfl) lX12_292 vX12_worthOf (hB.k _ rfl) (by decide) rfl (Nat.le_of_ble_eq_true rfl) ⟨Nat.le_of_ble_eq_true rfl, Nat.le_of_ble_eq_true rfl⟩ ⟨Nat.le_refl _, Nat.le_refl _⟩ ?_
          have hL6 : lb_ ((l6_ (hp_i w) (hp_i w 398 h + hp_i w 398 (8 + h)) (hp_i w 398 (16 + h)) (hp_i w 398 (24 + h)) (hp_i w 398 (32 + h)) (hp_i w 397 (2 * f))  9) 390) := fun j hj => by
            rw [l6_at _ _ _ _ _ _ _ j hj]
            exact lb_lt (by rw [q1]; exact bn_ms g1 g2 g3) (by rw [q3]; exact bn_k g4) (by rw [q4]; exact bn_k g5) (by rw [q5]; exact bn_k g6) (by rw [← hz.1]; exact hz.2.2.2) (bn_k (k := 9) (by omega)) j hj
          refine c_X12_worthOf (w := hp_wi w (l6_ (hp_i w) (hp_i w 398 h + hp_i w 398 (8 + h)) (hp_i w 398 (16 + h)) (hp_i w 398 (24 + h)) (hp_i w 398 (32 + h)) (hp_i w 397 (2 * f))  9)) (ly_wi hB _) (Nat.le_of_lt hk4) (rl_mv (fun b b1 b2 => l6_o _ _ _ _ _ _ _ (by omega)) hrl) hL6 (fun I2 f2 => ?_)
          have ev : mv_ F sz (hp_i w 398) h = mx_ 0 (mn_ 99 (lwv_ (hp_i (hp_wi w (l6_ (hp_i w) (hp_i w 398 h + hp_i w 398 (8 + h)) (hp_i w 398 (16 + h)) (hp_i w 398 (24 + h)) (hp_i w 398 (32 + h)) (hp_i w 397 (2 * f))  9)) 390) W)) := by
            unfold mv_ md_
            rw [if_neg h9, if_pos hp0, hF, hf, hz.1]
            show mx_ 0 (mn_ 99 (lwv_ (lt_ (hp_i w 398 h + hp_i w 398 (8 + h)) (hp_i w 398 (16 + h)) (hp_i w 398 (24 + h)) (hp_i w 398 (32 + h)) (hp_i w 397 (2 * f))  (if hp_i w 398 42 = -1 then 9 else ab_ (nI h - hp_i w 398 42))) W)) = _
            rw [if_pos (show hp_i w 398 42 = -1 from h191)]
            rw [lwv_cg (fun j hj => (l6_at (hp_i w) _ _ _ _ _ _ j hj).symm)]
            rfl
          refine V_istore_n (i := 2) (sx_di dX12_mindedOf 142 rfl) rfl (by decide) (rfl) ?_
          refine V_iconst (v := 0) (sx_di dX12_mindedOf 143 rfl) (by decide) ?_
          refine V_bipush (v := 99) (sx_di dX12_mindedOf 144 rfl) (by decide) ?_
          refine V_iload_n (i := 2) (sx_di dX12_mindedOf 145 rfl) rfl rfl ?_
          refine V_mmin (sx_di dX12_mindedOf 146 rfl) (sx_a6 222 rfl rfl) (sx_a3 135 rfl rfl) (sx_a1 22 rfl rfl) (sx_a3 136 rfl rfl) ⟨Nat.le_of_ble_eq_true rfl, Nat.le_of_ble_eq_true rfl, Nat.le_refl _, Nat.le_refl _⟩ ?_
          refine V_mmax (sx_di dX12_mindedOf 147 rfl) (sx_a6 223 rfl rfl) (sx_a3 186 rfl rfl) (sx_a1 22 rfl rfl) (sx_a3 187 rfl rfl) ⟨Nat.le_of_ble_eq_true rfl, Nat.le_of_ble_eq_true rfl, Nat.le_refl _, Nat.le_refl _⟩ ?_
          refine V_iret (sx_di dX12_mindedOf 148 rfl) rfl (Nat.le_refl _) (Nat.le_refl _) ?_
          refine Q_int (hq I2 (fun b hb => (f2 b (fun z => hb (Or.inr z))).trans (l6_o _ _ _ _ _ _ _ (fun z => hb (Or.inl z))))) ?_
          exact ev
      · have hp1 : ¬ (hp_i w 398 40 >>> (nI h &&& 31)) &&& 1 = 0 := fun z => h23 (by rw [z]; rfl)
        refine V_iconst (v := 0) (sx_di dX12_mindedOf 14 rfl) (by decide) ?_
        refine V_iret (sx_di dX12_mindedOf 15 rfl) rfl (Nat.le_refl _) (Nat.le_refl _) ?_
        refine Q_int z0 ?_
        unfold mv_ md_
        rw [if_neg h9, if_neg hp1]

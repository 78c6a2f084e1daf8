/-! the reference: a day that passes, with its log -/
theorem V_iv {E : sxE} {M : sxM} {R : Room} {mc ms ce sl pc : Nat} {ls : List (Nat × Value)} {st : List Value} {w : hpW} {Q : Option Value → hpW → Prop} {x : Int32} (y : Int32) (e : x = y) (k : V E M R mc ms ce sl pc ls (.int y :: st) w Q) : V E M R mc ms ce sl pc ls (.int x :: st) w Q := by subst e; exact k
/-- the state, with a row of the log more -/
def la_ (r : Nat → Int32) : Nat → Int32 := fun k => if (r 45).toNatClampNeg = 60 then (if k = 223 then r 44 else if k = 224 then r 42 else if k = 225 then r 43 else if 46 ≤ k ∧ k < 223 then r (k + 3) else r k) else (if k = 46 + 3 * (r 45).toNatClampNeg then r 44 else if k = 46 + 3 * (r 45).toNatClampNeg + 1 then r 42 else if k = 46 + 3 * (r 45).toNatClampNeg + 2 then r 43 else if k = 45 then nI ((r 45).toNatClampNeg + 1) else r k)
noncomputable def pd_ (F : wF) (sz fo : Int32 → Int32) (bt : Int32) (n : Nat) (m0 s : Nat → Int32) : Nat → Int32 := if ¬ bt < 1 ∧ (s 44 + 1) - (s 44 + 1) / bt * bt = 0 then la_ (dv_ F sz fo bt n m0 s) else dv_ F sz fo bt n m0 s
def sf_ (I : Nat → Nat → Int32) (k : Nat) : Nat → Nat → Int32 := fun q j => if q = 398 ∧ 46 ≤ j ∧ j + 3 < 46 + k then I 398 (j + 3) else I q j
def t4_ (I : Nat → Nat → Int32) (L : Nat) : Nat → Nat → Int32 := hp_u (hp_u (hp_u (hp_u I 398 (46 + 3 * L) (I 398 44)) 398 (46 + 3 * L + 1) (I 398 42)) 398 (46 + 3 * L + 2) (I 398 43)) 398 45 (nI (L + 1))
theorem sf_0 (I : Nat → Nat → Int32) : sf_ I 3 = I := by
  funext q j
  unfold sf_
  rw [if_neg (by omega)]
theorem sf_s (I : Nat → Nat → Int32) {k : Nat} (h : 3 ≤ k) : hp_u (sf_ I k) 398 (46 + k - 3) (sf_ I k 398 (46 + k)) = sf_ I (k + 1) := by
  have e : sf_ I k 398 (46 + k) = I 398 (46 + k) := by unfold sf_; rw [if_neg (by omega)]
  rw [e]
  funext q j
  unfold hp_u
  by_cases h1 : q = 398 ∧ j = 46 + k - 3
  · rw [if_pos h1]
    unfold sf_
    rw [if_pos (by omega), h1.2, show 46 + k - 3 + 3 = 46 + k by omega]
  · rw [if_neg h1]
    unfold sf_
    by_cases h2 : q = 398 ∧ 46 ≤ j ∧ j + 3 < 46 + k
    · rw [if_pos h2, if_pos (by omega)]
    · rw [if_neg h2, if_neg (by omega)]
theorem t4_o {I : Nat → Nat → Int32} {L b : Nat} (h : b ≠ 398) : t4_ I L b = I b := by
  funext j
  unfold t4_
  rw [hp_u_nk _ _ (by omega), hp_u_nk _ _ (by omega), hp_u_nk _ _ (by omega), hp_u_nk _ _ (by omega)]
theorem t4_la {I : Nat → Nat → Int32} {L : Nat} (hL : L < 60) (e : I 398 45 = nI L) : t4_ I L 398 = la_ (I 398) := by
  funext j
  unfold t4_ la_
  rw [e, nI_clamp (by omega), if_neg (by omega)]
  by_cases h0 : j = 45
  · subst h0
    rw [hp_u_at, if_neg (by omega), if_neg (by omega), if_neg (by omega), if_pos rfl]
  · rw [hp_u_nk _ _ (by omega)]
    by_cases h3 : j = 46 + 3 * L + 2
    · subst h3
      rw [hp_u_at, if_neg (by omega), if_neg (by omega), if_pos rfl]
    · rw [hp_u_nk _ _ (by omega)]
      by_cases h2 : j = 46 + 3 * L + 1
      · subst h2
        rw [hp_u_at, if_neg (by omega), if_pos rfl]
      · rw [hp_u_nk _ _ (by omega)]
        by_cases h1 : j = 46 + 3 * L
        · subst h1
          rw [hp_u_at, if_pos rfl]
        · rw [hp_u_nk _ _ (by omega), if_neg h1, if_neg h2, if_neg h3, if_neg h0]
theorem t4_sh {I : Nat → Nat → Int32} (e : I 398 45 = nI 60) : t4_ (hp_u (sf_ I 180) 398 45 (nI 59)) 59 398 = la_ (I 398) := by
  funext j
  unfold t4_ la_
  rw [e, nI_clamp (by omega), if_pos rfl]
  by_cases h0 : j = 45
  · subst h0
    rw [hp_u_at, if_neg (by omega), if_neg (by omega), if_neg (by omega), if_neg (by omega), e]
  · rw [hp_u_nk _ _ (by omega)]
    by_cases h3 : j = 225
    · subst h3
      rw [hp_u_at, if_neg (by omega), if_neg (by omega), if_pos rfl, hp_u_nk _ _ (by omega)]
      unfold sf_
      rw [if_neg (by omega)]
    · rw [hp_u_nk _ _ (by omega)]
      by_cases h2 : j = 224
      · subst h2
        rw [hp_u_at, if_neg (by omega), if_pos rfl, hp_u_nk _ _ (by omega)]
        unfold sf_
        rw [if_neg (by omega)]
      · rw [hp_u_nk _ _ (by omega)]
        by_cases h1 : j = 223
        · subst h1
          rw [hp_u_at, if_pos rfl, hp_u_nk _ _ (by omega)]
          unfold sf_
          rw [if_neg (by omega)]
        · rw [hp_u_nk _ _ (by omega), if_neg h1, if_neg h2, if_neg h3, hp_u_nk _ _ (by omega)]
          unfold sf_
          by_cases h4 : 46 ≤ j ∧ j < 223
          · rw [if_pos h4, if_pos (by omega)]
          · rw [if_neg h4, if_neg (by omega)]
set_option maxHeartbeats 2000000 in
set_option maxRecDepth 20000 in
theorem pd_tl {E : sxE} {w : hpW} {Q : Option Value → hpW → Prop} (hB : ly_B w) {L : Nat} (hL : L < 60) (e : hp_i w 398 45 = nI L) (h : Q none (hp_wi w (t4_ (hp_i w) L))) : V E mX12_passDay (sx_rm 9 0 0) 0 0 0 0 65 [(0, .ref 381)] [] w Q := by
  refine V_bipush (v := 46) (sx_di dX12_passDay 38 rfl) (by decide) ?_
  refine V_iconst (v := 3) (sx_di dX12_passDay 39 rfl) (by decide) ?_
  refine V_aload_n (i := 0) (sx_di dX12_passDay 40 rfl) rfl rfl ?_
  refine V_getR (sx_di dX12_passDay 41 rfl) fX12_58 (fun _ => rfl) (hB.k _ rfl) (hB.r _ _ rfl) ?_
  refine V_bipush (v := 45) (sx_di dX12_passDay 42 rfl) (by decide) ?_
  refine V_ialdN (n := 226) (j := 45) (sx_di dX12_passDay 43 rfl) (hB.k _ rfl) (rfl) (by omega) (by omega) ?_
  refine V_iv (y := nI L) (e) ?_
  refine V_imul (sx_di dX12_passDay 44 rfl) ?_
  refine V_iadd (sx_di dX12_passDay 45 rfl) ?_
  refine V_istore_n (i := 1) (sx_di dX12_passDay 46 rfl) rfl (by decide) (rfl) ?_
  refine V_aload_n (i := 0) (sx_di dX12_passDay 47 rfl) rfl rfl ?_
  refine V_getR (sx_di dX12_passDay 48 rfl) fX12_58 (fun _ => rfl) (hB.k _ rfl) (hB.r _ _ rfl) ?_
  refine V_iload_n (i := 1) (sx_di dX12_passDay 49 rfl) rfl rfl ?_
  refine V_aload_n (i := 0) (sx_di dX12_passDay 50 rfl) rfl rfl ?_
  refine V_getR (sx_di dX12_passDay 51 rfl) fX12_58 (fun _ => rfl) (hB.k _ rfl) (hB.r _ _ rfl) ?_
  refine V_bipush (v := 44) (sx_di dX12_passDay 52 rfl) (by decide) ?_
  refine V_ialdN (n := 226) (j := 44) (sx_di dX12_passDay 53 rfl) (hB.k _ rfl) (rfl) (by omega) (by omega) ?_
  refine V_iv (y := hp_i w 398 44) (rfl) ?_
  refine V_iastN (n := 226) (j := (46 + (3 * L))) (sx_di dX12_passDay 54 rfl) (hB.k _ rfl) (nx_add (rfl) (nx_mul (rfl) (rfl))) (by omega) (by omega) ?_
  refine V_aload_n (i := 0) (sx_di dX12_passDay 55 rfl) rfl rfl ?_
  refine V_getR (sx_di dX12_passDay 56 rfl) fX12_58 (fun _ => rfl) (hB.k _ rfl) (hB.r _ _ rfl) ?_
  refine V_iload_n (i := 1) (sx_di dX12_passDay 57 rfl) rfl rfl ?_
  refine V_iconst (v := 1) (sx_di dX12_passDay 58 rfl) (by decide) ?_
  refine V_iadd (sx_di dX12_passDay 59 rfl) ?_
  refine V_aload_n (i := 0) (sx_di dX12_passDay 60 rfl) rfl rfl ?_
  refine V_getR (sx_di dX12_passDay 61 rfl) fX12_58 (fun _ => rfl) (hB.k _ rfl) (hB.r _ _ rfl) ?_
  refine V_bipush (v := 42) (sx_di dX12_passDay 62 rfl) (by decide) ?_
  refine V_ialdN (n := 226) (j := 42) (sx_di dX12_passDay 63 rfl) (hB.k _ rfl) (rfl) (by omega) (by omega) ?_
  refine V_iv (y := hp_i w 398 42) (hp_u_nk _ _ (by omega)) ?_
  refine V_iastN (n := 226) (j := ((46 + (3 * L)) + 1)) (sx_di dX12_passDay 64 rfl) (hB.k _ rfl) (nx_add (nx_add (rfl) (nx_mul (rfl) (rfl))) (rfl)) (by omega) (by omega) ?_
  refine V_aload_n (i := 0) (sx_di dX12_passDay 65 rfl) rfl rfl ?_
  refine V_getR (sx_di dX12_passDay 66 rfl) fX12_58 (fun _ => rfl) (hB.k _ rfl) (hB.r _ _ rfl) ?_
  refine V_iload_n (i := 1) (sx_di dX12_passDay 67 rfl) rfl rfl ?_
  refine V_iconst (v := 2) (sx_di dX12_passDay 68 rfl) (by decide) ?_
  refine V_iadd (sx_di dX12_passDay 69 rfl) ?_
  refine V_aload_n (i := 0) (sx_di dX12_passDay 70 rfl) rfl rfl ?_
  refine V_getR (sx_di dX12_passDay 71 rfl) fX12_58 (fun _ => rfl) (hB.k _ rfl) (hB.r _ _ rfl) ?_
  refine V_bipush (v := 43) (sx_di dX12_passDay 72 rfl) (by decide) ?_
  refine V_ialdN (n := 226) (j := 43) (sx_di dX12_passDay 73 rfl) (hB.k _ rfl) (rfl) (by omega) (by omega) ?_
  refine V_iv (y := hp_i w 398 43) ((hp_u_nk _ _ (by omega)).trans (hp_u_nk _ _ (by omega))) ?_
  refine V_iastN (n := 226) (j := ((46 + (3 * L)) + 2)) (sx_di dX12_passDay 74 rfl) (hB.k _ rfl) (nx_add (nx_add (rfl) (nx_mul (rfl) (rfl))) (rfl)) (by omega) (by omega) ?_
  refine V_aload_n (i := 0) (sx_di dX12_passDay 75 rfl) rfl rfl ?_
  refine V_getR (sx_di dX12_passDay 76 rfl) fX12_58 (fun _ => rfl) (hB.k _ rfl) (hB.r _ _ rfl) ?_
  refine V_bipush (v := 45) (sx_di dX12_passDay 77 rfl) (by decide) ?_
  refine V_dup2 (sx_di dX12_passDay 78 rfl) rfl rfl ?_
  refine V_ialdN (n := 226) (j := 45) (sx_di dX12_passDay 79 rfl) (hB.k _ rfl) (rfl) (by omega) (by omega) ?_
  refine V_iv (y := nI L) ((hp_u_nk _ _ (by omega)).trans ((hp_u_nk _ _ (by omega)).trans ((hp_u_nk _ _ (by omega)).trans e))) ?_
  refine V_iconst (v := 1) (sx_di dX12_passDay 80 rfl) (by decide) ?_
  refine V_iadd (sx_di dX12_passDay 81 rfl) ?_
  refine V_iv (y := nI (L + 1)) (nI_add L 1) ?_
  refine V_iastN (n := 226) (j := 45) (sx_di dX12_passDay 82 rfl) (hB.k _ rfl) (rfl) (by omega) (by omega) ?_
  refine V_vret (sx_di dX12_passDay 83 rfl) rfl (Nat.le_refl _) (Nat.le_refl _) ?_
  exact h
set_option maxHeartbeats 2000000 in
set_option maxRecDepth 20000 in
theorem pdr_lp {E : sxE} {w : hpW} {Q : Option Value → hpW → Prop} (hB : ly_B w) (e : hp_i w 398 45 = nI 60) (h : Q none (hp_wi w (t4_ (hp_u (sf_ (hp_i w) 180) 398 45 (nI 59)) 59))) : ∀ q k, k + q = 180 → 3 ≤ k → V E mX12_passDay (sx_rm 9 0 0) 0 0 0 0 21 [(1, .int (nI k)), (0, .ref 381)] [] (hp_wi w (sf_ (hp_i w) k)) Q := by
  intro q
  induction q with
  | zero =>
    intro k hk hk3
    have e1 : k = 180 := by omega
    subst e1
    have e45 : sf_ (hp_i w) 180 398 45 = nI 60 := by unfold sf_; rw [if_neg (by omega)]; exact e
    refine V_iload_n (i := 1) (sx_di dX12_passDay 11 rfl) rfl rfl ?_
    refine V_sipush (v := 180) (sx_di dX12_passDay 12 rfl) (by decide) ?_
    refine V_icN_ge (a := 180) (b := 180) (rfl) (rfl) (by omega) (by omega) (tgt := 54) (sx_di dX12_passDay 13 rfl) (by decide) (fun _ => ?_) (fun h25 => absurd h25 (by omega))
    refine V_aload_n (i := 0) (sx_di dX12_passDay 30 rfl) rfl rfl ?_
    refine V_getR (sx_di dX12_passDay 31 rfl) fX12_58 (fun _ => rfl) (hB.k _ rfl) (hB.r _ _ rfl) ?_
    refine V_bipush (v := 45) (sx_di dX12_passDay 32 rfl) (by decide) ?_
    refine V_dup2 (sx_di dX12_passDay 33 rfl) rfl rfl ?_
    refine V_ialdN (n := 226) (j := 45) (sx_di dX12_passDay 34 rfl) (hB.k _ rfl) (rfl) (by omega) (by omega) ?_
    refine V_iv (y := nI 60) (e45) ?_
    refine V_iconst (v := 1) (sx_di dX12_passDay 35 rfl) (by decide) ?_
    refine V_isub (sx_di dX12_passDay 36 rfl) ?_
    refine V_iv (y := nI 59) (rfl) ?_
    refine V_iastN (n := 226) (j := 45) (sx_di dX12_passDay 37 rfl) (hB.k _ rfl) (rfl) (by omega) (by omega) ?_
    refine V_sub (ls' := [(0, .ref 381)]) ⟨rfl, trivial⟩ ?_
    exact pd_tl (w := hp_wi w (hp_u (sf_ (hp_i w) 180) 398 45 (nI 59))) (L := 59) hB (by omega) (hp_u_at (sf_ (hp_i w) 180) 398 45 (nI 59)) h
  | succ q ih =>
    intro k hk hk3
    have q1 := ih (k + 1) (by omega) (by omega)
    rw [← sf_s _ hk3, ← nI_1] at q1
    refine V_iload_n (i := 1) (sx_di dX12_passDay 11 rfl) rfl rfl ?_
    refine V_sipush (v := 180) (sx_di dX12_passDay 12 rfl) (by decide) ?_
    refine V_icN_ge (a := k) (b := 180) (rfl) (rfl) (by omega) (by omega) (tgt := 54) (sx_di dX12_passDay 13 rfl) (by decide) (fun h25 => absurd h25 (by omega)) (fun _ => ?_)
    refine V_aload_n (i := 0) (sx_di dX12_passDay 14 rfl) rfl rfl ?_
    refine V_getR (sx_di dX12_passDay 15 rfl) fX12_58 (fun _ => rfl) (hB.k _ rfl) (hB.r _ _ rfl) ?_
    refine V_bipush (v := 46) (sx_di dX12_passDay 16 rfl) (by decide) ?_
    refine V_iload_n (i := 1) (sx_di dX12_passDay 17 rfl) rfl rfl ?_
    refine V_iadd (sx_di dX12_passDay 18 rfl) ?_
    refine V_iconst (v := 3) (sx_di dX12_passDay 19 rfl) (by decide) ?_
    refine V_isub (sx_di dX12_passDay 20 rfl) ?_
    refine V_aload_n (i := 0) (sx_di dX12_passDay 21 rfl) rfl rfl ?_
    refine V_getR (sx_di dX12_passDay 22 rfl) fX12_58 (fun _ => rfl) (hB.k _ rfl) (hB.r _ _ rfl) ?_
    refine V_bipush (v := 46) (sx_di dX12_passDay 23 rfl) (by decide) ?_
    refine V_iload_n (i := 1) (sx_di dX12_passDay 24 rfl) rfl rfl ?_
    refine V_iadd (sx_di dX12_passDay 25 rfl) ?_
    refine V_ialdN (n := 226) (j := (46 + k)) (sx_di dX12_passDay 26 rfl) (hB.k _ rfl) (nx_add (rfl) (rfl)) (by omega) (by omega) ?_
    refine V_iastN (n := 226) (j := ((46 + k) - 3)) (sx_di dX12_passDay 27 rfl) (hB.k _ rfl) (nx_sub (nx_add (rfl) (rfl)) (rfl) (by omega)) (by omega) (by omega) ?_
    refine V_inc (c := 1) (sx_di dX12_passDay 28 rfl) (by decide) rfl (by decide) (rfl) ?_
    refine V_goto (tgt := 21) (sx_di dX12_passDay 29 rfl) (by decide) ?_
    exact V_subk q1 ⟨rfl, rfl, trivial⟩
set_option maxHeartbeats 2000000 in
set_option maxRecDepth 20000 in
theorem c_X12_passDay {E : sxE} {w : hpW} {Q : Option Value → hpW → Prop} {n m : Nat} {F : wF} {sz fo : Int32 → Int32} {bt : Int32} {m0 s : Nat → Int32} (R : RQ w n m F sz fo bt m0 s) (h0 : 0 < n) {L : Nat} (e : s 45 = nI L) (hL6 : L ≤ 60) (h : ∀ I, fr_ w I RY → I 398 = pd_ F sz fo bt n m0 s → Q none (hp_wi w I)) : sx_C E mX12_passDay 9 0 0 [.ref 381] w Q := by
  obtain ⟨hB, hRS, hL, hO, hs⟩ := id R
  obtain ⟨hn, hn8, hm, hm6, hfo, hbt, hb, hm0⟩ := id hRS
  subst hs
  refine C_of (by decide +kernel) (Nat.le_of_ble_eq_true rfl) ?_
  refine V_aload_n (i := 0) (sx_di dX12_passDay 0 rfl) rfl rfl ?_
  refine V_cV0 (mc' := 0) (ms' := 0) (M' := mX12_live) 8 (sx_di dX12_passDay 1 rfl) lX12_308 vX12_live (hB.k _ rfl) (by decide) rfl (Nat.le_of_ble_eq_true rfl) ⟨Nat.le_of_ble_eq_true rfl, Nat.le_of_ble_eq_true rfl⟩ ⟨Nat.le_refl _, Nat.le_refl _⟩ ?_
  refine c_X12_live R h0 (fun I r f e1 er => ?_)
  have hB2 := ly_wi hB I
  have e45 : I 398 45 = nI L := (congrFun e1 45).trans ((dv_hi hn8 (by omega)).trans e)
  refine V_if_eq (tgt := 132) (sx_di dX12_passDay 2 rfl) (by decide) (fun h4 => ?_) (fun h4 => ?_)
  · have hm1 : ¬ (¬ bt < 1 ∧ (hp_i w 398 44 + 1) - (hp_i w 398 44 + 1) / bt * bt = 0) := fun z => by rw [if_pos z] at er; exact absurd (er.symm.trans h4) (by decide)
    refine V_vret (sx_di dX12_passDay 83 rfl) rfl (Nat.le_refl _) (Nat.le_refl _) ?_
    exact h I f (e1.trans (by unfold pd_; rw [if_neg hm1]))
  · have hm1 : (¬ bt < 1 ∧ (hp_i w 398 44 + 1) - (hp_i w 398 44 + 1) / bt * bt = 0) := Classical.byContradiction (fun z => h4 (er.trans (if_neg z)))
    refine V_aload_n (i := 0) (sx_di dX12_passDay 3 rfl) rfl rfl ?_
    refine V_getR (sx_di dX12_passDay 4 rfl) fX12_58 (fun _ => rfl) (hB2.k _ rfl) (hB2.r _ _ rfl) ?_
    refine V_bipush (v := 45) (sx_di dX12_passDay 5 rfl) (by decide) ?_
    refine V_ialdN (n := 226) (j := 45) (sx_di dX12_passDay 6 rfl) (hB2.k _ rfl) (rfl) (by omega) (by omega) ?_
    refine V_iv (y := nI L) (e45) ?_
    refine V_bipush (v := 60) (sx_di dX12_passDay 7 rfl) (by decide) ?_
    refine V_icN_ne (a := L) (b := 60) (rfl) (rfl) (by omega) (by omega) (tgt := 65) (sx_di dX12_passDay 8 rfl) (by decide) (fun h16 => ?_) (fun h16 => ?_)
    · refine V_sub (ls' := [(0, .ref 381)]) ⟨rfl, trivial⟩ ?_
      refine pd_tl (w := hp_wi w I) (L := L) hB2 (by omega) e45 (h _ (fun b hb => ?_) ?_)
      · rw [← f b hb, t4_o (fun z => hb (Or.inl z))]; rfl
      · show t4_ I L 398 = _; rw [t4_la (by omega) e45]; unfold pd_; rw [if_pos hm1]; exact congrArg la_ e1
    · refine V_iconst (v := 3) (sx_di dX12_passDay 9 rfl) (by decide) ?_
      refine V_istore_n (i := 1) (sx_di dX12_passDay 10 rfl) rfl (by decide) (rfl) ?_
      subst h16
      refine V_eq rfl rfl rfl (show hp_wi w I = hp_wi (hp_wi w I) (sf_ I 3) by rw [sf_0]; rfl) ?_
      refine V_sub (ls' := [(1, .int (nI 3)), (0, .ref 381)]) ⟨rfl, rfl, trivial⟩ ?_
      refine pdr_lp (w := hp_wi w I) hB2 e45 (h _ (fun b hb => ?_) ?_) 177 3 rfl (by omega)
      · rw [← f b hb, t4_o (fun z => hb (Or.inl z))]; funext j; rw [hp_u_nk _ _ (fun z => hb (Or.inl z.1))]; unfold sf_; rw [if_neg (fun z => hb (Or.inl z.1))]; rfl
      · show t4_ (hp_u (sf_ I 180) 398 45 (nI 59)) 59 398 = _; rw [t4_sh e45]; unfold pd_; rw [if_pos hm1]; exact congrArg la_ e1
def ad_ (d x : Int32) : Int32 := if in_ x 1 60 = 0 then 0 else if 9999 < d + x then 0 else 1
set_option maxHeartbeats 2000000 in
set_option maxRecDepth 20000 in
theorem c_X12_areDays {E : sxE} {w : hpW} {Q : Option Value → hpW → Prop} (hB : ly_B w) {x : Int32} (h : Q (some (.int (ad_ (hp_i w 398 44) x))) w) : sx_C E mX12_areDays 2 0 0 [.ref 381, .int x] w Q := by
  unfold ad_ at h
  refine C_of (by decide +kernel) (Nat.le_of_ble_eq_true rfl) ?_
  refine V_iload_n (i := 1) (sx_di dX12_areDays 0 rfl) rfl rfl ?_
  refine V_iconst (v := 1) (sx_di dX12_areDays 1 rfl) (by decide) ?_
  refine V_bipush (v := 60) (sx_di dX12_areDays 2 rfl) (by decide) ?_
  refine V_cS3 (mc' := 0) (ms' := 0) (M' := mX12_in) 1 (sx_di dX12_areDays 3 rfl) lX12_214 vX12_in (Nat.le_of_ble_eq_true rfl) ⟨Nat.le_of_ble_eq_true rfl, Nat.le_of_ble_eq_true rfl⟩ ⟨Nat.le_refl _, Nat.le_refl _⟩ ?_
  refine c_X12_in ?_
  refine V_if_eq (tgt := 29) (sx_di dX12_areDays 4 rfl) (by decide) (fun h7 => ?_) (fun h7 => ?_)
  · rw [if_pos h7] at h
    refine V_iconst (v := 0) (sx_di dX12_areDays 15 rfl) (by decide) ?_
    refine V_zret (sx_di dX12_areDays 16 rfl) rfl (by first | rfl | decide) (Nat.le_refl _) (Nat.le_refl _) ?_
    exact h
  · rw [if_neg h7] at h
    refine V_aload_n (i := 0) (sx_di dX12_areDays 5 rfl) rfl rfl ?_
    refine V_getR (sx_di dX12_areDays 6 rfl) fX12_58 (fun _ => rfl) (hB.k _ rfl) (hB.r _ _ rfl) ?_
    refine V_bipush (v := 44) (sx_di dX12_areDays 7 rfl) (by decide) ?_
    refine V_ialdN (n := 226) (j := 44) (sx_di dX12_areDays 8 rfl) (hB.k _ rfl) (rfl) (by omega) (by omega) ?_
    refine V_iload_n (i := 1) (sx_di dX12_areDays 9 rfl) rfl rfl ?_
    refine V_iadd (sx_di dX12_areDays 10 rfl) ?_
    refine V_sipush (v := 9999) (sx_di dX12_areDays 11 rfl) (by decide) ?_
    refine V_icmp_gt (tgt := 29) (sx_di dX12_areDays 12 rfl) (by decide) (fun h22 => ?_) (fun h22 => ?_)
    · rw [if_pos h22] at h
      refine V_iconst (v := 0) (sx_di dX12_areDays 15 rfl) (by decide) ?_
      refine V_zret (sx_di dX12_areDays 16 rfl) rfl (by first | rfl | decide) (Nat.le_refl _) (Nat.le_refl _) ?_
      exact h
    · rw [if_neg h22] at h
      refine V_iconst (v := 1) (sx_di dX12_areDays 13 rfl) (by decide) ?_
      refine V_goto (tgt := 30) (sx_di dX12_areDays 14 rfl) (by decide) ?_
      refine V_zret (sx_di dX12_areDays 16 rfl) rfl (by first | rfl | decide) (Nat.le_refl _) (Nat.le_refl _) ?_
      exact h

/-! how much a law says, of the class; Math -/
set_option maxHeartbeats 2000000 in
set_option maxRecDepth 20000 in
theorem c_X1_reckon {E : sxE} {w : hpW} {Q : Option Value → hpW → Prop} {a k0 k1 : Nat} (hs : is_Lw w a) (hk : k0 ≤ k1) (hk1 : k1 < 2 ^ 31) (h : ∀ I, fr_ w I (fun b => b = a + 5) → Q (some (.int ((rk_ (hp_i w (a + 1)) (hp_i w (a + 4)) k0 (k1 - k0) []).headD 0))) (hp_wi w I)) : sx_C E mX1_reckon 2 0 0 [.ref a, .int (nI k0), .int (nI k1)] w Q := by
  refine C_of (by decide +kernel) (Nat.le_of_ble_eq_true rfl) ?_
  refine V_iconst (v := 0) (sx_di dX1_reckon 0 rfl) (by decide) ?_
  refine V_istore_n (i := 3) (sx_di dX1_reckon 1 rfl) rfl (by decide) (rfl) ?_
  refine V_iconst (v := 0) (sx_di dX1_reckon 2 rfl) (by decide) ?_
  refine V_iload_n (i := 1) (sx_di dX1_reckon 3 rfl) rfl rfl ?_
  refine V_mmax (sx_di dX1_reckon 4 rfl) (sx_a4 11 rfl rfl) (sx_a3 186 rfl rfl) (sx_a1 22 rfl rfl) (sx_a3 187 rfl rfl) ⟨Nat.le_of_ble_eq_true rfl, Nat.le_of_ble_eq_true rfl, Nat.le_refl _, Nat.le_refl _⟩ ?_
  rw [mx_nI (by omega)]
  refine V_istore (sx_di dX1_reckon 5 rfl) (by decide) (rfl) ?_
  refine V_sub (ls' := [(4, .int (nI k0)), (3, .int (nI ([] : List Int32).length)), (2, .int (nI k1)), (1, .int (nI k0)), (0, .ref a)]) ⟨rfl, rfl, rfl, rfl, rfl, trivial⟩ ?_
  exact rk_lp (w := w) hs hk1 _ h (k1 - k0) k0 [] (hp_i w) (by omega) fr_rf ⟨by simp, fun j hj => by simp at hj⟩ rfl
/-- the six letters -/
def lt_ (m w g p t d : Int32) : Nat → Int32 := fun j => if j = 0 then m else if j = 1 then w else if j = 2 then g else if j = 3 then p else if j = 4 then t else d
theorem rs_cg {L L' : Nat → Int32} (h : ∀ j, j < 6 → L j = L' j) (st : List Int32) (c : Int32) : rs_ L st c = rs_ L' st c := by
  unfold rs_
  by_cases h1 : c < -6
  · rw [if_pos h1, if_pos h1]
  · rw [if_neg h1, if_neg h1]
    by_cases h2 : st.length < 48
    · rw [if_pos h2, if_pos h2]
      by_cases h3 : c < 0
      · rw [if_pos h3, if_pos h3, h _ (sx_in (rk_ix h1 h3))]
      · rw [if_neg h3, if_neg h3]
    · rw [if_neg h2, if_neg h2]
theorem rk_cg {C L L' : Nat → Int32} (h : ∀ j, j < 6 → L j = L' j) : ∀ (n k : Nat) (st : List Int32), rk_ C L k n st = rk_ C L' k n st
  | 0, _, _ => rfl
  | n + 1, k, st => by
    rw [rk_, rk_, rs_cg h st, rk_cg h n (k + 1)]
/-- what a law's cells say of its clauses: n of them, sz signs; conditions from cd, sums from sm -/
def ld_ (I : Nat → Nat → Int32) (a n sz : Nat) (cd sm : Nat → Nat) : Prop := n ≤ 64 ∧ sz ≤ 240 ∧ I a 1 = nI n ∧ I a 0 = nI sz ∧ ∀ c, c < n → I (a + 2) c = nI (cd c) ∧ I (a + 3) c = nI (sm c) ∧ cd c ≤ sm c ∧ sm c ≤ (if c + 1 < n then cd (c + 1) else sz) ∧ (if c + 1 < n then cd (c + 1) else sz) ≤ 240
/-- clause c and those behind it (m in all) -/
def wc_ (C L : Nat → Int32) (n sz : Nat) (cd sm : Nat → Nat) (c : Nat) : Nat → Int32
  | 0 => 0
  | m + 1 => if cd c = sm c ∨ (rk_ C L (cd c) (sm c - cd c) []).headD 0 ≠ 0 then (rk_ C L (sm c) ((if c + 1 < n then cd (c + 1) else sz) - sm c) []).headD 0 else wc_ C L n sz cd sm (c + 1) m
theorem wc_cg {C L L' : Nat → Int32} (h : ∀ j, j < 6 → L j = L' j) {n sz : Nat} {cd sm : Nat → Nat} : ∀ (m c : Nat), wc_ C L n sz cd sm c m = wc_ C L' n sz cd sm c m
  | 0, _ => rfl
  | m + 1, c => by rw [wc_, wc_, rk_cg h, rk_cg h, wc_cg h m (c + 1)]
set_option maxHeartbeats 2000000 in
set_option maxRecDepth 20000 in
theorem wo_lp {E : sxE} {w : hpW} {Q : Option Value → hpW → Prop} {a n sz : Nat} {cd sm : Nat → Nat} (hs : is_Lw w a) (hd : ld_ (hp_i w) a n sz cd sm) : ∀ m c I, c + m = n → fr_ w I (fun b => b = a + 5) → (∀ I, fr_ w I (fun b => b = a + 5) → Q (some (.int (wc_ (hp_i w (a + 1)) (hp_i w (a + 4)) n sz cd sm c m))) (hp_wi w I)) → V E mX1_worth (sx_rm 3 0 0) 0 0 0 0 48 [(7, .int (nI c)), (0, .ref a)] [] (hp_wi w I) Q := by
  obtain ⟨hn64, hsz, hcn, hcs, hcl⟩ := hd
  intro m
  induction m with
  | zero =>
    intro c I hc hf h
    have e : c = n := by omega
    subst e
    have hcn2 : hp_i (hp_wi w I) a 1 = nI c := (fr_w1 hf (by omega) 1).trans hcn
    refine V_iload (sx_di dX1_worth 32 rfl) rfl ?_
    refine V_aload_n (i := 0) (sx_di dX1_worth 33 rfl) rfl rfl ?_
    refine V_getI (sx_di dX1_worth 34 rfl) fX1_31 (fun _ => rfl) (by first | exact hs.1 | exact hs.2.1 | exact hs.2.2.1 | exact hs.2.2.2.1 | exact hs.2.2.2.2.1 | exact hs.2.2.2.2.2.1) ?_
    refine V_icmp_ge (tgt := 149) (sx_di dX1_worth 35 rfl) (by decide) (fun _ => ?_) (fun h54 => absurd (by rw [hcn2]; exact Int32.le_refl _) h54)
    refine V_iconst (v := 0) (sx_di dX1_worth 83 rfl) (by decide) ?_
    refine V_iret (sx_di dX1_worth 84 rfl) rfl (Nat.le_refl _) (Nat.le_refl _) ?_
    exact h I hf
  | succ m ih =>
    intro c I hc hf h
    obtain ⟨d1, d2, d3, d4, d5⟩ := hcl c (by omega)
    have hcn2 : ∀ J, fr_ w J (fun b => b = a + 5) → hp_i (hp_wi w J) a 1 = nI n := fun J hJ => (fr_w1 hJ (by omega) 1).trans hcn
    have hcs2 : ∀ J, fr_ w J (fun b => b = a + 5) → hp_i (hp_wi w J) a 0 = nI sz := fun J hJ => (fr_w1 hJ (by omega) 0).trans hcs
    have e1 : hp_i (hp_wi w I) (a + 2) (nI c).toNatClampNeg = nI (cd c) := by rw [nI_clamp (by omega)]; exact (fr_w1 hf (by omega) c).trans d1
    have e2 : hp_i (hp_wi w I) (a + 3) (nI c).toNatClampNeg = nI (sm c) := by rw [nI_clamp (by omega)]; exact (fr_w1 hf (by omega) c).trans d2
    have hin : vp_in (nI c) 64 := vp_in_nI (by omega) (by decide)
    have q1 := ih (c + 1)
    rw [← nI_1] at q1
    have key : ∀ J, fr_ w J (fun b => b = a + 5) → (∀ I, fr_ w I (fun b => b = a + 5) → Q (some (.int ((rk_ (hp_i w (a + 1)) (hp_i w (a + 4)) (sm c) ((if c + 1 < n then cd (c + 1) else sz) - sm c) []).headD 0))) (hp_wi w I)) → V E mX1_worth (sx_rm 3 0 0) 0 0 0 0 100 [(9, .int (nI (sm c))), (7, .int (nI c)), (0, .ref a)] [] (hp_wi w J) Q := by
      intro J hJ hq
      have e3 : hp_i (hp_wi w J) (a + 1) = hp_i w (a + 1) := hJ (a + 1) (by omega)
      have e4 : hp_i (hp_wi w J) (a + 4) = hp_i w (a + 4) := hJ (a + 4) (by omega)
      refine V_aload_n (i := 0) (sx_di dX1_worth 57 rfl) rfl rfl ?_
      refine V_iload (sx_di dX1_worth 58 rfl) rfl ?_
      refine V_iload (sx_di dX1_worth 59 rfl) rfl ?_
      refine V_iconst (v := 1) (sx_di dX1_worth 60 rfl) (by decide) ?_
      refine V_iadd (sx_di dX1_worth 61 rfl) ?_
      refine V_aload_n (i := 0) (sx_di dX1_worth 62 rfl) rfl rfl ?_
      refine V_getI (sx_di dX1_worth 63 rfl) fX1_31 (fun _ => rfl) (by first | exact hs.1 | exact hs.2.1 | exact hs.2.2.1 | exact hs.2.2.2.1 | exact hs.2.2.2.2.1 | exact hs.2.2.2.2.2.1) ?_
      refine V_icmp_ge (tgt := 135) (sx_di dX1_worth 64 rfl) (by decide) (fun h111 => ?_) (fun h111 => ?_)
      · rw [hcn2 J hJ, nI_1] at h111
        have cn : ¬ c + 1 < n := fun z => absurd h111 (nI_ge z (by omega))
        rw [if_neg cn] at d4 d5 hq
        refine V_aload_n (i := 0) (sx_di dX1_worth 77 rfl) rfl rfl ?_
        refine V_getI (sx_di dX1_worth 78 rfl) fX1_27 (fun _ => rfl) (by first | exact hs.1 | exact hs.2.1 | exact hs.2.2.1 | exact hs.2.2.2.1 | exact hs.2.2.2.2.1 | exact hs.2.2.2.2.2.1) ?_
        rw [hcs2 J hJ]
        refine V_cV2 (mc' := 0) (ms' := 0) (M' := mX1_reckon) 2 (sx_di dX1_worth 79 rfl) lX1_34 vX1_reckon (by first | exact hs.1 | exact hs.2.1 | exact hs.2.2.1 | exact hs.2.2.2.1 | exact hs.2.2.2.2.1 | exact hs.2.2.2.2.2.1) (by decide) rfl (Nat.le_of_ble_eq_true rfl) ⟨Nat.le_of_ble_eq_true rfl, Nat.le_of_ble_eq_true rfl⟩ ⟨Nat.le_refl _, Nat.le_refl _⟩ ?_
        refine c_X1_reckon (w := hp_wi w J) hs d4 (by omega) (fun I2 f2 => ?_)
        refine V_iret (sx_di dX1_worth 80 rfl) rfl (Nat.le_refl _) (Nat.le_refl _) ?_
        rw [e3, e4]
        exact hq I2 (fr_tr hJ f2 (fun _ z => z))
      · rw [hcn2 J hJ, nI_1] at h111
        have cn : c + 1 < n := by
          rcases Nat.lt_or_ge (c + 1) n with z | z
          · exact z
          · exact absurd (nI_le z (by omega)) h111
        rw [if_pos cn] at d4 d5 hq
        have hin2 : vp_in (nI c + 1) 64 := by rw [nI_1]; exact vp_in_nI (by omega) (by decide)
        have e5 : hp_i (hp_wi w J) (a + 2) (nI c + 1).toNatClampNeg = nI (cd (c + 1)) := by rw [nI_1, nI_clamp (by omega)]; exact (fr_w1 hJ (by omega) (c + 1)).trans (hcl (c + 1) cn).1
        refine V_iload (sx_di dX1_worth 65 rfl) rfl ?_
        refine V_iconst (v := 1) (sx_di dX1_worth 66 rfl) (by decide) ?_
        refine V_iadd (sx_di dX1_worth 67 rfl) ?_
        refine V_bipush (v := 64) (sx_di dX1_worth 68 rfl) (by decide) ?_
        refine V_icmp_ge (tgt := 135) (sx_di dX1_worth 69 rfl) (by decide) (fun h120 => ?_) (fun h120 => ?_)
        · rw [nI_1] at h120
          exact absurd h120 (nI_ge (show c + 1 < 64 by omega) (by decide))
        · refine V_aload_n (i := 0) (sx_di dX1_worth 70 rfl) rfl rfl ?_
          refine V_getR (sx_di dX1_worth 71 rfl) fX1_15 (fun _ => rfl) (by first | exact hs.1 | exact hs.2.1 | exact hs.2.2.1 | exact hs.2.2.2.1 | exact hs.2.2.2.2.1 | exact hs.2.2.2.2.2.1) (by first | exact hs.2.2.2.2.2.2.1 | exact hs.2.2.2.2.2.2.2.1 | exact hs.2.2.2.2.2.2.2.2.1 | exact hs.2.2.2.2.2.2.2.2.2.1 | exact hs.2.2.2.2.2.2.2.2.2.2) ?_
          refine V_iload (sx_di dX1_worth 72 rfl) rfl ?_
          refine V_iconst (v := 1) (sx_di dX1_worth 73 rfl) (by decide) ?_
          refine V_iadd (sx_di dX1_worth 74 rfl) ?_
          refine V_iald (sx_di dX1_worth 75 rfl) (by first | exact hs.1 | exact hs.2.1 | exact hs.2.2.1 | exact hs.2.2.2.1 | exact hs.2.2.2.2.1 | exact hs.2.2.2.2.2.1) (hin2) ?_
          rw [e5]
          refine V_goto (tgt := 139) (sx_di dX1_worth 76 rfl) (by decide) ?_
          refine V_cV2 (mc' := 0) (ms' := 0) (M' := mX1_reckon) 2 (sx_di dX1_worth 79 rfl) lX1_34 vX1_reckon (by first | exact hs.1 | exact hs.2.1 | exact hs.2.2.1 | exact hs.2.2.2.1 | exact hs.2.2.2.2.1 | exact hs.2.2.2.2.2.1) (by decide) rfl (Nat.le_of_ble_eq_true rfl) ⟨Nat.le_of_ble_eq_true rfl, Nat.le_of_ble_eq_true rfl⟩ ⟨Nat.le_refl _, Nat.le_refl _⟩ ?_
          refine c_X1_reckon (w := hp_wi w J) hs d4 (by omega) (fun I2 f2 => ?_)
          refine V_iret (sx_di dX1_worth 80 rfl) rfl (Nat.le_refl _) (Nat.le_refl _) ?_
          rw [e3, e4]
          exact hq I2 (fr_tr hJ f2 (fun _ z => z))
    refine V_iload (sx_di dX1_worth 32 rfl) rfl ?_
    refine V_aload_n (i := 0) (sx_di dX1_worth 33 rfl) rfl rfl ?_
    refine V_getI (sx_di dX1_worth 34 rfl) fX1_31 (fun _ => rfl) (by first | exact hs.1 | exact hs.2.1 | exact hs.2.2.1 | exact hs.2.2.2.1 | exact hs.2.2.2.2.1 | exact hs.2.2.2.2.2.1) ?_
    refine V_icmp_ge (tgt := 149) (sx_di dX1_worth 35 rfl) (by decide) (fun h54 => absurd h54 (fun z => absurd ((nI_leI (a := n) (b := c) (by omega) (by omega)).mp (by rw [← hcn2 I hf]; exact z)) (by omega))) (fun _ => ?_)
    refine V_iload (sx_di dX1_worth 36 rfl) rfl ?_
    refine V_bipush (v := 64) (sx_di dX1_worth 37 rfl) (by decide) ?_
    refine V_icmp_ge (tgt := 149) (sx_di dX1_worth 38 rfl) (by decide) (fun h61 => absurd h61 (nI_ge (show c < 64 by omega) (by decide))) (fun _ => ?_)
    refine V_aload_n (i := 0) (sx_di dX1_worth 39 rfl) rfl rfl ?_
    refine V_getR (sx_di dX1_worth 40 rfl) fX1_15 (fun _ => rfl) (by first | exact hs.1 | exact hs.2.1 | exact hs.2.2.1 | exact hs.2.2.2.1 | exact hs.2.2.2.2.1 | exact hs.2.2.2.2.2.1) (by first | exact hs.2.2.2.2.2.2.1 | exact hs.2.2.2.2.2.2.2.1 | exact hs.2.2.2.2.2.2.2.2.1 | exact hs.2.2.2.2.2.2.2.2.2.1 | exact hs.2.2.2.2.2.2.2.2.2.2) ?_
    refine V_iload (sx_di dX1_worth 41 rfl) rfl ?_
    refine V_iald (sx_di dX1_worth 42 rfl) (by first | exact hs.1 | exact hs.2.1 | exact hs.2.2.1 | exact hs.2.2.2.1 | exact hs.2.2.2.2.1 | exact hs.2.2.2.2.2.1) (hin) ?_
    rw [e1]
    refine V_istore (sx_di dX1_worth 43 rfl) (by decide) (rfl) ?_
    refine V_aload_n (i := 0) (sx_di dX1_worth 44 rfl) rfl rfl ?_
    refine V_getR (sx_di dX1_worth 45 rfl) fX1_18 (fun _ => rfl) (by first | exact hs.1 | exact hs.2.1 | exact hs.2.2.1 | exact hs.2.2.2.1 | exact hs.2.2.2.2.1 | exact hs.2.2.2.2.2.1) (by first | exact hs.2.2.2.2.2.2.1 | exact hs.2.2.2.2.2.2.2.1 | exact hs.2.2.2.2.2.2.2.2.1 | exact hs.2.2.2.2.2.2.2.2.2.1 | exact hs.2.2.2.2.2.2.2.2.2.2) ?_
    refine V_iload (sx_di dX1_worth 46 rfl) rfl ?_
    refine V_iald (sx_di dX1_worth 47 rfl) (by first | exact hs.1 | exact hs.2.1 | exact hs.2.2.1 | exact hs.2.2.2.1 | exact hs.2.2.2.2.1 | exact hs.2.2.2.2.2.1) (hin) ?_
    rw [e2]
    refine V_istore (sx_di dX1_worth 48 rfl) (by decide) (rfl) ?_
    refine V_iload (sx_di dX1_worth 49 rfl) rfl ?_
    refine V_iload (sx_di dX1_worth 50 rfl) rfl ?_
    refine V_icmp_eq (tgt := 100) (sx_di dX1_worth 51 rfl) (by decide) (fun h86 => ?_) (fun h86 => ?_)
    · have ecs : cd c = sm c := (nI_eq (by omega) (by omega)).mp h86
      exact V_subk (key I hf (fun I2 f2 => by
        have q := h I2 f2
        rw [wc_, if_pos (Or.inl ecs)] at q
        exact q)) ⟨rfl, rfl, rfl, trivial⟩
    · have ecs : ¬ cd c = sm c := fun z => h86 (by rw [z])
      have e3 : hp_i (hp_wi w I) (a + 1) = hp_i w (a + 1) := hf (a + 1) (by omega)
      have e4 : hp_i (hp_wi w I) (a + 4) = hp_i w (a + 4) := hf (a + 4) (by omega)
      refine V_aload_n (i := 0) (sx_di dX1_worth 52 rfl) rfl rfl ?_
      refine V_iload (sx_di dX1_worth 53 rfl) rfl ?_
      refine V_iload (sx_di dX1_worth 54 rfl) rfl ?_
      refine V_cV2 (mc' := 0) (ms' := 0) (M' := mX1_reckon) 2 (sx_di dX1_worth 55 rfl) lX1_34 vX1_reckon (by first | exact hs.1 | exact hs.2.1 | exact hs.2.2.1 | exact hs.2.2.2.1 | exact hs.2.2.2.2.1 | exact hs.2.2.2.2.2.1) (by decide) rfl (Nat.le_of_ble_eq_true rfl) ⟨Nat.le_of_ble_eq_true rfl, Nat.le_of_ble_eq_true rfl⟩ ⟨Nat.le_refl _, Nat.le_refl _⟩ ?_
      refine c_X1_reckon (w := hp_wi w I) hs d3 (by omega) (fun I2 f2 => ?_)
      refine V_if_eq (tgt := 143) (sx_di dX1_worth 56 rfl) (by decide) (fun h97 => ?_) (fun h97 => ?_)
      · rw [e3, e4] at h97
        refine V_inc (c := 1) (sx_di dX1_worth 81 rfl) (by decide) rfl (by decide) (rfl) ?_
        refine V_goto (tgt := 48) (sx_di dX1_worth 82 rfl) (by decide) ?_
        exact V_subk (q1 I2 (by omega) (fr_tr hf f2 (fun _ z => z)) (fun I3 f3 => by
          have q := h I3 f3
          rw [wc_, if_neg (fun z => z.elim ecs (fun z => z h97))] at q
          exact q)) ⟨rfl, rfl, trivial⟩
      · rw [e3, e4] at h97
        exact V_subk (key I2 (fr_tr hf f2 (fun _ z => z)) (fun I3 f3 => by
          have q := h I3 f3
          rw [wc_, if_pos (Or.inr h97)] at q
          exact q)) ⟨rfl, rfl, rfl, trivial⟩
/-- the law's worth -/
def wo_ (I : Nat → Nat → Int32) (a n sz : Nat) (cd sm : Nat → Nat) (m w g p t d : Int32) : Int32 := wc_ (I (a + 1)) (lt_ m w g p t d) n sz cd sm 0 n
set_option maxHeartbeats 2000000 in
set_option maxRecDepth 20000 in
theorem c_X1_worth {E : sxE} {w : hpW} {Q : Option Value → hpW → Prop} {a n sz : Nat} {cd sm : Nat → Nat} {x1 x2 x3 x4 x5 x6 : Int32} (hs : is_Lw w a) (hd : ld_ (hp_i w) a n sz cd sm) (h : ∀ I, fr_ w I (fun b => b = a + 4 ∨ b = a + 5) → Q (some (.int (wo_ (hp_i w) a n sz cd sm x1 x2 x3 x4 x5 x6))) (hp_wi w I)) : sx_C E mX1_worth 3 0 0 [.ref a, .int x1, .int x2, .int x3, .int x4, .int x5, .int x6] w Q := by
  have f0 : fr_ w (hp_u (hp_u (hp_u (hp_u (hp_u (hp_u (hp_i w) (a + 4) 0 x1) (a + 4) 1 x2) (a + 4) 2 x3) (a + 4) 3 x4) (a + 4) 4 x5) (a + 4) 5 x6) (fun b => b = a + 4 ∨ b = a + 5) := fr_si (fr_si (fr_si (fr_si (fr_si (fr_si fr_rf (Or.inl rfl)) (Or.inl rfl)) (Or.inl rfl)) (Or.inl rfl)) (Or.inl rfl)) (Or.inl rfl)
  have hd2 : ld_ (hp_u (hp_u (hp_u (hp_u (hp_u (hp_u (hp_i w) (a + 4) 0 x1) (a + 4) 1 x2) (a + 4) 2 x3) (a + 4) 3 x4) (a + 4) 4 x5) (a + 4) 5 x6) a n sz cd sm := by
    have g0 : ∀ k, (hp_u (hp_u (hp_u (hp_u (hp_u (hp_u (hp_i w) (a + 4) 0 x1) (a + 4) 1 x2) (a + 4) 2 x3) (a + 4) 3 x4) (a + 4) 4 x5) (a + 4) 5 x6) a k = hp_i w a k := fun k => congrFun (f0 a (by omega)) k
    have g2 : ∀ k, (hp_u (hp_u (hp_u (hp_u (hp_u (hp_u (hp_i w) (a + 4) 0 x1) (a + 4) 1 x2) (a + 4) 2 x3) (a + 4) 3 x4) (a + 4) 4 x5) (a + 4) 5 x6) (a + 2) k = hp_i w (a + 2) k := fun k => congrFun (f0 (a + 2) (by omega)) k
    have g3 : ∀ k, (hp_u (hp_u (hp_u (hp_u (hp_u (hp_u (hp_i w) (a + 4) 0 x1) (a + 4) 1 x2) (a + 4) 2 x3) (a + 4) 3 x4) (a + 4) 4 x5) (a + 4) 5 x6) (a + 3) k = hp_i w (a + 3) k := fun k => congrFun (f0 (a + 3) (by omega)) k
    obtain ⟨z1, z2, z3, z4, z5⟩ := hd
    exact ⟨z1, z2, by rw [g0]; exact z3, by rw [g0]; exact z4, fun c hc => by rw [g2, g3]; exact z5 c hc⟩
  have g1 : (hp_u (hp_u (hp_u (hp_u (hp_u (hp_u (hp_i w) (a + 4) 0 x1) (a + 4) 1 x2) (a + 4) 2 x3) (a + 4) 3 x4) (a + 4) 4 x5) (a + 4) 5 x6) (a + 1) = hp_i w (a + 1) := f0 (a + 1) (by omega)
  have g4 : ∀ j, j < 6 → (hp_u (hp_u (hp_u (hp_u (hp_u (hp_u (hp_i w) (a + 4) 0 x1) (a + 4) 1 x2) (a + 4) 2 x3) (a + 4) 3 x4) (a + 4) 4 x5) (a + 4) 5 x6) (a + 4) j = lt_ x1 x2 x3 x4 x5 x6 j := by
    intro j hj
    rcases (show j = 0 ∨ j = 1 ∨ j = 2 ∨ j = 3 ∨ j = 4 ∨ j = 5 by omega) with rfl | rfl | rfl | rfl | rfl | rfl <;> simp [hp_u, lt_]
  refine C_of (by decide +kernel) (Nat.le_of_ble_eq_true rfl) ?_
  refine V_aload_n (i := 0) (sx_di dX1_worth 0 rfl) rfl rfl ?_
  refine V_getR (sx_di dX1_worth 1 rfl) fX1_21 (fun _ => rfl) (by first | exact hs.1 | exact hs.2.1 | exact hs.2.2.1 | exact hs.2.2.2.1 | exact hs.2.2.2.2.1 | exact hs.2.2.2.2.2.1) (by first | exact hs.2.2.2.2.2.2.1 | exact hs.2.2.2.2.2.2.2.1 | exact hs.2.2.2.2.2.2.2.2.1 | exact hs.2.2.2.2.2.2.2.2.2.1 | exact hs.2.2.2.2.2.2.2.2.2.2) ?_
  refine V_iconst (v := 0) (sx_di dX1_worth 2 rfl) (by decide) ?_
  refine V_iload_n (i := 1) (sx_di dX1_worth 3 rfl) rfl rfl ?_
  refine V_iast (sx_di dX1_worth 4 rfl) (by first | exact hs.1 | exact hs.2.1 | exact hs.2.2.1 | exact hs.2.2.2.1 | exact hs.2.2.2.2.1 | exact hs.2.2.2.2.2.1) (by unfold vp_in; decide) ?_
  refine V_aload_n (i := 0) (sx_di dX1_worth 5 rfl) rfl rfl ?_
  refine V_getR (sx_di dX1_worth 6 rfl) fX1_21 (fun _ => rfl) (by first | exact hs.1 | exact hs.2.1 | exact hs.2.2.1 | exact hs.2.2.2.1 | exact hs.2.2.2.2.1 | exact hs.2.2.2.2.2.1) (by first | exact hs.2.2.2.2.2.2.1 | exact hs.2.2.2.2.2.2.2.1 | exact hs.2.2.2.2.2.2.2.2.1 | exact hs.2.2.2.2.2.2.2.2.2.1 | exact hs.2.2.2.2.2.2.2.2.2.2) ?_
  refine V_iconst (v := 1) (sx_di dX1_worth 7 rfl) (by decide) ?_
  refine V_iload_n (i := 2) (sx_di dX1_worth 8 rfl) rfl rfl ?_
  refine V_iast (sx_di dX1_worth 9 rfl) (by first | exact hs.1 | exact hs.2.1 | exact hs.2.2.1 | exact hs.2.2.2.1 | exact hs.2.2.2.2.1 | exact hs.2.2.2.2.2.1) (by unfold vp_in; decide) ?_
  refine V_aload_n (i := 0) (sx_di dX1_worth 10 rfl) rfl rfl ?_
  refine V_getR (sx_di dX1_worth 11 rfl) fX1_21 (fun _ => rfl) (by first | exact hs.1 | exact hs.2.1 | exact hs.2.2.1 | exact hs.2.2.2.1 | exact hs.2.2.2.2.1 | exact hs.2.2.2.2.2.1) (by first | exact hs.2.2.2.2.2.2.1 | exact hs.2.2.2.2.2.2.2.1 | exact hs.2.2.2.2.2.2.2.2.1 | exact hs.2.2.2.2.2.2.2.2.2.1 | exact hs.2.2.2.2.2.2.2.2.2.2) ?_
  refine V_iconst (v := 2) (sx_di dX1_worth 12 rfl) (by decide) ?_
  refine V_iload_n (i := 3) (sx_di dX1_worth 13 rfl) rfl rfl ?_
  refine V_iast (sx_di dX1_worth 14 rfl) (by first | exact hs.1 | exact hs.2.1 | exact hs.2.2.1 | exact hs.2.2.2.1 | exact hs.2.2.2.2.1 | exact hs.2.2.2.2.2.1) (by unfold vp_in; decide) ?_
  refine V_aload_n (i := 0) (sx_di dX1_worth 15 rfl) rfl rfl ?_
  refine V_getR (sx_di dX1_worth 16 rfl) fX1_21 (fun _ => rfl) (by first | exact hs.1 | exact hs.2.1 | exact hs.2.2.1 | exact hs.2.2.2.1 | exact hs.2.2.2.2.1 | exact hs.2.2.2.2.2.1) (by first | exact hs.2.2.2.2.2.2.1 | exact hs.2.2.2.2.2.2.2.1 | exact hs.2.2.2.2.2.2.2.2.1 | exact hs.2.2.2.2.2.2.2.2.2.1 | exact hs.2.2.2.2.2.2.2.2.2.2) ?_
  refine V_iconst (v := 3) (sx_di dX1_worth 17 rfl) (by decide) ?_
  refine V_iload (sx_di dX1_worth 18 rfl) rfl ?_
  refine V_iast (sx_di dX1_worth 19 rfl) (by first | exact hs.1 | exact hs.2.1 | exact hs.2.2.1 | exact hs.2.2.2.1 | exact hs.2.2.2.2.1 | exact hs.2.2.2.2.2.1) (by unfold vp_in; decide) ?_
  refine V_aload_n (i := 0) (sx_di dX1_worth 20 rfl) rfl rfl ?_
  refine V_getR (sx_di dX1_worth 21 rfl) fX1_21 (fun _ => rfl) (by first | exact hs.1 | exact hs.2.1 | exact hs.2.2.1 | exact hs.2.2.2.1 | exact hs.2.2.2.2.1 | exact hs.2.2.2.2.2.1) (by first | exact hs.2.2.2.2.2.2.1 | exact hs.2.2.2.2.2.2.2.1 | exact hs.2.2.2.2.2.2.2.2.1 | exact hs.2.2.2.2.2.2.2.2.2.1 | exact hs.2.2.2.2.2.2.2.2.2.2) ?_
  refine V_iconst (v := 4) (sx_di dX1_worth 22 rfl) (by decide) ?_
  refine V_iload (sx_di dX1_worth 23 rfl) rfl ?_
  refine V_iast (sx_di dX1_worth 24 rfl) (by first | exact hs.1 | exact hs.2.1 | exact hs.2.2.1 | exact hs.2.2.2.1 | exact hs.2.2.2.2.1 | exact hs.2.2.2.2.2.1) (by unfold vp_in; decide) ?_
  refine V_aload_n (i := 0) (sx_di dX1_worth 25 rfl) rfl rfl ?_
  refine V_getR (sx_di dX1_worth 26 rfl) fX1_21 (fun _ => rfl) (by first | exact hs.1 | exact hs.2.1 | exact hs.2.2.1 | exact hs.2.2.2.1 | exact hs.2.2.2.2.1 | exact hs.2.2.2.2.2.1) (by first | exact hs.2.2.2.2.2.2.1 | exact hs.2.2.2.2.2.2.2.1 | exact hs.2.2.2.2.2.2.2.2.1 | exact hs.2.2.2.2.2.2.2.2.2.1 | exact hs.2.2.2.2.2.2.2.2.2.2) ?_
  refine V_iconst (v := 5) (sx_di dX1_worth 27 rfl) (by decide) ?_
  refine V_iload (sx_di dX1_worth 28 rfl) rfl ?_
  refine V_iast (sx_di dX1_worth 29 rfl) (by first | exact hs.1 | exact hs.2.1 | exact hs.2.2.1 | exact hs.2.2.2.1 | exact hs.2.2.2.2.1 | exact hs.2.2.2.2.2.1) (by unfold vp_in; decide) ?_
  refine V_iconst (v := 0) (sx_di dX1_worth 30 rfl) (by decide) ?_
  refine V_istore (sx_di dX1_worth 31 rfl) (by decide) (rfl) ?_
  refine V_sub (ls' := [(7, .int (nI 0)), (0, .ref a)]) ⟨rfl, rfl, trivial⟩ ?_
  refine wo_lp (w := hp_wi w (hp_u (hp_u (hp_u (hp_u (hp_u (hp_u (hp_i w) (a + 4) 0 x1) (a + 4) 1 x2) (a + 4) 2 x3) (a + 4) 3 x4) (a + 4) 4 x5) (a + 4) 5 x6)) hs hd2 n 0 _ (by omega) fr_rf (fun I2 f2 => ?_)
  have e9 : wc_ (hp_i (hp_wi w (hp_u (hp_u (hp_u (hp_u (hp_u (hp_u (hp_i w) (a + 4) 0 x1) (a + 4) 1 x2) (a + 4) 2 x3) (a + 4) 3 x4) (a + 4) 4 x5) (a + 4) 5 x6)) (a + 1)) (hp_i (hp_wi w (hp_u (hp_u (hp_u (hp_u (hp_u (hp_u (hp_i w) (a + 4) 0 x1) (a + 4) 1 x2) (a + 4) 2 x3) (a + 4) 3 x4) (a + 4) 4 x5) (a + 4) 5 x6)) (a + 4)) n sz cd sm 0 n = wo_ (hp_i w) a n sz cd sm x1 x2 x3 x4 x5 x6 := by
    show wc_ ((hp_u (hp_u (hp_u (hp_u (hp_u (hp_u (hp_i w) (a + 4) 0 x1) (a + 4) 1 x2) (a + 4) 2 x3) (a + 4) 3 x4) (a + 4) 4 x5) (a + 4) 5 x6) (a + 1)) ((hp_u (hp_u (hp_u (hp_u (hp_u (hp_u (hp_i w) (a + 4) 0 x1) (a + 4) 1 x2) (a + 4) 2 x3) (a + 4) 3 x4) (a + 4) 4 x5) (a + 4) 5 x6) (a + 4)) n sz cd sm 0 n = _
    rw [wc_cg g4, g1]
    rfl
  rw [e9]
  exact h I2 (fr_tr f0 f2 (fun _ z => Or.inr z))

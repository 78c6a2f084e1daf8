/-! the least shamming -/
noncomputable def ms_ (A : AS) (h i : Nat) : Int32 := mv2 A (up_ (a_r A) (8 + h) (sv_ i)) h
noncomputable def ac_ (A : AS) (h i : Nat) : Int32 := ab_ (sv_ i - a_r A (8 + h))
noncomputable def lb_s (A : AS) (h : Nat) (mo : Int32) : Nat → Int32
  | 0 => -1
  | i + 1 => if ms_ A h i ≤ mo ∧ (lb_s A h mo i = -1 ∨ ac_ A h i < lb_s A h mo i) then ac_ A h i else lb_s A h mo i
noncomputable def oc_ (A : AS) (h : Nat) (md : Int32) (k : Nat) : Int32 := if k = h then 0 else lb_s A k (if k < h then md - 1 else md) 19
noncomputable def ob_ (A : AS) (h : Nat) (md : Int32) : Nat → Option Int32
  | 0 => some 0
  | k + 1 => match ob_ A h md k with
    | none => none
    | some s => if oc_ A h md k = -1 then none else some (s + oc_ A h md k)
def om_ (o : Option Int32) : Int32 := match o with
  | none => -1
  | some s => s
noncomputable def sf1 (A : AS) (h i : Nat) : Option Int32 := if ms_ A h i = 0 then none else match ob_ A h (ms_ A h i) (a_n A) with
  | none => none
  | some s => some (ac_ A h i + s)
noncomputable def lst_ (A : AS) (h : Nat) : Nat → Option (Int32 × Int32)
  | 0 => none
  | i + 1 => match sf1 A h i with
    | none => lst_ A h i
    | some c => match lst_ A h i with
      | none => some (c, sv_ i)
      | some p => if c < p.1 then some (c, sv_ i) else some p
noncomputable def q_least (A : AS) (x y : Int32) : Int32 := if ih_ (a_n A) x = 0 ∨ y < 0 ∨ 1 < y then -1000000 else match lst_ A x.toNatClampNeg 19 with
  | none => -1000000
  | some p => if y = 0 then p.1 else p.2
theorem ab_n {x : Int32} {m : Nat} (h1 : -(m : Int) ≤ x.toInt) (h2 : x.toInt ≤ m) (hm : m < 1000) : ∃ q, q ≤ m ∧ ab_ x = nI q := by
  unfold ab_
  by_cases h : 0 ≤ x
  · rw [if_pos h]
    obtain ⟨j, hj, e⟩ := nI_of (Int32.not_lt.mpr h)
    refine ⟨j, ?_, e⟩
    rw [e, nI_toInt hj] at h2
    omega
  · rw [if_neg h]
    have h3 : x.toInt < 0 := by
      rw [fa_le, ti_0] at h
      omega
    refine ⟨(-x.toInt).toNat, by omega, ?_⟩
    rw [fa_eq, Int32.toInt_sub, ti_0, nI_toInt (by omega)]
    rw [Int.bmod_eq_of_le (by omega) (by omega)]
    omega
theorem ac_n {A : AS} (V : AV A) {h i : Nat} (hh : h < a_n A) (hi : i < 19) : ∃ q, q ≤ 18 ∧ ac_ A h i = nI q := by
  obtain ⟨_, ⟨s1, s2⟩, _⟩ := V.2.2.2.1.1.1.1 h hh
  have e : (sv_ i - a_r A (8 + h)).toInt = (i : Int) - 9 - (a_r A (8 + h)).toInt := by
    rw [Int32.toInt_sub, sv_i (by omega)]
    rw [Int.bmod_eq_of_le (by omega) (by omega)]
  exact ab_n (m := 18) (by rw [e]; omega) (by rw [e]; omega) (by omega)
theorem lb_n {A : AS} (V : AV A) {h : Nat} (hh : h < a_n A) (mo : Int32) : ∀ i, i ≤ 19 → lb_s A h mo i = -1 ∨ ∃ q, q ≤ 18 ∧ lb_s A h mo i = nI q
  | 0, _ => Or.inl rfl
  | i + 1, hi => by
    unfold lb_s
    split
    · exact Or.inr (ac_n V hh (by omega))
    · exact lb_n V hh mo i (by omega)
theorem oc_n {A : AS} (V : AV A) {h k : Nat} (hk : k < a_n A) (md : Int32) : oc_ A h md k = -1 ∨ ∃ q, q ≤ 18 ∧ oc_ A h md k = nI q := by
  unfold oc_
  split
  · exact Or.inr ⟨0, by omega, rfl⟩
  · exact lb_n V hk _ 19 (by omega)
theorem ob_n {A : AS} (V : AV A) {h : Nat} (md : Int32) : ∀ k, k ≤ a_n A → ∀ s, ob_ A h md k = some s → ∃ q, q ≤ 18 * k ∧ s = nI q
  | 0, _, s, e => ⟨0, by omega, (Option.some.inj e).symm⟩
  | k + 1, hk, s, e => by
    have e2 : ob_ A h md (k + 1) = match ob_ A h md k with
      | none => none
      | some s => if oc_ A h md k = -1 then none else some (s + oc_ A h md k) := rfl
    rw [e2] at e
    cases hb : ob_ A h md k with
    | none => rw [hb] at e; exact absurd e (by simp)
    | some s2 =>
      rw [hb] at e
      obtain ⟨q, hq, es⟩ := ob_n V md k (by omega) s2 hb
      have e : (if oc_ A h md k = -1 then none else some (s2 + oc_ A h md k)) = some s := e
      by_cases hc : oc_ A h md k = -1
      · rw [if_pos hc] at e; exact absurd e (by simp)
      · rw [if_neg hc] at e
        obtain ⟨q2, hq2, e3⟩ := (oc_n V (by omega) md).resolve_left hc
        exact ⟨q + q2, by omega, by rw [← Option.some.inj e, es, e3, nI_add]⟩
theorem ob_no {A : AS} {h k : Nat} {md : Int32} (e : ob_ A h md k = none) : ∀ d, ob_ A h md (k + d) = none
  | 0 => e
  | d + 1 => by
    show (match ob_ A h md (k + d) with
      | none => none
      | some s => if oc_ A h md (k + d) = -1 then none else some (s + oc_ A h md (k + d))) = none
    rw [ob_no e d]
theorem ob_y {A : AS} {h k : Nat} {md s : Int32} (e : ob_ A h md k = some s) (hc : ¬ oc_ A h md k = -1) : ob_ A h md (k + 1) = some (s + oc_ A h md k) := by
  show (match ob_ A h md k with
    | none => none
    | some s => if oc_ A h md k = -1 then none else some (s + oc_ A h md k)) = _
  rw [e]
  exact if_neg hc
theorem ob_x {A : AS} {h k : Nat} {md s : Int32} (e : ob_ A h md k = some s) (hc : oc_ A h md k = -1) : ob_ A h md (k + 1) = none := by
  show (match ob_ A h md k with
    | none => none
    | some s => if oc_ A h md k = -1 then none else some (s + oc_ A h md k)) = _
  rw [e]
  exact if_pos hc
theorem sf1_n {A : AS} (V : AV A) {h i : Nat} (hh : h < a_n A) (hi : i < 19) {c : Int32} (e : sf1 A h i = some c) : ∃ q, q ≤ 200 ∧ c = nI q := by
  have hn8 := V.2.2.1.1
  unfold sf1 at e
  by_cases hz : ms_ A h i = 0
  · rw [if_pos hz] at e; exact absurd e (by simp)
  · rw [if_neg hz] at e
    cases hb : ob_ A h (ms_ A h i) (a_n A) with
    | none => rw [hb] at e; exact absurd e (by simp)
    | some s =>
      rw [hb] at e
      obtain ⟨q, hq, es⟩ := ob_n V _ _ (Nat.le_refl _) s hb
      obtain ⟨q2, hq2, e2⟩ := ac_n V hh hi
      have e : some (ac_ A h i + s) = some c := e
      exact ⟨q2 + q, by omega, by rw [← Option.some.inj e, es, e2, nI_add]⟩
theorem lst_s (A : AS) (h i : Nat) : lst_ A h (i + 1) = match sf1 A h i with
    | none => lst_ A h i
    | some c => match lst_ A h i with
      | none => some (c, sv_ i)
      | some p => if c < p.1 then some (c, sv_ i) else some p := rfl
theorem lst_n {A : AS} (V : AV A) {h : Nat} (hh : h < a_n A) : ∀ i, i ≤ 19 → ∀ p, lst_ A h i = some p → (∃ q, q ≤ 200 ∧ p.1 = nI q) ∧ ∃ j, j < 19 ∧ p.2 = sv_ j
  | 0, _, p, e => absurd e (by simp [lst_])
  | i + 1, hi, p, e => by
    rw [lst_s] at e
    cases hs : sf1 A h i with
    | none => rw [hs] at e; exact lst_n V hh i (by omega) p e
    | some c =>
      rw [hs] at e
      have hc := sf1_n V hh (by omega) hs
      cases hl : lst_ A h i with
      | none =>
        rw [hl] at e
        have e := Option.some.inj e
        rw [← e]
        exact ⟨hc, i, by omega, rfl⟩
      | some p2 =>
        rw [hl] at e
        have e : (if c < p2.1 then some (c, sv_ i) else some p2) = some p := e
        by_cases hx : c < p2.1
        · rw [if_pos hx] at e
          have e := Option.some.inj e
          rw [← e]
          exact ⟨hc, i, by omega, rfl⟩
        · rw [if_neg hx] at e
          have e := Option.some.inj e
          rw [← e]
          exact lst_n V hh i (by omega) p2 hl
theorem sv_hid {j : Nat} (h : j < 19) : ¬ sv_ j = -1000000 := fun z => by
  have e := sv_i (i := j) (by omega)
  rw [z] at e
  have : (-1000000 : Int32).toInt = -1000000 := by decide
  omega
set_option maxHeartbeats 2000000 in
set_option maxRecDepth 20000 in
theorem e_mindedIf {E : sxE} {Q : Option Value → hpW → Prop} {A : AS} {w : hpW} (VA : AV A) (H : RR A w) {h i : Nat} (hh : h < a_n A) (hi : i < 19) (hq : ∀ w', RR A w' → fC w w' → Q (some (.int (ms_ A h i))) w') : sx_C E mX12_mindedIf 7 0 0 [.ref 381, .int (nI h), .int (sv_ i)] w Q := by
  have hB := H.1
  have hn8 := VA.2.2.1.1
  have hr : ∀ j, hp_i w 398 j = a_r A j := fun j => congrFun H.2.2.2.2.1 j
  have H0 : RR (pt_r A (a_r A)) w := H
  obtain ⟨H1, f1⟩ := RR_st H0 (8 + h) (sv_ i)
  refine C_of (by decide +kernel) (Nat.le_of_ble_eq_true rfl) ?_
  refine V_aload_n (i := 0) (sx_di dX12_mindedIf 0 rfl) rfl rfl ?_
  refine V_getR (sx_di dX12_mindedIf 1 rfl) fX12_58 (fun _ => rfl) (by first | exact hB.k _ rfl | exact hB2.k _ rfl) (by first | exact hB.r _ _ rfl | exact hB2.r _ _ rfl) ?_
  refine V_bipush (v := 8) (sx_di dX12_mindedIf 2 rfl) (by decide) ?_
  refine V_iload_n (i := 1) (sx_di dX12_mindedIf 3 rfl) rfl rfl ?_
  refine V_iadd (sx_di dX12_mindedIf 4 rfl) ?_
  refine V_ialdN (n := 226) (j := (8 + h)) (sx_di dX12_mindedIf 5 rfl) (by first | exact hB.k _ rfl | exact hB2.k _ rfl) (nx_add (rfl) (rfl)) (by omega) (by omega) ?_
  refine V_iv (y := a_r A (8 + h)) (hr _) ?_
  refine V_istore_n (i := 3) (sx_di dX12_mindedIf 6 rfl) rfl (by decide) (rfl) ?_
  refine V_aload_n (i := 0) (sx_di dX12_mindedIf 7 rfl) rfl rfl ?_
  refine V_getR (sx_di dX12_mindedIf 8 rfl) fX12_58 (fun _ => rfl) (by first | exact hB.k _ rfl | exact hB2.k _ rfl) (by first | exact hB.r _ _ rfl | exact hB2.r _ _ rfl) ?_
  refine V_bipush (v := 8) (sx_di dX12_mindedIf 9 rfl) (by decide) ?_
  refine V_iload_n (i := 1) (sx_di dX12_mindedIf 10 rfl) rfl rfl ?_
  refine V_iadd (sx_di dX12_mindedIf 11 rfl) ?_
  refine V_iload_n (i := 2) (sx_di dX12_mindedIf 12 rfl) rfl rfl ?_
  refine V_iastN (n := 226) (j := (8 + h)) (sx_di dX12_mindedIf 13 rfl) (by first | exact hB.k _ rfl | exact hB2.k _ rfl) (nx_add (rfl) (rfl)) (by omega) (by omega) ?_
  refine V_aload_n (i := 0) (sx_di dX12_mindedIf 14 rfl) rfl rfl ?_
  refine V_iload_n (i := 1) (sx_di dX12_mindedIf 15 rfl) rfl rfl ?_
  refine V_cV1 (mc' := 0) (ms' := 0) (M' := mX12_mindedOf) 6 (sx_di dX12_mindedIf 16 rfl) lX12_299 vX12_mindedOf (by first | exact hB.k _ rfl | exact hB2.k _ rfl) (by decide) rfl (Nat.le_of_ble_eq_true rfl) ⟨Nat.le_of_ble_eq_true rfl, Nat.le_of_ble_eq_true rfl⟩ ⟨Nat.le_refl _, Nat.le_refl _⟩ ?_
  refine e_mindedOf2 VA (OKF_sv hn8 hh (by omega) VA.2.2.2.1.1) H1 hh (fun w2 H2 f2 => ?_)
  have hB2 := H2.1
  obtain ⟨H3, f3⟩ := RR_st H2 (8 + h) (a_r A (8 + h))
  rw [up_up, up_id] at H3
  refine V_istore (sx_di dX12_mindedIf 17 rfl) (by decide) (rfl) ?_
  refine V_aload_n (i := 0) (sx_di dX12_mindedIf 18 rfl) rfl rfl ?_
  refine V_getR (sx_di dX12_mindedIf 19 rfl) fX12_58 (fun _ => rfl) (by first | exact hB.k _ rfl | exact hB2.k _ rfl) (by first | exact hB.r _ _ rfl | exact hB2.r _ _ rfl) ?_
  refine V_bipush (v := 8) (sx_di dX12_mindedIf 20 rfl) (by decide) ?_
  refine V_iload_n (i := 1) (sx_di dX12_mindedIf 21 rfl) rfl rfl ?_
  refine V_iadd (sx_di dX12_mindedIf 22 rfl) ?_
  refine V_iload_n (i := 3) (sx_di dX12_mindedIf 23 rfl) rfl rfl ?_
  refine V_iastN (n := 226) (j := (8 + h)) (sx_di dX12_mindedIf 24 rfl) (by first | exact hB.k _ rfl | exact hB2.k _ rfl) (nx_add (rfl) (rfl)) (by omega) (by omega) ?_
  refine V_iload (sx_di dX12_mindedIf 25 rfl) rfl ?_
  refine V_iret (sx_di dX12_mindedIf 26 rfl) rfl (Nat.le_refl _) (Nat.le_refl _) ?_
  exact hq _ H3 (fC_tr f1 (fC_tr f2 f3))
set_option maxHeartbeats 2000000 in
set_option maxRecDepth 20000 in
theorem lbR_lp {E : sxE} {Q : Option Value → hpW → Prop} {A : AS} {w : hpW} (VA : AV A) {h : Nat} {mo : Int32} (hh : h < a_n A) (hq : ∀ w', RR A w' → fC w w' → Q (some (.int (lb_s A h mo 19))) w') : ∀ d i w1, i + d = 19 → RR A w1 → fC w w1 → V E mX12_leastBelow (sx_rm 8 0 0) 0 0 0 0 6 [(4, .int (sv_ i)), (3, .int (lb_s A h mo i)), (2, .int mo), (1, .int (nI h)), (0, .ref 381)] [] w1 Q := by
  intro d
  have hn8 := VA.2.2.1.1
  induction d with
  | zero =>
    intro i w1 hi H1 f1
    have hB := H1.1
    have e : i = 19 := by omega
    subst e
    refine V_iload (sx_di dX12_leastBelow 4 rfl) rfl ?_
    refine V_bipush (v := 9) (sx_di dX12_leastBelow 5 rfl) (by decide) ?_
    refine V_icmp_gt (tgt := 65) (sx_di dX12_leastBelow 6 rfl) (by decide) (fun _ => ?_) (fun h10 => absurd ((sv_9 (by omega)).mpr (by omega)) h10)
    refine V_iload_n (i := 3) (sx_di dX12_leastBelow 35 rfl) rfl rfl ?_
    refine V_iret (sx_di dX12_leastBelow 36 rfl) rfl (Nat.le_refl _) (Nat.le_refl _) ?_
    exact hq w1 H1 f1
  | succ d ih =>
    intro i w1 hi H1 f1
    have hB := H1.1
    have hr : ∀ j, hp_i w1 398 j = a_r A j := fun j => congrFun H1.2.2.2.2.1 j
    have e1 : lb_s A h mo (i + 1) = if ms_ A h i ≤ mo ∧ (lb_s A h mo i = -1 ∨ ac_ A h i < lb_s A h mo i) then ac_ A h i else lb_s A h mo i := rfl
    have es := sv_s (i := i) (by omega)
    refine V_iload (sx_di dX12_leastBelow 4 rfl) rfl ?_
    refine V_bipush (v := 9) (sx_di dX12_leastBelow 5 rfl) (by decide) ?_
    refine V_icmp_gt (tgt := 65) (sx_di dX12_leastBelow 6 rfl) (by decide) (fun h10 => absurd h10 (fun z => absurd ((sv_9 (by omega)).mp z) (by omega))) (fun _ => ?_)
    refine V_iload (sx_di dX12_leastBelow 7 rfl) rfl ?_
    refine V_aload_n (i := 0) (sx_di dX12_leastBelow 8 rfl) rfl rfl ?_
    refine V_getR (sx_di dX12_leastBelow 9 rfl) fX12_58 (fun _ => rfl) (hB.k _ rfl) (hB.r _ _ rfl) ?_
    refine V_bipush (v := 8) (sx_di dX12_leastBelow 10 rfl) (by decide) ?_
    refine V_iload_n (i := 1) (sx_di dX12_leastBelow 11 rfl) rfl rfl ?_
    refine V_iadd (sx_di dX12_leastBelow 12 rfl) ?_
    refine V_ialdN (n := 226) (j := (8 + h)) (sx_di dX12_leastBelow 13 rfl) (hB.k _ rfl) (nx_add (rfl) (rfl)) (by omega) (by omega) ?_
    refine V_iv (y := a_r A (8 + h)) (hr _) ?_
    refine V_isub (sx_di dX12_leastBelow 14 rfl) ?_
    refine V_mabs (sx_di dX12_leastBelow 15 rfl) (sx_a6 199 rfl rfl) (sx_a4 0 rfl rfl) (sx_a1 22 rfl rfl) (sx_a4 1 rfl rfl) ⟨Nat.le_of_ble_eq_true rfl, Nat.le_of_ble_eq_true rfl, Nat.le_refl _, Nat.le_refl _⟩ ?_
    refine V_iv (y := ac_ A h i) (rfl) ?_
    refine V_istore (sx_di dX12_leastBelow 16 rfl) (by decide) (rfl) ?_
    refine V_aload_n (i := 0) (sx_di dX12_leastBelow 17 rfl) rfl rfl ?_
    refine V_iload_n (i := 1) (sx_di dX12_leastBelow 18 rfl) rfl rfl ?_
    refine V_iload (sx_di dX12_leastBelow 19 rfl) rfl ?_
    refine V_cV2 (mc' := 0) (ms' := 0) (M' := mX12_mindedIf) 7 (sx_di dX12_leastBelow 20 rfl) lX12_374 vX12_mindedIf (hB.k _ rfl) (by decide) rfl (Nat.le_of_ble_eq_true rfl) ⟨Nat.le_of_ble_eq_true rfl, Nat.le_of_ble_eq_true rfl⟩ ⟨Nat.le_refl _, Nat.le_refl _⟩ ?_
    refine e_mindedIf VA H1 hh (by omega) (fun w2 H2 f2 => ?_)
    refine V_iload_n (i := 2) (sx_di dX12_leastBelow 21 rfl) rfl rfl ?_
    refine V_icmp_gt (tgt := 57) (sx_di dX12_leastBelow 22 rfl) (by decide) (fun h38 => ?_) (fun h38 => ?_)
    · rw [if_neg (fun z => absurd z.1 (Int32.not_le.mpr h38))] at e1
      have q1 := ih (i + 1) w2 (by omega) H2 (fC_tr f1 f2)
      rw [e1, ← es] at q1
      refine V_iload_n (i := 3) (sx_di dX12_leastBelow 31 rfl) rfl rfl ?_
      refine V_istore_n (i := 3) (sx_di dX12_leastBelow 32 rfl) rfl (by decide) (rfl) ?_
      refine V_inc (c := 1) (sx_di dX12_leastBelow 33 rfl) (by decide) rfl (by decide) (rfl) ?_
      refine V_goto (tgt := 6) (sx_di dX12_leastBelow 34 rfl) (by decide) ?_
      exact V_subk q1 ⟨rfl, rfl, rfl, rfl, rfl, trivial⟩
    · have h39 := Int32.not_lt.mp h38
      refine V_iload_n (i := 3) (sx_di dX12_leastBelow 23 rfl) rfl rfl ?_
      refine V_iconst (v := -1) (sx_di dX12_leastBelow 24 rfl) (by decide) ?_
      refine V_icmp_eq (tgt := 52) (sx_di dX12_leastBelow 25 rfl) (by decide) (fun h43 => ?_) (fun h43 => ?_)
      · rw [if_pos ⟨h39, Or.inl h43⟩] at e1
        have q1 := ih (i + 1) w2 (by omega) H2 (fC_tr f1 f2)
        rw [e1, ← es] at q1
        refine V_iload (sx_di dX12_leastBelow 29 rfl) rfl ?_
        refine V_goto (tgt := 58) (sx_di dX12_leastBelow 30 rfl) (by decide) ?_
        refine V_istore_n (i := 3) (sx_di dX12_leastBelow 32 rfl) rfl (by decide) (rfl) ?_
        refine V_inc (c := 1) (sx_di dX12_leastBelow 33 rfl) (by decide) rfl (by decide) (rfl) ?_
        refine V_goto (tgt := 6) (sx_di dX12_leastBelow 34 rfl) (by decide) ?_
        exact V_subk q1 ⟨rfl, rfl, rfl, rfl, rfl, trivial⟩
      · refine V_iload (sx_di dX12_leastBelow 26 rfl) rfl ?_
        refine V_iload_n (i := 3) (sx_di dX12_leastBelow 27 rfl) rfl rfl ?_
        refine V_icmp_ge (tgt := 57) (sx_di dX12_leastBelow 28 rfl) (by decide) (fun h49 => ?_) (fun h49 => ?_)
        · rw [if_neg (fun z => z.2.elim h43 (Int32.not_lt.mpr h49))] at e1
          have q1 := ih (i + 1) w2 (by omega) H2 (fC_tr f1 f2)
          rw [e1, ← es] at q1
          refine V_iload_n (i := 3) (sx_di dX12_leastBelow 31 rfl) rfl rfl ?_
          refine V_istore_n (i := 3) (sx_di dX12_leastBelow 32 rfl) rfl (by decide) (rfl) ?_
          refine V_inc (c := 1) (sx_di dX12_leastBelow 33 rfl) (by decide) rfl (by decide) (rfl) ?_
          refine V_goto (tgt := 6) (sx_di dX12_leastBelow 34 rfl) (by decide) ?_
          exact V_subk q1 ⟨rfl, rfl, rfl, rfl, rfl, trivial⟩
        · rw [if_pos ⟨h39, Or.inr (Int32.not_le.mp h49)⟩] at e1
          have q1 := ih (i + 1) w2 (by omega) H2 (fC_tr f1 f2)
          rw [e1, ← es] at q1
          refine V_iload (sx_di dX12_leastBelow 29 rfl) rfl ?_
          refine V_goto (tgt := 58) (sx_di dX12_leastBelow 30 rfl) (by decide) ?_
          refine V_istore_n (i := 3) (sx_di dX12_leastBelow 32 rfl) rfl (by decide) (rfl) ?_
          refine V_inc (c := 1) (sx_di dX12_leastBelow 33 rfl) (by decide) rfl (by decide) (rfl) ?_
          refine V_goto (tgt := 6) (sx_di dX12_leastBelow 34 rfl) (by decide) ?_
          exact V_subk q1 ⟨rfl, rfl, rfl, rfl, rfl, trivial⟩
set_option maxHeartbeats 2000000 in
set_option maxRecDepth 20000 in
theorem e_leastBelow {E : sxE} {Q : Option Value → hpW → Prop} {A : AS} {w : hpW} (VA : AV A) (H : RR A w) {h : Nat} {mo : Int32} (hh : h < a_n A) (hq : ∀ w', RR A w' → fC w w' → Q (some (.int (lb_s A h mo 19))) w') : sx_C E mX12_leastBelow 8 0 0 [.ref 381, .int (nI h), .int mo] w Q := by
  refine C_of (by decide +kernel) (Nat.le_of_ble_eq_true rfl) ?_
  refine V_iconst (v := -1) (sx_di dX12_leastBelow 0 rfl) (by decide) ?_
  refine V_istore_n (i := 3) (sx_di dX12_leastBelow 1 rfl) rfl (by decide) (rfl) ?_
  refine V_bipush (v := -9) (sx_di dX12_leastBelow 2 rfl) (by decide) ?_
  refine V_istore (sx_di dX12_leastBelow 3 rfl) (by decide) (rfl) ?_
  refine V_sub (ls' := [(4, .int (sv_ 0)), (3, .int (lb_s A h mo 0)), (2, .int mo), (1, .int (nI h)), (0, .ref 381)]) ⟨rfl, rfl, rfl, rfl, rfl, trivial⟩ ?_
  exact lbR_lp VA hh hq 19 0 w (by omega) H fC_rf
set_option maxHeartbeats 2000000 in
set_option maxRecDepth 20000 in
theorem obR_lp {E : sxE} {Q : Option Value → hpW → Prop} {A : AS} {w : hpW} (VA : AV A) {h : Nat} {md : Int32} (hh : h < a_n A) (hq : ∀ w', RR A w' → fC w w' → Q (some (.int (om_ (ob_ A h md (a_n A))))) w') : ∀ d k w1 s, k + d = a_n A → RR A w1 → fC w w1 → ob_ A h md k = some s → V E mX12_othersBelow (sx_rm 9 0 0) 0 0 0 0 5 [(4, .int (nI k)), (3, .int s), (2, .int md), (1, .int (nI h)), (0, .ref 381)] [] w1 Q := by
  intro d
  have hn8 := VA.2.2.1.1
  induction d with
  | zero =>
    intro k w1 s hk H1 f1 hs
    have hB := H1.1
    have hn := H1.2.2.2.1.1
    have e : k = a_n A := by omega
    subst e
    rw [hs] at hq
    refine V_iload (sx_di dX12_othersBelow 4 rfl) rfl ?_
    refine V_aload_n (i := 0) (sx_di dX12_othersBelow 5 rfl) rfl rfl ?_
    refine V_getI (sx_di dX12_othersBelow 6 rfl) fX12_258 (fun _ => rfl) (hB.k _ rfl) ?_
    refine V_iv (y := nI (a_n A)) (hn) ?_
    refine V_icN_ge (a := (a_n A)) (b := (a_n A)) (rfl) (rfl) (by omega) (by omega) (tgt := 64) (sx_di dX12_othersBelow 7 rfl) (by decide) (fun _ => ?_) (fun h11 => absurd h11 (by omega))
    refine V_iload_n (i := 3) (sx_di dX12_othersBelow 36 rfl) rfl rfl ?_
    refine V_iret (sx_di dX12_othersBelow 37 rfl) rfl (Nat.le_refl _) (Nat.le_refl _) ?_
    exact hq w1 H1 f1
  | succ d ih =>
    intro k w1 s hk H1 f1 hs
    have hB := H1.1
    have hn := H1.2.2.2.1.1
    have hno : oc_ A h md k = -1 → ∀ w', RR A w' → fC w w' → Q (some (.int (-1))) w' := fun hc w' H' f' => by
      have z := ob_no (ob_x hs hc) d
      rw [show k + 1 + d = a_n A by omega] at z
      rw [z] at hq
      exact hq w' H' f'
    have hye : ¬ oc_ A h md k = -1 → ∀ w2, RR A w2 → fC w w2 → V E mX12_othersBelow (sx_rm 9 0 0) 0 0 0 0 5 [(4, .int (nI k + 1)), (3, .int (s + oc_ A h md k)), (2, .int md), (1, .int (nI h)), (0, .ref 381)] [] w2 Q := fun hc w2 H2 f2 => by
      rw [nI_1]
      exact ih (k + 1) w2 _ (by omega) H2 f2 (ob_y hs hc)
    refine V_iload (sx_di dX12_othersBelow 4 rfl) rfl ?_
    refine V_aload_n (i := 0) (sx_di dX12_othersBelow 5 rfl) rfl rfl ?_
    refine V_getI (sx_di dX12_othersBelow 6 rfl) fX12_258 (fun _ => rfl) (hB.k _ rfl) ?_
    refine V_iv (y := nI (a_n A)) (hn) ?_
    refine V_icN_ge (a := k) (b := (a_n A)) (rfl) (rfl) (by omega) (by omega) (tgt := 64) (sx_di dX12_othersBelow 7 rfl) (by decide) (fun h11 => absurd h11 (by omega)) (fun _ => ?_)
    refine V_iload (sx_di dX12_othersBelow 8 rfl) rfl ?_
    refine V_iload_n (i := 1) (sx_di dX12_othersBelow 9 rfl) rfl rfl ?_
    refine V_icN_ne (a := k) (b := h) (rfl) (rfl) (by omega) (by omega) (tgt := 24) (sx_di dX12_othersBelow 10 rfl) (by decide) (fun h17 => ?_) (fun h17 => ?_)
    · refine V_aload_n (i := 0) (sx_di dX12_othersBelow 13 rfl) rfl rfl ?_
      refine V_iload (sx_di dX12_othersBelow 14 rfl) rfl ?_
      refine V_iload (sx_di dX12_othersBelow 15 rfl) rfl ?_
      refine V_iload_n (i := 1) (sx_di dX12_othersBelow 16 rfl) rfl rfl ?_
      refine V_icN_ge (a := k) (b := h) (rfl) (rfl) (by omega) (by omega) (tgt := 39) (sx_di dX12_othersBelow 17 rfl) (by decide) (fun h30 => ?_) (fun h30 => ?_)
      · have e0 : oc_ A h md k = lb_s A k md 19 := by unfold oc_; rw [if_neg h17, if_neg (by omega)]
        rw [e0] at hno hye
        refine V_iload_n (i := 2) (sx_di dX12_othersBelow 22 rfl) rfl rfl ?_
        refine V_cV2 (mc' := 0) (ms' := 0) (M' := mX12_leastBelow) 8 (sx_di dX12_othersBelow 23 rfl) lX12_377 vX12_leastBelow (hB.k _ rfl) (by decide) rfl (Nat.le_of_ble_eq_true rfl) ⟨Nat.le_of_ble_eq_true rfl, Nat.le_of_ble_eq_true rfl⟩ ⟨Nat.le_refl _, Nat.le_refl _⟩ ?_
        refine e_leastBelow VA H1 (by omega) (fun w2 H2 f2 => ?_)
        refine V_istore (sx_di dX12_othersBelow 24 rfl) (by decide) (rfl) ?_
        refine V_iload (sx_di dX12_othersBelow 25 rfl) rfl ?_
        refine V_iconst (v := -1) (sx_di dX12_othersBelow 26 rfl) (by decide) ?_
        refine V_icmp_ne (tgt := 53) (sx_di dX12_othersBelow 27 rfl) (by decide) (fun h48 => ?_) (fun h48 => ?_)
        · refine V_iload_n (i := 3) (sx_di dX12_othersBelow 30 rfl) rfl rfl ?_
          refine V_iload (sx_di dX12_othersBelow 31 rfl) rfl ?_
          refine V_iadd (sx_di dX12_othersBelow 32 rfl) ?_
          refine V_istore_n (i := 3) (sx_di dX12_othersBelow 33 rfl) rfl (by decide) (rfl) ?_
          refine V_inc (c := 1) (sx_di dX12_othersBelow 34 rfl) (by decide) rfl (by decide) (rfl) ?_
          refine V_goto (tgt := 5) (sx_di dX12_othersBelow 35 rfl) (by decide) ?_
          exact V_subk (hye h48 w2 H2 (fC_tr f1 f2)) ⟨rfl, rfl, rfl, rfl, rfl, trivial⟩
        · refine V_iconst (v := -1) (sx_di dX12_othersBelow 28 rfl) (by decide) ?_
          refine V_iret (sx_di dX12_othersBelow 29 rfl) rfl (Nat.le_refl _) (Nat.le_refl _) ?_
          exact hno h48 w2 H2 (fC_tr f1 f2)
      · have e0 : oc_ A h md k = lb_s A k (md - 1) 19 := by unfold oc_; rw [if_neg h17, if_pos (by omega)]
        rw [e0] at hno hye
        refine V_iload_n (i := 2) (sx_di dX12_othersBelow 18 rfl) rfl rfl ?_
        refine V_iconst (v := 1) (sx_di dX12_othersBelow 19 rfl) (by decide) ?_
        refine V_isub (sx_di dX12_othersBelow 20 rfl) ?_
        refine V_goto (tgt := 40) (sx_di dX12_othersBelow 21 rfl) (by decide) ?_
        refine V_cV2 (mc' := 0) (ms' := 0) (M' := mX12_leastBelow) 8 (sx_di dX12_othersBelow 23 rfl) lX12_377 vX12_leastBelow (hB.k _ rfl) (by decide) rfl (Nat.le_of_ble_eq_true rfl) ⟨Nat.le_of_ble_eq_true rfl, Nat.le_of_ble_eq_true rfl⟩ ⟨Nat.le_refl _, Nat.le_refl _⟩ ?_
        refine e_leastBelow VA H1 (by omega) (fun w2 H2 f2 => ?_)
        refine V_istore (sx_di dX12_othersBelow 24 rfl) (by decide) (rfl) ?_
        refine V_iload (sx_di dX12_othersBelow 25 rfl) rfl ?_
        refine V_iconst (v := -1) (sx_di dX12_othersBelow 26 rfl) (by decide) ?_
        refine V_icmp_ne (tgt := 53) (sx_di dX12_othersBelow 27 rfl) (by decide) (fun h48 => ?_) (fun h48 => ?_)
        · refine V_iload_n (i := 3) (sx_di dX12_othersBelow 30 rfl) rfl rfl ?_
          refine V_iload (sx_di dX12_othersBelow 31 rfl) rfl ?_
          refine V_iadd (sx_di dX12_othersBelow 32 rfl) ?_
          refine V_istore_n (i := 3) (sx_di dX12_othersBelow 33 rfl) rfl (by decide) (rfl) ?_
          refine V_inc (c := 1) (sx_di dX12_othersBelow 34 rfl) (by decide) rfl (by decide) (rfl) ?_
          refine V_goto (tgt := 5) (sx_di dX12_othersBelow 35 rfl) (by decide) ?_
          exact V_subk (hye h48 w2 H2 (fC_tr f1 f2)) ⟨rfl, rfl, rfl, rfl, rfl, trivial⟩
        · refine V_iconst (v := -1) (sx_di dX12_othersBelow 28 rfl) (by decide) ?_
          refine V_iret (sx_di dX12_othersBelow 29 rfl) rfl (Nat.le_refl _) (Nat.le_refl _) ?_
          exact hno h48 w2 H2 (fC_tr f1 f2)
    · have e0 : oc_ A h md k = 0 := if_pos h17
      rw [e0] at hno hye
      refine V_iconst (v := 0) (sx_di dX12_othersBelow 11 rfl) (by decide) ?_
      refine V_goto (tgt := 43) (sx_di dX12_othersBelow 12 rfl) (by decide) ?_
      refine V_istore (sx_di dX12_othersBelow 24 rfl) (by decide) (rfl) ?_
      refine V_iload (sx_di dX12_othersBelow 25 rfl) rfl ?_
      refine V_iconst (v := -1) (sx_di dX12_othersBelow 26 rfl) (by decide) ?_
      refine V_icmp_ne (tgt := 53) (sx_di dX12_othersBelow 27 rfl) (by decide) (fun h48 => ?_) (fun h48 => ?_)
      · refine V_iload_n (i := 3) (sx_di dX12_othersBelow 30 rfl) rfl rfl ?_
        refine V_iload (sx_di dX12_othersBelow 31 rfl) rfl ?_
        refine V_iadd (sx_di dX12_othersBelow 32 rfl) ?_
        refine V_istore_n (i := 3) (sx_di dX12_othersBelow 33 rfl) rfl (by decide) (rfl) ?_
        refine V_inc (c := 1) (sx_di dX12_othersBelow 34 rfl) (by decide) rfl (by decide) (rfl) ?_
        refine V_goto (tgt := 5) (sx_di dX12_othersBelow 35 rfl) (by decide) ?_
        exact V_subk (hye h48 w1 H1 f1) ⟨rfl, rfl, rfl, rfl, rfl, trivial⟩
      · refine V_iconst (v := -1) (sx_di dX12_othersBelow 28 rfl) (by decide) ?_
        refine V_iret (sx_di dX12_othersBelow 29 rfl) rfl (Nat.le_refl _) (Nat.le_refl _) ?_
        exact hno h48 w1 H1 f1
set_option maxHeartbeats 2000000 in
set_option maxRecDepth 20000 in
theorem e_othersBelow {E : sxE} {Q : Option Value → hpW → Prop} {A : AS} {w : hpW} (VA : AV A) (H : RR A w) {h : Nat} {md : Int32} (hh : h < a_n A) (hq : ∀ w', RR A w' → fC w w' → Q (some (.int (om_ (ob_ A h md (a_n A))))) w') : sx_C E mX12_othersBelow 9 0 0 [.ref 381, .int (nI h), .int md] w Q := by
  refine C_of (by decide +kernel) (Nat.le_of_ble_eq_true rfl) ?_
  refine V_iconst (v := 0) (sx_di dX12_othersBelow 0 rfl) (by decide) ?_
  refine V_istore_n (i := 3) (sx_di dX12_othersBelow 1 rfl) rfl (by decide) (rfl) ?_
  refine V_iconst (v := 0) (sx_di dX12_othersBelow 2 rfl) (by decide) ?_
  refine V_istore (sx_di dX12_othersBelow 3 rfl) (by decide) (rfl) ?_
  refine V_sub (ls' := [(4, .int (nI 0)), (3, .int 0), (2, .int md), (1, .int (nI h)), (0, .ref 381)]) ⟨rfl, rfl, rfl, rfl, rfl, trivial⟩ ?_
  exact obR_lp VA hh hq (a_n A) 0 w 0 (by omega) H fC_rf rfl
def l1_ (o : Option (Int32 × Int32)) (z : Int32) : Int32 := match o with
  | none => z
  | some p => p.1
def l2_ (o : Option (Int32 × Int32)) (z : Int32) : Int32 := match o with
  | none => z
  | some p => p.2
set_option maxHeartbeats 2000000 in
set_option maxRecDepth 20000 in
theorem lsR_lp {E : sxE} {Q : Option Value → hpW → Prop} {A : AS} {w : hpW} (VA : AV A) {h : Nat} {y : Int32} (hh : h < a_n A) (hq : ∀ w', RR A w' → fC w w' → Q (some (.int (if y = 0 then l1_ (lst_ A h 19) (-1000000) else l2_ (lst_ A h 19) (-1000000)))) w') : ∀ d i w1, i + d = 19 → RR A w1 → fC w w1 → V E mX12_least (sx_rm 10 0 0) 0 0 0 0 34 [(5, .int (sv_ i)), (4, .int (l1_ (lst_ A h i) (-1000000))), (3, .int (l2_ (lst_ A h i) (-1000000))), (2, .int y), (1, .int (nI h)), (0, .ref 381)] [] w1 Q := by
  intro d
  have hn8 := VA.2.2.1.1
  induction d with
  | zero =>
    intro i w1 hi H1 f1
    have hB := H1.1
    have e : i = 19 := by omega
    subst e
    refine V_iload (sx_di dX12_least 17 rfl) rfl ?_
    refine V_bipush (v := 9) (sx_di dX12_least 18 rfl) (by decide) ?_
    refine V_icmp_gt (tgt := 121) (sx_di dX12_least 19 rfl) (by decide) (fun _ => ?_) (fun h38 => absurd ((sv_9 (by omega)).mpr (by omega)) h38)
    refine V_iload_n (i := 2) (sx_di dX12_least 61 rfl) rfl rfl ?_
    refine V_if_ne (tgt := 130) (sx_di dX12_least 62 rfl) (by decide) (fun h122 => ?_) (fun h122 => ?_)
    · rw [if_neg h122] at hq
      refine V_iload_n (i := 3) (sx_di dX12_least 65 rfl) rfl rfl ?_
      refine V_iret (sx_di dX12_least 66 rfl) rfl (Nat.le_refl _) (Nat.le_refl _) ?_
      exact hq w1 H1 f1
    · rw [if_pos h122] at hq
      refine V_iload (sx_di dX12_least 63 rfl) rfl ?_
      refine V_goto (tgt := 131) (sx_di dX12_least 64 rfl) (by decide) ?_
      refine V_iret (sx_di dX12_least 66 rfl) rfl (Nat.le_refl _) (Nat.le_refl _) ?_
      exact hq w1 H1 f1
  | succ d ih =>
    intro i w1 hi H1 f1
    have hB := H1.1
    have es := sv_s (i := i) (by omega)
    have e1 := lst_s A h i
    have q0 := ih (i + 1)
    rw [← es] at q0
    have hsame : sf1 A h i = none → lst_ A h (i + 1) = lst_ A h i := fun z => by rw [e1, z]
    have hst : ∀ c, sf1 A h i = some c → (l2_ (lst_ A h i) (-1000000) = -1000000 ∨ c < l1_ (lst_ A h i) (-1000000)) → lst_ A h (i + 1) = some (c, sv_ i) := fun c z hx => by
      rw [e1, z]
      cases hl : lst_ A h i with
      | none => rfl
      | some p =>
        rw [hl] at hx
        have hx := hx.resolve_left (by
          obtain ⟨_, j, hj, ej⟩ := lst_n VA hh i (by omega) p hl
          show ¬ p.2 = -1000000
          rw [ej]
          exact sv_hid hj)
        exact if_pos hx
    have hkeep : ∀ c, sf1 A h i = some c → ¬ (l2_ (lst_ A h i) (-1000000) = -1000000 ∨ c < l1_ (lst_ A h i) (-1000000)) → lst_ A h (i + 1) = lst_ A h i := fun c z hx => by
      rw [e1, z]
      cases hl : lst_ A h i with
      | none => rw [hl] at hx; exact absurd (Or.inl rfl) hx
      | some p =>
        rw [hl] at hx
        exact if_neg (fun q => hx (Or.inr q))
    clear e1
    refine V_iload (sx_di dX12_least 17 rfl) rfl ?_
    refine V_bipush (v := 9) (sx_di dX12_least 18 rfl) (by decide) ?_
    refine V_icmp_gt (tgt := 121) (sx_di dX12_least 19 rfl) (by decide) (fun h38 => absurd h38 (fun z => absurd ((sv_9 (by omega)).mp z) (by omega))) (fun _ => ?_)
    refine V_aload_n (i := 0) (sx_di dX12_least 20 rfl) rfl rfl ?_
    refine V_iload_n (i := 1) (sx_di dX12_least 21 rfl) rfl rfl ?_
    refine V_iload (sx_di dX12_least 22 rfl) rfl ?_
    refine V_cV2 (mc' := 0) (ms' := 0) (M' := mX12_mindedIf) 7 (sx_di dX12_least 23 rfl) lX12_374 vX12_mindedIf (by first | exact hB.k _ rfl | exact hB2.k _ rfl | exact hB3.k _ rfl) (by decide) rfl (Nat.le_of_ble_eq_true rfl) ⟨Nat.le_of_ble_eq_true rfl, Nat.le_of_ble_eq_true rfl⟩ ⟨Nat.le_refl _, Nat.le_refl _⟩ ?_
    refine e_mindedIf VA H1 hh (by omega) (fun w2 H2 f2 => ?_)
    have hB2 := H2.1
    have hr2 : hp_i w2 398 (8 + h) = a_r A (8 + h) := congrFun H2.2.2.2.2.1 _
    refine V_istore (sx_di dX12_least 24 rfl) (by decide) (rfl) ?_
    refine V_iload (sx_di dX12_least 25 rfl) rfl ?_
    refine V_if_ne (tgt := 59) (sx_di dX12_least 26 rfl) (by decide) (fun h52 => ?_) (fun h52 => ?_)
    · refine V_aload_n (i := 0) (sx_di dX12_least 29 rfl) rfl rfl ?_
      refine V_iload_n (i := 1) (sx_di dX12_least 30 rfl) rfl rfl ?_
      refine V_iload (sx_di dX12_least 31 rfl) rfl ?_
      refine V_cV2 (mc' := 0) (ms' := 0) (M' := mX12_othersBelow) 9 (sx_di dX12_least 32 rfl) lX12_380 vX12_othersBelow (by first | exact hB.k _ rfl | exact hB2.k _ rfl | exact hB3.k _ rfl) (by decide) rfl (Nat.le_of_ble_eq_true rfl) ⟨Nat.le_of_ble_eq_true rfl, Nat.le_of_ble_eq_true rfl⟩ ⟨Nat.le_refl _, Nat.le_refl _⟩ ?_
      refine e_othersBelow VA H2 hh (fun w3 H3 f3 => ?_)
      have hB3 := H3.1
      have hr3 : hp_i w3 398 (8 + h) = a_r A (8 + h) := congrFun H3.2.2.2.2.1 _
      refine V_istore (sx_di dX12_least 33 rfl) (by decide) (rfl) ?_
      refine V_iload (sx_di dX12_least 34 rfl) rfl ?_
      refine V_aload_n (i := 0) (sx_di dX12_least 35 rfl) rfl rfl ?_
      refine V_getR (sx_di dX12_least 36 rfl) fX12_58 (fun _ => rfl) (by first | exact hB.k _ rfl | exact hB2.k _ rfl | exact hB3.k _ rfl) (by first | exact hB.r _ _ rfl | exact hB2.r _ _ rfl | exact hB3.r _ _ rfl) ?_
      refine V_bipush (v := 8) (sx_di dX12_least 37 rfl) (by decide) ?_
      refine V_iload_n (i := 1) (sx_di dX12_least 38 rfl) rfl rfl ?_
      refine V_iadd (sx_di dX12_least 39 rfl) ?_
      refine V_ialdN (n := 226) (j := (8 + h)) (sx_di dX12_least 40 rfl) (by first | exact hB.k _ rfl | exact hB2.k _ rfl | exact hB3.k _ rfl) (nx_add (rfl) (rfl)) (by omega) (by omega) ?_
      refine V_iv (y := a_r A (8 + h)) (hr3) ?_
      refine V_isub (sx_di dX12_least 41 rfl) ?_
      refine V_mabs (sx_di dX12_least 42 rfl) (sx_a6 199 rfl rfl) (sx_a4 0 rfl rfl) (sx_a1 22 rfl rfl) (sx_a4 1 rfl rfl) ⟨Nat.le_of_ble_eq_true rfl, Nat.le_of_ble_eq_true rfl, Nat.le_refl _, Nat.le_refl _⟩ ?_
      refine V_iv (y := ac_ A h i) (rfl) ?_
      refine V_iload (sx_di dX12_least 43 rfl) rfl ?_
      refine V_iadd (sx_di dX12_least 44 rfl) ?_
      refine V_istore (sx_di dX12_least 45 rfl) (by decide) (rfl) ?_
      refine V_iload (sx_di dX12_least 46 rfl) rfl ?_
      refine V_iconst (v := -1) (sx_di dX12_least 47 rfl) (by decide) ?_
      refine V_icmp_eq (tgt := 115) (sx_di dX12_least 48 rfl) (by decide) (fun h91 => ?_) (fun h91 => ?_)
      · have hs : sf1 A h i = none := by
          unfold sf1
          rw [if_neg h52]
          cases hb : ob_ A h (ms_ A h i) (a_n A) with
          | none => rfl
          | some s =>
            obtain ⟨q, hq2, e⟩ := ob_n VA _ _ (Nat.le_refl _) s hb
            rw [hb, om_, e] at h91
            exact absurd h91 (nI_m1 (by omega))
        have e9 := hsame hs
        have q1 := q0 w3 (by omega) H3 (fC_tr f1 (fC_tr f2 f3))
        rw [e9] at q1
        refine V_inc (c := 1) (sx_di dX12_least 59 rfl) (by decide) rfl (by decide) (rfl) ?_
        refine V_goto (tgt := 34) (sx_di dX12_least 60 rfl) (by decide) ?_
        exact V_subk q1 ⟨rfl, rfl, rfl, rfl, rfl, rfl, trivial⟩
      · have hs : sf1 A h i = some (ac_ A h i + om_ (ob_ A h (ms_ A h i) (a_n A))) := by
          unfold sf1
          rw [if_neg h52]
          cases hb : ob_ A h (ms_ A h i) (a_n A) with
          | none => rw [hb] at h91; exact absurd rfl h91
          | some s => rfl
        refine V_iload_n (i := 3) (sx_di dX12_least 49 rfl) rfl rfl ?_
        refine V_ldcw (sx_di dX12_least 50 rfl) kX12_320 ?_
        refine V_icmp_eq (tgt := 108) (sx_di dX12_least 51 rfl) (by decide) (fun h98 => ?_) (fun h98 => ?_)
        · refine V_iload (sx_di dX12_least 55 rfl) rfl ?_
          refine V_istore_n (i := 3) (sx_di dX12_least 56 rfl) rfl (by decide) (rfl) ?_
          refine V_iload (sx_di dX12_least 57 rfl) rfl ?_
          refine V_istore (sx_di dX12_least 58 rfl) (by decide) (rfl) ?_
          have e9 := hst _ hs (Or.inl h98)
          have q1 := q0 w3 (by omega) H3 (fC_tr f1 (fC_tr f2 f3))
          rw [e9] at q1
          refine V_inc (c := 1) (sx_di dX12_least 59 rfl) (by decide) rfl (by decide) (rfl) ?_
          refine V_goto (tgt := 34) (sx_di dX12_least 60 rfl) (by decide) ?_
          exact V_subk q1 ⟨rfl, rfl, rfl, rfl, rfl, rfl, trivial⟩
        · refine V_iload (sx_di dX12_least 52 rfl) rfl ?_
          refine V_iload (sx_di dX12_least 53 rfl) rfl ?_
          refine V_icmp_ge (tgt := 115) (sx_di dX12_least 54 rfl) (by decide) (fun h105 => ?_) (fun h105 => ?_)
          · have e9 := hkeep _ hs (fun z => z.elim h98 (Int32.not_lt.mpr h105))
            have q1 := q0 w3 (by omega) H3 (fC_tr f1 (fC_tr f2 f3))
            rw [e9] at q1
            refine V_inc (c := 1) (sx_di dX12_least 59 rfl) (by decide) rfl (by decide) (rfl) ?_
            refine V_goto (tgt := 34) (sx_di dX12_least 60 rfl) (by decide) ?_
            exact V_subk q1 ⟨rfl, rfl, rfl, rfl, rfl, rfl, trivial⟩
          · refine V_iload (sx_di dX12_least 55 rfl) rfl ?_
            refine V_istore_n (i := 3) (sx_di dX12_least 56 rfl) rfl (by decide) (rfl) ?_
            refine V_iload (sx_di dX12_least 57 rfl) rfl ?_
            refine V_istore (sx_di dX12_least 58 rfl) (by decide) (rfl) ?_
            have e9 := hst _ hs (Or.inr (Int32.not_le.mp h105))
            have q1 := q0 w3 (by omega) H3 (fC_tr f1 (fC_tr f2 f3))
            rw [e9] at q1
            refine V_inc (c := 1) (sx_di dX12_least 59 rfl) (by decide) rfl (by decide) (rfl) ?_
            refine V_goto (tgt := 34) (sx_di dX12_least 60 rfl) (by decide) ?_
            exact V_subk q1 ⟨rfl, rfl, rfl, rfl, rfl, rfl, trivial⟩
    · have hs : sf1 A h i = none := if_pos h52
      refine V_iconst (v := -1) (sx_di dX12_least 27 rfl) (by decide) ?_
      refine V_goto (tgt := 66) (sx_di dX12_least 28 rfl) (by decide) ?_
      refine V_istore (sx_di dX12_least 33 rfl) (by decide) (rfl) ?_
      refine V_iload (sx_di dX12_least 34 rfl) rfl ?_
      refine V_aload_n (i := 0) (sx_di dX12_least 35 rfl) rfl rfl ?_
      refine V_getR (sx_di dX12_least 36 rfl) fX12_58 (fun _ => rfl) (by first | exact hB.k _ rfl | exact hB2.k _ rfl | exact hB3.k _ rfl) (by first | exact hB.r _ _ rfl | exact hB2.r _ _ rfl | exact hB3.r _ _ rfl) ?_
      refine V_bipush (v := 8) (sx_di dX12_least 37 rfl) (by decide) ?_
      refine V_iload_n (i := 1) (sx_di dX12_least 38 rfl) rfl rfl ?_
      refine V_iadd (sx_di dX12_least 39 rfl) ?_
      refine V_ialdN (n := 226) (j := (8 + h)) (sx_di dX12_least 40 rfl) (by first | exact hB.k _ rfl | exact hB2.k _ rfl | exact hB3.k _ rfl) (nx_add (rfl) (rfl)) (by omega) (by omega) ?_
      refine V_iv (y := a_r A (8 + h)) (hr2) ?_
      refine V_isub (sx_di dX12_least 41 rfl) ?_
      refine V_mabs (sx_di dX12_least 42 rfl) (sx_a6 199 rfl rfl) (sx_a4 0 rfl rfl) (sx_a1 22 rfl rfl) (sx_a4 1 rfl rfl) ⟨Nat.le_of_ble_eq_true rfl, Nat.le_of_ble_eq_true rfl, Nat.le_refl _, Nat.le_refl _⟩ ?_
      refine V_iv (y := ac_ A h i) (rfl) ?_
      refine V_iload (sx_di dX12_least 43 rfl) rfl ?_
      refine V_iadd (sx_di dX12_least 44 rfl) ?_
      refine V_istore (sx_di dX12_least 45 rfl) (by decide) (rfl) ?_
      refine V_iload (sx_di dX12_least 46 rfl) rfl ?_
      refine V_iconst (v := -1) (sx_di dX12_least 47 rfl) (by decide) ?_
      refine V_icmp_eq (tgt := 115) (sx_di dX12_least 48 rfl) (by decide) (fun _ => ?_) (fun h91 => absurd rfl h91)
      have e9 := hsame hs
      have q1 := q0 w2 (by omega) H2 (fC_tr f1 f2)
      rw [e9] at q1
      refine V_inc (c := 1) (sx_di dX12_least 59 rfl) (by decide) rfl (by decide) (rfl) ?_
      refine V_goto (tgt := 34) (sx_di dX12_least 60 rfl) (by decide) ?_
      exact V_subk q1 ⟨rfl, rfl, rfl, rfl, rfl, rfl, trivial⟩
set_option maxHeartbeats 2000000 in
set_option maxRecDepth 20000 in
theorem oR_least {E : sxE} {A : AS} {w : hpW} (VA : AV A) (H : RR A w) (x y : Int32) : oR E mX12_least 10 [.ref 381, .int x, .int y] w A (q_least A x y) A := by
  intro Q h
  have hB := H.1
  have hn := H.2.2.2.1.1
  have hn8 := VA.2.2.1.1
  unfold q_least at h
  refine C_of (by decide +kernel) (Nat.le_of_ble_eq_true rfl) ?_
  refine V_aload_n (i := 0) (sx_di dX12_least 0 rfl) rfl rfl ?_
  refine V_iload_n (i := 1) (sx_di dX12_least 1 rfl) rfl rfl ?_
  refine V_cV1 (mc' := 0) (ms' := 0) (M' := mX12_isHouse) 2 (sx_di dX12_least 2 rfl) lX12_311 vX12_isHouse (hB.k _ rfl) (by decide) rfl (Nat.le_of_ble_eq_true rfl) ⟨Nat.le_of_ble_eq_true rfl, Nat.le_of_ble_eq_true rfl⟩ ⟨Nat.le_refl _, Nat.le_refl _⟩ ?_
  refine c_X12_isHouse hB hn hn8 ?_
  refine V_if_eq (tgt := 17) (sx_di dX12_least 3 rfl) (by decide) (fun h5 => ?_) (fun h5 => ?_)
  · rw [if_pos (Or.inl h5)] at h
    refine V_ldcw (sx_di dX12_least 9 rfl) kX12_320 ?_
    refine V_iret (sx_di dX12_least 10 rfl) rfl (Nat.le_refl _) (Nat.le_refl _) ?_
    exact h w H fC_rf
  · refine V_iload_n (i := 2) (sx_di dX12_least 4 rfl) rfl rfl ?_
    refine V_iconst (v := 0) (sx_di dX12_least 5 rfl) (by decide) ?_
    refine V_iconst (v := 1) (sx_di dX12_least 6 rfl) (by decide) ?_
    refine V_cS3 (mc' := 0) (ms' := 0) (M' := mX12_in) 1 (sx_di dX12_least 7 rfl) lX12_214 vX12_in (Nat.le_of_ble_eq_true rfl) ⟨Nat.le_of_ble_eq_true rfl, Nat.le_of_ble_eq_true rfl⟩ ⟨Nat.le_refl _, Nat.le_refl _⟩ ?_
    refine c_X12_in ?_
    refine V_if_ne (tgt := 21) (sx_di dX12_least 8 rfl) (by decide) (fun h14 => ?_) (fun h14 => ?_)
    · have h15 := in_ye h14
      rw [if_neg (fun z => z.elim h5 h15)] at h
      obtain ⟨k, hk, rfl⟩ := ih_ye (by omega) h5
      rw [nI_clamp (by omega)] at h
      have hq : ∀ w', RR A w' → fC w w' → Q (some (.int (if y = 0 then l1_ (lst_ A k 19) (-1000000) else l2_ (lst_ A k 19) (-1000000)))) w' := fun w' a b => by
        have z := h w' a b
        cases hl : lst_ A k 19 with
        | none => rw [hl] at z; rw [l1_, l2_]; split <;> exact z
        | some p => rw [hl] at z; exact z
      refine V_ldcw (sx_di dX12_least 11 rfl) kX12_320 ?_
      refine V_istore_n (i := 3) (sx_di dX12_least 12 rfl) rfl (by decide) (rfl) ?_
      refine V_ldcw (sx_di dX12_least 13 rfl) kX12_320 ?_
      refine V_istore (sx_di dX12_least 14 rfl) (by decide) (rfl) ?_
      refine V_bipush (v := -9) (sx_di dX12_least 15 rfl) (by decide) ?_
      refine V_istore (sx_di dX12_least 16 rfl) (by decide) (rfl) ?_
      refine V_sub (ls' := [(5, .int (sv_ 0)), (4, .int (-1000000)), (3, .int (-1000000)), (2, .int y), (1, .int (nI k)), (0, .ref 381)]) ⟨rfl, rfl, rfl, rfl, rfl, rfl, trivial⟩ ?_
      exact lsR_lp VA hk hq 19 0 w (by omega) H fC_rf
    · rw [if_pos (Or.inr (in_no h14))] at h
      refine V_ldcw (sx_di dX12_least 9 rfl) kX12_320 ?_
      refine V_iret (sx_di dX12_least 10 rfl) rfl (Nat.le_refl _) (Nat.le_refl _) ?_
      exact h w H fC_rf

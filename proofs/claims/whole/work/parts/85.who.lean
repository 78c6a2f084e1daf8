/-! who minded more -/
noncomputable def ft2 (A : AS) (g : Int32) (c : Nat) (q : n3T) : Bool := decide ((if wd_ A g c q.1.toNatClampNeg 42 = q.2.1 then (1 : Int32) else 0) = q.2.2)
noncomputable def fs_ok (A : AS) (g : Int32) (c : Nat) : Bool := (a_S A).all (ft2 A g c)
theorem wd_9 {A : AS} {g : Int32} {c : Nat} (hc : a_n A ≤ c) : wd_ A g c = wd_ A g (a_n A) := by
  unfold wd_
  rw [show sx2 (a_s A) (a_n A) c g = a_s A from if_neg (by omega), show sx2 (a_s A) (a_n A) (a_n A) g = a_s A from if_neg (by omega)]
theorem fs_9 {A : AS} {g : Int32} {c : Nat} (hc : a_n A ≤ c) : fs_ok A g c = fs_ok A g (a_n A) := by
  unfold fs_ok
  congr 1
  funext q
  unfold ft2
  rw [wd_9 hc]
def sbN (p : Nat → Bool) : Nat → Nat
  | 0 => 0
  | k + 1 => if p k then sbN p k + 2 ^ k else sbN p k
theorem sbN_lt (p : Nat → Bool) : ∀ k, sbN p k < 2 ^ k
  | 0 => by
    show 0 < 2 ^ 0
    decide
  | k + 1 => by
    have := sbN_lt p k
    unfold sbN
    rw [Nat.pow_succ]
    split <;> omega
theorem sbN_bit (p : Nat → Bool) : ∀ k c, (sbN p k).testBit c = (decide (c < k) && p c)
  | 0, c => by
    show (0 : Nat).testBit c = _
    rw [Nat.zero_testBit, decide_eq_false (by omega), Bool.false_and]
  | k + 1, c => by
    have hl := sbN_lt p k
    have ih := sbN_bit p k
    unfold sbN
    by_cases hp : p k = true
    · rw [if_pos hp, Nat.add_comm]
      rcases Nat.lt_trichotomy c k with h | h | h
      · rw [Nat.testBit_two_pow_add_gt h, ih c, decide_eq_true h, decide_eq_true (show c < k + 1 by omega)]
      · subst h
        rw [Nat.testBit_two_pow_add_eq, ih c, decide_eq_false (by omega), decide_eq_true (show c < c + 1 by omega), hp]
        rfl
      · rw [Nat.testBit_lt_two_pow (show 2 ^ k + sbN p k < 2 ^ c from by
          have : 2 ^ (k + 1) ≤ 2 ^ c := Nat.pow_le_pow_right (by decide) (by omega)
          rw [Nat.pow_succ] at this
          omega), decide_eq_false (by omega), Bool.false_and]
    · rw [if_neg hp, ih c]
      by_cases h : c = k
      · subst h
        rw [decide_eq_false (show ¬ c < c by omega), Bool.false_and]
        rw [show p c = false by simpa using hp, Bool.and_false]
      · by_cases h2 : c < k
        · rw [decide_eq_true h2, decide_eq_true (show c < k + 1 by omega)]
        · rw [decide_eq_false h2, decide_eq_false (show ¬ c < k + 1 by omega)]
theorem sbN_s (p : Nat → Bool) : ∀ k, k ≤ 9 → sb_ p k = nI (sbN p k)
  | 0, _ => rfl
  | k + 1, hk => by
    have hl := sbN_lt p k
    unfold sb_ sbN
    rw [sbN_s p k (by omega)]
    split
    · rw [sh_n k (by omega), or_sum hl]
    · rfl
theorem tbit9 : ∀ h, h < 9 → ∀ s, s < 512 → ((nI s >>> (nI h &&& 31)) &&& 1 = 0 ↔ s.testBit h = false) := by decide +kernel
theorem sb_tst {p : Nat → Bool} {k c : Nat} (hk : k ≤ 9) (hc : c < k) : ((sb_ p k >>> (nI c &&& 31)) &&& 1 = 0) ↔ ¬ p c = true := by
  have hl := sbN_lt p k
  have hp : 2 ^ k ≤ 512 := by
    have : 2 ^ k ≤ 2 ^ 9 := Nat.pow_le_pow_right (by decide) hk
    omega
  rw [sbN_s p k hk, tbit9 c (by omega) _ (by omega), sbN_bit, decide_eq_true hc, Bool.true_and]
  cases p c <;> simp
theorem sb_0 {p : Nat → Bool} {k : Nat} (hk : k ≤ 9) : sb_ p k = 0 ↔ ∀ c, c < k → p c = false := by
  have hl := sbN_lt p k
  have hp : 2 ^ k ≤ 512 := by
    have : 2 ^ k ≤ 2 ^ 9 := Nat.pow_le_pow_right (by decide) hk
    omega
  rw [sbN_s p k hk]
  constructor
  · intro e c hc
    have e0 : sbN p k = 0 := (nI_eq (b := 0) (by omega) (by omega)).mp e
    have b := sbN_bit p k c
    rw [e0, Nat.zero_testBit, decide_eq_true hc, Bool.true_and] at b
    exact b.symm
  · intro h
    have e0 : ∀ j, j ≤ k → sbN p j = 0 := by
      intro j
      induction j with
      | zero => intro _; rfl
      | succ j ih =>
        intro hj
        unfold sbN
        rw [h j (by omega), ih (by omega)]
        rfl
    rw [e0 k (Nat.le_refl _)]
    rfl
/-- the v-th of those that fit -/
noncomputable def tqc (p : Nat → Bool) (out : Nat → Int32) (v : Int32) : Nat → Nat → Nat → Int32
  | 0, _, c => if v = -1 then nI c else -1
  | d + 1, s, c => if p s = true then (if nI c = v then out s else tqc p out v d (s + 1) (c + 1)) else tqc p out v d (s + 1) c
theorem tqc_neg (p : Nat → Bool) (out : Nat → Int32) {v : Int32} (hv : v < -1) : ∀ d z c, c + d ≤ 1000 → tqc p out v d z c = -1 := by
  intro d
  induction d with
  | zero =>
    intro z c _
    show (if v = -1 then nI c else -1) = -1
    rw [if_neg (fun q => by rw [q] at hv; exact absurd hv (by decide))]
  | succ d ih =>
    intro z c e
    unfold tqc
    have hne : ¬ nI c = v := fun q => by
      rw [← q, fa_lt, nI_toInt (by omega), ti_m1] at hv
      omega
    rw [if_neg hne, ih (z + 1) (c + 1) (by omega), ih (z + 1) c (by omega)]
    split <;> rfl
noncomputable def pRf (A : AS) (g : Int32) (u : Nat) : Bool := decide (u < a_n A ∨ u = 9) && fs_ok A g u
def oC9 (n s : Nat) : Int32 := nI (if s = n then 9 else s)
theorem tqc_eq {A : AS} (V : AV A) (g v : Int32) : ∀ d u c, u + d = a_n A → tqc (pRf A g) nI v (10 - u) u c = tqc (fs_ok A g) (oC9 (a_n A)) v (a_n A + 1 - u) u c := by
  have hn8 := V.2.2.1.1
  intro d
  induction d with
  | zero =>
    intro u c hu
    have e : u = a_n A := by omega
    subst e
    have skip : ∀ q, q + a_n A ≤ 9 → tqc (pRf A g) nI v (10 - a_n A) (a_n A) c = tqc (pRf A g) nI v (10 - (a_n A + q)) (a_n A + q) c := by
      intro q
      induction q with
      | zero => intro _; rfl
      | succ q ih =>
        intro hq
        rw [ih (by omega), show 10 - (a_n A + q) = (10 - (a_n A + (q + 1))) + 1 by omega]
        show (if pRf A g (a_n A + q) = true then _ else tqc (pRf A g) nI v (10 - (a_n A + (q + 1))) (a_n A + q + 1) c) = _
        have e0 : pRf A g (a_n A + q) = false := by unfold pRf; rw [decide_eq_false (by omega), Bool.false_and]
        rw [e0, if_neg (by decide)]
        rfl
    rw [skip (9 - a_n A) (by omega), show a_n A + (9 - a_n A) = 9 by omega, show a_n A + 1 - a_n A = 1 by omega]
    have e9 : pRf A g 9 = fs_ok A g (a_n A) := by unfold pRf; rw [decide_eq_true (Or.inr rfl), Bool.true_and, fs_9 (by omega)]
    have eo : oC9 (a_n A) (a_n A) = nI 9 := by unfold oC9; rw [if_pos rfl]
    show (if pRf A g 9 = true then (if nI c = v then nI 9 else (if v = -1 then nI (c + 1) else -1)) else (if v = -1 then nI c else -1)) = (if fs_ok A g (a_n A) = true then (if nI c = v then oC9 (a_n A) (a_n A) else (if v = -1 then nI (c + 1) else -1)) else (if v = -1 then nI c else -1))
    rw [e9, eo]
  | succ d ih =>
    intro u c hu
    rw [show 10 - u = (10 - (u + 1)) + 1 by omega, show a_n A + 1 - u = (a_n A + 1 - (u + 1)) + 1 by omega]
    have e9 : pRf A g u = fs_ok A g u := by unfold pRf; rw [decide_eq_true (Or.inl (by omega)), Bool.true_and]
    have eo : oC9 (a_n A) u = nI u := by unfold oC9; rw [if_neg (by omega)]
    show (if pRf A g u = true then (if nI c = v then nI u else tqc (pRf A g) nI v (10 - (u + 1)) (u + 1) (c + 1)) else tqc (pRf A g) nI v (10 - (u + 1)) (u + 1) c) = (if fs_ok A g u = true then (if nI c = v then oC9 (a_n A) u else tqc (fs_ok A g) (oC9 (a_n A)) v (a_n A + 1 - (u + 1)) (u + 1) (c + 1)) else tqc (fs_ok A g) (oC9 (a_n A)) v (a_n A + 1 - (u + 1)) (u + 1) c)
    rw [e9, eo, ih (u + 1) (c + 1) (by omega), ih (u + 1) c (by omega)]
noncomputable def q_who (A : AS) (x v : Int32) : Int32 := if a_n A = 0 ∨ x < 1 ∨ 5 < x ∨ v < -1 then -1 else tqc (fs_ok A x) (oC9 (a_n A)) v (a_n A + 1) 0 0
set_option maxHeartbeats 2000000 in
set_option maxRecDepth 20000 in
theorem fS_lp {E : sxE} {A : AS} {w : hpW} {Q : Option Value → hpW → Prop} (VA : AV A) (H : CR A w) {g : Int32} (hT : TK_ A g w (41 * (a_n A + 1))) {c : Nat} (hc : c ≤ a_n A) (h : Q (some (.int (if fs_ok A g c then 1 else 0))) w) : ∀ d k, k + d = (a_S A).length → (a_S A).all (ft2 A g c) = ((a_S A).drop k).all (ft2 A g c) → V E mX11_fitsSeen (sx_rm 2 0 0) 0 0 0 0 2 [(2, .int (nI k)), (1, .int (nI c)), (0, .ref 16)] [] w Q := by
  intro d
  have hn8 := VA.2.2.1.1
  have hB := H.1
  have hnt : is_Nt w 369 := nt_369 hB
  obtain ⟨_, _, _, _, _, _, _, _, _, ⟨c7, c8⟩, _⟩ := id H
  have hl : (a_S A).length ≤ 10 := VA.2.2.2.2.1.1
  induction d with
  | zero =>
    intro k hk he
    rw [List.drop_eq_nil_of_le (by omega)] at he
    have e1 : fs_ok A g c = true := he
    rw [if_pos e1] at h
    refine V_iload_n (i := 2) (sx_di dX11_fitsSeen 2 rfl) rfl rfl ?_
    refine V_aload_n (i := 0) (sx_di dX11_fitsSeen 3 rfl) rfl rfl ?_
    refine V_getR (sx_di dX11_fitsSeen 4 rfl) fX11_91 (fun _ => rfl) (hB.k _ rfl) (hB.r _ _ rfl) ?_
    refine V_getI (sx_di dX11_fitsSeen 5 rfl) fX11_150 (fun _ => rfl) (hB.k _ rfl) ?_
    refine V_iv (y := nI (a_S A).length) (c7) ?_
    refine V_icN_ge (a := k) (b := (a_S A).length) (rfl) (rfl) (by omega) (by omega) (tgt := 76) (sx_di dX11_fitsSeen 6 rfl) (by decide) (fun _ => ?_) (fun h10 => absurd h10 (by omega))
    refine V_iconst (v := 1) (sx_di dX11_fitsSeen 42 rfl) (by decide) ?_
    refine V_zret (sx_di dX11_fitsSeen 43 rfl) rfl (by first | rfl | decide) (Nat.le_refl _) (Nat.le_refl _) ?_
    exact h
  | succ d ih =>
    intro k hk he
    obtain ⟨q, eq, ed, hq⟩ := at_len (L := a_S A) (k := k) (by omega)
    obtain ⟨⟨j, hj0, hj, ej⟩, _, hb⟩ := VA.2.2.2.2.1.2.1 q hq
    obtain ⟨n1, n2, n3⟩ := c8 k q eq
    have q1 := ih (k + 1) (by omega)
    rw [ed, List.all_cons] at he
    have ef : ft2 A g c q = decide ((if wd_ A g c j 42 = q.2.1 then (1 : Int32) else 0) = q.2.2) := by unfold ft2; rw [ej, nI_clamp (by omega)]
    rw [ef] at he
    rw [← nI_1] at q1
    have et : hp_i w 380 (c * 41 + j) = wd_ A g c j 42 := hT c j hc hj0 hj (by omega)
    have hc0 : (nI k).toNatClampNeg = k := nI_clamp (by omega)
    have hno : ¬ (if wd_ A g c j 42 = q.2.1 then (1 : Int32) else 0) = q.2.2 → Q (some (.int 0)) w := fun z => by
      rw [decide_eq_false z, Bool.false_and] at he
      rw [if_neg (by unfold fs_ok; rw [he]; decide)] at h
      exact h
    have hye : (if wd_ A g c j 42 = q.2.1 then (1 : Int32) else 0) = q.2.2 → V E mX11_fitsSeen (sx_rm 2 0 0) 0 0 0 0 2 [(2, .int (nI k + nI 1)), (1, .int (nI c)), (0, .ref 16)] [] w Q := fun z => by
      rw [decide_eq_true z, Bool.true_and] at he
      exact q1 he
    refine V_iload_n (i := 2) (sx_di dX11_fitsSeen 2 rfl) rfl rfl ?_
    refine V_aload_n (i := 0) (sx_di dX11_fitsSeen 3 rfl) rfl rfl ?_
    refine V_getR (sx_di dX11_fitsSeen 4 rfl) fX11_91 (fun _ => rfl) (by first | exact hnt.1 | exact hnt.2.1 | exact hnt.2.2.1 | exact hnt.2.2.2.1 | exact hB.k _ rfl) (by first | exact hnt.2.2.2.2.1 | exact hnt.2.2.2.2.2.1 | exact hnt.2.2.2.2.2.2 | exact hB.r _ _ rfl) ?_
    refine V_getI (sx_di dX11_fitsSeen 5 rfl) fX11_150 (fun _ => rfl) (by first | exact hnt.1 | exact hnt.2.1 | exact hnt.2.2.1 | exact hnt.2.2.2.1 | exact hB.k _ rfl) ?_
    refine V_iv (y := nI (a_S A).length) (c7) ?_
    refine V_icN_ge (a := k) (b := (a_S A).length) (rfl) (rfl) (by omega) (by omega) (tgt := 76) (sx_di dX11_fitsSeen 6 rfl) (by decide) (fun h10 => absurd h10 (by omega)) (fun _ => ?_)
    refine V_iload_n (i := 2) (sx_di dX11_fitsSeen 7 rfl) rfl rfl ?_
    refine V_bipush (v := 10) (sx_di dX11_fitsSeen 8 rfl) (by decide) ?_
    refine V_icN_ge (a := k) (b := 10) (rfl) (rfl) (by omega) (by omega) (tgt := 76) (sx_di dX11_fitsSeen 9 rfl) (by decide) (fun h16 => absurd h16 (by omega)) (fun _ => ?_)
    refine V_aload_n (i := 0) (sx_di dX11_fitsSeen 10 rfl) rfl rfl ?_
    refine V_iload_n (i := 1) (sx_di dX11_fitsSeen 11 rfl) rfl rfl ?_
    refine V_bipush (v := 41) (sx_di dX11_fitsSeen 12 rfl) (by decide) ?_
    refine V_imul (sx_di dX11_fitsSeen 13 rfl) ?_
    refine V_aload_n (i := 0) (sx_di dX11_fitsSeen 14 rfl) rfl rfl ?_
    refine V_getR (sx_di dX11_fitsSeen 15 rfl) fX11_91 (fun _ => rfl) (by first | exact hnt.1 | exact hnt.2.1 | exact hnt.2.2.1 | exact hnt.2.2.2.1 | exact hB.k _ rfl) (by first | exact hnt.2.2.2.2.1 | exact hnt.2.2.2.2.2.1 | exact hnt.2.2.2.2.2.2 | exact hB.r _ _ rfl) ?_
    refine V_getR (sx_di dX11_fitsSeen 16 rfl) fX11_371 (fun _ => rfl) (by first | exact hnt.1 | exact hnt.2.1 | exact hnt.2.2.1 | exact hnt.2.2.2.1 | exact hB.k _ rfl) (by first | exact hnt.2.2.2.2.1 | exact hnt.2.2.2.2.2.1 | exact hnt.2.2.2.2.2.2 | exact hB.r _ _ rfl) ?_
    refine V_iload_n (i := 2) (sx_di dX11_fitsSeen 17 rfl) rfl rfl ?_
    refine V_ialdN (n := 10) (j := k) (sx_di dX11_fitsSeen 18 rfl) (by first | exact hnt.1 | exact hnt.2.1 | exact hnt.2.2.1 | exact hnt.2.2.2.1 | exact hB.k _ rfl) (rfl) (by omega) (by omega) ?_
    refine V_iv (y := nI j) (n1.trans ej) ?_
    refine V_iadd (sx_di dX11_fitsSeen 19 rfl) ?_
    refine V_cV1 (mc' := 0) (ms' := 0) (M' := mX11_entry) 1 (sx_di dX11_fitsSeen 20 rfl) lX11_315 vX11_entry (by first | exact hnt.1 | exact hnt.2.1 | exact hnt.2.2.1 | exact hnt.2.2.2.1 | exact hB.k _ rfl) (by decide) rfl (Nat.le_of_ble_eq_true rfl) ⟨Nat.le_of_ble_eq_true rfl, Nat.le_of_ble_eq_true rfl⟩ ⟨Nat.le_refl _, Nat.le_refl _⟩ ?_
    refine c_X11_entryN (j := ((c * 41) + j)) (by first | exact hnt.1 | exact hnt.2.1 | exact hnt.2.2.1 | exact hnt.2.2.2.1 | exact hB.k _ rfl) (by first | exact hnt.2.2.2.2.1 | exact hnt.2.2.2.2.2.1 | exact hnt.2.2.2.2.2.2 | exact hB.r _ _ rfl) (by first | exact hnt.1 | exact hnt.2.1 | exact hnt.2.2.1 | exact hnt.2.2.2.1 | exact hB.k _ rfl) (nx_add (nx_mul (rfl) (rfl)) (rfl)) (by omega) ?_
    refine V_iv (y := wd_ A g c j 42) (et) ?_
    refine V_aload_n (i := 0) (sx_di dX11_fitsSeen 21 rfl) rfl rfl ?_
    refine V_getR (sx_di dX11_fitsSeen 22 rfl) fX11_91 (fun _ => rfl) (by first | exact hnt.1 | exact hnt.2.1 | exact hnt.2.2.1 | exact hnt.2.2.2.1 | exact hB.k _ rfl) (by first | exact hnt.2.2.2.2.1 | exact hnt.2.2.2.2.2.1 | exact hnt.2.2.2.2.2.2 | exact hB.r _ _ rfl) ?_
    refine V_getR (sx_di dX11_fitsSeen 23 rfl) fX11_374 (fun _ => rfl) (by first | exact hnt.1 | exact hnt.2.1 | exact hnt.2.2.1 | exact hnt.2.2.2.1 | exact hB.k _ rfl) (by first | exact hnt.2.2.2.2.1 | exact hnt.2.2.2.2.2.1 | exact hnt.2.2.2.2.2.2 | exact hB.r _ _ rfl) ?_
    refine V_iload_n (i := 2) (sx_di dX11_fitsSeen 24 rfl) rfl rfl ?_
    refine V_ialdN (n := 10) (j := k) (sx_di dX11_fitsSeen 25 rfl) (by first | exact hnt.1 | exact hnt.2.1 | exact hnt.2.2.1 | exact hnt.2.2.2.1 | exact hB.k _ rfl) (rfl) (by omega) (by omega) ?_
    refine V_iv (y := q.2.1) (n2) ?_
    refine V_icmp_ne (tgt := 53) (sx_di dX11_fitsSeen 26 rfl) (by decide) (fun h46 => ?_) (fun h46 => ?_)
    · rw [if_neg h46] at hno hye
      refine V_iconst (v := 0) (sx_di dX11_fitsSeen 29 rfl) (by decide) ?_
      refine V_istore_n (i := 3) (sx_di dX11_fitsSeen 30 rfl) rfl (by decide) (rfl) ?_
      refine V_iload_n (i := 3) (sx_di dX11_fitsSeen 31 rfl) rfl rfl ?_
      refine V_aload_n (i := 0) (sx_di dX11_fitsSeen 32 rfl) rfl rfl ?_
      refine V_getR (sx_di dX11_fitsSeen 33 rfl) fX11_91 (fun _ => rfl) (by first | exact hnt.1 | exact hnt.2.1 | exact hnt.2.2.1 | exact hnt.2.2.2.1 | exact hB.k _ rfl) (by first | exact hnt.2.2.2.2.1 | exact hnt.2.2.2.2.2.1 | exact hnt.2.2.2.2.2.2 | exact hB.r _ _ rfl) ?_
      refine V_getR (sx_di dX11_fitsSeen 34 rfl) fX11_377 (fun _ => rfl) (by first | exact hnt.1 | exact hnt.2.1 | exact hnt.2.2.1 | exact hnt.2.2.2.1 | exact hB.k _ rfl) (by first | exact hnt.2.2.2.2.1 | exact hnt.2.2.2.2.2.1 | exact hnt.2.2.2.2.2.2 | exact hB.r _ _ rfl) ?_
      refine V_iload_n (i := 2) (sx_di dX11_fitsSeen 35 rfl) rfl rfl ?_
      refine V_zald (sx_di dX11_fitsSeen 36 rfl) (by first | exact hnt.1 | exact hnt.2.1 | exact hnt.2.2.1 | exact hnt.2.2.2.1 | exact hB.k _ rfl) (vp_in_nI (show k < 10 by omega) (by decide)) ?_
      refine V_icmp_eq (tgt := 70) (sx_di dX11_fitsSeen 37 rfl) (by decide) (fun h65 => ?_) (fun h65 => ?_)
      · rw [hc0, n3] at h65
        refine V_inc (c := 1) (sx_di dX11_fitsSeen 40 rfl) (by decide) rfl (by decide) (rfl) ?_
        refine V_goto (tgt := 2) (sx_di dX11_fitsSeen 41 rfl) (by decide) ?_
        exact V_subk (hye h65) ⟨rfl, rfl, rfl, trivial⟩
      · rw [hc0, n3] at h65
        refine V_iconst (v := 0) (sx_di dX11_fitsSeen 38 rfl) (by decide) ?_
        refine V_zret (sx_di dX11_fitsSeen 39 rfl) rfl (by first | rfl | decide) (Nat.le_refl _) (Nat.le_refl _) ?_
        exact hno h65
    · rw [if_pos h46] at hno hye
      refine V_iconst (v := 1) (sx_di dX11_fitsSeen 27 rfl) (by decide) ?_
      refine V_goto (tgt := 54) (sx_di dX11_fitsSeen 28 rfl) (by decide) ?_
      refine V_istore_n (i := 3) (sx_di dX11_fitsSeen 30 rfl) rfl (by decide) (rfl) ?_
      refine V_iload_n (i := 3) (sx_di dX11_fitsSeen 31 rfl) rfl rfl ?_
      refine V_aload_n (i := 0) (sx_di dX11_fitsSeen 32 rfl) rfl rfl ?_
      refine V_getR (sx_di dX11_fitsSeen 33 rfl) fX11_91 (fun _ => rfl) (by first | exact hnt.1 | exact hnt.2.1 | exact hnt.2.2.1 | exact hnt.2.2.2.1 | exact hB.k _ rfl) (by first | exact hnt.2.2.2.2.1 | exact hnt.2.2.2.2.2.1 | exact hnt.2.2.2.2.2.2 | exact hB.r _ _ rfl) ?_
      refine V_getR (sx_di dX11_fitsSeen 34 rfl) fX11_377 (fun _ => rfl) (by first | exact hnt.1 | exact hnt.2.1 | exact hnt.2.2.1 | exact hnt.2.2.2.1 | exact hB.k _ rfl) (by first | exact hnt.2.2.2.2.1 | exact hnt.2.2.2.2.2.1 | exact hnt.2.2.2.2.2.2 | exact hB.r _ _ rfl) ?_
      refine V_iload_n (i := 2) (sx_di dX11_fitsSeen 35 rfl) rfl rfl ?_
      refine V_zald (sx_di dX11_fitsSeen 36 rfl) (by first | exact hnt.1 | exact hnt.2.1 | exact hnt.2.2.1 | exact hnt.2.2.2.1 | exact hB.k _ rfl) (vp_in_nI (show k < 10 by omega) (by decide)) ?_
      refine V_icmp_eq (tgt := 70) (sx_di dX11_fitsSeen 37 rfl) (by decide) (fun h65 => ?_) (fun h65 => ?_)
      · rw [hc0, n3] at h65
        refine V_inc (c := 1) (sx_di dX11_fitsSeen 40 rfl) (by decide) rfl (by decide) (rfl) ?_
        refine V_goto (tgt := 2) (sx_di dX11_fitsSeen 41 rfl) (by decide) ?_
        exact V_subk (hye h65) ⟨rfl, rfl, rfl, trivial⟩
      · rw [hc0, n3] at h65
        refine V_iconst (v := 0) (sx_di dX11_fitsSeen 38 rfl) (by decide) ?_
        refine V_zret (sx_di dX11_fitsSeen 39 rfl) rfl (by first | rfl | decide) (Nat.le_refl _) (Nat.le_refl _) ?_
        exact hno h65
theorem e_fitsSeen {E : sxE} {A : AS} {w : hpW} {Q : Option Value → hpW → Prop} (VA : AV A) (H : CR A w) {g : Int32} (hT : TK_ A g w (41 * (a_n A + 1))) {c : Nat} (hc : c ≤ a_n A) (h : Q (some (.int (if fs_ok A g c then 1 else 0))) w) : sx_C E mX11_fitsSeen 2 0 0 [.ref 16, .int (nI c)] w Q := by
  refine C_of (by decide +kernel) (Nat.le_of_ble_eq_true rfl) ?_
  refine V_iconst (v := 0) (sx_di dX11_fitsSeen 0 rfl) (by decide) ?_
  refine V_istore_n (i := 2) (sx_di dX11_fitsSeen 1 rfl) rfl (by decide) (rfl) ?_
  refine V_sub (ls' := [(2, .int (nI 0)), (1, .int (nI c)), (0, .ref 16)]) ⟨rfl, rfl, rfl, trivial⟩ ?_
  exact fS_lp VA H hT hc h (a_S A).length 0 (by omega) rfl
set_option maxHeartbeats 2000000 in
set_option maxRecDepth 20000 in
theorem fi_lp {E : sxE} {A : AS} {w : hpW} {Q : Option Value → hpW → Prop} (VA : AV A) (H : CR A w) {g : Int32} (hT : TK_ A g w (41 * (a_n A + 1))) (h : Q (some (.int (sb_ (fs_ok A g) (a_n A + 1)))) w) : ∀ d k, k + d = a_n A + 1 → V E mX11_fitting (sx_rm 3 0 0) 0 0 0 0 4 [(2, .int (nI k)), (1, .int (sb_ (fs_ok A g) k)), (0, .ref 16)] [] w Q := by
  intro d
  have hn8 := VA.2.2.1.1
  obtain ⟨t, hB, ht, hst, hn, _, _⟩ := CRn VA H
  induction d with
  | zero =>
    intro k hk
    have e3 : k = a_n A + 1 := by omega
    subst e3
    refine V_iload_n (i := 2) (sx_di dX11_fitting 4 rfl) rfl rfl ?_
    refine V_aload_n (i := 0) (sx_di dX11_fitting 5 rfl) rfl rfl ?_
    refine V_getR (sx_di dX11_fitting 6 rfl) fX11_48 (fun _ => rfl) (hB.k _ rfl) (ht) ?_
    refine V_cV0 (mc' := 0) (ms' := 0) (M' := mX8_houseCount) 2 (sx_di dX11_fitting 7 rfl) lX11_308 vX8_houseCount (hst.1) (by decide) rfl (Nat.le_of_ble_eq_true rfl) ⟨Nat.le_of_ble_eq_true rfl, Nat.le_of_ble_eq_true rfl⟩ ⟨Nat.le_refl _, Nat.le_refl _⟩ ?_
    refine c_X8_houseCount (hst.1) (hc8 hn hn8) ?_
    refine V_iv (y := nI (a_n A)) (hn) ?_
    refine V_icN_gt (a := (a_n A + 1)) (b := (a_n A)) (rfl) (rfl) (by omega) (by omega) (tgt := 35) (sx_di dX11_fitting 8 rfl) (by decide) (fun _ => ?_) (fun h12 => absurd h12 (by omega))
    refine V_iload_n (i := 1) (sx_di dX11_fitting 21 rfl) rfl rfl ?_
    refine V_iret (sx_di dX11_fitting 22 rfl) rfl (Nat.le_refl _) (Nat.le_refl _) ?_
    exact h
  | succ d ih =>
    intro k hk
    have q1 := ih (k + 1) (by omega)
    have e1 : sb_ (fs_ok A g) (k + 1) = if fs_ok A g k then sb_ (fs_ok A g) k ||| 1 <<< (nI k &&& 31) else sb_ (fs_ok A g) k := rfl
    rw [e1, ← nI_1] at q1
    refine V_iload_n (i := 2) (sx_di dX11_fitting 4 rfl) rfl rfl ?_
    refine V_aload_n (i := 0) (sx_di dX11_fitting 5 rfl) rfl rfl ?_
    refine V_getR (sx_di dX11_fitting 6 rfl) fX11_48 (fun _ => rfl) (hB.k _ rfl) (ht) ?_
    refine V_cV0 (mc' := 0) (ms' := 0) (M' := mX8_houseCount) 2 (sx_di dX11_fitting 7 rfl) lX11_308 vX8_houseCount (hst.1) (by decide) rfl (Nat.le_of_ble_eq_true rfl) ⟨Nat.le_of_ble_eq_true rfl, Nat.le_of_ble_eq_true rfl⟩ ⟨Nat.le_refl _, Nat.le_refl _⟩ ?_
    refine c_X8_houseCount (hst.1) (hc8 hn hn8) ?_
    refine V_iv (y := nI (a_n A)) (hn) ?_
    refine V_icN_gt (a := k) (b := (a_n A)) (rfl) (rfl) (by omega) (by omega) (tgt := 35) (sx_di dX11_fitting 8 rfl) (by decide) (fun h12 => absurd h12 (by omega)) (fun _ => ?_)
    refine V_aload_n (i := 0) (sx_di dX11_fitting 9 rfl) rfl rfl ?_
    refine V_iload_n (i := 2) (sx_di dX11_fitting 10 rfl) rfl rfl ?_
    refine V_cV1 (mc' := 0) (ms' := 0) (M' := mX11_fitsSeen) 2 (sx_di dX11_fitting 11 rfl) lX11_368 vX11_fitsSeen (hB.k _ rfl) (by decide) rfl (Nat.le_of_ble_eq_true rfl) ⟨Nat.le_of_ble_eq_true rfl, Nat.le_of_ble_eq_true rfl⟩ ⟨Nat.le_refl _, Nat.le_refl _⟩ ?_
    refine e_fitsSeen VA H hT (c := k) (by omega) ?_
    refine V_if_eq (tgt := 29) (sx_di dX11_fitting 12 rfl) (by decide) (fun h20 => ?_) (fun h20 => ?_)
    · have hb : ¬ fs_ok A g k = true := fun z => by rw [if_pos z] at h20; exact absurd h20 (by decide)
      rw [if_neg hb] at q1
      refine V_inc (c := 1) (sx_di dX11_fitting 19 rfl) (by decide) rfl (by decide) (rfl) ?_
      refine V_goto (tgt := 4) (sx_di dX11_fitting 20 rfl) (by decide) ?_
      exact V_subk q1 ⟨rfl, rfl, rfl, trivial⟩
    · have hb : fs_ok A g k = true := Classical.byContradiction (fun z => h20 (if_neg z))
      rw [if_pos hb] at q1
      refine V_iload_n (i := 1) (sx_di dX11_fitting 13 rfl) rfl rfl ?_
      refine V_iconst (v := 1) (sx_di dX11_fitting 14 rfl) (by decide) ?_
      refine V_iload_n (i := 2) (sx_di dX11_fitting 15 rfl) rfl rfl ?_
      refine V_ishl (sx_di dX11_fitting 16 rfl) ?_
      refine V_ior (sx_di dX11_fitting 17 rfl) ?_
      refine V_istore_n (i := 1) (sx_di dX11_fitting 18 rfl) rfl (by decide) (rfl) ?_
      refine V_inc (c := 1) (sx_di dX11_fitting 19 rfl) (by decide) rfl (by decide) (rfl) ?_
      refine V_goto (tgt := 4) (sx_di dX11_fitting 20 rfl) (by decide) ?_
      exact V_subk q1 ⟨rfl, rfl, rfl, trivial⟩
theorem e_fitting {E : sxE} {A : AS} {w : hpW} {Q : Option Value → hpW → Prop} (VA : AV A) (H : CR A w) {g : Int32} (hT : TK_ A g w (41 * (a_n A + 1))) (h : Q (some (.int (sb_ (fs_ok A g) (a_n A + 1)))) w) : sx_C E mX11_fitting 3 0 0 [.ref 16] w Q := by
  refine C_of (by decide +kernel) (Nat.le_of_ble_eq_true rfl) ?_
  refine V_iconst (v := 0) (sx_di dX11_fitting 0 rfl) (by decide) ?_
  refine V_istore_n (i := 1) (sx_di dX11_fitting 1 rfl) rfl (by decide) (rfl) ?_
  refine V_iconst (v := 0) (sx_di dX11_fitting 2 rfl) (by decide) ?_
  refine V_istore_n (i := 2) (sx_di dX11_fitting 3 rfl) rfl (by decide) (rfl) ?_
  refine V_sub (ls' := [(2, .int (nI 0)), (1, .int (sb_ (fs_ok A g) 0)), (0, .ref 16)]) ⟨rfl, rfl, rfl, trivial⟩ ?_
  exact fi_lp VA H hT h (a_n A + 1) 0 (by omega)
set_option maxHeartbeats 2000000 in
set_option maxRecDepth 20000 in
theorem wC_lp2 {E : sxE} {A : AS} {w : hpW} {Q : Option Value → hpW → Prop} (VA : AV A) (H : CR A w) {g v : Int32} : ∀ d s c, s + d = a_n A + 1 → Q (some (.int (tqc (fs_ok A g) (oC9 (a_n A)) v d s c))) w → V E mX11_who (sx_rm 8 0 0) 0 0 0 0 35 [(5, .int (nI s)), (4, .int (nI c)), (3, .int (sb_ (fs_ok A g) (a_n A + 1))), (2, .int v), (0, .ref 16)] [] w Q := by
  intro d
  have hn8 := VA.2.2.1.1
  obtain ⟨t, hB, ht, hst, hn, _, _⟩ := CRn VA H
  induction d with
  | zero =>
    intro s c hs z
    unfold tqc at z
    have e : s = a_n A + 1 := by omega
    subst e
    refine V_iload (sx_di dX11_who 21 rfl) rfl ?_
    refine V_aload_n (i := 0) (sx_di dX11_who 22 rfl) rfl rfl ?_
    refine V_getR (sx_di dX11_who 23 rfl) fX11_48 (fun _ => rfl) (hB.k _ rfl) (ht) ?_
    refine V_cV0 (mc' := 0) (ms' := 0) (M' := mX8_houseCount) 2 (sx_di dX11_who 24 rfl) lX11_308 vX8_houseCount (hst.1) (by decide) rfl (Nat.le_of_ble_eq_true rfl) ⟨Nat.le_of_ble_eq_true rfl, Nat.le_of_ble_eq_true rfl⟩ ⟨Nat.le_refl _, Nat.le_refl _⟩ ?_
    refine c_X8_houseCount (hst.1) (hc8 hn hn8) ?_
    refine V_iv (y := nI (a_n A)) (hn) ?_
    refine V_icN_gt (a := (a_n A + 1)) (b := (a_n A)) (rfl) (rfl) (by omega) (by omega) (tgt := 91) (sx_di dX11_who 25 rfl) (by decide) (fun _ => ?_) (fun h44 => absurd h44 (by omega))
    refine V_iload_n (i := 2) (sx_di dX11_who 47 rfl) rfl rfl ?_
    refine V_iconst (v := -1) (sx_di dX11_who 48 rfl) (by decide) ?_
    refine V_icmp_ne (tgt := 101) (sx_di dX11_who 49 rfl) (by decide) (fun h93 => ?_) (fun h93 => ?_)
    · rw [if_neg h93] at z
      refine V_iconst (v := -1) (sx_di dX11_who 52 rfl) (by decide) ?_
      refine V_iret (sx_di dX11_who 53 rfl) rfl (Nat.le_refl _) (Nat.le_refl _) ?_
      exact z
    · rw [if_pos h93] at z
      refine V_iload (sx_di dX11_who 50 rfl) rfl ?_
      refine V_goto (tgt := 102) (sx_di dX11_who 51 rfl) (by decide) ?_
      refine V_iret (sx_di dX11_who 53 rfl) rfl (Nat.le_refl _) (Nat.le_refl _) ?_
      exact z
  | succ d ih =>
    intro s c hs h
    unfold tqc at h
    have tst := sb_tst (p := fs_ok A g) (k := a_n A + 1) (c := s) (by omega) (by omega)
    refine V_iload (sx_di dX11_who 21 rfl) rfl ?_
    refine V_aload_n (i := 0) (sx_di dX11_who 22 rfl) rfl rfl ?_
    refine V_getR (sx_di dX11_who 23 rfl) fX11_48 (fun _ => rfl) (hB.k _ rfl) (ht) ?_
    refine V_cV0 (mc' := 0) (ms' := 0) (M' := mX8_houseCount) 2 (sx_di dX11_who 24 rfl) lX11_308 vX8_houseCount (hst.1) (by decide) rfl (Nat.le_of_ble_eq_true rfl) ⟨Nat.le_of_ble_eq_true rfl, Nat.le_of_ble_eq_true rfl⟩ ⟨Nat.le_refl _, Nat.le_refl _⟩ ?_
    refine c_X8_houseCount (hst.1) (hc8 hn hn8) ?_
    refine V_iv (y := nI (a_n A)) (hn) ?_
    refine V_icN_gt (a := s) (b := (a_n A)) (rfl) (rfl) (by omega) (by omega) (tgt := 91) (sx_di dX11_who 25 rfl) (by decide) (fun h44 => absurd h44 (by omega)) (fun _ => ?_)
    refine V_iload_n (i := 3) (sx_di dX11_who 26 rfl) rfl rfl ?_
    refine V_iload (sx_di dX11_who 27 rfl) rfl ?_
    refine V_ishr (sx_di dX11_who 28 rfl) ?_
    refine V_iconst (v := 1) (sx_di dX11_who 29 rfl) (by decide) ?_
    refine V_iand (sx_di dX11_who 30 rfl) ?_
    refine V_if_eq (tgt := 85) (sx_di dX11_who 31 rfl) (by decide) (fun h53 => ?_) (fun h53 => ?_)
    · rw [if_neg (tst.mp h53)] at h
      have q1 := ih (s + 1) c (by omega) h
      rw [← nI_1] at q1
      refine V_inc (c := 1) (sx_di dX11_who 45 rfl) (by decide) rfl (by decide) (rfl) ?_
      refine V_goto (tgt := 35) (sx_di dX11_who 46 rfl) (by decide) ?_
      exact V_subk q1 ⟨rfl, rfl, rfl, rfl, rfl, trivial⟩
    · rw [if_pos (Classical.byContradiction (fun z => h53 (tst.mpr z)))] at h
      refine V_iload (sx_di dX11_who 32 rfl) rfl ?_
      refine V_iload_n (i := 2) (sx_di dX11_who 33 rfl) rfl rfl ?_
      refine V_icmp_ne (tgt := 82) (sx_di dX11_who 34 rfl) (by decide) (fun h59 => ?_) (fun h59 => ?_)
      · rw [if_neg h59] at h
        have q1 := ih (s + 1) (c + 1) (by omega) h
        rw [← nI_1, ← nI_1] at q1
        refine V_inc (c := 1) (sx_di dX11_who 44 rfl) (by decide) rfl (by decide) (rfl) ?_
        refine V_inc (c := 1) (sx_di dX11_who 45 rfl) (by decide) rfl (by decide) (rfl) ?_
        refine V_goto (tgt := 35) (sx_di dX11_who 46 rfl) (by decide) ?_
        exact V_subk q1 ⟨rfl, rfl, rfl, rfl, rfl, trivial⟩
      · rw [if_pos h59] at h
        unfold oC9 at h
        refine V_iload (sx_di dX11_who 35 rfl) rfl ?_
        refine V_aload_n (i := 0) (sx_di dX11_who 36 rfl) rfl rfl ?_
        refine V_getR (sx_di dX11_who 37 rfl) fX11_48 (fun _ => rfl) (hB.k _ rfl) (ht) ?_
        refine V_cV0 (mc' := 0) (ms' := 0) (M' := mX8_houseCount) 2 (sx_di dX11_who 38 rfl) lX11_308 vX8_houseCount (hst.1) (by decide) rfl (Nat.le_of_ble_eq_true rfl) ⟨Nat.le_of_ble_eq_true rfl, Nat.le_of_ble_eq_true rfl⟩ ⟨Nat.le_refl _, Nat.le_refl _⟩ ?_
        refine c_X8_houseCount (hst.1) (hc8 hn hn8) ?_
        refine V_iv (y := nI (a_n A)) (hn) ?_
        refine V_icN_ne (a := s) (b := (a_n A)) (rfl) (rfl) (by omega) (by omega) (tgt := 79) (sx_di dX11_who 39 rfl) (by decide) (fun h71 => ?_) (fun h71 => ?_)
        · rw [if_neg h71] at h
          refine V_iload (sx_di dX11_who 42 rfl) rfl ?_
          refine V_iret (sx_di dX11_who 43 rfl) rfl (Nat.le_refl _) (Nat.le_refl _) ?_
          exact h
        · rw [if_pos h71] at h
          refine V_bipush (v := 9) (sx_di dX11_who 40 rfl) (by decide) ?_
          refine V_goto (tgt := 81) (sx_di dX11_who 41 rfl) (by decide) ?_
          refine V_iret (sx_di dX11_who 43 rfl) rfl (Nat.le_refl _) (Nat.le_refl _) ?_
          exact h
set_option maxHeartbeats 2000000 in
set_option maxRecDepth 20000 in
theorem oC_who {E : sxE} {A : AS} {w : hpW} (VA : AV A) (H : CR A w) (x v : Int32) : oC E mX11_who 8 [.ref 16, .int x, .int v] w A (q_who A x v) A := by
  intro Q h
  obtain ⟨t, hB, ht, hst, hn, _, _⟩ := CRn VA H
  have hn8 := VA.2.2.1.1
  have hno : (a_n A = 0 ∨ x < 1 ∨ 5 < x) → Q (some (.int (-1))) w := fun e => by
    rw [q_who, if_pos (e.elim Or.inl (fun e => Or.inr (e.elim Or.inl (fun e => Or.inr (Or.inl e)))))] at h
    exact h w H fR_rf
  refine C_of (by decide +kernel) (Nat.le_of_ble_eq_true rfl) ?_
  refine V_aload_n (i := 0) (sx_di dX11_who 0 rfl) rfl rfl ?_
  refine V_cV0 (mc' := 0) (ms' := 0) (M' := mX11_isStreet) 1 (sx_di dX11_who 1 rfl) lX11_154 vX11_isStreet (hB.k _ rfl) (by decide) rfl (Nat.le_of_ble_eq_true rfl) ⟨Nat.le_of_ble_eq_true rfl, Nat.le_of_ble_eq_true rfl⟩ ⟨Nat.le_refl _, Nat.le_refl _⟩ ?_
  refine c_X11_isStreet hB ht hst hn hn8 ?_
  refine V_if_eq (tgt := 17) (sx_di dX11_who 2 rfl) (by decide) (fun h4 => ?_) (fun h4 => ?_)
  · have h5 : a_n A = 0 := Classical.byContradiction (fun z => by rw [if_neg z] at h4; exact absurd h4 (by decide))
    refine V_iconst (v := -1) (sx_di dX11_who 9 rfl) (by decide) ?_
    refine V_iret (sx_di dX11_who 10 rfl) rfl (Nat.le_refl _) (Nat.le_refl _) ?_
    exact hno (Or.inl h5)
  · have h5 : ¬ a_n A = 0 := fun z => h4 (if_pos z)
    refine V_iload_n (i := 1) (sx_di dX11_who 3 rfl) rfl rfl ?_
    refine V_iconst (v := 1) (sx_di dX11_who 4 rfl) (by decide) ?_
    refine V_icmp_lt (tgt := 17) (sx_di dX11_who 5 rfl) (by decide) (fun h9 => ?_) (fun h9 => ?_)
    · refine V_iconst (v := -1) (sx_di dX11_who 9 rfl) (by decide) ?_
      refine V_iret (sx_di dX11_who 10 rfl) rfl (Nat.le_refl _) (Nat.le_refl _) ?_
      exact hno (Or.inr (Or.inl h9))
    · refine V_iload_n (i := 1) (sx_di dX11_who 6 rfl) rfl rfl ?_
      refine V_iconst (v := 5) (sx_di dX11_who 7 rfl) (by decide) ?_
      refine V_icmp_le (tgt := 19) (sx_di dX11_who 8 rfl) (by decide) (fun h14 => ?_) (fun h14 => ?_)
      · have hg : ¬ (a_n A = 0 ∨ x < 1 ∨ 5 < x) := fun z => z.elim h5 (fun z => z.elim h9 (Int32.not_lt.mpr h14))
        have h0 : 0 < a_n A := by omega
        obtain ⟨g, hg5, rfl⟩ := nb_ (v := x) (k := 5) (by decide) (by rw [fa_lt, ti_0]; rw [fa_lt, ti_1] at h9; omega) (Int32.not_lt.mpr h14)
        have eq : q_who A (nI g) v = tqc (fs_ok A (nI g)) (oC9 (a_n A)) v (a_n A + 1) 0 0 := by
          unfold q_who
          by_cases hv : v < -1
          · rw [if_pos (Or.inr (Or.inr (Or.inr hv))), tqc_neg _ _ hv _ _ _ (by omega)]
          · rw [if_neg (fun z => z.elim (fun z => hg (Or.inl z)) (fun z => z.elim (fun z => hg (Or.inr (Or.inl z))) (fun z => z.elim (fun z => hg (Or.inr (Or.inr z))) hv)))]
        rw [eq] at h
        refine V_aload_n (i := 0) (sx_di dX11_who 11 rfl) rfl rfl ?_
        refine V_iload_n (i := 1) (sx_di dX11_who 12 rfl) rfl rfl ?_
        refine V_cV1 (mc' := 0) (ms' := 0) (M' := mX11_fillWalks) 7 (sx_di dX11_who 13 rfl) lX11_356 vX11_fillWalks (hB.k _ rfl) (by decide) rfl (Nat.le_of_ble_eq_true rfl) ⟨Nat.le_of_ble_eq_true rfl, Nat.le_of_ble_eq_true rfl⟩ ⟨Nat.le_refl _, Nat.le_refl _⟩ ?_
        refine e_fillWalks VA H h0 hg5 (fun w2 H2 f2 hT => ?_)
        have hB2 := H2.1
        refine V_aload_n (i := 0) (sx_di dX11_who 14 rfl) rfl rfl ?_
        refine V_cV0 (mc' := 0) (ms' := 0) (M' := mX11_fitting) 3 (sx_di dX11_who 15 rfl) lX11_359 vX11_fitting (hB2.k _ rfl) (by decide) rfl (Nat.le_of_ble_eq_true rfl) ⟨Nat.le_of_ble_eq_true rfl, Nat.le_of_ble_eq_true rfl⟩ ⟨Nat.le_refl _, Nat.le_refl _⟩ ?_
        refine e_fitting VA H2 hT ?_
        refine V_istore_n (i := 3) (sx_di dX11_who 16 rfl) rfl (by decide) (rfl) ?_
        refine V_iconst (v := 0) (sx_di dX11_who 17 rfl) (by decide) ?_
        refine V_istore (sx_di dX11_who 18 rfl) (by decide) (rfl) ?_
        refine V_iconst (v := 0) (sx_di dX11_who 19 rfl) (by decide) ?_
        refine V_istore (sx_di dX11_who 20 rfl) (by decide) (rfl) ?_
        refine V_sub (ls' := [(5, .int (nI 0)), (4, .int (nI 0)), (3, .int (sb_ (fs_ok A (nI g)) (a_n A + 1))), (2, .int v), (0, .ref 16)]) ⟨rfl, rfl, rfl, rfl, rfl, trivial⟩ ?_
        exact wC_lp2 VA H2 (a_n A + 1) 0 0 (by omega) (h w2 H2 f2)
      · refine V_iconst (v := -1) (sx_di dX11_who 9 rfl) (by decide) ?_
        refine V_iret (sx_di dX11_who 10 rfl) rfl (Nat.le_refl _) (Nat.le_refl _) ?_
        exact hno (Or.inr (Or.inr (Int32.not_le.mp h14)))

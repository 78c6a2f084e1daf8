/-! sets of houses, treaties -/
theorem gs_cg2 {f g : Nat → Int32} : ∀ n, (∀ h, h < n → f h = g h) → gs_ f n = gs_ g n
  | 0, _ => rfl
  | n + 1, h => by
    show (if f n ≤ (gs_ f n).2 then gs_ f n else (nI n, f n)) = (if g n ≤ (gs_ g n).2 then gs_ g n else (nI n, g n))
    rw [gs_cg2 n (fun k hk => h k (by omega)), h n (by omega)]
theorem gl_cg {f g : Nat → Int32} {n : Nat} (h : ∀ k, k < n → f k = g k) : gl_ f n = gl_ g n := by unfold gl_; rw [gs_cg2 n h]
theorem mv2_cg {A : AS} {r r2 : Nat → Int32} {h : Nat} (e : ∀ j, j = h ∨ j = 8 + h ∨ j = 16 + h ∨ j = 24 + h ∨ j = 32 + h ∨ 40 ≤ j → r2 j = r j) : mv2 A r2 h = mv2 A r h := by
  unfold mv2 mv_
  rw [e h (by omega), e (8 + h) (by omega), e (16 + h) (by omega), e (24 + h) (by omega), e (32 + h) (by omega), e 40 (by omega), e 42 (by omega), e 43 (by omega)]
theorem gl_rng (f : Nat → Int32) : ∀ n, gl_ f n = -1 ∨ ∃ k, k < n ∧ gl_ f n = nI k
  | 0 => Or.inl rfl
  | n + 1 => by
    have e : gl_ f (n + 1) = (if f n ≤ (gs_ f n).2 then gs_ f n else (nI n, f n)).1 := rfl
    rw [e]
    split
    · rcases gl_rng f n with h | ⟨k, hk, h⟩
      · exact Or.inl h
      · exact Or.inr ⟨k, by omega, h⟩
    · exact Or.inr ⟨n, by omega, rfl⟩
noncomputable def gmx_ (f0 f1 : Nat → Int32) (s : Int32) (n : Nat) : Int32 := gl_ (fun h => if (s >>> (nI h &&& 31)) &&& 1 = 0 then f0 h else f1 h) n
def TW (f0 f1 : Nat → Int32) (w : hpW) (n : Nat) : Prop := ∀ h, h < n → hp_i w 378 h = f0 h ∧ hp_i w 379 h = f1 h
def bc1 (x : Int32) : Int32 := x - ((x.toUInt32 >>> ((1 : Int32).toUInt32 &&& Int32.toUInt32 31)).toInt32 &&& 1431655765)
theorem sh_n : ∀ n, n < 9 → (1 : Int32) <<< (nI n &&& 31) = nI (2 ^ n) := by decide +kernel
theorem sbit_ : ∀ g, g < 8 → ∀ s, s < 256 → (((1 : Int32) <<< (nI g &&& 31)) &&& nI s = 0 ↔ (nI s >>> (nI g &&& 31)) &&& 1 = 0) := by decide +kernel
theorem p2_le {n : Nat} (h : n ≤ 8) : 2 ^ n ≤ 256 := by
  have : 2 ^ n ≤ 2 ^ 8 := Nat.pow_le_pow_right (by decide) h
  omega
set_option maxHeartbeats 2000000 in
set_option maxRecDepth 20000 in
theorem bc_ex {E : sxE} (x : Int32) : ∃ y : Int32, (∀ {w : hpW} {Q : Option Value → hpW → Prop}, Q (some (.int y)) w → sx_C E mJ6_bitCount_0f7a4 1 0 0 [.int x] w Q) ∧ (x = 0 → y = 0) := by
  apply Exists.intro
  refine ⟨?_, ?_⟩
  · intro w Q h
    refine C_of (by decide +kernel) (Nat.le_of_ble_eq_true rfl) ?_
    refine V_iload_n (i := 0) (sx_di dJ6_bitCount_0f7a4 0 rfl) rfl rfl ?_
    refine V_iload_n (i := 0) (sx_di dJ6_bitCount_0f7a4 1 rfl) rfl rfl ?_
    refine V_iconst (v := 1) (sx_di dJ6_bitCount_0f7a4 2 rfl) (by decide) ?_
    refine V_iushr (sx_di dJ6_bitCount_0f7a4 3 rfl) ?_
    refine V_ldcw (sx_di dJ6_bitCount_0f7a4 4 rfl) kJ6_265 ?_
    refine V_iand (sx_di dJ6_bitCount_0f7a4 5 rfl) ?_
    refine V_isub (sx_di dJ6_bitCount_0f7a4 6 rfl) ?_
    refine V_istore_n (i := 0) (sx_di dJ6_bitCount_0f7a4 7 rfl) rfl (by decide) (rfl) ?_
    refine V_iload_n (i := 0) (sx_di dJ6_bitCount_0f7a4 8 rfl) rfl rfl ?_
    refine V_ldcw (sx_di dJ6_bitCount_0f7a4 9 rfl) kJ6_266 ?_
    refine V_iand (sx_di dJ6_bitCount_0f7a4 10 rfl) ?_
    refine V_iload_n (i := 0) (sx_di dJ6_bitCount_0f7a4 11 rfl) rfl rfl ?_
    refine V_iconst (v := 2) (sx_di dJ6_bitCount_0f7a4 12 rfl) (by decide) ?_
    refine V_iushr (sx_di dJ6_bitCount_0f7a4 13 rfl) ?_
    refine V_ldcw (sx_di dJ6_bitCount_0f7a4 14 rfl) kJ6_266 ?_
    refine V_iand (sx_di dJ6_bitCount_0f7a4 15 rfl) ?_
    refine V_iadd (sx_di dJ6_bitCount_0f7a4 16 rfl) ?_
    refine V_istore_n (i := 0) (sx_di dJ6_bitCount_0f7a4 17 rfl) rfl (by decide) (rfl) ?_
    refine V_iload_n (i := 0) (sx_di dJ6_bitCount_0f7a4 18 rfl) rfl rfl ?_
    refine V_iload_n (i := 0) (sx_di dJ6_bitCount_0f7a4 19 rfl) rfl rfl ?_
    refine V_iconst (v := 4) (sx_di dJ6_bitCount_0f7a4 20 rfl) (by decide) ?_
    refine V_iushr (sx_di dJ6_bitCount_0f7a4 21 rfl) ?_
    refine V_iadd (sx_di dJ6_bitCount_0f7a4 22 rfl) ?_
    refine V_ldcw (sx_di dJ6_bitCount_0f7a4 23 rfl) kJ6_267 ?_
    refine V_iand (sx_di dJ6_bitCount_0f7a4 24 rfl) ?_
    refine V_istore_n (i := 0) (sx_di dJ6_bitCount_0f7a4 25 rfl) rfl (by decide) (rfl) ?_
    refine V_iload_n (i := 0) (sx_di dJ6_bitCount_0f7a4 26 rfl) rfl rfl ?_
    refine V_iload_n (i := 0) (sx_di dJ6_bitCount_0f7a4 27 rfl) rfl rfl ?_
    refine V_bipush (v := 8) (sx_di dJ6_bitCount_0f7a4 28 rfl) (by decide) ?_
    refine V_iushr (sx_di dJ6_bitCount_0f7a4 29 rfl) ?_
    refine V_iadd (sx_di dJ6_bitCount_0f7a4 30 rfl) ?_
    refine V_istore_n (i := 0) (sx_di dJ6_bitCount_0f7a4 31 rfl) rfl (by decide) (rfl) ?_
    refine V_iload_n (i := 0) (sx_di dJ6_bitCount_0f7a4 32 rfl) rfl rfl ?_
    refine V_iload_n (i := 0) (sx_di dJ6_bitCount_0f7a4 33 rfl) rfl rfl ?_
    refine V_bipush (v := 16) (sx_di dJ6_bitCount_0f7a4 34 rfl) (by decide) ?_
    refine V_iushr (sx_di dJ6_bitCount_0f7a4 35 rfl) ?_
    refine V_iadd (sx_di dJ6_bitCount_0f7a4 36 rfl) ?_
    refine V_istore_n (i := 0) (sx_di dJ6_bitCount_0f7a4 37 rfl) rfl (by decide) (rfl) ?_
    refine V_iload_n (i := 0) (sx_di dJ6_bitCount_0f7a4 38 rfl) rfl rfl ?_
    refine V_bipush (v := 63) (sx_di dJ6_bitCount_0f7a4 39 rfl) (by decide) ?_
    refine V_iand (sx_di dJ6_bitCount_0f7a4 40 rfl) ?_
    refine V_iret (sx_di dJ6_bitCount_0f7a4 41 rfl) rfl (Nat.le_refl _) (Nat.le_refl _) ?_
    exact h
  · intro e
    subst e
    decide
noncomputable def bc_ (E : sxE) (x : Int32) : Int32 := (bc_ex (E := E) x).choose
theorem c_bitCount {E : sxE} {x : Int32} {w : hpW} {Q : Option Value → hpW → Prop} (h : Q (some (.int (bc_ E x))) w) : sx_C E mJ6_bitCount_0f7a4 1 0 0 [.int x] w Q := (bc_ex (E := E) x).choose_spec.1 h
theorem bc_0 (E : sxE) : bc_ E 0 = 0 := (bc_ex (E := E) 0).choose_spec.2 rfl
/-! the class: two rows of worths, the goal of a mixture -/
theorem TW_mv {f0 f1 : Nat → Int32} {w w' : hpW} {n : Nat} (t : tb3 w w') (h : TW f0 f1 w n) : TW f0 f1 w' n := fun k hk => by rw [t 378 (by omega) (by omega), t 379 (by omega) (by omega)]; exact h k hk
set_option maxHeartbeats 2000000 in
set_option maxRecDepth 20000 in
theorem gm_lp {E : sxE} {A : AS} {w : hpW} {Q : Option Value → hpW → Prop} (VA : AV A) (H : CR A w) {f0 f1 : Nat → Int32} {s : Int32} (hT : TW f0 f1 w (a_n A)) (h : Q (some (.int (gmx_ f0 f1 s (a_n A)))) w) : ∀ d k, k + d = a_n A → V E mX11_goalOfMixed (sx_rm 3 0 0) 0 0 0 0 7 [(4, .int (nI k)), (3, .int (gs_ (fun h => if (s >>> (nI h &&& 31)) &&& 1 = 0 then f0 h else f1 h) k).2), (2, .int (gs_ (fun h => if (s >>> (nI h &&& 31)) &&& 1 = 0 then f0 h else f1 h) k).1), (1, .int s), (0, .ref 16)] [] w Q := by
  intro d
  have hn8 := VA.2.2.1.1
  obtain ⟨t, hB, ht, hst, hn, _, _⟩ := CRn VA H
  induction d with
  | zero =>
    intro k hk
    have e : k = a_n A := by omega
    subst e
    refine V_iload (sx_di dX11_goalOfMixed 6 rfl) rfl ?_
    refine V_aload_n (i := 0) (sx_di dX11_goalOfMixed 7 rfl) rfl rfl ?_
    refine V_getR (sx_di dX11_goalOfMixed 8 rfl) fX11_48 (fun _ => rfl) (hB.k _ rfl) (ht) ?_
    refine V_cV0 (mc' := 0) (ms' := 0) (M' := mX8_houseCount) 2 (sx_di dX11_goalOfMixed 9 rfl) lX11_308 vX8_houseCount (hst.1) (by decide) rfl (Nat.le_of_ble_eq_true rfl) ⟨Nat.le_of_ble_eq_true rfl, Nat.le_of_ble_eq_true rfl⟩ ⟨Nat.le_refl _, Nat.le_refl _⟩ ?_
    refine c_X8_houseCount (hst.1) (hc8 hn hn8) ?_
    refine V_iv (y := nI (a_n A)) (hn) ?_
    refine V_icN_ge (a := (a_n A)) (b := (a_n A)) (rfl) (rfl) (by omega) (by omega) (tgt := 65) (sx_di dX11_goalOfMixed 10 rfl) (by decide) (fun _ => ?_) (fun h16 => absurd h16 (by omega))
    refine V_iload_n (i := 2) (sx_di dX11_goalOfMixed 36 rfl) rfl rfl ?_
    refine V_iret (sx_di dX11_goalOfMixed 37 rfl) rfl (Nat.le_refl _) (Nat.le_refl _) ?_
    exact h
  | succ d ih =>
    intro k hk
    have q1 := ih (k + 1) (by omega)
    have e1 : gs_ (fun h => if (s >>> (nI h &&& 31)) &&& 1 = 0 then f0 h else f1 h) (k + 1) = if (if (s >>> (nI k &&& 31)) &&& 1 = 0 then f0 k else f1 k) ≤ (gs_ (fun h => if (s >>> (nI h &&& 31)) &&& 1 = 0 then f0 h else f1 h) k).2 then gs_ (fun h => if (s >>> (nI h &&& 31)) &&& 1 = 0 then f0 h else f1 h) k else (nI k, if (s >>> (nI k &&& 31)) &&& 1 = 0 then f0 k else f1 k) := rfl
    rw [e1, ← nI_1] at q1
    refine V_iload (sx_di dX11_goalOfMixed 6 rfl) rfl ?_
    refine V_aload_n (i := 0) (sx_di dX11_goalOfMixed 7 rfl) rfl rfl ?_
    refine V_getR (sx_di dX11_goalOfMixed 8 rfl) fX11_48 (fun _ => rfl) (hB.k _ rfl) (ht) ?_
    refine V_cV0 (mc' := 0) (ms' := 0) (M' := mX8_houseCount) 2 (sx_di dX11_goalOfMixed 9 rfl) lX11_308 vX8_houseCount (hst.1) (by decide) rfl (Nat.le_of_ble_eq_true rfl) ⟨Nat.le_of_ble_eq_true rfl, Nat.le_of_ble_eq_true rfl⟩ ⟨Nat.le_refl _, Nat.le_refl _⟩ ?_
    refine c_X8_houseCount (hst.1) (hc8 hn hn8) ?_
    refine V_iv (y := nI (a_n A)) (hn) ?_
    refine V_icN_ge (a := k) (b := (a_n A)) (rfl) (rfl) (by omega) (by omega) (tgt := 65) (sx_di dX11_goalOfMixed 10 rfl) (by decide) (fun h16 => absurd h16 (by omega)) (fun _ => ?_)
    refine V_iload_n (i := 1) (sx_di dX11_goalOfMixed 11 rfl) rfl rfl ?_
    refine V_iload (sx_di dX11_goalOfMixed 12 rfl) rfl ?_
    refine V_ishr (sx_di dX11_goalOfMixed 13 rfl) ?_
    refine V_iconst (v := 1) (sx_di dX11_goalOfMixed 14 rfl) (by decide) ?_
    refine V_iand (sx_di dX11_goalOfMixed 15 rfl) ?_
    refine V_if_ne (tgt := 38) (sx_di dX11_goalOfMixed 16 rfl) (by decide) (fun h25 => ?_) (fun h25 => ?_)
    · rw [if_neg h25] at q1
      refine V_aload_n (i := 0) (sx_di dX11_goalOfMixed 22 rfl) rfl rfl ?_
      refine V_getR (sx_di dX11_goalOfMixed 23 rfl) fX11_105 (fun _ => rfl) (hB.k _ rfl) (hB.r _ _ rfl) ?_
      refine V_iload (sx_di dX11_goalOfMixed 24 rfl) rfl ?_
      refine V_ialdN (n := 8) (j := k) (sx_di dX11_goalOfMixed 25 rfl) (hB.k _ rfl) (rfl) (by omega) (by omega) ?_
      refine V_iv (y := f1 k) ((hT k (by omega)).2) ?_
      refine V_istore (sx_di dX11_goalOfMixed 26 rfl) (by decide) (rfl) ?_
      refine V_iload (sx_di dX11_goalOfMixed 27 rfl) rfl ?_
      refine V_iload_n (i := 3) (sx_di dX11_goalOfMixed 28 rfl) rfl rfl ?_
      refine V_icmp_le (tgt := 59) (sx_di dX11_goalOfMixed 29 rfl) (by decide) (fun h50 => ?_) (fun h50 => ?_)
      · rw [if_pos h50] at q1
        refine V_inc (c := 1) (sx_di dX11_goalOfMixed 34 rfl) (by decide) rfl (by decide) (rfl) ?_
        refine V_goto (tgt := 7) (sx_di dX11_goalOfMixed 35 rfl) (by decide) ?_
        exact V_subk q1 ⟨rfl, rfl, rfl, rfl, rfl, trivial⟩
      · rw [if_neg h50] at q1
        refine V_iload (sx_di dX11_goalOfMixed 30 rfl) rfl ?_
        refine V_istore_n (i := 3) (sx_di dX11_goalOfMixed 31 rfl) rfl (by decide) (rfl) ?_
        refine V_iload (sx_di dX11_goalOfMixed 32 rfl) rfl ?_
        refine V_istore_n (i := 2) (sx_di dX11_goalOfMixed 33 rfl) rfl (by decide) (rfl) ?_
        refine V_inc (c := 1) (sx_di dX11_goalOfMixed 34 rfl) (by decide) rfl (by decide) (rfl) ?_
        refine V_goto (tgt := 7) (sx_di dX11_goalOfMixed 35 rfl) (by decide) ?_
        exact V_subk q1 ⟨rfl, rfl, rfl, rfl, rfl, trivial⟩
    · rw [if_pos h25] at q1
      refine V_aload_n (i := 0) (sx_di dX11_goalOfMixed 17 rfl) rfl rfl ?_
      refine V_getR (sx_di dX11_goalOfMixed 18 rfl) fX11_102 (fun _ => rfl) (hB.k _ rfl) (hB.r _ _ rfl) ?_
      refine V_iload (sx_di dX11_goalOfMixed 19 rfl) rfl ?_
      refine V_ialdN (n := 8) (j := k) (sx_di dX11_goalOfMixed 20 rfl) (hB.k _ rfl) (rfl) (by omega) (by omega) ?_
      refine V_iv (y := f0 k) ((hT k (by omega)).1) ?_
      refine V_goto (tgt := 45) (sx_di dX11_goalOfMixed 21 rfl) (by decide) ?_
      refine V_istore (sx_di dX11_goalOfMixed 26 rfl) (by decide) (rfl) ?_
      refine V_iload (sx_di dX11_goalOfMixed 27 rfl) rfl ?_
      refine V_iload_n (i := 3) (sx_di dX11_goalOfMixed 28 rfl) rfl rfl ?_
      refine V_icmp_le (tgt := 59) (sx_di dX11_goalOfMixed 29 rfl) (by decide) (fun h50 => ?_) (fun h50 => ?_)
      · rw [if_pos h50] at q1
        refine V_inc (c := 1) (sx_di dX11_goalOfMixed 34 rfl) (by decide) rfl (by decide) (rfl) ?_
        refine V_goto (tgt := 7) (sx_di dX11_goalOfMixed 35 rfl) (by decide) ?_
        exact V_subk q1 ⟨rfl, rfl, rfl, rfl, rfl, trivial⟩
      · rw [if_neg h50] at q1
        refine V_iload (sx_di dX11_goalOfMixed 30 rfl) rfl ?_
        refine V_istore_n (i := 3) (sx_di dX11_goalOfMixed 31 rfl) rfl (by decide) (rfl) ?_
        refine V_iload (sx_di dX11_goalOfMixed 32 rfl) rfl ?_
        refine V_istore_n (i := 2) (sx_di dX11_goalOfMixed 33 rfl) rfl (by decide) (rfl) ?_
        refine V_inc (c := 1) (sx_di dX11_goalOfMixed 34 rfl) (by decide) rfl (by decide) (rfl) ?_
        refine V_goto (tgt := 7) (sx_di dX11_goalOfMixed 35 rfl) (by decide) ?_
        exact V_subk q1 ⟨rfl, rfl, rfl, rfl, rfl, trivial⟩
set_option maxHeartbeats 2000000 in
set_option maxRecDepth 20000 in
theorem e_goalOfMixed {E : sxE} {A : AS} {w : hpW} {Q : Option Value → hpW → Prop} (VA : AV A) (H : CR A w) {f0 f1 : Nat → Int32} {s : Int32} (hT : TW f0 f1 w (a_n A)) (h : Q (some (.int (gmx_ f0 f1 s (a_n A)))) w) : sx_C E mX11_goalOfMixed 3 0 0 [.ref 16, .int s] w Q := by
  refine C_of (by decide +kernel) (Nat.le_of_ble_eq_true rfl) ?_
  refine V_iconst (v := -1) (sx_di dX11_goalOfMixed 0 rfl) (by decide) ?_
  refine V_istore_n (i := 2) (sx_di dX11_goalOfMixed 1 rfl) rfl (by decide) (rfl) ?_
  refine V_iconst (v := 0) (sx_di dX11_goalOfMixed 2 rfl) (by decide) ?_
  refine V_istore_n (i := 3) (sx_di dX11_goalOfMixed 3 rfl) rfl (by decide) (rfl) ?_
  refine V_iconst (v := 0) (sx_di dX11_goalOfMixed 4 rfl) (by decide) ?_
  refine V_istore (sx_di dX11_goalOfMixed 5 rfl) (by decide) (rfl) ?_
  refine V_sub (ls' := [(4, .int (nI 0)), (3, .int 0), (2, .int (-1)), (1, .int s), (0, .ref 16)]) ⟨rfl, rfl, rfl, rfl, rfl, trivial⟩ ?_
  exact gm_lp VA H hT h (a_n A) 0 (by omega)
/-- the first k houses show nothing -/
def sh9 (r : Nat → Int32) (k : Nat) : Nat → Int32 := fun j => if 8 ≤ j ∧ j < 8 + k then -9 else r j
theorem sh9_0 (r : Nat → Int32) : sh9 r 0 = r := by funext j; unfold sh9; rw [if_neg (by omega)]
theorem sh9_s (r : Nat → Int32) (k : Nat) : up_ (sh9 r k) (8 + k) (-9) = sh9 r (k + 1) := by
  funext j
  unfold up_ sh9
  by_cases h : j = 8 + k
  · rw [if_pos h, if_pos (by omega)]
  · rw [if_neg h]
    by_cases h2 : 8 ≤ j ∧ j < 8 + k
    · rw [if_pos h2, if_pos (by omega)]
    · rw [if_neg h2, if_neg (by omega)]
theorem OKF_s9 {n m : Nat} {r : Nat → Int32} (hn : n ≤ 8) (H : OKF n m r) : ∀ k, k ≤ n → OKF n m (sh9 r k)
  | 0, _ => by rw [sh9_0]; exact H
  | k + 1, hk => by
    rw [← sh9_s]
    exact OKF_sh hn (by omega) (OKF_s9 hn H k (by omega)) (by decide) (by decide)
noncomputable def ft1 (A : AS) (h : Nat) : Int32 := mv2 A (up_ (a_r A) (8 + h) (-9)) h
theorem ft1_e {A : AS} {h k : Nat} (hh : h < k) (hk : k ≤ 8) : mv2 A (sh9 (a_r A) k) h = ft1 A h := mv2_cg (fun j hj => by
  unfold sh9 up_
  by_cases e : j = 8 + h
  · rw [if_pos (by omega), if_pos e]
  · rw [if_neg (by omega), if_neg e])
set_option maxHeartbeats 2000000 in
set_option maxRecDepth 20000 in
theorem tw_lp {E : sxE} {A : AS} {w : hpW} {Q : Option Value → hpW → Prop} (VA : AV A) {m0 : Nat → Int32} (h : ∀ w', CR A w' → fR w w' → TW (mv2 A (a_r A)) (ft1 A) w' (a_n A) → Q none w') : ∀ d k w1, k + d = a_n A → CR A w1 → fR w w1 → AW A w1 m0 (sh9 (a_r A) k) → TW (mv2 A (a_r A)) (ft1 A) w1 k → V E mX11_fillTreatyWorths (sx_rm 5 0 0) 0 0 0 0 13 [(1, .int (nI k)), (0, .ref 16)] [] w1 Q := by
  intro d
  have hn8 := VA.2.2.1.1
  induction d with
  | zero =>
    intro k w1 hk H1 f1 hA hT
    obtain ⟨t, hB, ht, hst, hn, _, _⟩ := CRn VA H1
    have e : k = a_n A := by omega
    subst e
    refine V_iload_n (i := 1) (sx_di dX11_fillTreatyWorths 7 rfl) rfl rfl ?_
    refine V_aload_n (i := 0) (sx_di dX11_fillTreatyWorths 8 rfl) rfl rfl ?_
    refine V_getR (sx_di dX11_fillTreatyWorths 9 rfl) fX11_48 (fun _ => rfl) (hB.k _ rfl) (ht) ?_
    refine V_cV0 (mc' := 0) (ms' := 0) (M' := mX8_houseCount) 2 (sx_di dX11_fillTreatyWorths 10 rfl) lX11_308 vX8_houseCount (hst.1) (by decide) rfl (Nat.le_of_ble_eq_true rfl) ⟨Nat.le_of_ble_eq_true rfl, Nat.le_of_ble_eq_true rfl⟩ ⟨Nat.le_refl _, Nat.le_refl _⟩ ?_
    refine c_X8_houseCount (hst.1) (hc8 hn hn8) ?_
    refine V_iv (y := nI (a_n A)) (hn) ?_
    refine V_icN_ge (a := (a_n A)) (b := (a_n A)) (rfl) (rfl) (by omega) (by omega) (tgt := 83) (sx_di dX11_fillTreatyWorths 11 rfl) (by decide) (fun _ => ?_) (fun h21 => absurd h21 (by omega))
    refine V_vret (sx_di dX11_fillTreatyWorths 42 rfl) rfl (Nat.le_refl _) (Nat.le_refl _) ?_
    exact h w1 H1 f1 hT
  | succ d ih =>
    intro k w1 hk H1 f1 hA hT
    obtain ⟨t, hB, ht, hst, hn, _, _⟩ := CRn VA H1
    obtain ⟨H2, f2, t2, hA2⟩ := AW_sham (x := -9) (h := k) VA H1 hA (by omega)
    rw [sh9_s] at hA2
    have hO := (OKF_s9 hn8 VA.2.2.2.1.1 (k + 1) (by omega)).1
    refine V_iload_n (i := 1) (sx_di dX11_fillTreatyWorths 7 rfl) rfl rfl ?_
    refine V_aload_n (i := 0) (sx_di dX11_fillTreatyWorths 8 rfl) rfl rfl ?_
    refine V_getR (sx_di dX11_fillTreatyWorths 9 rfl) fX11_48 (fun _ => rfl) (by first | exact hB.k _ rfl | exact hB3.k _ rfl | exact hB5.k _ rfl) (ht) ?_
    refine V_cV0 (mc' := 0) (ms' := 0) (M' := mX8_houseCount) 2 (sx_di dX11_fillTreatyWorths 10 rfl) lX11_308 vX8_houseCount (hst.1) (by decide) rfl (Nat.le_of_ble_eq_true rfl) ⟨Nat.le_of_ble_eq_true rfl, Nat.le_of_ble_eq_true rfl⟩ ⟨Nat.le_refl _, Nat.le_refl _⟩ ?_
    refine c_X8_houseCount (hst.1) (hc8 hn hn8) ?_
    refine V_iv (y := nI (a_n A)) (hn) ?_
    refine V_icN_ge (a := k) (b := (a_n A)) (rfl) (rfl) (by omega) (by omega) (tgt := 83) (sx_di dX11_fillTreatyWorths 11 rfl) (by decide) (fun h21 => absurd h21 (by omega)) (fun _ => ?_)
    refine V_aload_n (i := 0) (sx_di dX11_fillTreatyWorths 12 rfl) rfl rfl ?_
    refine V_getR (sx_di dX11_fillTreatyWorths 13 rfl) fX11_64 (fun _ => rfl) (by first | exact hB.k _ rfl | exact hB3.k _ rfl | exact hB5.k _ rfl) (by first | exact hB.r _ _ rfl | exact hB3.r _ _ rfl | exact hB5.r _ _ rfl) ?_
    refine V_getR (sx_di dX11_fillTreatyWorths 14 rfl) fX11_189 (fun _ => rfl) (by first | exact hB.k _ rfl | exact hB3.k _ rfl | exact hB5.k _ rfl) (by first | exact hB.r _ _ rfl | exact hB3.r _ _ rfl | exact hB5.r _ _ rfl) ?_
    refine V_iload_n (i := 1) (sx_di dX11_fillTreatyWorths 15 rfl) rfl rfl ?_
    refine V_bipush (v := -9) (sx_di dX11_fillTreatyWorths 16 rfl) (by decide) ?_
    refine V_iastN (n := 8) (j := k) (sx_di dX11_fillTreatyWorths 17 rfl) (by first | exact hB.k _ rfl | exact hB3.k _ rfl | exact hB5.k _ rfl) (rfl) (by omega) (by omega) ?_
    refine V_aload_n (i := 0) (sx_di dX11_fillTreatyWorths 18 rfl) rfl rfl ?_
    refine V_getR (sx_di dX11_fillTreatyWorths 19 rfl) fX11_102 (fun _ => rfl) (by first | exact hB.k _ rfl | exact hB3.k _ rfl | exact hB5.k _ rfl) (by first | exact hB.r _ _ rfl | exact hB3.r _ _ rfl | exact hB5.r _ _ rfl) ?_
    refine V_iload_n (i := 1) (sx_di dX11_fillTreatyWorths 20 rfl) rfl rfl ?_
    refine V_aload_n (i := 0) (sx_di dX11_fillTreatyWorths 21 rfl) rfl rfl ?_
    refine V_getR (sx_di dX11_fillTreatyWorths 22 rfl) fX11_60 (fun _ => rfl) (by first | exact hB.k _ rfl | exact hB3.k _ rfl | exact hB5.k _ rfl) (by first | exact hB.r _ _ rfl | exact hB3.r _ _ rfl | exact hB5.r _ _ rfl) ?_
    refine V_iload_n (i := 1) (sx_di dX11_fillTreatyWorths 23 rfl) rfl rfl ?_
    refine V_aload_n (i := 0) (sx_di dX11_fillTreatyWorths 24 rfl) rfl rfl ?_
    refine V_getR (sx_di dX11_fillTreatyWorths 25 rfl) fX11_28 (fun _ => rfl) (by first | exact hB.k _ rfl | exact hB3.k _ rfl | exact hB5.k _ rfl) (by first | exact hB.r _ _ rfl | exact hB3.r _ _ rfl | exact hB5.r _ _ rfl) ?_
    refine V_cV0 (mc' := 0) (ms' := 0) (M' := mX2_holding) 1 (sx_di dX11_fillTreatyWorths 26 rfl) lX11_195 vX2_holding (by first | exact hB.k _ rfl | exact hB3.k _ rfl | exact hB5.k _ rfl) (by decide) rfl (Nat.le_of_ble_eq_true rfl) ⟨Nat.le_of_ble_eq_true rfl, Nat.le_of_ble_eq_true rfl⟩ ⟨Nat.le_refl _, Nat.le_refl _⟩ ?_
    refine e_holding VA H2 (fun lv hl => ?_)
    refine V_cV2 (mc' := 0) (ms' := 0) (M' := mX7_minded) 4 (sx_di dX11_fillTreatyWorths 27 rfl) lX11_198 vX7_minded (by first | exact hB.k _ rfl | exact hB3.k _ rfl | exact hB5.k _ rfl) (by decide) rfl (Nat.le_of_ble_eq_true rfl) ⟨Nat.le_of_ble_eq_true rfl, Nat.le_of_ble_eq_true rfl⟩ ⟨Nat.le_refl _, Nat.le_refl _⟩ ?_
    refine k_minded VA H2 (h := k) (by omega) hA2 hl (fun w3 H3 f3 t3 hA3 => ?_)
    have hB3 := H3.1
    obtain ⟨H4, f4⟩ := CR_380 (b := 378) (k := k) (x := mv2 A (a_r A) k) (m0 := m0) (r := m0) VA (by omega) (by omega) H3
    have hA4 := AW_380 (b := 378) (k := k) (x := mv2 A (a_r A) k) (by omega) hA3
    refine V_iastN (n := 8) (j := k) (sx_di dX11_fillTreatyWorths 28 rfl) (by first | exact hB.k _ rfl | exact hB3.k _ rfl | exact hB5.k _ rfl) (rfl) (by omega) (by omega) ?_
    refine V_aload_n (i := 0) (sx_di dX11_fillTreatyWorths 29 rfl) rfl rfl ?_
    refine V_getR (sx_di dX11_fillTreatyWorths 30 rfl) fX11_105 (fun _ => rfl) (by first | exact hB.k _ rfl | exact hB3.k _ rfl | exact hB5.k _ rfl) (by first | exact hB.r _ _ rfl | exact hB3.r _ _ rfl | exact hB5.r _ _ rfl) ?_
    refine V_iload_n (i := 1) (sx_di dX11_fillTreatyWorths 31 rfl) rfl rfl ?_
    refine V_aload_n (i := 0) (sx_di dX11_fillTreatyWorths 32 rfl) rfl rfl ?_
    refine V_getR (sx_di dX11_fillTreatyWorths 33 rfl) fX11_64 (fun _ => rfl) (by first | exact hB.k _ rfl | exact hB3.k _ rfl | exact hB5.k _ rfl) (by first | exact hB.r _ _ rfl | exact hB3.r _ _ rfl | exact hB5.r _ _ rfl) ?_
    refine V_iload_n (i := 1) (sx_di dX11_fillTreatyWorths 34 rfl) rfl rfl ?_
    refine V_aload_n (i := 0) (sx_di dX11_fillTreatyWorths 35 rfl) rfl rfl ?_
    refine V_getR (sx_di dX11_fillTreatyWorths 36 rfl) fX11_28 (fun _ => rfl) (by first | exact hB.k _ rfl | exact hB3.k _ rfl | exact hB5.k _ rfl) (by first | exact hB.r _ _ rfl | exact hB3.r _ _ rfl | exact hB5.r _ _ rfl) ?_
    refine V_cV0 (mc' := 0) (ms' := 0) (M' := mX2_holding) 1 (sx_di dX11_fillTreatyWorths 37 rfl) lX11_195 vX2_holding (by first | exact hB.k _ rfl | exact hB3.k _ rfl | exact hB5.k _ rfl) (by decide) rfl (Nat.le_of_ble_eq_true rfl) ⟨Nat.le_of_ble_eq_true rfl, Nat.le_of_ble_eq_true rfl⟩ ⟨Nat.le_refl _, Nat.le_refl _⟩ ?_
    refine e_holding VA H4 (fun lv2 hl2 => ?_)
    refine V_cV2 (mc' := 0) (ms' := 0) (M' := mX7_minded) 4 (sx_di dX11_fillTreatyWorths 38 rfl) lX11_198 vX7_minded (by first | exact hB.k _ rfl | exact hB3.k _ rfl | exact hB5.k _ rfl) (by decide) rfl (Nat.le_of_ble_eq_true rfl) ⟨Nat.le_of_ble_eq_true rfl, Nat.le_of_ble_eq_true rfl⟩ ⟨Nat.le_refl _, Nat.le_refl _⟩ ?_
    refine k_mindedA VA H4 (h := k) (by omega) hA4 hO hl2 (fun w5 H5 f5 t5 hA5 => ?_)
    rw [ft1_e (h := k) (k := k + 1) (by omega) (by omega)]
    have hB5 := H5.1
    obtain ⟨H6, f6⟩ := CR_380 (b := 379) (k := k) (x := ft1 A k) (m0 := m0) (r := m0) VA (by omega) (by omega) H5
    have hA6 := AW_380 (b := 379) (k := k) (x := ft1 A k) (by omega) hA5
    have hT6 : TW (mv2 A (a_r A)) (ft1 A) (hp_si w5 379 k (ft1 A k)) (k + 1) := fun q hq => by
      rw [hp_i_si, if_neg (by omega), hp_i_si, t5 378 (by omega) (by omega), t5 379 (by omega) (by omega), hp_i_si, hp_i_si, if_neg (show ¬ (379 = 378 ∧ q = k) by omega), t3 378 (by omega) (by omega), t3 379 (by omega) (by omega), t2 378 (by omega) (by omega), t2 379 (by omega) (by omega)]
      by_cases e : q = k
      · rw [if_pos ⟨rfl, e⟩, if_pos ⟨rfl, e⟩, e]; exact ⟨rfl, rfl⟩
      · rw [if_neg (fun z => e z.2), if_neg (fun z => e z.2)]; exact hT q (by omega)
    have q1 := ih (k + 1) _ (by omega) H6 (fR_tr f1 (fR_tr f2 (fR_tr f3 (fR_tr f4 (fR_tr f5 f6))))) hA6 hT6
    rw [← nI_1] at q1
    refine V_iastN (n := 8) (j := k) (sx_di dX11_fillTreatyWorths 39 rfl) (by first | exact hB.k _ rfl | exact hB3.k _ rfl | exact hB5.k _ rfl) (rfl) (by omega) (by omega) ?_
    refine V_inc (c := 1) (sx_di dX11_fillTreatyWorths 40 rfl) (by decide) rfl (by decide) (rfl) ?_
    refine V_goto (tgt := 13) (sx_di dX11_fillTreatyWorths 41 rfl) (by decide) ?_
    exact V_subk q1 ⟨rfl, rfl, trivial⟩
set_option maxHeartbeats 2000000 in
set_option maxRecDepth 20000 in
theorem e_fillTreaty {E : sxE} {A : AS} {w : hpW} {Q : Option Value → hpW → Prop} (VA : AV A) (H : CR A w) (h0 : 0 < a_n A) (h : ∀ w', CR A w' → fR w w' → TW (mv2 A (a_r A)) (ft1 A) w' (a_n A) → Q none w') : sx_C E mX11_fillTreatyWorths 5 0 0 [.ref 16] w Q := by
  have hB := H.1
  refine C_of (by decide +kernel) (Nat.le_of_ble_eq_true rfl) ?_
  refine V_aload_n (i := 0) (sx_di dX11_fillTreatyWorths 0 rfl) rfl rfl ?_
  refine V_getR (sx_di dX11_fillTreatyWorths 1 rfl) fX11_64 (fun _ => rfl) (hB.k _ rfl) (hB.r _ _ rfl) ?_
  refine V_aload_n (i := 0) (sx_di dX11_fillTreatyWorths 2 rfl) rfl rfl ?_
  refine V_getR (sx_di dX11_fillTreatyWorths 3 rfl) fX11_60 (fun _ => rfl) (hB.k _ rfl) (hB.r _ _ rfl) ?_
  refine V_cV1 (mc' := 0) (ms' := 0) (M' := mX7_copyFrom) 2 (sx_di dX11_fillTreatyWorths 4 rfl) lX11_293 vX7_copyFrom (hB.k _ rfl) (by decide) rfl (Nat.le_of_ble_eq_true rfl) ⟨Nat.le_of_ble_eq_true rfl, Nat.le_of_ble_eq_true rfl⟩ ⟨Nat.le_refl _, Nat.le_refl _⟩ ?_
  refine k_copyFrom VA H h0 (fun w2 H2 f2 _ hA2 => ?_)
  refine V_iconst (v := 0) (sx_di dX11_fillTreatyWorths 5 rfl) (by decide) ?_
  refine V_istore_n (i := 1) (sx_di dX11_fillTreatyWorths 6 rfl) rfl (by decide) (rfl) ?_
  refine V_sub (ls' := [(1, .int (nI 0)), (0, .ref 16)]) ⟨rfl, rfl, trivial⟩ ?_
  exact tw_lp VA h (a_n A) 0 w2 (by omega) H2 f2 (by rw [sh9_0]; exact hA2) (fun q hq => absurd hq (by omega))

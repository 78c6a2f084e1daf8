/-! the street's slots, and how a law is reckoned, of the class -/
/-- places of a Street: the object a, its slots behind it -/
def is_St (w : hpW) (a : Nat) : Prop := hp_k w a = (8, 4) ∧ hp_k w (a + 1) = (13, 48) ∧ hp_r w a 3 = some (a + 1)
def is_Lw (w : hpW) (a : Nat) : Prop := hp_k w a = (1, 7) ∧ hp_k w (a + 1) = (13, 240) ∧ hp_k w (a + 2) = (13, 64) ∧ hp_k w (a + 3) = (13, 64) ∧ hp_k w (a + 4) = (13, 6) ∧ hp_k w (a + 5) = (13, 48) ∧ hp_r w a 2 = some (a + 1) ∧ hp_r w a 3 = some (a + 2) ∧ hp_r w a 4 = some (a + 3) ∧ hp_r w a 5 = some (a + 4) ∧ hp_r w a 6 = some (a + 5)
/-- a slot as told -/
def sl_ (I : Nat → Nat → Int32) (a : Nat) (x : Int32) : Int32 := if x < 0 ∨ 48 ≤ x then 0 else I (a + 1) x.toNatClampNeg
theorem sl_in {x : Int32} {n : Nat} {M : Int32} (hM : M.toInt = n) (h0 : ¬ x < 0) (h1 : ¬ M ≤ x) : vp_in x n := by
  rw [vp_in_iff]
  have a := Int32.not_lt.mp h0
  have b := Int32.not_le.mp h1
  rw [Int32.le_iff_toInt_le] at a
  rw [Int32.lt_iff_toInt_lt, hM] at b
  exact ⟨by simpa using a, b⟩
set_option maxHeartbeats 2000000 in
set_option maxRecDepth 20000 in
theorem c_X8_told {E : sxE} {w : hpW} {Q : Option Value → hpW → Prop} {a : Nat} {x : Int32} (hs : is_St w a) (h : Q (some (.int (sl_ (hp_i w) a x))) w) : sx_C E mX8_told 1 0 0 [.ref a, .int x] w Q := by
  refine C_of (by decide +kernel) (Nat.le_of_ble_eq_true rfl) ?_
  refine V_iload_n (i := 1) (sx_di dX8_told 0 rfl) rfl rfl ?_
  refine V_if_lt (tgt := 19) (sx_di dX8_told 1 rfl) (by decide) (fun h1 => ?_) (fun h1 => ?_)
  · refine V_iconst (v := 0) (sx_di dX8_told 10 rfl) (by decide) ?_
    refine V_iret (sx_di dX8_told 11 rfl) rfl (Nat.le_refl _) (Nat.le_refl _) ?_
    first | (rw [sl_, if_neg (fun q => q.elim h1 h7)] at h; exact h) | (rw [sl_, if_pos (Or.inl h1)] at h; exact h) | (rw [sl_, if_pos (Or.inr h7)] at h; exact h)
  · refine V_iload_n (i := 1) (sx_di dX8_told 2 rfl) rfl rfl ?_
    refine V_bipush (v := 48) (sx_di dX8_told 3 rfl) (by decide) ?_
    refine V_icmp_ge (tgt := 19) (sx_di dX8_told 4 rfl) (by decide) (fun h7 => ?_) (fun h7 => ?_)
    · refine V_iconst (v := 0) (sx_di dX8_told 10 rfl) (by decide) ?_
      refine V_iret (sx_di dX8_told 11 rfl) rfl (Nat.le_refl _) (Nat.le_refl _) ?_
      first | (rw [sl_, if_neg (fun q => q.elim h1 h7)] at h; exact h) | (rw [sl_, if_pos (Or.inl h1)] at h; exact h) | (rw [sl_, if_pos (Or.inr h7)] at h; exact h)
    · refine V_aload_n (i := 0) (sx_di dX8_told 5 rfl) rfl rfl ?_
      refine V_getR (sx_di dX8_told 6 rfl) fX8_9 (fun _ => rfl) (by first | exact hs.1 | exact hs.2.1) (hs.2.2) ?_
      refine V_iload_n (i := 1) (sx_di dX8_told 7 rfl) rfl rfl ?_
      refine V_iald (sx_di dX8_told 8 rfl) (by first | exact hs.1 | exact hs.2.1) (sl_in (by decide) h1 h7) ?_
      refine V_goto (tgt := 20) (sx_di dX8_told 9 rfl) (by decide) ?_
      refine V_iret (sx_di dX8_told 11 rfl) rfl (Nat.le_refl _) (Nat.le_refl _) ?_
      first | (rw [sl_, if_neg (fun q => q.elim h1 h7)] at h; exact h) | (rw [sl_, if_pos (Or.inl h1)] at h; exact h) | (rw [sl_, if_pos (Or.inr h7)] at h; exact h)
set_option maxHeartbeats 2000000 in
set_option maxRecDepth 20000 in
theorem c_X8_daysBetween {E : sxE} {w : hpW} {Q : Option Value → hpW → Prop} {a : Nat} (hs : is_St w a) (h : Q (some (.int (sl_ (hp_i w) a (0)))) w) : sx_C E mX8_daysBetween 2 0 0 [.ref a] w Q := by
  refine C_of (by decide +kernel) (Nat.le_of_ble_eq_true rfl) ?_
  refine V_aload_n (i := 0) (sx_di dX8_daysBetween 0 rfl) rfl rfl ?_
  refine V_iconst (v := 0) (sx_di dX8_daysBetween 1 rfl) (by decide) ?_
  refine V_cV1 (mc' := 0) (ms' := 0) (M' := mX8_told) 1 (sx_di dX8_daysBetween 2 rfl) lX8_43 vX8_told (by first | exact hs.1 | exact hs.2.1) (by decide) rfl (Nat.le_of_ble_eq_true rfl) ⟨Nat.le_of_ble_eq_true rfl, Nat.le_of_ble_eq_true rfl⟩ ⟨Nat.le_refl _, Nat.le_refl _⟩ ?_
  refine c_X8_told hs ?_
  refine V_iret (sx_di dX8_daysBetween 3 rfl) rfl (Nat.le_refl _) (Nat.le_refl _) ?_
  exact h
set_option maxHeartbeats 2000000 in
set_option maxRecDepth 20000 in
theorem c_X8_firstHouse {E : sxE} {w : hpW} {Q : Option Value → hpW → Prop} {a : Nat} (hs : is_St w a) (h : Q (some (.int (sl_ (hp_i w) a (1)))) w) : sx_C E mX8_firstHouse 2 0 0 [.ref a] w Q := by
  refine C_of (by decide +kernel) (Nat.le_of_ble_eq_true rfl) ?_
  refine V_aload_n (i := 0) (sx_di dX8_firstHouse 0 rfl) rfl rfl ?_
  refine V_iconst (v := 1) (sx_di dX8_firstHouse 1 rfl) (by decide) ?_
  refine V_cV1 (mc' := 0) (ms' := 0) (M' := mX8_told) 1 (sx_di dX8_firstHouse 2 rfl) lX8_43 vX8_told (by first | exact hs.1 | exact hs.2.1) (by decide) rfl (Nat.le_of_ble_eq_true rfl) ⟨Nat.le_of_ble_eq_true rfl, Nat.le_of_ble_eq_true rfl⟩ ⟨Nat.le_refl _, Nat.le_refl _⟩ ?_
  refine c_X8_told hs ?_
  refine V_iret (sx_di dX8_firstHouse 3 rfl) rfl (Nat.le_refl _) (Nat.le_refl _) ?_
  exact h
set_option maxHeartbeats 2000000 in
set_option maxRecDepth 20000 in
theorem c_X8_firstForm {E : sxE} {w : hpW} {Q : Option Value → hpW → Prop} {a : Nat} (hs : is_St w a) (h : Q (some (.int (sl_ (hp_i w) a (2)))) w) : sx_C E mX8_firstForm 2 0 0 [.ref a] w Q := by
  refine C_of (by decide +kernel) (Nat.le_of_ble_eq_true rfl) ?_
  refine V_aload_n (i := 0) (sx_di dX8_firstForm 0 rfl) rfl rfl ?_
  refine V_iconst (v := 2) (sx_di dX8_firstForm 1 rfl) (by decide) ?_
  refine V_cV1 (mc' := 0) (ms' := 0) (M' := mX8_told) 1 (sx_di dX8_firstForm 2 rfl) lX8_43 vX8_told (by first | exact hs.1 | exact hs.2.1) (by decide) rfl (Nat.le_of_ble_eq_true rfl) ⟨Nat.le_of_ble_eq_true rfl, Nat.le_of_ble_eq_true rfl⟩ ⟨Nat.le_refl _, Nat.le_refl _⟩ ?_
  refine c_X8_told hs ?_
  refine V_iret (sx_di dX8_firstForm 3 rfl) rfl (Nat.le_refl _) (Nat.le_refl _) ?_
  exact h
set_option maxHeartbeats 2000000 in
set_option maxRecDepth 20000 in
theorem c_X8_firstCoins {E : sxE} {w : hpW} {Q : Option Value → hpW → Prop} {a : Nat} (hs : is_St w a) (h : Q (some (.int (sl_ (hp_i w) a (3)))) w) : sx_C E mX8_firstCoins 2 0 0 [.ref a] w Q := by
  refine C_of (by decide +kernel) (Nat.le_of_ble_eq_true rfl) ?_
  refine V_aload_n (i := 0) (sx_di dX8_firstCoins 0 rfl) rfl rfl ?_
  refine V_iconst (v := 3) (sx_di dX8_firstCoins 1 rfl) (by decide) ?_
  refine V_cV1 (mc' := 0) (ms' := 0) (M' := mX8_told) 1 (sx_di dX8_firstCoins 2 rfl) lX8_43 vX8_told (by first | exact hs.1 | exact hs.2.1) (by decide) rfl (Nat.le_of_ble_eq_true rfl) ⟨Nat.le_of_ble_eq_true rfl, Nat.le_of_ble_eq_true rfl⟩ ⟨Nat.le_refl _, Nat.le_refl _⟩ ?_
  refine c_X8_told hs ?_
  refine V_iret (sx_di dX8_firstCoins 3 rfl) rfl (Nat.le_refl _) (Nat.le_refl _) ?_
  exact h
set_option maxHeartbeats 2000000 in
set_option maxRecDepth 20000 in
theorem c_X8_sizeOf {E : sxE} {w : hpW} {Q : Option Value → hpW → Prop} {a : Nat} {x : Int32} (hs : is_St w a) (h : Q (some (.int (sl_ (hp_i w) a (36 + 2 * x)))) w) : sx_C E mX8_sizeOf 2 0 0 [.ref a, .int x] w Q := by
  refine C_of (by decide +kernel) (Nat.le_of_ble_eq_true rfl) ?_
  refine V_aload_n (i := 0) (sx_di dX8_sizeOf 0 rfl) rfl rfl ?_
  refine V_bipush (v := 36) (sx_di dX8_sizeOf 1 rfl) (by decide) ?_
  refine V_iconst (v := 2) (sx_di dX8_sizeOf 2 rfl) (by decide) ?_
  refine V_iload_n (i := 1) (sx_di dX8_sizeOf 3 rfl) rfl rfl ?_
  refine V_imul (sx_di dX8_sizeOf 4 rfl) ?_
  refine V_iadd (sx_di dX8_sizeOf 5 rfl) ?_
  refine V_cV1 (mc' := 0) (ms' := 0) (M' := mX8_told) 1 (sx_di dX8_sizeOf 6 rfl) lX8_43 vX8_told (by first | exact hs.1 | exact hs.2.1) (by decide) rfl (Nat.le_of_ble_eq_true rfl) ⟨Nat.le_of_ble_eq_true rfl, Nat.le_of_ble_eq_true rfl⟩ ⟨Nat.le_refl _, Nat.le_refl _⟩ ?_
  refine c_X8_told hs ?_
  refine V_iret (sx_di dX8_sizeOf 7 rfl) rfl (Nat.le_refl _) (Nat.le_refl _) ?_
  exact h
set_option maxHeartbeats 2000000 in
set_option maxRecDepth 20000 in
theorem c_X8_following {E : sxE} {w : hpW} {Q : Option Value → hpW → Prop} {a : Nat} {x : Int32} (hs : is_St w a) (h : Q (some (.int (sl_ (hp_i w) a (36 + 2 * x + 1)))) w) : sx_C E mX8_following 2 0 0 [.ref a, .int x] w Q := by
  refine C_of (by decide +kernel) (Nat.le_of_ble_eq_true rfl) ?_
  refine V_aload_n (i := 0) (sx_di dX8_following 0 rfl) rfl rfl ?_
  refine V_bipush (v := 36) (sx_di dX8_following 1 rfl) (by decide) ?_
  refine V_iconst (v := 2) (sx_di dX8_following 2 rfl) (by decide) ?_
  refine V_iload_n (i := 1) (sx_di dX8_following 3 rfl) rfl rfl ?_
  refine V_imul (sx_di dX8_following 4 rfl) ?_
  refine V_iadd (sx_di dX8_following 5 rfl) ?_
  refine V_iconst (v := 1) (sx_di dX8_following 6 rfl) (by decide) ?_
  refine V_iadd (sx_di dX8_following 7 rfl) ?_
  refine V_cV1 (mc' := 0) (ms' := 0) (M' := mX8_told) 1 (sx_di dX8_following 8 rfl) lX8_43 vX8_told (by first | exact hs.1 | exact hs.2.1) (by decide) rfl (Nat.le_of_ble_eq_true rfl) ⟨Nat.le_of_ble_eq_true rfl, Nat.le_of_ble_eq_true rfl⟩ ⟨Nat.le_refl _, Nat.le_refl _⟩ ?_
  refine c_X8_told hs ?_
  refine V_iret (sx_di dX8_following 9 rfl) rfl (Nat.le_refl _) (Nat.le_refl _) ?_
  exact h
set_option maxHeartbeats 2000000 in
set_option maxRecDepth 20000 in
theorem c_X8_ofHouse {E : sxE} {w : hpW} {Q : Option Value → hpW → Prop} {a : Nat} {x y : Int32} (hs : is_St w a) (h : Q (some (.int (sl_ (hp_i w) a (4 + 4 * x + y)))) w) : sx_C E mX8_ofHouse 2 0 0 [.ref a, .int x, .int y] w Q := by
  refine C_of (by decide +kernel) (Nat.le_of_ble_eq_true rfl) ?_
  refine V_aload_n (i := 0) (sx_di dX8_ofHouse 0 rfl) rfl rfl ?_
  refine V_iconst (v := 4) (sx_di dX8_ofHouse 1 rfl) (by decide) ?_
  refine V_iconst (v := 4) (sx_di dX8_ofHouse 2 rfl) (by decide) ?_
  refine V_iload_n (i := 1) (sx_di dX8_ofHouse 3 rfl) rfl rfl ?_
  refine V_imul (sx_di dX8_ofHouse 4 rfl) ?_
  refine V_iadd (sx_di dX8_ofHouse 5 rfl) ?_
  refine V_iload_n (i := 2) (sx_di dX8_ofHouse 6 rfl) rfl rfl ?_
  refine V_iadd (sx_di dX8_ofHouse 7 rfl) ?_
  refine V_cV1 (mc' := 0) (ms' := 0) (M' := mX8_told) 1 (sx_di dX8_ofHouse 8 rfl) lX8_43 vX8_told (by first | exact hs.1 | exact hs.2.1) (by decide) rfl (Nat.le_of_ble_eq_true rfl) ⟨Nat.le_of_ble_eq_true rfl, Nat.le_of_ble_eq_true rfl⟩ ⟨Nat.le_refl _, Nat.le_refl _⟩ ?_
  refine c_X8_told hs ?_
  refine V_iret (sx_di dX8_ofHouse 9 rfl) rfl (Nat.le_refl _) (Nat.le_refl _) ?_
  exact h
/-- n times on to the form that follows -/
def ch_ (I : Nat → Nat → Int32) (a : Nat) (x : Int32) : Nat → Int32
  | 0 => x
  | n + 1 => sl_ I a (36 + 2 * ch_ I a x n + 1)
set_option maxHeartbeats 2000000 in
set_option maxRecDepth 20000 in
theorem ch_lp {E : sxE} {w : hpW} {Q : Option Value → hpW → Prop} {a n : Nat} {x y : Int32} (hs : is_St w a) (hn : n < 2 ^ 31) (h : Q (some (.int (ch_ (hp_i w) a x n))) w) : ∀ m k, k + m = n → V E mX8_changed (sx_rm 3 0 0) 0 0 0 0 5 [(4, .int (nI k)), (3, .int (ch_ (hp_i w) a x k)), (2, .int (nI n)), (1, .int y), (0, .ref a)] [] w Q := by
  intro m
  induction m with
  | zero =>
    intro k hk
    have e : k = n := by omega
    subst e
    refine V_iload (sx_di dX8_changed 4 rfl) rfl ?_
    refine V_iload_n (i := 2) (sx_di dX8_changed 5 rfl) rfl rfl ?_
    refine V_icmp_ge (tgt := 23) (sx_di dX8_changed 6 rfl) (by decide) (fun _ => ?_) (fun h8 => absurd (Int32.le_refl _) h8)
    refine V_iload_n (i := 3) (sx_di dX8_changed 13 rfl) rfl rfl ?_
    refine V_iret (sx_di dX8_changed 14 rfl) rfl (Nat.le_refl _) (Nat.le_refl _) ?_
    exact h
  | succ m ih =>
    intro k hk
    have q := ih (k + 1) (by omega)
    rw [← nI_1] at q
    refine V_iload (sx_di dX8_changed 4 rfl) rfl ?_
    refine V_iload_n (i := 2) (sx_di dX8_changed 5 rfl) rfl rfl ?_
    refine V_icmp_ge (tgt := 23) (sx_di dX8_changed 6 rfl) (by decide) (fun h8 => absurd h8 (fun z => absurd ((nI_leI (by omega) (by omega)).mp z) (by omega))) (fun _ => ?_)
    refine V_aload_n (i := 0) (sx_di dX8_changed 7 rfl) rfl rfl ?_
    refine V_iload_n (i := 3) (sx_di dX8_changed 8 rfl) rfl rfl ?_
    refine V_cV1 (mc' := 0) (ms' := 0) (M' := mX8_following) 2 (sx_di dX8_changed 9 rfl) lX8_47 vX8_following (by first | exact hs.1 | exact hs.2.1) (by decide) rfl (Nat.le_of_ble_eq_true rfl) ⟨Nat.le_of_ble_eq_true rfl, Nat.le_of_ble_eq_true rfl⟩ ⟨Nat.le_refl _, Nat.le_refl _⟩ ?_
    refine c_X8_following hs ?_
    refine V_istore_n (i := 3) (sx_di dX8_changed 10 rfl) rfl (by decide) (rfl) ?_
    refine V_inc (c := 1) (sx_di dX8_changed 11 rfl) (by decide) rfl (by decide) (rfl) ?_
    refine V_goto (tgt := 5) (sx_di dX8_changed 12 rfl) (by decide) ?_
    exact V_subk q ⟨rfl, rfl, rfl, rfl, rfl, trivial⟩
set_option maxHeartbeats 2000000 in
set_option maxRecDepth 20000 in
theorem c_X8_changed {E : sxE} {w : hpW} {Q : Option Value → hpW → Prop} {a n : Nat} {x : Int32} (hs : is_St w a) (hn : n < 2 ^ 31) (h : Q (some (.int (ch_ (hp_i w) a x n))) w) : sx_C E mX8_changed 3 0 0 [.ref a, .int x, .int (nI n)] w Q := by
  refine C_of (by decide +kernel) (Nat.le_of_ble_eq_true rfl) ?_
  refine V_iload_n (i := 1) (sx_di dX8_changed 0 rfl) rfl rfl ?_
  refine V_istore_n (i := 3) (sx_di dX8_changed 1 rfl) rfl (by decide) (rfl) ?_
  refine V_iconst (v := 0) (sx_di dX8_changed 2 rfl) (by decide) ?_
  refine V_istore (sx_di dX8_changed 3 rfl) (by decide) (rfl) ?_
  refine V_sub (ls' := [(4, .int (nI 0)), (3, .int (ch_ (hp_i w) a x 0)), (2, .int (nI n)), (1, .int x), (0, .ref a)]) ⟨rfl, rfl, rfl, rfl, rfl, trivial⟩ ?_
  exact ch_lp hs hn h n 0 (by omega)
/-! the count of houses, the table's places looked at near their use -/
theorem vi_lt {x : Int32} {n : Nat} (h : vp_in x n) : ¬ x < 0 := fun z => h (Or.inl z)
theorem vi_ge {x M : Int32} {n : Nat} (hM : M.toInt = n) (h : vp_in x n) : ¬ M ≤ x := fun z => by
  have a := (vp_in_iff.mp h).2
  rw [Int32.le_iff_toInt_le, hM] at z
  omega
theorem mn_le {x y : Int32} (h : x ≤ y) : mn_ x y = x := by unfold mn_; rw [if_neg (Int32.not_lt.mpr h)]
theorem mx_nI {k : Nat} (h : k < 2 ^ 31) : mx_ 0 (nI k) = nI k := by
  unfold mx_
  by_cases z : (0 : Int32) < nI k
  · rw [if_pos z]
  · rw [if_neg z]
    have a : nI k ≤ nI 0 := Int32.not_lt.mp z
    rw [nI_leI h (by decide)] at a
    have e : k = 0 := by omega
    subst e
    rfl
theorem hc8 {x : Int32} {n : Nat} (h : x = nI n) (h8 : n ≤ 8) : x ≤ 8 := by rw [h]; exact nI_le h8 (by decide)
set_option maxHeartbeats 2000000 in
set_option maxRecDepth 20000 in
theorem c_X8_houseCount {E : sxE} {w : hpW} {Q : Option Value → hpW → Prop} {a : Nat} (hs : hp_k w a = (8, 4)) (h8 : hp_i w a 0 ≤ 8) (h : Q (some (.int (hp_i w a 0))) w) : sx_C E mX8_houseCount 2 0 0 [.ref a] w Q := by
  refine C_of (by decide +kernel) (Nat.le_of_ble_eq_true rfl) ?_
  refine V_aload_n (i := 0) (sx_di dX8_houseCount 0 rfl) rfl rfl ?_
  refine V_getI (sx_di dX8_houseCount 1 rfl) fX8_15 (fun _ => rfl) (hs) ?_
  refine V_bipush (v := 8) (sx_di dX8_houseCount 2 rfl) (by decide) ?_
  refine V_mmin (sx_di dX8_houseCount 3 rfl) (sx_a3 228 rfl rfl) (sx_a3 135 rfl rfl) (sx_a1 22 rfl rfl) (sx_a3 136 rfl rfl) ⟨Nat.le_of_ble_eq_true rfl, Nat.le_of_ble_eq_true rfl, Nat.le_refl _, Nat.le_refl _⟩ ?_
  refine V_iret (sx_di dX8_houseCount 4 rfl) rfl (Nat.le_refl _) (Nat.le_refl _) ?_
  rw [mn_le h8]
  exact h
set_option maxHeartbeats 2000000 in
set_option maxRecDepth 20000 in
theorem c_X11_entry {E : sxE} {w : hpW} {Q : Option Value → hpW → Prop} {x : Int32} {b : Nat} (h1 : hp_k w 16 = (11, 19)) (h2 : hp_r w 16 18 = some b) (h3 : hp_k w b = (13, 400)) (hin : vp_in x 400) (h : Q (some (.int (hp_i w b x.toNatClampNeg))) w) : sx_C E mX11_entry 1 0 0 [.ref 16, .int x] w Q := by
  refine C_of (by decide +kernel) (Nat.le_of_ble_eq_true rfl) ?_
  refine V_iload_n (i := 1) (sx_di dX11_entry 0 rfl) rfl rfl ?_
  refine V_if_lt (tgt := 20) (sx_di dX11_entry 1 rfl) (by decide) (fun h1 => absurd h1 (vi_lt hin)) (fun _ => ?_)
  refine V_iload_n (i := 1) (sx_di dX11_entry 2 rfl) rfl rfl ?_
  refine V_sipush (v := 400) (sx_di dX11_entry 3 rfl) (by decide) ?_
  refine V_icmp_ge (tgt := 20) (sx_di dX11_entry 4 rfl) (by decide) (fun h8 => absurd h8 (vi_ge (by decide) hin)) (fun _ => ?_)
  refine V_aload_n (i := 0) (sx_di dX11_entry 5 rfl) rfl rfl ?_
  refine V_getR (sx_di dX11_entry 6 rfl) fX11_108 (fun _ => rfl) (by first | exact h1 | exact h3) (h2) ?_
  refine V_iload_n (i := 1) (sx_di dX11_entry 7 rfl) rfl rfl ?_
  refine V_iald (sx_di dX11_entry 8 rfl) (by first | exact h1 | exact h3) (hin) ?_
  refine V_goto (tgt := 21) (sx_di dX11_entry 9 rfl) (by decide) ?_
  refine V_iret (sx_di dX11_entry 11 rfl) rfl (Nat.le_refl _) (Nat.le_refl _) ?_
  exact h
set_option maxHeartbeats 2000000 in
set_option maxRecDepth 20000 in
theorem c_X11_enter {E : sxE} {w : hpW} {Q : Option Value → hpW → Prop} {x y : Int32} {b : Nat} (h1 : hp_k w 16 = (11, 19)) (h2 : hp_r w 16 18 = some b) (h3 : hp_k w b = (13, 400)) (hin : vp_in x 400) (h : Q none (hp_si w b x.toNatClampNeg y)) : sx_C E mX11_enter 1 0 0 [.ref 16, .int x, .int y] w Q := by
  refine C_of (by decide +kernel) (Nat.le_of_ble_eq_true rfl) ?_
  refine V_iload_n (i := 1) (sx_di dX11_enter 0 rfl) rfl rfl ?_
  refine V_if_lt (tgt := 18) (sx_di dX11_enter 1 rfl) (by decide) (fun h1 => absurd h1 (vi_lt hin)) (fun _ => ?_)
  refine V_iload_n (i := 1) (sx_di dX11_enter 2 rfl) rfl rfl ?_
  refine V_sipush (v := 400) (sx_di dX11_enter 3 rfl) (by decide) ?_
  refine V_icmp_ge (tgt := 18) (sx_di dX11_enter 4 rfl) (by decide) (fun h8 => absurd h8 (vi_ge (by decide) hin)) (fun _ => ?_)
  refine V_aload_n (i := 0) (sx_di dX11_enter 5 rfl) rfl rfl ?_
  refine V_getR (sx_di dX11_enter 6 rfl) fX11_108 (fun _ => rfl) (by first | exact h1 | exact h3) (h2) ?_
  refine V_iload_n (i := 1) (sx_di dX11_enter 7 rfl) rfl rfl ?_
  refine V_iload_n (i := 2) (sx_di dX11_enter 8 rfl) rfl rfl ?_
  refine V_iast (sx_di dX11_enter 9 rfl) (by first | exact h1 | exact h3) (hin) ?_
  refine V_vret (sx_di dX11_enter 10 rfl) rfl (Nat.le_refl _) (Nat.le_refl _) ?_
  exact h
set_option maxHeartbeats 2000000 in
set_option maxRecDepth 20000 in
theorem c_X11_entryN {E : sxE} {w : hpW} {Q : Option Value → hpW → Prop} {x : Int32} {j : Nat} {b : Nat} (h1 : hp_k w 16 = (11, 19)) (h2 : hp_r w 16 18 = some b) (h3 : hp_k w b = (13, 400)) (hx : x = nI j) (hj : j < 400) (h : Q (some (.int (hp_i w b j))) w) : sx_C E mX11_entry 1 0 0 [.ref 16, .int x] w Q := by
  subst hx
  refine c_X11_entry h1 h2 h3 (vp_in_nI hj (by decide)) ?_
  rw [nI_clamp (by omega)]
  exact h
set_option maxHeartbeats 2000000 in
set_option maxRecDepth 20000 in
theorem c_X11_enterN {E : sxE} {w : hpW} {Q : Option Value → hpW → Prop} {x y : Int32} {j : Nat} {b : Nat} (h1 : hp_k w 16 = (11, 19)) (h2 : hp_r w 16 18 = some b) (h3 : hp_k w b = (13, 400)) (hx : x = nI j) (hj : j < 400) (h : Q none (hp_si w b j y)) : sx_C E mX11_enter 1 0 0 [.ref 16, .int x, .int y] w Q := by
  subst hx
  refine c_X11_enter h1 h2 h3 (vp_in_nI hj (by decide)) ?_
  rw [nI_clamp (by omega)]
  exact h

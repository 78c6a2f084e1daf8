/-! small calls, both sides -/
theorem ti_m1 : (-1 : Int32).toInt = -1 := by decide
theorem ti_0 : (0 : Int32).toInt = 0 := by decide
theorem ti_1 : (1 : Int32).toInt = 1 := by decide
theorem ti_2 : (2 : Int32).toInt = 2 := by decide
theorem ti_3 : (3 : Int32).toInt = 3 := by decide
theorem ti_4 : (4 : Int32).toInt = 4 := by decide
theorem ti_5 : (5 : Int32).toInt = 5 := by decide
theorem ti_6 : (6 : Int32).toInt = 6 := by decide
theorem ti_7 : (7 : Int32).toInt = 7 := by decide
theorem ti_8 : (8 : Int32).toInt = 8 := by decide
theorem ti_9 : (9 : Int32).toInt = 9 := by decide
theorem ti_10 : (10 : Int32).toInt = 10 := by decide
theorem ti_60 : (60 : Int32).toInt = 60 := by decide
theorem ti_m9 : (-9 : Int32).toInt = -9 := by decide
/-- 1: x is one of 0 .. n - 1 -/
def ih_ (n : Nat) (x : Int32) : Int32 := if x < 0 ∨ nI n ≤ x then 0 else 1
theorem ih_no {n : Nat} {x : Int32} (h : ih_ n x = 0) : x < 0 ∨ nI n ≤ x := by
  unfold ih_ at h
  rcases Classical.em (x < 0 ∨ nI n ≤ x) with z | z
  · exact z
  · rw [if_neg z] at h; exact absurd h (by decide)
theorem ih_ye {n : Nat} {x : Int32} (hn : n < 2 ^ 31) (h : ¬ ih_ n x = 0) : ∃ k, k < n ∧ x = nI k := by
  unfold ih_ at h
  have z : ¬ (x < 0 ∨ nI n ≤ x) := fun z => h (if_pos z)
  have z1 : ¬ x < 0 := fun q => z (Or.inl q)
  have z2 : ¬ nI n ≤ x := fun q => z (Or.inr q)
  exact vp_in_of (sl_in (n := n) (nI_toInt hn) z1 z2) hn
theorem ih_b (n : Nat) (x : Int32) : narrow .boolean (.int (ih_ n x)) = .int (ih_ n x) := by
  unfold ih_
  split <;> rfl
def in_ (v a b : Int32) : Int32 := if v < a ∨ b < v then 0 else 1
theorem in_b (v a b : Int32) : narrow .boolean (.int (in_ v a b)) = .int (in_ v a b) := by
  unfold in_
  split <;> rfl
theorem in_no {v a b : Int32} (h : in_ v a b = 0) : v < a ∨ b < v := by
  unfold in_ at h
  rcases Classical.em (v < a ∨ b < v) with z | z
  · exact z
  · rw [if_neg z] at h; exact absurd h (by decide)
theorem in_ye {v a b : Int32} (h : ¬ in_ v a b = 0) : ¬ (v < a ∨ b < v) := fun z => h (if_pos z)
theorem pr_lt {n : Nat} (hn : n < 2 ^ 31) (x : Int32) : nI n - 1 < x ↔ nI n ≤ x := by
  have e : (nI n - 1).toInt = (n : Int) - 1 := by
    rw [Int32.toInt_sub, nI_toInt hn, ti_1]
    exact Int.bmod_eq_of_le (by omega) (by omega)
  rw [fa_lt, fa_le, e, nI_toInt hn]
  omega
theorem ih_in {n : Nat} (hn : n < 2 ^ 31) (x : Int32) : in_ x 0 (nI n - 1) = ih_ n x := by
  unfold in_ ih_
  simp only [pr_lt hn]
set_option maxHeartbeats 2000000 in
set_option maxRecDepth 20000 in
theorem c_X11_isStreet {E : sxE} {w : hpW} {Q : Option Value → hpW → Prop} (hB : ly_B w) {t n : Nat} (ht : hp_r w 16 4 = some t) (hst : is_St w t) (hn : hp_i w t 0 = nI n) (hn8 : n ≤ 8) (h : Q (some (.int (if n = 0 then 0 else 1))) w) : sx_C E mX11_isStreet 1 0 0 [.ref 16] w Q := by
  refine C_of (by decide +kernel) (Nat.le_of_ble_eq_true rfl) ?_
  refine V_aload_n (i := 0) (sx_di dX11_isStreet 0 rfl) rfl rfl ?_
  refine V_getR (sx_di dX11_isStreet 1 rfl) fX11_48 (fun _ => rfl) (by first | exact hB.k _ rfl | exact hst.1) (by first | exact ht | exact hB.r _ _ rfl) ?_
  refine V_getI (sx_di dX11_isStreet 2 rfl) fX11_151 (fun _ => rfl) (by first | exact hB.k _ rfl | exact hst.1) ?_
  refine V_if_le (tgt := 14) (sx_di dX11_isStreet 3 rfl) (by decide) (fun h7 => ?_) (fun h7 => ?_)
  · refine V_iconst (v := 0) (sx_di dX11_isStreet 6 rfl) (by decide) ?_
    refine V_zret (sx_di dX11_isStreet 7 rfl) rfl (by first | rfl | decide) (Nat.le_refl _) (Nat.le_refl _) ?_
    first | (rw [if_pos (show n = 0 from by rw [hn] at h7; rcases Nat.eq_zero_or_pos n with z | z; exact z; exact absurd h7 (nI_nle z (by omega)))] at h; exact h) | (rw [if_neg (show ¬ n = 0 from fun z => h7 (by rw [hn, z]; decide))] at h; exact h)
  · refine V_iconst (v := 1) (sx_di dX11_isStreet 4 rfl) (by decide) ?_
    refine V_goto (tgt := 15) (sx_di dX11_isStreet 5 rfl) (by decide) ?_
    refine V_zret (sx_di dX11_isStreet 7 rfl) rfl (by first | rfl | decide) (Nat.le_refl _) (Nat.le_refl _) ?_
    first | (rw [if_pos (show n = 0 from by rw [hn] at h7; rcases Nat.eq_zero_or_pos n with z | z; exact z; exact absurd h7 (nI_nle z (by omega)))] at h; exact h) | (rw [if_neg (show ¬ n = 0 from fun z => h7 (by rw [hn, z]; decide))] at h; exact h)
set_option maxHeartbeats 2000000 in
set_option maxRecDepth 20000 in
theorem c_X11_isHouse {E : sxE} {w : hpW} {Q : Option Value → hpW → Prop} (hB : ly_B w) {t n : Nat} (ht : hp_r w 16 4 = some t) (hst : is_St w t) (hn : hp_i w t 0 = nI n) (hn8 : n ≤ 8) {x : Int32} (h : Q (some (.int (ih_ n x))) w) : sx_C E mX11_isHouse 1 0 0 [.ref 16, .int x] w Q := by
  refine C_of (by decide +kernel) (Nat.le_of_ble_eq_true rfl) ?_
  refine V_iload_n (i := 1) (sx_di dX11_isHouse 0 rfl) rfl rfl ?_
  refine V_if_lt (tgt := 25) (sx_di dX11_isHouse 1 rfl) (by decide) (fun h1 => ?_) (fun h1 => ?_)
  · refine V_iconst (v := 0) (sx_di dX11_isHouse 12 rfl) (by decide) ?_
    refine V_zret (sx_di dX11_isHouse 13 rfl) rfl (by first | rfl | decide) (Nat.le_refl _) (Nat.le_refl _) ?_
    rw [ih_, if_pos (Or.inl h1)] at h
    exact h
  · refine V_iload_n (i := 1) (sx_di dX11_isHouse 2 rfl) rfl rfl ?_
    refine V_aload_n (i := 0) (sx_di dX11_isHouse 3 rfl) rfl rfl ?_
    refine V_getR (sx_di dX11_isHouse 4 rfl) fX11_48 (fun _ => rfl) (by first | exact hB.k _ rfl | exact hst.1) (by first | exact ht | exact hB.r _ _ rfl) ?_
    refine V_getI (sx_di dX11_isHouse 5 rfl) fX11_151 (fun _ => rfl) (by first | exact hB.k _ rfl | exact hst.1) ?_
    refine V_icmp_ge (tgt := 25) (sx_di dX11_isHouse 6 rfl) (by decide) (fun h12 => ?_) (fun h12 => ?_)
    · rw [hn] at h12
      refine V_iconst (v := 0) (sx_di dX11_isHouse 12 rfl) (by decide) ?_
      refine V_zret (sx_di dX11_isHouse 13 rfl) rfl (by first | rfl | decide) (Nat.le_refl _) (Nat.le_refl _) ?_
      rw [ih_, if_pos (Or.inr h12)] at h
      exact h
    · rw [hn] at h12
      refine V_iload_n (i := 1) (sx_di dX11_isHouse 7 rfl) rfl rfl ?_
      refine V_bipush (v := 8) (sx_di dX11_isHouse 8 rfl) (by decide) ?_
      refine V_icmp_ge (tgt := 25) (sx_di dX11_isHouse 9 rfl) (by decide) (fun h18 => ?_) (fun h18 => ?_)
      · exact absurd (Int32.le_trans (nI_le hn8 (by decide)) h18) h12
      · refine V_iconst (v := 1) (sx_di dX11_isHouse 10 rfl) (by decide) ?_
        refine V_goto (tgt := 26) (sx_di dX11_isHouse 11 rfl) (by decide) ?_
        refine V_zret (sx_di dX11_isHouse 13 rfl) rfl (by first | rfl | decide) (Nat.le_refl _) (Nat.le_refl _) ?_
        rw [ih_, if_neg (fun z => z.elim h1 h12)] at h
        exact h
set_option maxHeartbeats 2000000 in
set_option maxRecDepth 20000 in
theorem c_X11_isForm {E : sxE} {w : hpW} {Q : Option Value → hpW → Prop} (hB : ly_B w) {t n : Nat} (ht : hp_r w 16 4 = some t) (hst : is_St w t) (hn : hp_i w t 1 = nI n) (hn8 : n ≤ 6) {x : Int32} (h : Q (some (.int (ih_ n x))) w) : sx_C E mX11_isForm 1 0 0 [.ref 16, .int x] w Q := by
  refine C_of (by decide +kernel) (Nat.le_of_ble_eq_true rfl) ?_
  refine V_iload_n (i := 1) (sx_di dX11_isForm 0 rfl) rfl rfl ?_
  refine V_if_lt (tgt := 25) (sx_di dX11_isForm 1 rfl) (by decide) (fun h1 => ?_) (fun h1 => ?_)
  · refine V_iconst (v := 0) (sx_di dX11_isForm 12 rfl) (by decide) ?_
    refine V_zret (sx_di dX11_isForm 13 rfl) rfl (by first | rfl | decide) (Nat.le_refl _) (Nat.le_refl _) ?_
    rw [ih_, if_pos (Or.inl h1)] at h
    exact h
  · refine V_iload_n (i := 1) (sx_di dX11_isForm 2 rfl) rfl rfl ?_
    refine V_aload_n (i := 0) (sx_di dX11_isForm 3 rfl) rfl rfl ?_
    refine V_getR (sx_di dX11_isForm 4 rfl) fX11_48 (fun _ => rfl) (by first | exact hB.k _ rfl | exact hst.1) (by first | exact ht | exact hB.r _ _ rfl) ?_
    refine V_getI (sx_di dX11_isForm 5 rfl) fX11_230 (fun _ => rfl) (by first | exact hB.k _ rfl | exact hst.1) ?_
    refine V_icmp_ge (tgt := 25) (sx_di dX11_isForm 6 rfl) (by decide) (fun h12 => ?_) (fun h12 => ?_)
    · rw [hn] at h12
      refine V_iconst (v := 0) (sx_di dX11_isForm 12 rfl) (by decide) ?_
      refine V_zret (sx_di dX11_isForm 13 rfl) rfl (by first | rfl | decide) (Nat.le_refl _) (Nat.le_refl _) ?_
      rw [ih_, if_pos (Or.inr h12)] at h
      exact h
    · rw [hn] at h12
      refine V_iload_n (i := 1) (sx_di dX11_isForm 7 rfl) rfl rfl ?_
      refine V_bipush (v := 6) (sx_di dX11_isForm 8 rfl) (by decide) ?_
      refine V_icmp_ge (tgt := 25) (sx_di dX11_isForm 9 rfl) (by decide) (fun h18 => ?_) (fun h18 => ?_)
      · exact absurd (Int32.le_trans (nI_le hn8 (by decide)) h18) h12
      · refine V_iconst (v := 1) (sx_di dX11_isForm 10 rfl) (by decide) ?_
        refine V_goto (tgt := 26) (sx_di dX11_isForm 11 rfl) (by decide) ?_
        refine V_zret (sx_di dX11_isForm 13 rfl) rfl (by first | rfl | decide) (Nat.le_refl _) (Nat.le_refl _) ?_
        rw [ih_, if_neg (fun z => z.elim h1 h12)] at h
        exact h
set_option maxHeartbeats 2000000 in
set_option maxRecDepth 20000 in
theorem c_X11_shownLog {E : sxE} {w : hpW} {Q : Option Value → hpW → Prop} (hB : ly_B w) (h : Q (some (.int (mn_ (hp_i w 57 12) 60))) w) : sx_C E mX11_shownLog 2 0 0 [.ref 16] w Q := by
  refine C_of (by decide +kernel) (Nat.le_of_ble_eq_true rfl) ?_
  refine V_aload_n (i := 0) (sx_di dX11_shownLog 0 rfl) rfl rfl ?_
  refine V_getR (sx_di dX11_shownLog 1 rfl) fX11_60 (fun _ => rfl) (hB.k _ rfl) (hB.r _ _ rfl) ?_
  refine V_getI (sx_di dX11_shownLog 2 rfl) fX11_218 (fun _ => rfl) (hB.k _ rfl) ?_
  refine V_bipush (v := 60) (sx_di dX11_shownLog 3 rfl) (by decide) ?_
  refine V_mmin (sx_di dX11_shownLog 4 rfl) (sx_a3 134 rfl rfl) (sx_a3 135 rfl rfl) (sx_a1 22 rfl rfl) (sx_a3 136 rfl rfl) ⟨Nat.le_of_ble_eq_true rfl, Nat.le_of_ble_eq_true rfl, Nat.le_refl _, Nat.le_refl _⟩ ?_
  refine V_iret (sx_di dX11_shownLog 5 rfl) rfl (Nat.le_refl _) (Nat.le_refl _) ?_
  exact h
set_option maxHeartbeats 2000000 in
set_option maxRecDepth 20000 in
theorem c_X11_refused {E : sxE} {w : hpW} {Q : Option Value → hpW → Prop} (hB : ly_B w) {k : Nat} (hk : k < 5) {x : Int32} (h : Q (some (.int x)) (hp_wi w (hp_u (hp_i w) 377 k (hp_i w 377 k + 1)))) : sx_C E mX11_refused 1 0 0 [.ref 16, .int (nI k), .int x] w Q := by
  have hi : vp_in (nI k) 5 := vp_in_nI hk (by decide)
  have hc : (nI k).toNatClampNeg = k := nI_clamp (by omega)
  refine C_of (by decide +kernel) (Nat.le_of_ble_eq_true rfl) ?_
  refine V_iload_n (i := 1) (sx_di dX11_refused 0 rfl) rfl rfl ?_
  refine V_if_lt (tgt := 19) (sx_di dX11_refused 1 rfl) (by decide) (fun h1 => ?_) (fun h1 => ?_)
  · exact absurd h1 (nI_pos (by omega))
  · refine V_iload_n (i := 1) (sx_di dX11_refused 2 rfl) rfl rfl ?_
    refine V_iconst (v := 5) (sx_di dX11_refused 3 rfl) (by decide) ?_
    refine V_icmp_ge (tgt := 19) (sx_di dX11_refused 4 rfl) (by decide) (fun h6 => ?_) (fun h6 => ?_)
    · exact absurd h6 (nI_ge hk (by decide))
    · refine V_aload_n (i := 0) (sx_di dX11_refused 5 rfl) rfl rfl ?_
      refine V_getR (sx_di dX11_refused 6 rfl) fX11_98 (fun _ => rfl) (hB.k _ rfl) (hB.r _ _ rfl) ?_
      refine V_iload_n (i := 1) (sx_di dX11_refused 7 rfl) rfl rfl ?_
      refine V_dup2 (sx_di dX11_refused 8 rfl) rfl rfl ?_
      refine V_iald (sx_di dX11_refused 9 rfl) (hB.k _ rfl) (hi) ?_
      refine V_iconst (v := 1) (sx_di dX11_refused 10 rfl) (by decide) ?_
      refine V_iadd (sx_di dX11_refused 11 rfl) ?_
      refine V_iast (sx_di dX11_refused 12 rfl) (hB.k _ rfl) (hi) ?_
      rw [hc]
      refine V_iload_n (i := 2) (sx_di dX11_refused 13 rfl) rfl rfl ?_
      refine V_iret (sx_di dX11_refused 14 rfl) rfl (Nat.le_refl _) (Nat.le_refl _) ?_
      exact h
set_option maxHeartbeats 2000000 in
set_option maxRecDepth 20000 in
theorem c_X11_moods {E : sxE} {w : hpW} {Q : Option Value → hpW → Prop} (hB : ly_B w) {v : Int32} (h0 : (v < 0 ∨ 9 < v ∨ v = hp_i w 16 14) → Q (some (.int 0)) w) (h9 : ¬ (v < 0 ∨ 9 < v ∨ v = hp_i w 16 14) → Q (some (.int 1)) (hp_si w 16 14 v)) : sx_C E mX11_moods 1 0 0 [.ref 16, .int v] w Q := by
  refine C_of (by decide +kernel) (Nat.le_of_ble_eq_true rfl) ?_
  refine V_iload_n (i := 1) (sx_di dX11_moods 0 rfl) rfl rfl ?_
  refine V_if_lt (tgt := 18) (sx_di dX11_moods 1 rfl) (by decide) (fun h1 => ?_) (fun h1 => ?_)
  · refine V_iconst (v := 0) (sx_di dX11_moods 9 rfl) (by decide) ?_
    refine V_zret (sx_di dX11_moods 10 rfl) rfl (by first | rfl | decide) (Nat.le_refl _) (Nat.le_refl _) ?_
    exact h0 (Or.inl h1)
  · refine V_iload_n (i := 1) (sx_di dX11_moods 2 rfl) rfl rfl ?_
    refine V_bipush (v := 9) (sx_di dX11_moods 3 rfl) (by decide) ?_
    refine V_icmp_gt (tgt := 18) (sx_di dX11_moods 4 rfl) (by decide) (fun h7 => ?_) (fun h7 => ?_)
    · refine V_iconst (v := 0) (sx_di dX11_moods 9 rfl) (by decide) ?_
      refine V_zret (sx_di dX11_moods 10 rfl) rfl (by first | rfl | decide) (Nat.le_refl _) (Nat.le_refl _) ?_
      exact h0 (Or.inr (Or.inl h7))
    · refine V_iload_n (i := 1) (sx_di dX11_moods 5 rfl) rfl rfl ?_
      refine V_aload_n (i := 0) (sx_di dX11_moods 6 rfl) rfl rfl ?_
      refine V_getI (sx_di dX11_moods 7 rfl) fX11_236 (fun _ => rfl) (hB.k _ rfl) ?_
      refine V_icmp_ne (tgt := 20) (sx_di dX11_moods 8 rfl) (by decide) (fun h15 => ?_) (fun h15 => ?_)
      · refine V_aload_n (i := 0) (sx_di dX11_moods 11 rfl) rfl rfl ?_
        refine V_iload_n (i := 1) (sx_di dX11_moods 12 rfl) rfl rfl ?_
        refine V_putI (sx_di dX11_moods 13 rfl) fX11_236 (fun _ => rfl) rfl (hB.k _ rfl) (rfl) (rfl) ?_
        refine V_iconst (v := 1) (sx_di dX11_moods 14 rfl) (by decide) ?_
        refine V_zret (sx_di dX11_moods 15 rfl) rfl (by first | rfl | decide) (Nat.le_refl _) (Nat.le_refl _) ?_
        exact h9 (fun z => z.elim h1 (fun z => z.elim h7 h15))
      · refine V_iconst (v := 0) (sx_di dX11_moods 9 rfl) (by decide) ?_
        refine V_zret (sx_di dX11_moods 10 rfl) rfl (by first | rfl | decide) (Nat.le_refl _) (Nat.le_refl _) ?_
        exact h0 (Or.inr (Or.inr h15))
set_option maxHeartbeats 2000000 in
set_option maxRecDepth 20000 in
theorem c_X12_in {E : sxE} {w : hpW} {Q : Option Value → hpW → Prop} {v a b : Int32} (h : Q (some (.int (in_ v a b))) w) : sx_C E mX12_in 1 0 0 [.int v, .int a, .int b] w Q := by
  refine C_of (by decide +kernel) (Nat.le_of_ble_eq_true rfl) ?_
  refine V_iload_n (i := 0) (sx_di dX12_in 0 rfl) rfl rfl ?_
  refine V_iload_n (i := 1) (sx_di dX12_in 1 rfl) rfl rfl ?_
  refine V_icmp_lt (tgt := 14) (sx_di dX12_in 2 rfl) (by decide) (fun h2 => ?_) (fun h2 => ?_)
  · refine V_iconst (v := 0) (sx_di dX12_in 8 rfl) (by decide) ?_
    refine V_zret (sx_di dX12_in 9 rfl) rfl (by first | rfl | decide) (Nat.le_refl _) (Nat.le_refl _) ?_
    rw [in_, if_pos (Or.inl h2)] at h
    exact h
  · refine V_iload_n (i := 0) (sx_di dX12_in 3 rfl) rfl rfl ?_
    refine V_iload_n (i := 2) (sx_di dX12_in 4 rfl) rfl rfl ?_
    refine V_icmp_gt (tgt := 14) (sx_di dX12_in 5 rfl) (by decide) (fun h7 => ?_) (fun h7 => ?_)
    · refine V_iconst (v := 0) (sx_di dX12_in 8 rfl) (by decide) ?_
      refine V_zret (sx_di dX12_in 9 rfl) rfl (by first | rfl | decide) (Nat.le_refl _) (Nat.le_refl _) ?_
      rw [in_, if_pos (Or.inr h7)] at h
      exact h
    · refine V_iconst (v := 1) (sx_di dX12_in 6 rfl) (by decide) ?_
      refine V_goto (tgt := 15) (sx_di dX12_in 7 rfl) (by decide) ?_
      refine V_zret (sx_di dX12_in 9 rfl) rfl (by first | rfl | decide) (Nat.le_refl _) (Nat.le_refl _) ?_
      rw [in_, if_neg (fun z => z.elim h2 h7)] at h
      exact h
set_option maxHeartbeats 2000000 in
set_option maxRecDepth 20000 in
theorem c_X12_has {E : sxE} {w : hpW} {Q : Option Value → hpW → Prop} {s k : Int32} (h : Q (some (.int (if (s >>> (k &&& 31)) &&& 1 = 1 then 1 else 0))) w) : sx_C E mX12_has 1 0 0 [.int s, .int k] w Q := by
  refine C_of (by decide +kernel) (Nat.le_of_ble_eq_true rfl) ?_
  refine V_iload_n (i := 0) (sx_di dX12_has 0 rfl) rfl rfl ?_
  refine V_iload_n (i := 1) (sx_di dX12_has 1 rfl) rfl rfl ?_
  refine V_ishr (sx_di dX12_has 2 rfl) ?_
  refine V_iconst (v := 1) (sx_di dX12_has 3 rfl) (by decide) ?_
  refine V_iand (sx_di dX12_has 4 rfl) ?_
  refine V_iconst (v := 1) (sx_di dX12_has 5 rfl) (by decide) ?_
  refine V_icmp_ne (tgt := 13) (sx_di dX12_has 6 rfl) (by decide) (fun h6 => ?_) (fun h6 => ?_)
  · refine V_iconst (v := 0) (sx_di dX12_has 9 rfl) (by decide) ?_
    refine V_zret (sx_di dX12_has 10 rfl) rfl (by first | rfl | decide) (Nat.le_refl _) (Nat.le_refl _) ?_
    first | (rw [if_neg h6] at h; exact h) | (rw [if_pos h6] at h; exact h)
  · refine V_iconst (v := 1) (sx_di dX12_has 7 rfl) (by decide) ?_
    refine V_goto (tgt := 14) (sx_di dX12_has 8 rfl) (by decide) ?_
    refine V_zret (sx_di dX12_has 10 rfl) rfl (by first | rfl | decide) (Nat.le_refl _) (Nat.le_refl _) ?_
    first | (rw [if_neg h6] at h; exact h) | (rw [if_pos h6] at h; exact h)
set_option maxHeartbeats 2000000 in
set_option maxRecDepth 20000 in
theorem c_X12_isHouse {E : sxE} {w : hpW} {Q : Option Value → hpW → Prop} (hB : ly_B w) {n : Nat} (hn : hp_i w 381 25 = nI n) (hn8 : n ≤ 8) {x : Int32} (h : Q (some (.int (ih_ n x))) w) : sx_C E mX12_isHouse 2 0 0 [.ref 381, .int x] w Q := by
  refine C_of (by decide +kernel) (Nat.le_of_ble_eq_true rfl) ?_
  refine V_iload_n (i := 1) (sx_di dX12_isHouse 0 rfl) rfl rfl ?_
  refine V_iconst (v := 0) (sx_di dX12_isHouse 1 rfl) (by decide) ?_
  refine V_aload_n (i := 0) (sx_di dX12_isHouse 2 rfl) rfl rfl ?_
  refine V_getI (sx_di dX12_isHouse 3 rfl) fX12_258 (fun _ => rfl) (hB.k _ rfl) ?_
  rw [hn]
  refine V_iconst (v := 1) (sx_di dX12_isHouse 4 rfl) (by decide) ?_
  refine V_isub (sx_di dX12_isHouse 5 rfl) ?_
  refine V_cS3 (mc' := 0) (ms' := 0) (M' := mX12_in) 1 (sx_di dX12_isHouse 6 rfl) lX12_214 vX12_in (Nat.le_of_ble_eq_true rfl) ⟨Nat.le_of_ble_eq_true rfl, Nat.le_of_ble_eq_true rfl⟩ ⟨Nat.le_refl _, Nat.le_refl _⟩ ?_
  refine c_X12_in ?_
  rw [ih_in (by omega)]
  refine V_zret (sx_di dX12_isHouse 7 rfl) rfl (ih_b _ _) (Nat.le_refl _) (Nat.le_refl _) ?_
  exact h
set_option maxHeartbeats 2000000 in
set_option maxRecDepth 20000 in
theorem c_X12_isForm {E : sxE} {w : hpW} {Q : Option Value → hpW → Prop} (hB : ly_B w) {n : Nat} (hn : hp_i w 381 26 = nI n) (hn8 : n ≤ 6) {x : Int32} (h : Q (some (.int (ih_ n x))) w) : sx_C E mX12_isForm 2 0 0 [.ref 381, .int x] w Q := by
  refine C_of (by decide +kernel) (Nat.le_of_ble_eq_true rfl) ?_
  refine V_iload_n (i := 1) (sx_di dX12_isForm 0 rfl) rfl rfl ?_
  refine V_iconst (v := 0) (sx_di dX12_isForm 1 rfl) (by decide) ?_
  refine V_aload_n (i := 0) (sx_di dX12_isForm 2 rfl) rfl rfl ?_
  refine V_getI (sx_di dX12_isForm 3 rfl) fX12_264 (fun _ => rfl) (hB.k _ rfl) ?_
  rw [hn]
  refine V_iconst (v := 1) (sx_di dX12_isForm 4 rfl) (by decide) ?_
  refine V_isub (sx_di dX12_isForm 5 rfl) ?_
  refine V_cS3 (mc' := 0) (ms' := 0) (M' := mX12_in) 1 (sx_di dX12_isForm 6 rfl) lX12_214 vX12_in (Nat.le_of_ble_eq_true rfl) ⟨Nat.le_of_ble_eq_true rfl, Nat.le_of_ble_eq_true rfl⟩ ⟨Nat.le_refl _, Nat.le_refl _⟩ ?_
  refine c_X12_in ?_
  rw [ih_in (by omega)]
  refine V_zret (sx_di dX12_isForm 7 rfl) rfl (ih_b _ _) (Nat.le_refl _) (Nat.le_refl _) ?_
  exact h
set_option maxHeartbeats 2000000 in
set_option maxRecDepth 20000 in
theorem c_X12_moods {E : sxE} {w : hpW} {Q : Option Value → hpW → Prop} (hB : ly_B w) {v : Int32} (h0 : (v < 0 ∨ 9 < v ∨ v = hp_i w 381 30) → Q (some (.int 0)) w) (h9 : ¬ (v < 0 ∨ 9 < v ∨ v = hp_i w 381 30) → Q (some (.int 1)) (hp_si w 381 30 v)) : sx_C E mX12_moods 2 0 0 [.ref 381, .int v] w Q := by
  refine C_of (by decide +kernel) (Nat.le_of_ble_eq_true rfl) ?_
  refine V_iload_n (i := 1) (sx_di dX12_moods 0 rfl) rfl rfl ?_
  refine V_iconst (v := 0) (sx_di dX12_moods 1 rfl) (by decide) ?_
  refine V_bipush (v := 9) (sx_di dX12_moods 2 rfl) (by decide) ?_
  refine V_cS3 (mc' := 0) (ms' := 0) (M' := mX12_in) 1 (sx_di dX12_moods 3 rfl) lX12_214 vX12_in (Nat.le_of_ble_eq_true rfl) ⟨Nat.le_of_ble_eq_true rfl, Nat.le_of_ble_eq_true rfl⟩ ⟨Nat.le_refl _, Nat.le_refl _⟩ ?_
  refine c_X12_in ?_
  refine V_if_eq (tgt := 18) (sx_di dX12_moods 4 rfl) (by decide) (fun h7 => ?_) (fun h7 => ?_)
  · have h8 := in_no h7
    refine V_iconst (v := 0) (sx_di dX12_moods 9 rfl) (by decide) ?_
    refine V_zret (sx_di dX12_moods 10 rfl) rfl (by first | rfl | decide) (Nat.le_refl _) (Nat.le_refl _) ?_
    exact h0 (h8.elim Or.inl (fun z => Or.inr (Or.inl z)))
  · have h8 := in_ye h7
    refine V_iload_n (i := 1) (sx_di dX12_moods 5 rfl) rfl rfl ?_
    refine V_aload_n (i := 0) (sx_di dX12_moods 6 rfl) rfl rfl ?_
    refine V_getI (sx_di dX12_moods 7 rfl) fX12_333 (fun _ => rfl) (hB.k _ rfl) ?_
    refine V_icmp_ne (tgt := 20) (sx_di dX12_moods 8 rfl) (by decide) (fun h15 => ?_) (fun h15 => ?_)
    · refine V_aload_n (i := 0) (sx_di dX12_moods 11 rfl) rfl rfl ?_
      refine V_iload_n (i := 1) (sx_di dX12_moods 12 rfl) rfl rfl ?_
      refine V_putI (sx_di dX12_moods 13 rfl) fX12_333 (fun _ => rfl) rfl (hB.k _ rfl) (rfl) (rfl) ?_
      refine V_iconst (v := 1) (sx_di dX12_moods 14 rfl) (by decide) ?_
      refine V_zret (sx_di dX12_moods 15 rfl) rfl (by first | rfl | decide) (Nat.le_refl _) (Nat.le_refl _) ?_
      exact h9 (fun z => z.elim (fun z => h8 (Or.inl z)) (fun z => z.elim (fun z => h8 (Or.inr z)) h15))
    · refine V_iconst (v := 0) (sx_di dX12_moods 9 rfl) (by decide) ?_
      refine V_zret (sx_di dX12_moods 10 rfl) rfl (by first | rfl | decide) (Nat.le_refl _) (Nat.le_refl _) ?_
      exact h0 (Or.inr (Or.inr h15))
set_option maxHeartbeats 2000000 in
set_option maxRecDepth 20000 in
theorem c_X11_law {E : sxE} {w : hpW} {Q : Option Value → hpW → Prop} (hB : ly_B w) {v : Int32} {L : Nat} (hL : hp_i w 20 1 = nI L) (hL4 : L ≤ 4) (h0 : (v < -1 ∨ nI L ≤ v) → Q (some (.int 0)) w) (h9 : ¬ (v < -1 ∨ nI L ≤ v) → Q (some (.int 1)) (hp_si w 20 2 v)) : sx_C E mX11_law 1 0 0 [.ref 16, .int v] w Q := by
  refine C_of (by decide +kernel) (Nat.le_of_ble_eq_true rfl) ?_
  refine V_iload_n (i := 1) (sx_di dX11_law 0 rfl) rfl rfl ?_
  refine V_iconst (v := -1) (sx_di dX11_law 1 rfl) (by decide) ?_
  refine V_icmp_lt (tgt := 16) (sx_di dX11_law 2 rfl) (by decide) (fun h2 => ?_) (fun h2 => ?_)
  · refine V_iconst (v := 0) (sx_di dX11_law 8 rfl) (by decide) ?_
    refine V_zret (sx_di dX11_law 9 rfl) rfl (by first | rfl | decide) (Nat.le_refl _) (Nat.le_refl _) ?_
    exact h0 (Or.inl h2)
  · refine V_iload_n (i := 1) (sx_di dX11_law 3 rfl) rfl rfl ?_
    refine V_aload_n (i := 0) (sx_di dX11_law 4 rfl) rfl rfl ?_
    refine V_getR (sx_di dX11_law 5 rfl) fX11_28 (fun _ => rfl) (hB.k _ rfl) (hB.r _ _ rfl) ?_
    refine V_getI (sx_di dX11_law 6 rfl) fX11_134 (fun _ => rfl) (hB.k _ rfl) ?_
    refine V_icmp_lt (tgt := 18) (sx_di dX11_law 7 rfl) (by decide) (fun h13 => ?_) (fun h13 => ?_)
    · rw [hL] at h13
      refine V_aload_n (i := 0) (sx_di dX11_law 10 rfl) rfl rfl ?_
      refine V_getR (sx_di dX11_law 11 rfl) fX11_28 (fun _ => rfl) (hB.k _ rfl) (hB.r _ _ rfl) ?_
      refine V_iload_n (i := 1) (sx_di dX11_law 12 rfl) rfl rfl ?_
      refine V_putI (sx_di dX11_law 13 rfl) fX11_211 (fun _ => rfl) rfl (hB.k _ rfl) (rfl) (rfl) ?_
      refine V_iconst (v := 1) (sx_di dX11_law 14 rfl) (by decide) ?_
      refine V_zret (sx_di dX11_law 15 rfl) rfl (by first | rfl | decide) (Nat.le_refl _) (Nat.le_refl _) ?_
      exact h9 (fun z => z.elim h2 (fun z => absurd h13 (Int32.not_lt.mpr z)))
    · rw [hL] at h13
      refine V_iconst (v := 0) (sx_di dX11_law 8 rfl) (by decide) ?_
      refine V_zret (sx_di dX11_law 9 rfl) rfl (by first | rfl | decide) (Nat.le_refl _) (Nat.le_refl _) ?_
      exact h0 (Or.inr (Int32.not_lt.mp h13))
set_option maxHeartbeats 2000000 in
set_option maxRecDepth 20000 in
theorem c_X12_law {E : sxE} {w : hpW} {Q : Option Value → hpW → Prop} (hB : ly_B w) {v : Int32} {L : Nat} (hL : hp_i w 381 13 = nI L) (hL4 : L ≤ 4) (h0 : (v < -1 ∨ nI L ≤ v) → Q (some (.int 0)) w) (h9 : ¬ (v < -1 ∨ nI L ≤ v) → Q (some (.int 1)) (hp_si w 381 29 v)) : sx_C E mX12_law 2 0 0 [.ref 381, .int v] w Q := by
  refine C_of (by decide +kernel) (Nat.le_of_ble_eq_true rfl) ?_
  refine V_iload_n (i := 1) (sx_di dX12_law 0 rfl) rfl rfl ?_
  refine V_iconst (v := -1) (sx_di dX12_law 1 rfl) (by decide) ?_
  refine V_aload_n (i := 0) (sx_di dX12_law 2 rfl) rfl rfl ?_
  refine V_getI (sx_di dX12_law 3 rfl) fX12_286 (fun _ => rfl) (hB.k _ rfl) ?_
  rw [hL]
  refine V_iconst (v := 1) (sx_di dX12_law 4 rfl) (by decide) ?_
  refine V_isub (sx_di dX12_law 5 rfl) ?_
  refine V_cS3 (mc' := 0) (ms' := 0) (M' := mX12_in) 1 (sx_di dX12_law 6 rfl) lX12_214 vX12_in (Nat.le_of_ble_eq_true rfl) ⟨Nat.le_of_ble_eq_true rfl, Nat.le_of_ble_eq_true rfl⟩ ⟨Nat.le_refl _, Nat.le_refl _⟩ ?_
  refine c_X12_in ?_
  refine V_if_ne (tgt := 16) (sx_di dX12_law 7 rfl) (by decide) (fun h11 => ?_) (fun h11 => ?_)
  · have h8 := in_ye h11
    rw [pr_lt (by omega)] at h8
    refine V_aload_n (i := 0) (sx_di dX12_law 10 rfl) rfl rfl ?_
    refine V_iload_n (i := 1) (sx_di dX12_law 11 rfl) rfl rfl ?_
    refine V_putI (sx_di dX12_law 12 rfl) fX12_64 (fun _ => rfl) rfl (hB.k _ rfl) (rfl) (rfl) ?_
    refine V_iconst (v := 1) (sx_di dX12_law 13 rfl) (by decide) ?_
    refine V_zret (sx_di dX12_law 14 rfl) rfl (by first | rfl | decide) (Nat.le_refl _) (Nat.le_refl _) ?_
    exact h9 h8
  · have h8 := in_no h11
    rw [pr_lt (by omega)] at h8
    refine V_iconst (v := 0) (sx_di dX12_law 8 rfl) (by decide) ?_
    refine V_zret (sx_di dX12_law 9 rfl) rfl (by first | rfl | decide) (Nat.le_refl _) (Nat.le_refl _) ?_
    exact h0 h8
def so_ (f : Nat → Int32) (x : Int32) : Int32 := if x < 0 ∨ 5 ≤ x then -1 else f x.toNatClampNeg
set_option maxHeartbeats 2000000 in
set_option maxRecDepth 20000 in
theorem c_X11_status {E : sxE} {w : hpW} {Q : Option Value → hpW → Prop} (hB : ly_B w) {x : Int32} (h : Q (some (.int (so_ (hp_i w 377) x))) w) : sx_C E mX11_status 1 0 0 [.ref 16, .int x] w Q := by
  refine C_of (by decide +kernel) (Nat.le_of_ble_eq_true rfl) ?_
  refine V_iload_n (i := 1) (sx_di dX11_status 0 rfl) rfl rfl ?_
  refine V_if_lt (tgt := 9) (sx_di dX11_status 1 rfl) (by decide) (fun h1 => ?_) (fun h1 => ?_)
  · refine V_iconst (v := -1) (sx_di dX11_status 5 rfl) (by decide) ?_
    refine V_goto (tgt := 19) (sx_di dX11_status 6 rfl) (by decide) ?_
    refine V_iret (sx_di dX11_status 11 rfl) rfl (Nat.le_refl _) (Nat.le_refl _) ?_
    rw [so_, if_pos (Or.inl h1)] at h
    exact h
  · refine V_iload_n (i := 1) (sx_di dX11_status 2 rfl) rfl rfl ?_
    refine V_iconst (v := 5) (sx_di dX11_status 3 rfl) (by decide) ?_
    refine V_icmp_lt (tgt := 13) (sx_di dX11_status 4 rfl) (by decide) (fun h6 => ?_) (fun h6 => ?_)
    · have h6n := Int32.not_le.mpr h6
      refine V_aload_n (i := 0) (sx_di dX11_status 7 rfl) rfl rfl ?_
      refine V_getR (sx_di dX11_status 8 rfl) fX11_98 (fun _ => rfl) (hB.k _ rfl) (hB.r _ _ rfl) ?_
      refine V_iload_n (i := 1) (sx_di dX11_status 9 rfl) rfl rfl ?_
      refine V_iald (sx_di dX11_status 10 rfl) (hB.k _ rfl) (sl_in (by decide) h1 h6n) ?_
      refine V_iret (sx_di dX11_status 11 rfl) rfl (Nat.le_refl _) (Nat.le_refl _) ?_
      rw [so_, if_neg (fun z => z.elim h1 h6n)] at h
      exact h
    · refine V_iconst (v := -1) (sx_di dX11_status 5 rfl) (by decide) ?_
      refine V_goto (tgt := 19) (sx_di dX11_status 6 rfl) (by decide) ?_
      refine V_iret (sx_di dX11_status 11 rfl) rfl (Nat.le_refl _) (Nat.le_refl _) ?_
      rw [so_, if_pos (Or.inr (Int32.not_lt.mp h6))] at h
      exact h
theorem le4 (x : Int32) : 4 < x ↔ 5 ≤ x := pr_lt (n := 5) (by decide) x
set_option maxHeartbeats 2000000 in
set_option maxRecDepth 20000 in
theorem c_X12_status {E : sxE} {w : hpW} {Q : Option Value → hpW → Prop} (hB : ly_B w) {x : Int32} (h : Q (some (.int (so_ (hp_i w 399) x))) w) : sx_C E mX12_status 2 0 0 [.ref 381, .int x] w Q := by
  refine C_of (by decide +kernel) (Nat.le_of_ble_eq_true rfl) ?_
  refine V_iload_n (i := 1) (sx_di dX12_status 0 rfl) rfl rfl ?_
  refine V_iconst (v := 0) (sx_di dX12_status 1 rfl) (by decide) ?_
  refine V_iconst (v := 4) (sx_di dX12_status 2 rfl) (by decide) ?_
  refine V_cS3 (mc' := 0) (ms' := 0) (M' := mX12_in) 1 (sx_di dX12_status 3 rfl) lX12_214 vX12_in (Nat.le_of_ble_eq_true rfl) ⟨Nat.le_of_ble_eq_true rfl, Nat.le_of_ble_eq_true rfl⟩ ⟨Nat.le_refl _, Nat.le_refl _⟩ ?_
  refine c_X12_in ?_
  refine V_if_eq (tgt := 18) (sx_di dX12_status 4 rfl) (by decide) (fun h6 => ?_) (fun h6 => ?_)
  · have h8 := in_no h6
    rw [le4] at h8
    refine V_iconst (v := -1) (sx_di dX12_status 10 rfl) (by decide) ?_
    refine V_iret (sx_di dX12_status 11 rfl) rfl (Nat.le_refl _) (Nat.le_refl _) ?_
    rw [so_, if_pos h8] at h
    exact h
  · have h8 := in_ye h6
    rw [le4] at h8
    refine V_aload_n (i := 0) (sx_di dX12_status 5 rfl) rfl rfl ?_
    refine V_getR (sx_di dX12_status 6 rfl) fX12_61 (fun _ => rfl) (hB.k _ rfl) (hB.r _ _ rfl) ?_
    refine V_iload_n (i := 1) (sx_di dX12_status 7 rfl) rfl rfl ?_
    refine V_iald (sx_di dX12_status 8 rfl) (hB.k _ rfl) (sl_in (n := 5) (M := 5) (by decide) (fun z => h8 (Or.inl z)) (fun z => h8 (Or.inr z))) ?_
    refine V_goto (tgt := 19) (sx_di dX12_status 9 rfl) (by decide) ?_
    refine V_iret (sx_di dX12_status 11 rfl) rfl (Nat.le_refl _) (Nat.le_refl _) ?_
    rw [so_, if_neg h8] at h
    exact h

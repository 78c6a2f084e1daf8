/-! the acts of the reference -/
/-- the state is kept: a of them were -/
def KP (w : hpW) (a : Nat) (I : Nat → Nat → Int32) : Prop := (∀ b, b ≠ 381 → b ≠ 400 → I b = hp_i w b) ∧ (∀ j, j ≠ 32 → I 381 j = hp_i w 381 j) ∧ I 381 32 = nI (if a < 40 then a + 1 else 40) ∧ (∀ i j, j < 226 → i < (if a < 40 then a else 39) → I 400 (226 * i + j) = hp_i w 400 (226 * (if a < 40 then i else i + 1) + j)) ∧ ∀ j, j < 226 → I 400 (226 * (if a < 40 then a else 39) + j) = hp_i w 398 j
def sh_ (I : Nat → Nat → Int32) (k : Nat) : Nat → Nat → Int32 := fun q j => if q = 400 ∧ j + 226 < k then I 400 (j + 226) else I q j
theorem sh_s (I : Nat → Nat → Int32) {k : Nat} (h : 226 ≤ k) : hp_u (sh_ I k) 400 (k - 226) (sh_ I k 400 k) = sh_ I (k + 1) := by
  have e : sh_ I k 400 k = I 400 k := by unfold sh_; rw [if_neg (by omega)]
  rw [e]
  funext q j
  unfold hp_u sh_
  by_cases h1 : q = 400 ∧ j = k - 226
  · rw [if_pos h1, if_pos (by omega), show j + 226 = k by omega]
  · rw [if_neg h1]
    by_cases h2 : q = 400 ∧ j + 226 < k
    · rw [if_pos h2, if_pos (by omega)]
    · rw [if_neg h2, if_neg (by omega)]
set_option maxHeartbeats 2000000 in
set_option maxRecDepth 20000 in
theorem kc_lp {E : sxE} {w : hpW} {Q : Option Value → hpW → Prop} (hB : ly_B w) {a : Nat} (ha : hp_i w 381 32 = nI a) (ha4 : a < 40) (h : Q none (hp_wi w (hp_u (cq_ (hp_i w) 400 (226 * a) 398 0 226) 381 32 (nI (a + 1))))) : ∀ q k, k + q = 226 → V E mX12_keep (sx_rm 1 0 0) 0 0 0 0 54 [(1, .int (nI k)), (0, .ref 381)] [] (hp_wi w (cq_ (hp_i w) 400 (226 * a) 398 0 k)) Q := by
  have ea : ∀ k, hp_i (hp_wi w (cq_ (hp_i w) 400 (226 * a) 398 0 k)) 381 32 = nI a := fun k => by
    show cq_ (hp_i w) 400 (226 * a) 398 0 k 381 32 = _
    rw [cq_o (by decide)]
    exact ha
  intro q
  induction q with
  | zero =>
    intro k hk
    have e : k = 226 := by omega
    subst e
    refine V_iload_n (i := 1) (sx_di dX12_keep 29 rfl) rfl rfl ?_
    refine V_sipush (v := 226) (sx_di dX12_keep 30 rfl) (by decide) ?_
    refine V_icN_ge (a := 226) (b := 226) (rfl) (rfl) (by omega) (by omega) (tgt := 88) (sx_di dX12_keep 31 rfl) (by decide) (fun _ => ?_) (fun h58 => absurd h58 (by omega))
    refine V_aload_n (i := 0) (sx_di dX12_keep 47 rfl) rfl rfl ?_
    refine V_dup (sx_di dX12_keep 48 rfl) rfl ?_
    refine V_getI (sx_di dX12_keep 49 rfl) fX12_276 (fun _ => rfl) (hB.k _ rfl) ?_
    rw [ea 226]
    refine V_iconst (v := 1) (sx_di dX12_keep 50 rfl) (by decide) ?_
    refine V_iadd (sx_di dX12_keep 51 rfl) ?_
    rw [show nI a + 1 = nI (a + 1) from nI_1 a]
    refine V_putI (sx_di dX12_keep 52 rfl) fX12_276 (fun _ => rfl) rfl (hB.k _ rfl) (rfl) (rfl) ?_
    refine V_vret (sx_di dX12_keep 53 rfl) rfl (Nat.le_refl _) (Nat.le_refl _) ?_
    exact h
  | succ q ih =>
    intro k hk
    have q1 := ih (k + 1) (by omega)
    rw [← cq_s _ (by decide), ← nI_1, Nat.zero_add] at q1
    refine V_iload_n (i := 1) (sx_di dX12_keep 29 rfl) rfl rfl ?_
    refine V_sipush (v := 226) (sx_di dX12_keep 30 rfl) (by decide) ?_
    refine V_icN_ge (a := k) (b := 226) (rfl) (rfl) (by omega) (by omega) (tgt := 88) (sx_di dX12_keep 31 rfl) (by decide) (fun h58 => absurd h58 (by omega)) (fun _ => ?_)
    refine V_aload_n (i := 0) (sx_di dX12_keep 32 rfl) rfl rfl ?_
    refine V_getR (sx_di dX12_keep 33 rfl) fX12_68 (fun _ => rfl) (hB.k _ rfl) (hB.r _ _ rfl) ?_
    refine V_sipush (v := 226) (sx_di dX12_keep 34 rfl) (by decide) ?_
    refine V_aload_n (i := 0) (sx_di dX12_keep 35 rfl) rfl rfl ?_
    refine V_getI (sx_di dX12_keep 36 rfl) fX12_276 (fun _ => rfl) (hB.k _ rfl) ?_
    refine V_imul (sx_di dX12_keep 37 rfl) ?_
    refine V_iload_n (i := 1) (sx_di dX12_keep 38 rfl) rfl rfl ?_
    refine V_iadd (sx_di dX12_keep 39 rfl) ?_
    refine V_aload_n (i := 0) (sx_di dX12_keep 40 rfl) rfl rfl ?_
    refine V_getR (sx_di dX12_keep 41 rfl) fX12_58 (fun _ => rfl) (hB.k _ rfl) (hB.r _ _ rfl) ?_
    refine V_iload_n (i := 1) (sx_di dX12_keep 42 rfl) rfl rfl ?_
    refine V_ialdN (n := 226) (j := k) (sx_di dX12_keep 43 rfl) (hB.k _ rfl) (rfl) (by omega) (by omega) ?_
    refine V_iastN (n := 9040) (j := ((226 * a) + k)) (sx_di dX12_keep 44 rfl) (hB.k _ rfl) (nx_add (nx_mul (rfl) (ea k)) (rfl)) (by omega) (by omega) ?_
    refine V_inc (c := 1) (sx_di dX12_keep 45 rfl) (by decide) rfl (by decide) (rfl) ?_
    refine V_goto (tgt := 54) (sx_di dX12_keep 46 rfl) (by decide) ?_
    exact V_subk q1 ⟨rfl, rfl, trivial⟩
set_option maxHeartbeats 2000000 in
set_option maxRecDepth 20000 in
theorem ks_lp {E : sxE} {w : hpW} {Q : Option Value → hpW → Prop} (hB : ly_B w) (ha : hp_i w 381 32 = nI 40) (h : V E mX12_keep (sx_rm 1 0 0) 0 0 0 0 54 [(1, .int (nI 0)), (0, .ref 381)] [] (hp_wi w (hp_u (sh_ (hp_i w) 9040) 381 32 (nI 39))) Q) : ∀ q k, 226 ≤ k → k + q = 9040 → V E mX12_keep (sx_rm 1 0 0) 0 0 0 0 13 [(1, .int (nI k)), (0, .ref 381)] [] (hp_wi w (sh_ (hp_i w) k)) Q := by
  have ea : hp_i (hp_wi w (sh_ (hp_i w) 9040)) 381 32 = nI 40 := ha
  intro q
  induction q with
  | zero =>
    intro k _ hk
    have e : k = 9040 := by omega
    subst e
    refine V_iload_n (i := 1) (sx_di dX12_keep 6 rfl) rfl rfl ?_
    refine V_sipush (v := 9040) (sx_di dX12_keep 7 rfl) (by decide) ?_
    refine V_icN_ge (a := 9040) (b := 9040) (rfl) (rfl) (by omega) (by omega) (tgt := 42) (sx_di dX12_keep 8 rfl) (by decide) (fun _ => ?_) (fun h17 => absurd h17 (by omega))
    refine V_aload_n (i := 0) (sx_di dX12_keep 21 rfl) rfl rfl ?_
    refine V_dup (sx_di dX12_keep 22 rfl) rfl ?_
    refine V_getI (sx_di dX12_keep 23 rfl) fX12_276 (fun _ => rfl) (hB.k _ rfl) ?_
    rw [ea]
    refine V_iconst (v := 1) (sx_di dX12_keep 24 rfl) (by decide) ?_
    refine V_isub (sx_di dX12_keep 25 rfl) ?_
    refine V_putI (sx_di dX12_keep 26 rfl) fX12_276 (fun _ => rfl) rfl (hB.k _ rfl) (rfl) (rfl) ?_
    refine V_iconst (v := 0) (sx_di dX12_keep 27 rfl) (by decide) ?_
    refine V_istore_n (i := 1) (sx_di dX12_keep 28 rfl) rfl (by decide) (rfl) ?_
    exact V_subk h ⟨rfl, rfl, trivial⟩
  | succ q ih =>
    intro k hk2 hk
    have q1 := ih (k + 1) (by omega) (by omega)
    rw [← sh_s _ hk2, ← nI_1] at q1
    refine V_iload_n (i := 1) (sx_di dX12_keep 6 rfl) rfl rfl ?_
    refine V_sipush (v := 9040) (sx_di dX12_keep 7 rfl) (by decide) ?_
    refine V_icN_ge (a := k) (b := 9040) (rfl) (rfl) (by omega) (by omega) (tgt := 42) (sx_di dX12_keep 8 rfl) (by decide) (fun h17 => absurd h17 (by omega)) (fun _ => ?_)
    refine V_aload_n (i := 0) (sx_di dX12_keep 9 rfl) rfl rfl ?_
    refine V_getR (sx_di dX12_keep 10 rfl) fX12_68 (fun _ => rfl) (hB.k _ rfl) (hB.r _ _ rfl) ?_
    refine V_iload_n (i := 1) (sx_di dX12_keep 11 rfl) rfl rfl ?_
    refine V_sipush (v := 226) (sx_di dX12_keep 12 rfl) (by decide) ?_
    refine V_isub (sx_di dX12_keep 13 rfl) ?_
    refine V_aload_n (i := 0) (sx_di dX12_keep 14 rfl) rfl rfl ?_
    refine V_getR (sx_di dX12_keep 15 rfl) fX12_68 (fun _ => rfl) (hB.k _ rfl) (hB.r _ _ rfl) ?_
    refine V_iload_n (i := 1) (sx_di dX12_keep 16 rfl) rfl rfl ?_
    refine V_ialdN (n := 9040) (j := k) (sx_di dX12_keep 17 rfl) (hB.k _ rfl) (rfl) (by omega) (by omega) ?_
    refine V_iastN (n := 9040) (j := (k - 226)) (sx_di dX12_keep 18 rfl) (hB.k _ rfl) (nx_sub (rfl) (rfl) (by omega)) (by omega) (by omega) ?_
    refine V_inc (c := 1) (sx_di dX12_keep 19 rfl) (by decide) rfl (by decide) (rfl) ?_
    refine V_goto (tgt := 13) (sx_di dX12_keep 20 rfl) (by decide) ?_
    exact V_subk q1 ⟨rfl, rfl, trivial⟩
set_option maxHeartbeats 2000000 in
set_option maxRecDepth 20000 in
theorem c_X12_keep {E : sxE} {w : hpW} {Q : Option Value → hpW → Prop} (hB : ly_B w) {a : Nat} (ha : hp_i w 381 32 = nI a) (ha4 : a ≤ 40) (h : ∀ I, KP w a I → Q none (hp_wi w I)) : sx_C E mX12_keep 1 0 0 [.ref 381] w Q := by
  refine C_of (by decide +kernel) (Nat.le_of_ble_eq_true rfl) ?_
  refine V_aload_n (i := 0) (sx_di dX12_keep 0 rfl) rfl rfl ?_
  refine V_getI (sx_di dX12_keep 1 rfl) fX12_276 (fun _ => rfl) (hB.k _ rfl) ?_
  refine V_bipush (v := 40) (sx_di dX12_keep 2 rfl) (by decide) ?_
  refine V_icN_ne (a := a) (b := 40) (ha) (rfl) (by omega) (by omega) (tgt := 52) (sx_di dX12_keep 3 rfl) (by decide) (fun h6 => ?_) (fun h6 => ?_)
  · have a4 : a < 40 := by omega
    refine V_iconst (v := 0) (sx_di dX12_keep 27 rfl) (by decide) ?_
    refine V_istore_n (i := 1) (sx_di dX12_keep 28 rfl) rfl (by decide) (rfl) ?_
    refine V_eq rfl rfl rfl (show w = hp_wi w (cq_ (hp_i w) 400 (226 * a) 398 0 0) by rw [cq_0]; rfl) ?_
    refine V_sub (ls' := [(1, .int (nI 0)), (0, .ref 381)]) ⟨rfl, rfl, trivial⟩ ?_
    refine kc_lp (w := w) hB ha a4 (h _ ⟨fun b h1 h2 => ?_, fun j hj => ?_, ?_, fun i j hj hi => ?_, fun j hj => ?_⟩) 226 0 rfl
    · funext j; rw [hp_u_nk _ _ (by omega)]; exact congrFun (cq_o h2) j
    · rw [hp_u_nk _ _ (by omega)]; exact congrFun (cq_o (by decide)) j
    · rw [hp_u_at, if_pos a4]
    · rw [if_pos a4] at hi
      rw [hp_u_nk _ _ (by omega), if_pos a4]
      unfold cq_
      rw [if_neg (by omega)]
    · rw [if_pos a4, hp_u_nk _ _ (by omega)]
      unfold cq_
      rw [if_pos ⟨rfl, by omega, by omega⟩, show 0 + (226 * a + j - 226 * a) = j by omega]
  · have a4 : ¬ a < 40 := by omega
    have ha40 : hp_i w 381 32 = nI 40 := by rw [ha, h6]
    refine V_sipush (v := 226) (sx_di dX12_keep 4 rfl) (by decide) ?_
    refine V_istore_n (i := 1) (sx_di dX12_keep 5 rfl) rfl (by decide) (rfl) ?_
    refine V_eq rfl rfl rfl (show w = hp_wi w (sh_ (hp_i w) 226) by rw [show sh_ (hp_i w) 226 = hp_i w by funext q j; unfold sh_; rw [if_neg (by omega)]]; rfl) ?_
    refine V_sub (ls' := [(1, .int (nI 226)), (0, .ref 381)]) ⟨rfl, rfl, trivial⟩ ?_
    refine ks_lp (w := w) hB ha40 ?_ 8814 226 (by omega) rfl
    refine V_eq rfl rfl rfl (show hp_wi w (hp_u (sh_ (hp_i w) 9040) 381 32 (nI 39)) = hp_wi (hp_wi w (hp_u (sh_ (hp_i w) 9040) 381 32 (nI 39))) (cq_ (hp_u (sh_ (hp_i w) 9040) 381 32 (nI 39)) 400 (226 * 39) 398 0 0) by rw [cq_0]; rfl) ?_
    refine kc_lp (w := hp_wi w (hp_u (sh_ (hp_i w) 9040) 381 32 (nI 39))) (ly_wi hB _) (a := 39) (show hp_u (sh_ (hp_i w) 9040) 381 32 (nI 39) 381 32 = nI 39 from hp_u_at _ _ _ _) (by omega) ?_ 226 0 rfl
    refine h _ ⟨fun b h1 h2 => ?_, fun j hj => ?_, ?_, fun i j hj hi => ?_, fun j hj => ?_⟩
    · funext j; rw [hp_u_nk _ _ (by omega), congrFun (cq_o h2) j, hp_i_wi, hp_u_nk _ _ (by omega)]; unfold sh_; rw [if_neg (by omega)]
    · rw [hp_u_nk _ _ (by omega), congrFun (cq_o (by decide)) j, hp_i_wi, hp_u_nk _ _ (by omega)]; rfl
    · rw [hp_u_at, if_neg a4]
    · rw [if_neg a4] at hi
      rw [hp_u_nk _ _ (by omega), if_neg a4]
      unfold cq_
      rw [if_neg (by omega), hp_i_wi, hp_u_nk _ _ (by omega)]
      unfold sh_
      rw [if_pos ⟨rfl, by omega⟩, show 226 * i + j + 226 = 226 * (i + 1) + j by omega]
    · rw [if_neg a4, hp_u_nk _ _ (by omega)]
      unfold cq_
      rw [if_pos ⟨rfl, by omega, by omega⟩, show 0 + (226 * 39 + j - 226 * 39) = j by omega, hp_i_wi, hp_u_nk _ _ (by omega)]
      rfl
def rfR_ (w : hpW) (k : Nat) : hpW := hp_wi w (hp_u (hp_i w) 399 k (hp_i w 399 k + 1))
set_option maxHeartbeats 2000000 in
set_option maxRecDepth 20000 in
theorem e_ref {E : sxE} {w : hpW} {Q : Option Value → hpW → Prop} (hB : ly_B w) {k : Nat} (hk : k < 5) (h : Q (some (.int 1)) (rfR_ w k)) : sx_C E mX12_isRefused 1 0 0 [.ref 381, .int (nI k)] w Q := by
  have hm : ¬ nI k = -1 := nI_m1 (by omega)
  refine C_of (by decide +kernel) (Nat.le_of_ble_eq_true rfl) ?_
  refine V_iload_n (i := 1) (sx_di dX12_isRefused 0 rfl) rfl rfl ?_
  refine V_iconst (v := -1) (sx_di dX12_isRefused 1 rfl) (by decide) ?_
  refine V_icmp_eq (tgt := 15) (sx_di dX12_isRefused 2 rfl) (by decide) (fun h2 => absurd h2 hm) (fun _ => ?_)
  refine V_aload_n (i := 0) (sx_di dX12_isRefused 3 rfl) rfl rfl ?_
  refine V_getR (sx_di dX12_isRefused 4 rfl) fX12_61 (fun _ => rfl) (hB.k _ rfl) (hB.r _ _ rfl) ?_
  refine V_iload_n (i := 1) (sx_di dX12_isRefused 5 rfl) rfl rfl ?_
  refine V_dup2 (sx_di dX12_isRefused 6 rfl) rfl rfl ?_
  refine V_ialdN (n := 5) (j := k) (sx_di dX12_isRefused 7 rfl) (hB.k _ rfl) (rfl) (by omega) (by omega) ?_
  refine V_iconst (v := 1) (sx_di dX12_isRefused 8 rfl) (by decide) ?_
  refine V_iadd (sx_di dX12_isRefused 9 rfl) ?_
  refine V_iastN (n := 5) (j := k) (sx_di dX12_isRefused 10 rfl) (hB.k _ rfl) (rfl) (by omega) (by omega) ?_
  refine V_iload_n (i := 1) (sx_di dX12_isRefused 11 rfl) rfl rfl ?_
  refine V_iconst (v := -1) (sx_di dX12_isRefused 12 rfl) (by decide) ?_
  refine V_icmp_eq (tgt := 24) (sx_di dX12_isRefused 13 rfl) (by decide) (fun h17 => absurd h17 hm) (fun _ => ?_)
  refine V_iconst (v := 1) (sx_di dX12_isRefused 14 rfl) (by decide) ?_
  refine V_goto (tgt := 25) (sx_di dX12_isRefused 15 rfl) (by decide) ?_
  refine V_zret (sx_di dX12_isRefused 17 rfl) rfl (by first | rfl | decide) (Nat.le_refl _) (Nat.le_refl _) ?_
  exact h
set_option maxHeartbeats 2000000 in
set_option maxRecDepth 20000 in
theorem e_acc {E : sxE} {w : hpW} {Q : Option Value → hpW → Prop} (hB : ly_B w) (h : Q (some (.int 0)) w) : sx_C E mX12_isRefused 1 0 0 [.ref 381, .int (-1)] w Q := by
  refine C_of (by decide +kernel) (Nat.le_of_ble_eq_true rfl) ?_
  refine V_iload_n (i := 1) (sx_di dX12_isRefused 0 rfl) rfl rfl ?_
  refine V_iconst (v := -1) (sx_di dX12_isRefused 1 rfl) (by decide) ?_
  refine V_icmp_eq (tgt := 15) (sx_di dX12_isRefused 2 rfl) (by decide) (fun _ => ?_) (fun h2 => absurd rfl h2)
  refine V_iload_n (i := 1) (sx_di dX12_isRefused 11 rfl) rfl rfl ?_
  refine V_iconst (v := -1) (sx_di dX12_isRefused 12 rfl) (by decide) ?_
  refine V_icmp_eq (tgt := 24) (sx_di dX12_isRefused 13 rfl) (by decide) (fun _ => ?_) (fun h17 => absurd rfl h17)
  refine V_iconst (v := 0) (sx_di dX12_isRefused 16 rfl) (by decide) ?_
  refine V_zret (sx_di dX12_isRefused 17 rfl) rfl (by first | rfl | decide) (Nat.le_refl _) (Nat.le_refl _) ?_
  exact h
set_option maxHeartbeats 2000000 in
set_option maxRecDepth 20000 in
theorem c_X12_sham {E : sxE} {w : hpW} {Q : Option Value → hpW → Prop} {n m : Nat} {F : wF} {sz fo : Int32 → Int32} {bt : Int32} {m0 s : Nat → Int32} (R : RQ w n m F sz fo bt m0 s) {a : Nat} (ha : hp_i w 381 32 = nI a) (ha4 : a ≤ 40) {x v : Int32} (h0 : ¬ wsham n x v (s (8 + x.toNatClampNeg)) = -1 → Q (some (.int (-1000000))) (rfR_ w (wsham n x v (s (8 + x.toNatClampNeg))).toNatClampNeg)) (h1 : wsham n x v (s (8 + x.toNatClampNeg)) = -1 → ∀ h, h < n → x = nI h → ∀ I, KP w a I → Q (some (.int v)) (hp_wi w (hp_u I 398 (8 + h) v))) : sx_C E mX12_sham 3 0 0 [.ref 381, .int x, .int v] w Q := by
  obtain ⟨hB, hRS, hL, hO, hs⟩ := id R
  obtain ⟨hn, hn8, hm, hm6, hfo, hbt, hb, hm0⟩ := id hRS
  subst hs
  refine C_of (by decide +kernel) (Nat.le_of_ble_eq_true rfl) ?_
  refine V_aload_n (i := 0) (sx_di dX12_sham 0 rfl) rfl rfl ?_
  refine V_aload_n (i := 0) (sx_di dX12_sham 1 rfl) rfl rfl ?_
  refine V_iload_n (i := 1) (sx_di dX12_sham 2 rfl) rfl rfl ?_
  refine V_cV1 (mc' := 0) (ms' := 0) (M' := mX12_isHouse) 2 (sx_di dX12_sham 3 rfl) lX12_311 vX12_isHouse (hB.k _ rfl) (by decide) rfl (Nat.le_of_ble_eq_true rfl) ⟨Nat.le_of_ble_eq_true rfl, Nat.le_of_ble_eq_true rfl⟩ ⟨Nat.le_refl _, Nat.le_refl _⟩ ?_
  refine c_X12_isHouse hB hn hn8 ?_
  refine V_if_ne (tgt := 13) (sx_di dX12_sham 4 rfl) (by decide) (fun h6 => ?_) (fun h6 => ?_)
  · obtain ⟨h, hh, rfl⟩ := ih_ye (by omega) h6
    have hc : (nI h).toNatClampNeg = h := nI_clamp (by omega)
    refine V_iload_n (i := 2) (sx_di dX12_sham 7 rfl) rfl rfl ?_
    refine V_bipush (v := -9) (sx_di dX12_sham 8 rfl) (by decide) ?_
    refine V_bipush (v := 9) (sx_di dX12_sham 9 rfl) (by decide) ?_
    refine V_cS3 (mc' := 0) (ms' := 0) (M' := mX12_in) 1 (sx_di dX12_sham 10 rfl) lX12_214 vX12_in (Nat.le_of_ble_eq_true rfl) ⟨Nat.le_of_ble_eq_true rfl, Nat.le_of_ble_eq_true rfl⟩ ⟨Nat.le_refl _, Nat.le_refl _⟩ ?_
    refine c_X12_in ?_
    refine V_if_ne (tgt := 28) (sx_di dX12_sham 11 rfl) (by decide) (fun h21 => ?_) (fun h21 => ?_)
    · refine V_aload_n (i := 0) (sx_di dX12_sham 14 rfl) rfl rfl ?_
      refine V_getR (sx_di dX12_sham 15 rfl) fX12_58 (fun _ => rfl) (hB.k _ rfl) (hB.r _ _ rfl) ?_
      refine V_bipush (v := 8) (sx_di dX12_sham 16 rfl) (by decide) ?_
      refine V_iload_n (i := 1) (sx_di dX12_sham 17 rfl) rfl rfl ?_
      refine V_iadd (sx_di dX12_sham 18 rfl) ?_
      refine V_ialdN (n := 226) (j := (8 + h)) (sx_di dX12_sham 19 rfl) (hB.k _ rfl) (nx_add (rfl) (rfl)) (by omega) (by omega) ?_
      refine V_iload_n (i := 2) (sx_di dX12_sham 20 rfl) rfl rfl ?_
      refine V_icmp_ne (tgt := 45) (sx_di dX12_sham 21 rfl) (by decide) (fun h38 => ?_) (fun h38 => ?_)
      · refine V_iconst (v := -1) (sx_di dX12_sham 24 rfl) (by decide) ?_
        refine V_cV1 (mc' := 0) (ms' := 0) (M' := mX12_isRefused) 1 (sx_di dX12_sham 25 rfl) lX12_317 vX12_isRefused (hB.k _ rfl) (by decide) rfl (Nat.le_of_ble_eq_true rfl) ⟨Nat.le_of_ble_eq_true rfl, Nat.le_of_ble_eq_true rfl⟩ ⟨Nat.le_refl _, Nat.le_refl _⟩ ?_
        refine e_acc hB ?_
        refine V_if_eq (tgt := 56) (sx_di dX12_sham 26 rfl) (by decide) (fun _ => ?_) (fun h49 => absurd rfl h49)
        refine V_aload_n (i := 0) (sx_di dX12_sham 29 rfl) rfl rfl ?_
        refine V_cV0 (mc' := 0) (ms' := 0) (M' := mX12_keep) 1 (sx_di dX12_sham 30 rfl) lX12_321 vX12_keep (hB.k _ rfl) (by decide) rfl (Nat.le_of_ble_eq_true rfl) ⟨Nat.le_of_ble_eq_true rfl, Nat.le_of_ble_eq_true rfl⟩ ⟨Nat.le_refl _, Nat.le_refl _⟩ ?_
        refine c_X12_keep hB ha ha4 (fun I hI => ?_)
        have e8 : hp_i (hp_wi w I) 398 = hp_i w 398 := hI.1 398 (by decide) (by decide)
        refine V_aload_n (i := 0) (sx_di dX12_sham 31 rfl) rfl rfl ?_
        refine V_getR (sx_di dX12_sham 32 rfl) fX12_58 (fun _ => rfl) (hB.k _ rfl) (hB.r _ _ rfl) ?_
        refine V_bipush (v := 8) (sx_di dX12_sham 33 rfl) (by decide) ?_
        refine V_iload_n (i := 1) (sx_di dX12_sham 34 rfl) rfl rfl ?_
        refine V_iadd (sx_di dX12_sham 35 rfl) ?_
        refine V_iload_n (i := 2) (sx_di dX12_sham 36 rfl) rfl rfl ?_
        refine V_iastN (n := 226) (j := (8 + h)) (sx_di dX12_sham 37 rfl) (hB.k _ rfl) (nx_add (rfl) (rfl)) (by omega) (by omega) ?_
        refine V_iload_n (i := 2) (sx_di dX12_sham 38 rfl) rfl rfl ?_
        refine V_iret (sx_di dX12_sham 39 rfl) rfl (Nat.le_refl _) (Nat.le_refl _) ?_
        have e : wsham n (nI h) v (hp_i w 398 (8 + (nI h).toNatClampNeg)) = -1 := by rw [wsham, if_neg h6, if_neg (in_ye h21), if_neg (by rw [hc]; exact h38)]
        exact h1 e h hh rfl I hI
      · refine V_iconst (v := 2) (sx_di dX12_sham 22 rfl) (by decide) ?_
        refine V_goto (tgt := 46) (sx_di dX12_sham 23 rfl) (by decide) ?_
        refine V_cV1 (mc' := 0) (ms' := 0) (M' := mX12_isRefused) 1 (sx_di dX12_sham 25 rfl) lX12_317 vX12_isRefused (hB.k _ rfl) (by decide) rfl (Nat.le_of_ble_eq_true rfl) ⟨Nat.le_of_ble_eq_true rfl, Nat.le_of_ble_eq_true rfl⟩ ⟨Nat.le_refl _, Nat.le_refl _⟩ ?_
        refine e_ref hB (k := 2) (by omega) ?_
        refine V_if_eq (tgt := 56) (sx_di dX12_sham 26 rfl) (by decide) (fun h49 => absurd h49 (by decide)) (fun _ => ?_)
        refine V_ldcw (sx_di dX12_sham 27 rfl) kX12_320 ?_
        refine V_iret (sx_di dX12_sham 28 rfl) rfl (Nat.le_refl _) (Nat.le_refl _) ?_
        have e : wsham n (nI h) v (hp_i w 398 (8 + (nI h).toNatClampNeg)) = 2 := by rw [wsham, if_neg h6, if_neg (in_ye h21), if_pos (by rw [hc]; exact h38)]
        have q := h0 (by rw [e]; decide)
        rw [e] at q
        exact q
    · refine V_iconst (v := 1) (sx_di dX12_sham 12 rfl) (by decide) ?_
      refine V_goto (tgt := 46) (sx_di dX12_sham 13 rfl) (by decide) ?_
      refine V_cV1 (mc' := 0) (ms' := 0) (M' := mX12_isRefused) 1 (sx_di dX12_sham 25 rfl) lX12_317 vX12_isRefused (hB.k _ rfl) (by decide) rfl (Nat.le_of_ble_eq_true rfl) ⟨Nat.le_of_ble_eq_true rfl, Nat.le_of_ble_eq_true rfl⟩ ⟨Nat.le_refl _, Nat.le_refl _⟩ ?_
      refine e_ref hB (k := 1) (by omega) ?_
      refine V_if_eq (tgt := 56) (sx_di dX12_sham 26 rfl) (by decide) (fun h49 => absurd h49 (by decide)) (fun _ => ?_)
      refine V_ldcw (sx_di dX12_sham 27 rfl) kX12_320 ?_
      refine V_iret (sx_di dX12_sham 28 rfl) rfl (Nat.le_refl _) (Nat.le_refl _) ?_
      have e : wsham n (nI h) v (hp_i w 398 (8 + (nI h).toNatClampNeg)) = 1 := by rw [wsham, if_neg h6, if_pos (in_no h21)]
      have q := h0 (by rw [e]; decide)
      rw [e] at q
      exact q
  · refine V_iconst (v := 0) (sx_di dX12_sham 5 rfl) (by decide) ?_
    refine V_goto (tgt := 46) (sx_di dX12_sham 6 rfl) (by decide) ?_
    refine V_cV1 (mc' := 0) (ms' := 0) (M' := mX12_isRefused) 1 (sx_di dX12_sham 25 rfl) lX12_317 vX12_isRefused (hB.k _ rfl) (by decide) rfl (Nat.le_of_ble_eq_true rfl) ⟨Nat.le_of_ble_eq_true rfl, Nat.le_of_ble_eq_true rfl⟩ ⟨Nat.le_refl _, Nat.le_refl _⟩ ?_
    refine e_ref hB (k := 0) (by omega) ?_
    refine V_if_eq (tgt := 56) (sx_di dX12_sham 26 rfl) (by decide) (fun h49 => absurd h49 (by decide)) (fun _ => ?_)
    refine V_ldcw (sx_di dX12_sham 27 rfl) kX12_320 ?_
    refine V_iret (sx_di dX12_sham 28 rfl) rfl (Nat.le_refl _) (Nat.le_refl _) ?_
    have e : wsham n x v (hp_i w 398 (8 + x.toNatClampNeg)) = 0 := by rw [wsham, if_pos (show ih_ n x = 0 from h6)]
    have q := h0 (by rw [e]; decide)
    rw [e] at q
    exact q
theorem mx_lt {c : Nat} {d : Int32} (hc : c < 2 ^ 31) : nI c < mx_ 0 d ↔ nI c < d := by
  unfold mx_
  by_cases h : 0 < d
  · rw [if_pos h]
  · rw [if_neg h]
    exact ⟨fun z => absurd z (nI_pos hc), fun z => absurd (Int32.lt_of_le_of_lt (nI_pos' hc) z) h⟩
set_option maxHeartbeats 2000000 in
set_option maxRecDepth 20000 in
theorem c_X12_hang {E : sxE} {w : hpW} {Q : Option Value → hpW → Prop} {n m : Nat} {F : wF} {sz fo : Int32 → Int32} {bt : Int32} {m0 s : Nat → Int32} (R : RQ w n m F sz fo bt m0 s) {a : Nat} (ha : hp_i w 381 32 = nI a) (ha4 : a ≤ 40) (hco : ∃ c, c ≤ 999 ∧ s 41 = nI c) {x v : Int32} (h0 : ¬ whang n x v (s (24 + x.toNatClampNeg)) (s 41) = -1 → Q (some (.int (-1))) (rfR_ w (whang n x v (s (24 + x.toNatClampNeg)) (s 41)).toNatClampNeg)) (h1 : whang n x v (s (24 + x.toNatClampNeg)) (s 41) = -1 → ∀ h, h < n → x = nI h → ∀ I, KP w a I → Q (some (.int (s 41 - mx_ 0 (v - s (24 + h))))) (hp_wi w (hp_u (hp_u I 398 41 (s 41 - mx_ 0 (v - s (24 + h)))) 398 (24 + h) v))) : sx_C E mX12_hang 3 0 0 [.ref 381, .int x, .int v] w Q := by
  obtain ⟨hB, hRS, hL, hO, hs⟩ := id R
  obtain ⟨hn, hn8, hm, hm6, hfo, hbt, hb, hm0⟩ := id hRS
  subst hs
  obtain ⟨c, hc9, ec⟩ := hco
  refine C_of (by decide +kernel) (Nat.le_of_ble_eq_true rfl) ?_
  refine V_aload_n (i := 0) (sx_di dX12_hang 0 rfl) rfl rfl ?_
  refine V_aload_n (i := 0) (sx_di dX12_hang 1 rfl) rfl rfl ?_
  refine V_iload_n (i := 1) (sx_di dX12_hang 2 rfl) rfl rfl ?_
  refine V_cV1 (mc' := 0) (ms' := 0) (M' := mX12_isHouse) 2 (sx_di dX12_hang 3 rfl) lX12_311 vX12_isHouse (hB.k _ rfl) (by decide) rfl (Nat.le_of_ble_eq_true rfl) ⟨Nat.le_of_ble_eq_true rfl, Nat.le_of_ble_eq_true rfl⟩ ⟨Nat.le_refl _, Nat.le_refl _⟩ ?_
  refine c_X12_isHouse hB hn hn8 ?_
  refine V_if_ne (tgt := 13) (sx_di dX12_hang 4 rfl) (by decide) (fun h6 => ?_) (fun h6 => ?_)
  · obtain ⟨h, hh, rfl⟩ := ih_ye (by omega) h6
    have hc : (nI h).toNatClampNeg = h := nI_clamp (by omega)
    refine V_iload_n (i := 2) (sx_di dX12_hang 7 rfl) rfl rfl ?_
    refine V_iconst (v := 0) (sx_di dX12_hang 8 rfl) (by decide) ?_
    refine V_bipush (v := 9) (sx_di dX12_hang 9 rfl) (by decide) ?_
    refine V_cS3 (mc' := 0) (ms' := 0) (M' := mX12_in) 1 (sx_di dX12_hang 10 rfl) lX12_214 vX12_in (Nat.le_of_ble_eq_true rfl) ⟨Nat.le_of_ble_eq_true rfl, Nat.le_of_ble_eq_true rfl⟩ ⟨Nat.le_refl _, Nat.le_refl _⟩ ?_
    refine c_X12_in ?_
    refine V_if_ne (tgt := 27) (sx_di dX12_hang 11 rfl) (by decide) (fun h20 => ?_) (fun h20 => ?_)
    · refine V_aload_n (i := 0) (sx_di dX12_hang 14 rfl) rfl rfl ?_
      refine V_getR (sx_di dX12_hang 15 rfl) fX12_58 (fun _ => rfl) (hB.k _ rfl) (hB.r _ _ rfl) ?_
      refine V_bipush (v := 24) (sx_di dX12_hang 16 rfl) (by decide) ?_
      refine V_iload_n (i := 1) (sx_di dX12_hang 17 rfl) rfl rfl ?_
      refine V_iadd (sx_di dX12_hang 18 rfl) ?_
      refine V_ialdN (n := 226) (j := (24 + h)) (sx_di dX12_hang 19 rfl) (hB.k _ rfl) (nx_add (rfl) (rfl)) (by omega) (by omega) ?_
      refine V_iload_n (i := 2) (sx_di dX12_hang 20 rfl) rfl rfl ?_
      refine V_icmp_ne (tgt := 44) (sx_di dX12_hang 21 rfl) (by decide) (fun h37 => ?_) (fun h37 => ?_)
      · refine V_aload_n (i := 0) (sx_di dX12_hang 24 rfl) rfl rfl ?_
        refine V_getR (sx_di dX12_hang 25 rfl) fX12_58 (fun _ => rfl) (hB.k _ rfl) (hB.r _ _ rfl) ?_
        refine V_bipush (v := 41) (sx_di dX12_hang 26 rfl) (by decide) ?_
        refine V_ialdN (n := 226) (j := 41) (sx_di dX12_hang 27 rfl) (hB.k _ rfl) (rfl) (by omega) (by omega) ?_
        refine V_iload_n (i := 2) (sx_di dX12_hang 28 rfl) rfl rfl ?_
        refine V_aload_n (i := 0) (sx_di dX12_hang 29 rfl) rfl rfl ?_
        refine V_getR (sx_di dX12_hang 30 rfl) fX12_58 (fun _ => rfl) (hB.k _ rfl) (hB.r _ _ rfl) ?_
        refine V_bipush (v := 24) (sx_di dX12_hang 31 rfl) (by decide) ?_
        refine V_iload_n (i := 1) (sx_di dX12_hang 32 rfl) rfl rfl ?_
        refine V_iadd (sx_di dX12_hang 33 rfl) ?_
        refine V_ialdN (n := 226) (j := (24 + h)) (sx_di dX12_hang 34 rfl) (hB.k _ rfl) (nx_add (rfl) (rfl)) (by omega) (by omega) ?_
        refine V_isub (sx_di dX12_hang 35 rfl) ?_
        refine V_icmp_ge (tgt := 69) (sx_di dX12_hang 36 rfl) (by decide) (fun h62 => ?_) (fun h62 => ?_)
        · have h63 : ¬ hp_i w 398 41 < mx_ 0 (v - hp_i w 398 (24 + (nI h).toNatClampNeg)) := by rw [hc, ec, mx_lt (by omega), ← ec]; exact Int32.not_lt.mpr h62
          refine V_iconst (v := -1) (sx_di dX12_hang 39 rfl) (by decide) ?_
          refine V_cV1 (mc' := 0) (ms' := 0) (M' := mX12_isRefused) 1 (sx_di dX12_hang 40 rfl) lX12_317 vX12_isRefused (hB.k _ rfl) (by decide) rfl (Nat.le_of_ble_eq_true rfl) ⟨Nat.le_of_ble_eq_true rfl, Nat.le_of_ble_eq_true rfl⟩ ⟨Nat.le_refl _, Nat.le_refl _⟩ ?_
          refine e_acc hB ?_
          refine V_if_eq (tgt := 78) (sx_di dX12_hang 41 rfl) (by decide) (fun _ => ?_) (fun h73 => absurd rfl h73)
          refine V_aload_n (i := 0) (sx_di dX12_hang 44 rfl) rfl rfl ?_
          refine V_cV0 (mc' := 0) (ms' := 0) (M' := mX12_keep) 1 (sx_di dX12_hang 45 rfl) lX12_321 vX12_keep (hB.k _ rfl) (by decide) rfl (Nat.le_of_ble_eq_true rfl) ⟨Nat.le_of_ble_eq_true rfl, Nat.le_of_ble_eq_true rfl⟩ ⟨Nat.le_refl _, Nat.le_refl _⟩ ?_
          refine c_X12_keep hB ha ha4 (fun I hI => ?_)
          have e8 : hp_i (hp_wi w I) 398 = hp_i w 398 := hI.1 398 (by decide) (by decide)
          refine V_aload_n (i := 0) (sx_di dX12_hang 46 rfl) rfl rfl ?_
          refine V_getR (sx_di dX12_hang 47 rfl) fX12_58 (fun _ => rfl) (hB.k _ rfl) (hB.r _ _ rfl) ?_
          refine V_bipush (v := 41) (sx_di dX12_hang 48 rfl) (by decide) ?_
          refine V_dup2 (sx_di dX12_hang 49 rfl) rfl rfl ?_
          refine V_ialdN (n := 226) (j := 41) (sx_di dX12_hang 50 rfl) (hB.k _ rfl) (rfl) (by omega) (by omega) ?_
          rw [e8]
          refine V_iconst (v := 0) (sx_di dX12_hang 51 rfl) (by decide) ?_
          refine V_iload_n (i := 2) (sx_di dX12_hang 52 rfl) rfl rfl ?_
          refine V_aload_n (i := 0) (sx_di dX12_hang 53 rfl) rfl rfl ?_
          refine V_getR (sx_di dX12_hang 54 rfl) fX12_58 (fun _ => rfl) (hB.k _ rfl) (hB.r _ _ rfl) ?_
          refine V_bipush (v := 24) (sx_di dX12_hang 55 rfl) (by decide) ?_
          refine V_iload_n (i := 1) (sx_di dX12_hang 56 rfl) rfl rfl ?_
          refine V_iadd (sx_di dX12_hang 57 rfl) ?_
          refine V_ialdN (n := 226) (j := (24 + h)) (sx_di dX12_hang 58 rfl) (hB.k _ rfl) (nx_add (rfl) (rfl)) (by omega) (by omega) ?_
          rw [e8]
          refine V_isub (sx_di dX12_hang 59 rfl) ?_
          refine V_mmax (sx_di dX12_hang 60 rfl) (sx_a6 223 rfl rfl) (sx_a3 186 rfl rfl) (sx_a1 22 rfl rfl) (sx_a3 187 rfl rfl) ⟨Nat.le_of_ble_eq_true rfl, Nat.le_of_ble_eq_true rfl, Nat.le_refl _, Nat.le_refl _⟩ ?_
          refine V_isub (sx_di dX12_hang 61 rfl) ?_
          refine V_iastN (n := 226) (j := 41) (sx_di dX12_hang 62 rfl) (hB.k _ rfl) (rfl) (by omega) (by omega) ?_
          refine V_aload_n (i := 0) (sx_di dX12_hang 63 rfl) rfl rfl ?_
          refine V_getR (sx_di dX12_hang 64 rfl) fX12_58 (fun _ => rfl) (hB.k _ rfl) (hB.r _ _ rfl) ?_
          refine V_bipush (v := 24) (sx_di dX12_hang 65 rfl) (by decide) ?_
          refine V_iload_n (i := 1) (sx_di dX12_hang 66 rfl) rfl rfl ?_
          refine V_iadd (sx_di dX12_hang 67 rfl) ?_
          refine V_iload_n (i := 2) (sx_di dX12_hang 68 rfl) rfl rfl ?_
          refine V_iastN (n := 226) (j := (24 + h)) (sx_di dX12_hang 69 rfl) (hB.k _ rfl) (nx_add (rfl) (rfl)) (by omega) (by omega) ?_
          refine V_aload_n (i := 0) (sx_di dX12_hang 70 rfl) rfl rfl ?_
          refine V_getR (sx_di dX12_hang 71 rfl) fX12_58 (fun _ => rfl) (hB.k _ rfl) (hB.r _ _ rfl) ?_
          refine V_bipush (v := 41) (sx_di dX12_hang 72 rfl) (by decide) ?_
          refine V_ialdN (n := 226) (j := 41) (sx_di dX12_hang 73 rfl) (hB.k _ rfl) (rfl) (by omega) (by omega) ?_
          refine V_iret (sx_di dX12_hang 74 rfl) rfl (Nat.le_refl _) (Nat.le_refl _) ?_
          have e : whang n (nI h) v (hp_i w 398 (24 + (nI h).toNatClampNeg)) (hp_i w 398 41) = -1 := by rw [whang, if_neg h6, if_neg (in_ye h20), if_neg (by rw [hc]; exact h37), if_neg h63]
          refine Q_int (h1 e h hh rfl I hI) ?_
          rw [hp_i_si, if_neg (by omega), hp_i_at]
        · have h63 : hp_i w 398 41 < mx_ 0 (v - hp_i w 398 (24 + (nI h).toNatClampNeg)) := by rw [hc, ec, mx_lt (by omega), ← ec]; exact Int32.not_le.mp h62
          refine V_iconst (v := 3) (sx_di dX12_hang 37 rfl) (by decide) ?_
          refine V_goto (tgt := 70) (sx_di dX12_hang 38 rfl) (by decide) ?_
          refine V_cV1 (mc' := 0) (ms' := 0) (M' := mX12_isRefused) 1 (sx_di dX12_hang 40 rfl) lX12_317 vX12_isRefused (hB.k _ rfl) (by decide) rfl (Nat.le_of_ble_eq_true rfl) ⟨Nat.le_of_ble_eq_true rfl, Nat.le_of_ble_eq_true rfl⟩ ⟨Nat.le_refl _, Nat.le_refl _⟩ ?_
          refine e_ref hB (k := 3) (by omega) ?_
          refine V_if_eq (tgt := 78) (sx_di dX12_hang 41 rfl) (by decide) (fun h73 => absurd h73 (by decide)) (fun _ => ?_)
          refine V_iconst (v := -1) (sx_di dX12_hang 42 rfl) (by decide) ?_
          refine V_iret (sx_di dX12_hang 43 rfl) rfl (Nat.le_refl _) (Nat.le_refl _) ?_
          have e : whang n (nI h) v (hp_i w 398 (24 + (nI h).toNatClampNeg)) (hp_i w 398 41) = 3 := by rw [whang, if_neg h6, if_neg (in_ye h20), if_neg (by rw [hc]; exact h37), if_pos h63]
          have q := h0 (by rw [e]; decide)
          rw [e] at q
          exact q
      · refine V_iconst (v := 2) (sx_di dX12_hang 22 rfl) (by decide) ?_
        refine V_goto (tgt := 70) (sx_di dX12_hang 23 rfl) (by decide) ?_
        refine V_cV1 (mc' := 0) (ms' := 0) (M' := mX12_isRefused) 1 (sx_di dX12_hang 40 rfl) lX12_317 vX12_isRefused (hB.k _ rfl) (by decide) rfl (Nat.le_of_ble_eq_true rfl) ⟨Nat.le_of_ble_eq_true rfl, Nat.le_of_ble_eq_true rfl⟩ ⟨Nat.le_refl _, Nat.le_refl _⟩ ?_
        refine e_ref hB (k := 2) (by omega) ?_
        refine V_if_eq (tgt := 78) (sx_di dX12_hang 41 rfl) (by decide) (fun h73 => absurd h73 (by decide)) (fun _ => ?_)
        refine V_iconst (v := -1) (sx_di dX12_hang 42 rfl) (by decide) ?_
        refine V_iret (sx_di dX12_hang 43 rfl) rfl (Nat.le_refl _) (Nat.le_refl _) ?_
        have e : whang n (nI h) v (hp_i w 398 (24 + (nI h).toNatClampNeg)) (hp_i w 398 41) = 2 := by rw [whang, if_neg h6, if_neg (in_ye h20), if_pos (by rw [hc]; exact h37)]
        have q := h0 (by rw [e]; decide)
        rw [e] at q
        exact q
    · refine V_iconst (v := 1) (sx_di dX12_hang 12 rfl) (by decide) ?_
      refine V_goto (tgt := 70) (sx_di dX12_hang 13 rfl) (by decide) ?_
      refine V_cV1 (mc' := 0) (ms' := 0) (M' := mX12_isRefused) 1 (sx_di dX12_hang 40 rfl) lX12_317 vX12_isRefused (hB.k _ rfl) (by decide) rfl (Nat.le_of_ble_eq_true rfl) ⟨Nat.le_of_ble_eq_true rfl, Nat.le_of_ble_eq_true rfl⟩ ⟨Nat.le_refl _, Nat.le_refl _⟩ ?_
      refine e_ref hB (k := 1) (by omega) ?_
      refine V_if_eq (tgt := 78) (sx_di dX12_hang 41 rfl) (by decide) (fun h73 => absurd h73 (by decide)) (fun _ => ?_)
      refine V_iconst (v := -1) (sx_di dX12_hang 42 rfl) (by decide) ?_
      refine V_iret (sx_di dX12_hang 43 rfl) rfl (Nat.le_refl _) (Nat.le_refl _) ?_
      have e : whang n (nI h) v (hp_i w 398 (24 + (nI h).toNatClampNeg)) (hp_i w 398 41) = 1 := by rw [whang, if_neg h6, if_pos (in_no h20)]
      have q := h0 (by rw [e]; decide)
      rw [e] at q
      exact q
  · refine V_iconst (v := 0) (sx_di dX12_hang 5 rfl) (by decide) ?_
    refine V_goto (tgt := 70) (sx_di dX12_hang 6 rfl) (by decide) ?_
    refine V_cV1 (mc' := 0) (ms' := 0) (M' := mX12_isRefused) 1 (sx_di dX12_hang 40 rfl) lX12_317 vX12_isRefused (hB.k _ rfl) (by decide) rfl (Nat.le_of_ble_eq_true rfl) ⟨Nat.le_of_ble_eq_true rfl, Nat.le_of_ble_eq_true rfl⟩ ⟨Nat.le_refl _, Nat.le_refl _⟩ ?_
    refine e_ref hB (k := 0) (by omega) ?_
    refine V_if_eq (tgt := 78) (sx_di dX12_hang 41 rfl) (by decide) (fun h73 => absurd h73 (by decide)) (fun _ => ?_)
    refine V_iconst (v := -1) (sx_di dX12_hang 42 rfl) (by decide) ?_
    refine V_iret (sx_di dX12_hang 43 rfl) rfl (Nat.le_refl _) (Nat.le_refl _) ?_
    have e : whang n x v (hp_i w 398 (24 + x.toNatClampNeg)) (hp_i w 398 41) = 0 := by rw [whang, if_pos (show ih_ n x = 0 from h6)]
    have q := h0 (by rw [e]; decide)
    rw [e] at q
    exact q
set_option maxHeartbeats 2000000 in
set_option maxRecDepth 20000 in
theorem c_X12_whiten {E : sxE} {w : hpW} {Q : Option Value → hpW → Prop} {n m : Nat} {F : wF} {sz fo : Int32 → Int32} {bt : Int32} {m0 s : Nat → Int32} (R : RQ w n m F sz fo bt m0 s) {a : Nat} (ha : hp_i w 381 32 = nI a) (ha4 : a ≤ 40) {x : Int32} (h0 : ¬ wwhit n x (s (16 + x.toNatClampNeg)) (s 41) = -1 → Q (some (.int (-1))) (rfR_ w (wwhit n x (s (16 + x.toNatClampNeg)) (s 41)).toNatClampNeg)) (h1 : wwhit n x (s (16 + x.toNatClampNeg)) (s 41) = -1 → ∀ h, h < n → x = nI h → ∀ I, KP w a I → Q (some (.int (s 41 - 2))) (hp_wi w (hp_u (hp_u I 398 (16 + h) (s (16 + h) + 1)) 398 41 (s 41 - 2)))) : sx_C E mX12_whiten 3 0 0 [.ref 381, .int x] w Q := by
  obtain ⟨hB, hRS, hL, hO, hs⟩ := id R
  obtain ⟨hn, hn8, hm, hm6, hfo, hbt, hb, hm0⟩ := id hRS
  subst hs
  refine C_of (by decide +kernel) (Nat.le_of_ble_eq_true rfl) ?_
  refine V_aload_n (i := 0) (sx_di dX12_whiten 0 rfl) rfl rfl ?_
  refine V_aload_n (i := 0) (sx_di dX12_whiten 1 rfl) rfl rfl ?_
  refine V_iload_n (i := 1) (sx_di dX12_whiten 2 rfl) rfl rfl ?_
  refine V_cV1 (mc' := 0) (ms' := 0) (M' := mX12_isHouse) 2 (sx_di dX12_whiten 3 rfl) lX12_311 vX12_isHouse (hB.k _ rfl) (by decide) rfl (Nat.le_of_ble_eq_true rfl) ⟨Nat.le_of_ble_eq_true rfl, Nat.le_of_ble_eq_true rfl⟩ ⟨Nat.le_refl _, Nat.le_refl _⟩ ?_
  refine c_X12_isHouse hB hn hn8 ?_
  refine V_if_ne (tgt := 13) (sx_di dX12_whiten 4 rfl) (by decide) (fun h6 => ?_) (fun h6 => ?_)
  · obtain ⟨h, hh, rfl⟩ := ih_ye (by omega) h6
    have hc : (nI h).toNatClampNeg = h := nI_clamp (by omega)
    obtain ⟨k9, hk9, ek9⟩ := (hO.1 h hh).2.2.1
    refine V_aload_n (i := 0) (sx_di dX12_whiten 7 rfl) rfl rfl ?_
    refine V_getR (sx_di dX12_whiten 8 rfl) fX12_58 (fun _ => rfl) (hB.k _ rfl) (hB.r _ _ rfl) ?_
    refine V_bipush (v := 16) (sx_di dX12_whiten 9 rfl) (by decide) ?_
    refine V_iload_n (i := 1) (sx_di dX12_whiten 10 rfl) rfl rfl ?_
    refine V_iadd (sx_di dX12_whiten 11 rfl) ?_
    refine V_ialdN (n := 226) (j := (16 + h)) (sx_di dX12_whiten 12 rfl) (hB.k _ rfl) (nx_add (rfl) (rfl)) (by omega) (by omega) ?_
    refine V_bipush (v := 9) (sx_di dX12_whiten 13 rfl) (by decide) ?_
    refine V_icN_ne (a := k9) (b := 9) (ek9) (rfl) (by omega) (by omega) (tgt := 31) (sx_di dX12_whiten 14 rfl) (by decide) (fun h24 => ?_) (fun h24 => ?_)
    · have h25 : ¬ 9 ≤ hp_i w 398 (16 + (nI h).toNatClampNeg) := by rw [hc, ek9]; exact fun z => absurd ((nI_leI (a := 9) (b := k9) (by omega) (by omega)).mp z) (by omega)
      refine V_aload_n (i := 0) (sx_di dX12_whiten 17 rfl) rfl rfl ?_
      refine V_getR (sx_di dX12_whiten 18 rfl) fX12_58 (fun _ => rfl) (hB.k _ rfl) (hB.r _ _ rfl) ?_
      refine V_bipush (v := 41) (sx_di dX12_whiten 19 rfl) (by decide) ?_
      refine V_ialdN (n := 226) (j := 41) (sx_di dX12_whiten 20 rfl) (hB.k _ rfl) (rfl) (by omega) (by omega) ?_
      refine V_iconst (v := 2) (sx_di dX12_whiten 21 rfl) (by decide) ?_
      refine V_icmp_ge (tgt := 46) (sx_di dX12_whiten 22 rfl) (by decide) (fun h39 => ?_) (fun h39 => ?_)
      · refine V_iconst (v := -1) (sx_di dX12_whiten 25 rfl) (by decide) ?_
        refine V_cV1 (mc' := 0) (ms' := 0) (M' := mX12_isRefused) 1 (sx_di dX12_whiten 26 rfl) lX12_317 vX12_isRefused (hB.k _ rfl) (by decide) rfl (Nat.le_of_ble_eq_true rfl) ⟨Nat.le_of_ble_eq_true rfl, Nat.le_of_ble_eq_true rfl⟩ ⟨Nat.le_refl _, Nat.le_refl _⟩ ?_
        refine e_acc hB ?_
        refine V_if_eq (tgt := 55) (sx_di dX12_whiten 27 rfl) (by decide) (fun _ => ?_) (fun h50 => absurd rfl h50)
        refine V_aload_n (i := 0) (sx_di dX12_whiten 30 rfl) rfl rfl ?_
        refine V_cV0 (mc' := 0) (ms' := 0) (M' := mX12_keep) 1 (sx_di dX12_whiten 31 rfl) lX12_321 vX12_keep (hB.k _ rfl) (by decide) rfl (Nat.le_of_ble_eq_true rfl) ⟨Nat.le_of_ble_eq_true rfl, Nat.le_of_ble_eq_true rfl⟩ ⟨Nat.le_refl _, Nat.le_refl _⟩ ?_
        refine c_X12_keep hB ha ha4 (fun I hI => ?_)
        have e8 : hp_i (hp_wi w I) 398 = hp_i w 398 := hI.1 398 (by decide) (by decide)
        refine V_aload_n (i := 0) (sx_di dX12_whiten 32 rfl) rfl rfl ?_
        refine V_getR (sx_di dX12_whiten 33 rfl) fX12_58 (fun _ => rfl) (hB.k _ rfl) (hB.r _ _ rfl) ?_
        refine V_bipush (v := 16) (sx_di dX12_whiten 34 rfl) (by decide) ?_
        refine V_iload_n (i := 1) (sx_di dX12_whiten 35 rfl) rfl rfl ?_
        refine V_iadd (sx_di dX12_whiten 36 rfl) ?_
        refine V_dup2 (sx_di dX12_whiten 37 rfl) rfl rfl ?_
        refine V_ialdN (n := 226) (j := (16 + h)) (sx_di dX12_whiten 38 rfl) (hB.k _ rfl) (nx_add (rfl) (rfl)) (by omega) (by omega) ?_
        rw [e8]
        refine V_iconst (v := 1) (sx_di dX12_whiten 39 rfl) (by decide) ?_
        refine V_iadd (sx_di dX12_whiten 40 rfl) ?_
        refine V_iastN (n := 226) (j := (16 + h)) (sx_di dX12_whiten 41 rfl) (hB.k _ rfl) (nx_add (rfl) (rfl)) (by omega) (by omega) ?_
        refine V_aload_n (i := 0) (sx_di dX12_whiten 42 rfl) rfl rfl ?_
        refine V_getR (sx_di dX12_whiten 43 rfl) fX12_58 (fun _ => rfl) (hB.k _ rfl) (hB.r _ _ rfl) ?_
        refine V_bipush (v := 41) (sx_di dX12_whiten 44 rfl) (by decide) ?_
        refine V_dup2 (sx_di dX12_whiten 45 rfl) rfl rfl ?_
        refine V_ialdN (n := 226) (j := 41) (sx_di dX12_whiten 46 rfl) (hB.k _ rfl) (rfl) (by omega) (by omega) ?_
        rw [show hp_i (hp_si (hp_wi w I) 398 (16 + h) (hp_i w 398 (16 + h) + 1)) 398 41 = hp_i w 398 41 from (hp_u_nk _ _ (by omega)).trans (congrFun e8 41)]
        refine V_iconst (v := 2) (sx_di dX12_whiten 47 rfl) (by decide) ?_
        refine V_isub (sx_di dX12_whiten 48 rfl) ?_
        refine V_iastN (n := 226) (j := 41) (sx_di dX12_whiten 49 rfl) (hB.k _ rfl) (rfl) (by omega) (by omega) ?_
        refine V_aload_n (i := 0) (sx_di dX12_whiten 50 rfl) rfl rfl ?_
        refine V_getR (sx_di dX12_whiten 51 rfl) fX12_58 (fun _ => rfl) (hB.k _ rfl) (hB.r _ _ rfl) ?_
        refine V_bipush (v := 41) (sx_di dX12_whiten 52 rfl) (by decide) ?_
        refine V_ialdN (n := 226) (j := 41) (sx_di dX12_whiten 53 rfl) (hB.k _ rfl) (rfl) (by omega) (by omega) ?_
        refine V_iret (sx_di dX12_whiten 54 rfl) rfl (Nat.le_refl _) (Nat.le_refl _) ?_
        have e : wwhit n (nI h) (hp_i w 398 (16 + (nI h).toNatClampNeg)) (hp_i w 398 41) = -1 := by rw [wwhit, if_neg h6, if_neg h25, if_neg (Int32.not_lt.mpr h39)]
        refine Q_int (h1 e h hh rfl I hI) ?_
        exact (hp_i_at _ _ _ _).symm
      · refine V_iconst (v := 3) (sx_di dX12_whiten 23 rfl) (by decide) ?_
        refine V_goto (tgt := 47) (sx_di dX12_whiten 24 rfl) (by decide) ?_
        refine V_cV1 (mc' := 0) (ms' := 0) (M' := mX12_isRefused) 1 (sx_di dX12_whiten 26 rfl) lX12_317 vX12_isRefused (hB.k _ rfl) (by decide) rfl (Nat.le_of_ble_eq_true rfl) ⟨Nat.le_of_ble_eq_true rfl, Nat.le_of_ble_eq_true rfl⟩ ⟨Nat.le_refl _, Nat.le_refl _⟩ ?_
        refine e_ref hB (k := 3) (by omega) ?_
        refine V_if_eq (tgt := 55) (sx_di dX12_whiten 27 rfl) (by decide) (fun h50 => absurd h50 (by decide)) (fun _ => ?_)
        refine V_iconst (v := -1) (sx_di dX12_whiten 28 rfl) (by decide) ?_
        refine V_iret (sx_di dX12_whiten 29 rfl) rfl (Nat.le_refl _) (Nat.le_refl _) ?_
        have e : wwhit n (nI h) (hp_i w 398 (16 + (nI h).toNatClampNeg)) (hp_i w 398 41) = 3 := by rw [wwhit, if_neg h6, if_neg h25, if_pos (Int32.not_le.mp h39)]
        have q := h0 (by rw [e]; decide)
        rw [e] at q
        exact q
    · have h25 : 9 ≤ hp_i w 398 (16 + (nI h).toNatClampNeg) := by rw [hc, ek9, h24]; decide
      refine V_iconst (v := 2) (sx_di dX12_whiten 15 rfl) (by decide) ?_
      refine V_goto (tgt := 47) (sx_di dX12_whiten 16 rfl) (by decide) ?_
      refine V_cV1 (mc' := 0) (ms' := 0) (M' := mX12_isRefused) 1 (sx_di dX12_whiten 26 rfl) lX12_317 vX12_isRefused (hB.k _ rfl) (by decide) rfl (Nat.le_of_ble_eq_true rfl) ⟨Nat.le_of_ble_eq_true rfl, Nat.le_of_ble_eq_true rfl⟩ ⟨Nat.le_refl _, Nat.le_refl _⟩ ?_
      refine e_ref hB (k := 2) (by omega) ?_
      refine V_if_eq (tgt := 55) (sx_di dX12_whiten 27 rfl) (by decide) (fun h50 => absurd h50 (by decide)) (fun _ => ?_)
      refine V_iconst (v := -1) (sx_di dX12_whiten 28 rfl) (by decide) ?_
      refine V_iret (sx_di dX12_whiten 29 rfl) rfl (Nat.le_refl _) (Nat.le_refl _) ?_
      have e : wwhit n (nI h) (hp_i w 398 (16 + (nI h).toNatClampNeg)) (hp_i w 398 41) = 2 := by rw [wwhit, if_neg h6, if_pos h25]
      have q := h0 (by rw [e]; decide)
      rw [e] at q
      exact q
  · refine V_iconst (v := 0) (sx_di dX12_whiten 5 rfl) (by decide) ?_
    refine V_goto (tgt := 47) (sx_di dX12_whiten 6 rfl) (by decide) ?_
    refine V_cV1 (mc' := 0) (ms' := 0) (M' := mX12_isRefused) 1 (sx_di dX12_whiten 26 rfl) lX12_317 vX12_isRefused (hB.k _ rfl) (by decide) rfl (Nat.le_of_ble_eq_true rfl) ⟨Nat.le_of_ble_eq_true rfl, Nat.le_of_ble_eq_true rfl⟩ ⟨Nat.le_refl _, Nat.le_refl _⟩ ?_
    refine e_ref hB (k := 0) (by omega) ?_
    refine V_if_eq (tgt := 55) (sx_di dX12_whiten 27 rfl) (by decide) (fun h50 => absurd h50 (by decide)) (fun _ => ?_)
    refine V_iconst (v := -1) (sx_di dX12_whiten 28 rfl) (by decide) ?_
    refine V_iret (sx_di dX12_whiten 29 rfl) rfl (Nat.le_refl _) (Nat.le_refl _) ?_
    have e : wwhit n x (hp_i w 398 (16 + x.toNatClampNeg)) (hp_i w 398 41) = 0 := by rw [wwhit, if_pos (show ih_ n x = 0 from h6)]
    have q := h0 (by rw [e]; decide)
    rw [e] at q
    exact q
set_option maxHeartbeats 2000000 in
set_option maxRecDepth 20000 in
theorem c_X12_piano {E : sxE} {w : hpW} {Q : Option Value → hpW → Prop} {n m : Nat} {F : wF} {sz fo : Int32 → Int32} {bt : Int32} {m0 s : Nat → Int32} (R : RQ w n m F sz fo bt m0 s) {a : Nat} (ha : hp_i w 381 32 = nI a) (ha4 : a ≤ 40) {x : Int32} (h0 : ¬ wpian n x (s 40) (s 41) = -1 → Q (some (.int (-1))) (rfR_ w (wpian n x (s 40) (s 41)).toNatClampNeg)) (h1 : wpian n x (s 40) (s 41) = -1 → ∀ h, h < n → x = nI h → ∀ I, KP w a I → Q (some (.int (s 41 - 3))) (hp_wi w (hp_u (hp_u I 398 40 (s 40 ||| 1 <<< (nI h &&& 31))) 398 41 (s 41 - 3)))) : sx_C E mX12_piano 3 0 0 [.ref 381, .int x] w Q := by
  obtain ⟨hB, hRS, hL, hO, hs⟩ := id R
  obtain ⟨hn, hn8, hm, hm6, hfo, hbt, hb, hm0⟩ := id hRS
  subst hs
  refine C_of (by decide +kernel) (Nat.le_of_ble_eq_true rfl) ?_
  refine V_aload_n (i := 0) (sx_di dX12_piano 0 rfl) rfl rfl ?_
  refine V_aload_n (i := 0) (sx_di dX12_piano 1 rfl) rfl rfl ?_
  refine V_iload_n (i := 1) (sx_di dX12_piano 2 rfl) rfl rfl ?_
  refine V_cV1 (mc' := 0) (ms' := 0) (M' := mX12_isHouse) 2 (sx_di dX12_piano 3 rfl) lX12_311 vX12_isHouse (hB.k _ rfl) (by decide) rfl (Nat.le_of_ble_eq_true rfl) ⟨Nat.le_of_ble_eq_true rfl, Nat.le_of_ble_eq_true rfl⟩ ⟨Nat.le_refl _, Nat.le_refl _⟩ ?_
  refine c_X12_isHouse hB hn hn8 ?_
  refine V_if_ne (tgt := 13) (sx_di dX12_piano 4 rfl) (by decide) (fun h6 => ?_) (fun h6 => ?_)
  · obtain ⟨h, hh, rfl⟩ := ih_ye (by omega) h6
    have hc : (nI h).toNatClampNeg = h := nI_clamp (by omega)
    refine V_aload_n (i := 0) (sx_di dX12_piano 7 rfl) rfl rfl ?_
    refine V_getR (sx_di dX12_piano 8 rfl) fX12_58 (fun _ => rfl) (hB.k _ rfl) (hB.r _ _ rfl) ?_
    refine V_bipush (v := 40) (sx_di dX12_piano 9 rfl) (by decide) ?_
    refine V_ialdN (n := 226) (j := 40) (sx_di dX12_piano 10 rfl) (hB.k _ rfl) (rfl) (by omega) (by omega) ?_
    refine V_iload_n (i := 1) (sx_di dX12_piano 11 rfl) rfl rfl ?_
    refine V_cS2 (mc' := 0) (ms' := 0) (M' := mX12_has) 1 (sx_di dX12_piano 12 rfl) lX12_225 vX12_has (Nat.le_of_ble_eq_true rfl) ⟨Nat.le_of_ble_eq_true rfl, Nat.le_of_ble_eq_true rfl⟩ ⟨Nat.le_refl _, Nat.le_refl _⟩ ?_
    refine c_X12_has ?_
    refine V_if_eq (tgt := 31) (sx_di dX12_piano 13 rfl) (by decide) (fun h24 => ?_) (fun h24 => ?_)
    · have h25 : ¬ ¬ (hp_i w 398 40 >>> (nI h &&& 31)) &&& 1 = 0 := fun z => (and1 _).elim z (fun z => absurd h24 (by rw [if_pos z]; decide))
      refine V_aload_n (i := 0) (sx_di dX12_piano 16 rfl) rfl rfl ?_
      refine V_getR (sx_di dX12_piano 17 rfl) fX12_58 (fun _ => rfl) (hB.k _ rfl) (hB.r _ _ rfl) ?_
      refine V_bipush (v := 41) (sx_di dX12_piano 18 rfl) (by decide) ?_
      refine V_ialdN (n := 226) (j := 41) (sx_di dX12_piano 19 rfl) (hB.k _ rfl) (rfl) (by omega) (by omega) ?_
      refine V_iconst (v := 3) (sx_di dX12_piano 20 rfl) (by decide) ?_
      refine V_icmp_ge (tgt := 46) (sx_di dX12_piano 21 rfl) (by decide) (fun h39 => ?_) (fun h39 => ?_)
      · refine V_iconst (v := -1) (sx_di dX12_piano 24 rfl) (by decide) ?_
        refine V_cV1 (mc' := 0) (ms' := 0) (M' := mX12_isRefused) 1 (sx_di dX12_piano 25 rfl) lX12_317 vX12_isRefused (hB.k _ rfl) (by decide) rfl (Nat.le_of_ble_eq_true rfl) ⟨Nat.le_of_ble_eq_true rfl, Nat.le_of_ble_eq_true rfl⟩ ⟨Nat.le_refl _, Nat.le_refl _⟩ ?_
        refine e_acc hB ?_
        refine V_if_eq (tgt := 55) (sx_di dX12_piano 26 rfl) (by decide) (fun _ => ?_) (fun h50 => absurd rfl h50)
        refine V_aload_n (i := 0) (sx_di dX12_piano 29 rfl) rfl rfl ?_
        refine V_cV0 (mc' := 0) (ms' := 0) (M' := mX12_keep) 1 (sx_di dX12_piano 30 rfl) lX12_321 vX12_keep (hB.k _ rfl) (by decide) rfl (Nat.le_of_ble_eq_true rfl) ⟨Nat.le_of_ble_eq_true rfl, Nat.le_of_ble_eq_true rfl⟩ ⟨Nat.le_refl _, Nat.le_refl _⟩ ?_
        refine c_X12_keep hB ha ha4 (fun I hI => ?_)
        have e8 : hp_i (hp_wi w I) 398 = hp_i w 398 := hI.1 398 (by decide) (by decide)
        refine V_aload_n (i := 0) (sx_di dX12_piano 31 rfl) rfl rfl ?_
        refine V_getR (sx_di dX12_piano 32 rfl) fX12_58 (fun _ => rfl) (hB.k _ rfl) (hB.r _ _ rfl) ?_
        refine V_bipush (v := 40) (sx_di dX12_piano 33 rfl) (by decide) ?_
        refine V_dup2 (sx_di dX12_piano 34 rfl) rfl rfl ?_
        refine V_ialdN (n := 226) (j := 40) (sx_di dX12_piano 35 rfl) (hB.k _ rfl) (rfl) (by omega) (by omega) ?_
        rw [e8]
        refine V_iconst (v := 1) (sx_di dX12_piano 36 rfl) (by decide) ?_
        refine V_iload_n (i := 1) (sx_di dX12_piano 37 rfl) rfl rfl ?_
        refine V_ishl (sx_di dX12_piano 38 rfl) ?_
        refine V_ior (sx_di dX12_piano 39 rfl) ?_
        refine V_iastN (n := 226) (j := 40) (sx_di dX12_piano 40 rfl) (hB.k _ rfl) (rfl) (by omega) (by omega) ?_
        refine V_aload_n (i := 0) (sx_di dX12_piano 41 rfl) rfl rfl ?_
        refine V_getR (sx_di dX12_piano 42 rfl) fX12_58 (fun _ => rfl) (hB.k _ rfl) (hB.r _ _ rfl) ?_
        refine V_bipush (v := 41) (sx_di dX12_piano 43 rfl) (by decide) ?_
        refine V_dup2 (sx_di dX12_piano 44 rfl) rfl rfl ?_
        refine V_ialdN (n := 226) (j := 41) (sx_di dX12_piano 45 rfl) (hB.k _ rfl) (rfl) (by omega) (by omega) ?_
        rw [show hp_i (hp_si (hp_wi w I) 398 40 (hp_i w 398 40 ||| 1 <<< (nI h &&& 31))) 398 41 = hp_i w 398 41 from congrFun e8 41]
        refine V_iconst (v := 3) (sx_di dX12_piano 46 rfl) (by decide) ?_
        refine V_isub (sx_di dX12_piano 47 rfl) ?_
        refine V_iastN (n := 226) (j := 41) (sx_di dX12_piano 48 rfl) (hB.k _ rfl) (rfl) (by omega) (by omega) ?_
        refine V_aload_n (i := 0) (sx_di dX12_piano 49 rfl) rfl rfl ?_
        refine V_getR (sx_di dX12_piano 50 rfl) fX12_58 (fun _ => rfl) (hB.k _ rfl) (hB.r _ _ rfl) ?_
        refine V_bipush (v := 41) (sx_di dX12_piano 51 rfl) (by decide) ?_
        refine V_ialdN (n := 226) (j := 41) (sx_di dX12_piano 52 rfl) (hB.k _ rfl) (rfl) (by omega) (by omega) ?_
        refine V_iret (sx_di dX12_piano 53 rfl) rfl (Nat.le_refl _) (Nat.le_refl _) ?_
        have e : wpian n (nI h) (hp_i w 398 40) (hp_i w 398 41) = -1 := by rw [wpian, if_neg h6, if_neg h25, if_neg (Int32.not_lt.mpr h39)]
        refine Q_int (h1 e h hh rfl I hI) ?_
        exact (hp_i_at _ _ _ _).symm
      · refine V_iconst (v := 3) (sx_di dX12_piano 22 rfl) (by decide) ?_
        refine V_goto (tgt := 47) (sx_di dX12_piano 23 rfl) (by decide) ?_
        refine V_cV1 (mc' := 0) (ms' := 0) (M' := mX12_isRefused) 1 (sx_di dX12_piano 25 rfl) lX12_317 vX12_isRefused (hB.k _ rfl) (by decide) rfl (Nat.le_of_ble_eq_true rfl) ⟨Nat.le_of_ble_eq_true rfl, Nat.le_of_ble_eq_true rfl⟩ ⟨Nat.le_refl _, Nat.le_refl _⟩ ?_
        refine e_ref hB (k := 3) (by omega) ?_
        refine V_if_eq (tgt := 55) (sx_di dX12_piano 26 rfl) (by decide) (fun h50 => absurd h50 (by decide)) (fun _ => ?_)
        refine V_iconst (v := -1) (sx_di dX12_piano 27 rfl) (by decide) ?_
        refine V_iret (sx_di dX12_piano 28 rfl) rfl (Nat.le_refl _) (Nat.le_refl _) ?_
        have e : wpian n (nI h) (hp_i w 398 40) (hp_i w 398 41) = 3 := by rw [wpian, if_neg h6, if_neg h25, if_pos (Int32.not_le.mp h39)]
        have q := h0 (by rw [e]; decide)
        rw [e] at q
        exact q
    · have h25 : ¬ (hp_i w 398 40 >>> (nI h &&& 31)) &&& 1 = 0 := fun z => h24 (by rw [z]; rfl)
      refine V_iconst (v := 2) (sx_di dX12_piano 14 rfl) (by decide) ?_
      refine V_goto (tgt := 47) (sx_di dX12_piano 15 rfl) (by decide) ?_
      refine V_cV1 (mc' := 0) (ms' := 0) (M' := mX12_isRefused) 1 (sx_di dX12_piano 25 rfl) lX12_317 vX12_isRefused (hB.k _ rfl) (by decide) rfl (Nat.le_of_ble_eq_true rfl) ⟨Nat.le_of_ble_eq_true rfl, Nat.le_of_ble_eq_true rfl⟩ ⟨Nat.le_refl _, Nat.le_refl _⟩ ?_
      refine e_ref hB (k := 2) (by omega) ?_
      refine V_if_eq (tgt := 55) (sx_di dX12_piano 26 rfl) (by decide) (fun h50 => absurd h50 (by decide)) (fun _ => ?_)
      refine V_iconst (v := -1) (sx_di dX12_piano 27 rfl) (by decide) ?_
      refine V_iret (sx_di dX12_piano 28 rfl) rfl (Nat.le_refl _) (Nat.le_refl _) ?_
      have e : wpian n (nI h) (hp_i w 398 40) (hp_i w 398 41) = 2 := by rw [wpian, if_neg h6, if_pos h25]
      have q := h0 (by rw [e]; decide)
      rw [e] at q
      exact q
  · refine V_iconst (v := 0) (sx_di dX12_piano 5 rfl) (by decide) ?_
    refine V_goto (tgt := 47) (sx_di dX12_piano 6 rfl) (by decide) ?_
    refine V_cV1 (mc' := 0) (ms' := 0) (M' := mX12_isRefused) 1 (sx_di dX12_piano 25 rfl) lX12_317 vX12_isRefused (hB.k _ rfl) (by decide) rfl (Nat.le_of_ble_eq_true rfl) ⟨Nat.le_of_ble_eq_true rfl, Nat.le_of_ble_eq_true rfl⟩ ⟨Nat.le_refl _, Nat.le_refl _⟩ ?_
    refine e_ref hB (k := 0) (by omega) ?_
    refine V_if_eq (tgt := 55) (sx_di dX12_piano 26 rfl) (by decide) (fun h50 => absurd h50 (by decide)) (fun _ => ?_)
    refine V_iconst (v := -1) (sx_di dX12_piano 27 rfl) (by decide) ?_
    refine V_iret (sx_di dX12_piano 28 rfl) rfl (Nat.le_refl _) (Nat.le_refl _) ?_
    have e : wpian n x (hp_i w 398 40) (hp_i w 398 41) = 0 := by rw [wpian, if_pos (show ih_ n x = 0 from h6)]
    have q := h0 (by rw [e]; decide)
    rw [e] at q
    exact q
set_option maxHeartbeats 2000000 in
set_option maxRecDepth 20000 in
theorem c_X12_moveNow {E : sxE} {w : hpW} {Q : Option Value → hpW → Prop} (hB : ly_B w) {h o : Nat} (hh : h < 8) (ho : o < 8) (hne : h ≠ o) (hq : Q none (hp_wi w (hp_u (hp_u (hp_i w) 398 (32 + h) (hp_i w 398 (32 + h) - 1)) 398 (32 + o) (hp_i w 398 (32 + o) + 1)))) : sx_C E mX12_moveNow 1 0 0 [.ref 381, .int (nI h), .int (nI o)] w Q := by
  refine C_of (by decide +kernel) (Nat.le_of_ble_eq_true rfl) ?_
  refine V_aload_n (i := 0) (sx_di dX12_moveNow 0 rfl) rfl rfl ?_
  refine V_getR (sx_di dX12_moveNow 1 rfl) fX12_58 (fun _ => rfl) (hB.k _ rfl) (hB.r _ _ rfl) ?_
  refine V_bipush (v := 32) (sx_di dX12_moveNow 2 rfl) (by decide) ?_
  refine V_iload_n (i := 1) (sx_di dX12_moveNow 3 rfl) rfl rfl ?_
  refine V_iadd (sx_di dX12_moveNow 4 rfl) ?_
  refine V_dup2 (sx_di dX12_moveNow 5 rfl) rfl rfl ?_
  refine V_ialdN (n := 226) (j := (32 + h)) (sx_di dX12_moveNow 6 rfl) (hB.k _ rfl) (nx_add (rfl) (rfl)) (by omega) (by omega) ?_
  refine V_iconst (v := 1) (sx_di dX12_moveNow 7 rfl) (by decide) ?_
  refine V_isub (sx_di dX12_moveNow 8 rfl) ?_
  refine V_iastN (n := 226) (j := (32 + h)) (sx_di dX12_moveNow 9 rfl) (hB.k _ rfl) (nx_add (rfl) (rfl)) (by omega) (by omega) ?_
  refine V_aload_n (i := 0) (sx_di dX12_moveNow 10 rfl) rfl rfl ?_
  refine V_getR (sx_di dX12_moveNow 11 rfl) fX12_58 (fun _ => rfl) (hB.k _ rfl) (hB.r _ _ rfl) ?_
  refine V_bipush (v := 32) (sx_di dX12_moveNow 12 rfl) (by decide) ?_
  refine V_iload_n (i := 2) (sx_di dX12_moveNow 13 rfl) rfl rfl ?_
  refine V_iadd (sx_di dX12_moveNow 14 rfl) ?_
  refine V_dup2 (sx_di dX12_moveNow 15 rfl) rfl rfl ?_
  refine V_ialdN (n := 226) (j := (32 + o)) (sx_di dX12_moveNow 16 rfl) (hB.k _ rfl) (nx_add (rfl) (rfl)) (by omega) (by omega) ?_
  rw [show hp_i (hp_si w 398 (32 + h) (hp_i w 398 (32 + h) - 1)) 398 (32 + o) = hp_i w 398 (32 + o) from hp_u_nk _ _ (by omega)]
  refine V_iconst (v := 1) (sx_di dX12_moveNow 17 rfl) (by decide) ?_
  refine V_iadd (sx_di dX12_moveNow 18 rfl) ?_
  refine V_iastN (n := 226) (j := (32 + o)) (sx_di dX12_moveNow 19 rfl) (hB.k _ rfl) (nx_add (rfl) (rfl)) (by omega) (by omega) ?_
  refine V_vret (sx_di dX12_moveNow 20 rfl) rfl (Nat.le_refl _) (Nat.le_refl _) ?_
  exact hq
set_option maxHeartbeats 2000000 in
set_option maxRecDepth 20000 in
theorem c_X12_move {E : sxE} {w : hpW} {Q : Option Value → hpW → Prop} {n m : Nat} {F : wF} {sz fo : Int32 → Int32} {bt : Int32} {m0 s : Nat → Int32} (R : RQ w n m F sz fo bt m0 s) {a : Nat} (ha : hp_i w 381 32 = nI a) (ha4 : a ≤ 40) {x y : Int32} (h0 : ¬ wmove n x y (s (32 + y.toNatClampNeg)) (s (32 + x.toNatClampNeg)) = -1 → Q (some (.int (-1))) (rfR_ w (wmove n x y (s (32 + y.toNatClampNeg)) (s (32 + x.toNatClampNeg))).toNatClampNeg)) (h1 : wmove n x y (s (32 + y.toNatClampNeg)) (s (32 + x.toNatClampNeg)) = -1 → ∀ h o, h < n → o < n → h ≠ o → x = nI h → y = nI o → ∀ I, KP w a I → Q (some (.int (s (32 + o) + 1))) (hp_wi w (hp_u (hp_u I 398 (32 + h) (s (32 + h) - 1)) 398 (32 + o) (s (32 + o) + 1)))) : sx_C E mX12_move 3 0 0 [.ref 381, .int x, .int y] w Q := by
  obtain ⟨hB, hRS, hL, hO, hs⟩ := id R
  obtain ⟨hn, hn8, hm, hm6, hfo, hbt, hb, hm0⟩ := id hRS
  subst hs
  refine C_of (by decide +kernel) (Nat.le_of_ble_eq_true rfl) ?_
  refine V_iconst (v := 0) (sx_di dX12_move 0 rfl) (by decide) ?_
  refine V_istore_n (i := 3) (sx_di dX12_move 1 rfl) rfl (by decide) (rfl) ?_
  refine V_aload_n (i := 0) (sx_di dX12_move 2 rfl) rfl rfl ?_
  refine V_iload_n (i := 1) (sx_di dX12_move 3 rfl) rfl rfl ?_
  refine V_cV1 (mc' := 0) (ms' := 0) (M' := mX12_isHouse) 2 (sx_di dX12_move 4 rfl) lX12_311 vX12_isHouse (hB.k _ rfl) (by decide) rfl (Nat.le_of_ble_eq_true rfl) ⟨Nat.le_of_ble_eq_true rfl, Nat.le_of_ble_eq_true rfl⟩ ⟨Nat.le_refl _, Nat.le_refl _⟩ ?_
  refine c_X12_isHouse hB hn hn8 ?_
  refine V_if_eq (tgt := 63) (sx_di dX12_move 5 rfl) (by decide) (fun h7 => ?_) (fun h7 => ?_)
  · refine V_aload_n (i := 0) (sx_di dX12_move 36 rfl) rfl rfl ?_
    refine V_iload_n (i := 3) (sx_di dX12_move 37 rfl) rfl rfl ?_
    refine V_cV1 (mc' := 0) (ms' := 0) (M' := mX12_isRefused) 1 (sx_di dX12_move 38 rfl) lX12_317 vX12_isRefused (hB.k _ rfl) (by decide) rfl (Nat.le_of_ble_eq_true rfl) ⟨Nat.le_of_ble_eq_true rfl, Nat.le_of_ble_eq_true rfl⟩ ⟨Nat.le_refl _, Nat.le_refl _⟩ ?_
    refine e_ref hB (k := 0) (by omega) ?_
    refine V_if_eq (tgt := 73) (sx_di dX12_move 39 rfl) (by decide) (fun h68 => absurd h68 (by decide)) (fun _ => ?_)
    refine V_iconst (v := -1) (sx_di dX12_move 40 rfl) (by decide) ?_
    refine V_iret (sx_di dX12_move 41 rfl) rfl (Nat.le_refl _) (Nat.le_refl _) ?_
    have e : wmove n x y (hp_i w 398 (32 + y.toNatClampNeg)) (hp_i w 398 (32 + x.toNatClampNeg)) = 0 := by rw [wmove, if_pos (Or.inl (show ih_ n x = 0 from h7))]
    have q := h0 (by rw [e]; decide)
    rw [e] at q
    exact q
  · obtain ⟨h, hh, rfl⟩ := ih_ye (by omega) h7
    have hc : (nI h).toNatClampNeg = h := nI_clamp (by omega)
    refine V_aload_n (i := 0) (sx_di dX12_move 6 rfl) rfl rfl ?_
    refine V_iload_n (i := 2) (sx_di dX12_move 7 rfl) rfl rfl ?_
    refine V_cV1 (mc' := 0) (ms' := 0) (M' := mX12_isHouse) 2 (sx_di dX12_move 8 rfl) lX12_311 vX12_isHouse (hB.k _ rfl) (by decide) rfl (Nat.le_of_ble_eq_true rfl) ⟨Nat.le_of_ble_eq_true rfl, Nat.le_of_ble_eq_true rfl⟩ ⟨Nat.le_refl _, Nat.le_refl _⟩ ?_
    refine c_X12_isHouse hB hn hn8 ?_
    refine V_if_eq (tgt := 63) (sx_di dX12_move 9 rfl) (by decide) (fun h15 => ?_) (fun h15 => ?_)
    · refine V_aload_n (i := 0) (sx_di dX12_move 36 rfl) rfl rfl ?_
      refine V_iload_n (i := 3) (sx_di dX12_move 37 rfl) rfl rfl ?_
      refine V_cV1 (mc' := 0) (ms' := 0) (M' := mX12_isRefused) 1 (sx_di dX12_move 38 rfl) lX12_317 vX12_isRefused (hB.k _ rfl) (by decide) rfl (Nat.le_of_ble_eq_true rfl) ⟨Nat.le_of_ble_eq_true rfl, Nat.le_of_ble_eq_true rfl⟩ ⟨Nat.le_refl _, Nat.le_refl _⟩ ?_
      refine e_ref hB (k := 0) (by omega) ?_
      refine V_if_eq (tgt := 73) (sx_di dX12_move 39 rfl) (by decide) (fun h68 => absurd h68 (by decide)) (fun _ => ?_)
      refine V_iconst (v := -1) (sx_di dX12_move 40 rfl) (by decide) ?_
      refine V_iret (sx_di dX12_move 41 rfl) rfl (Nat.le_refl _) (Nat.le_refl _) ?_
      have e : wmove n (nI h) y (hp_i w 398 (32 + y.toNatClampNeg)) (hp_i w 398 (32 + (nI h).toNatClampNeg)) = 0 := by rw [wmove, if_pos (Or.inr (show ih_ n y = 0 from h15))]
      have q := h0 (by rw [e]; decide)
      rw [e] at q
      exact q
    · obtain ⟨o, ho, rfl⟩ := ih_ye (by omega) h15
      have hd : (nI o).toNatClampNeg = o := nI_clamp (by omega)
      have h16 : ¬ (ih_ n (nI h) = 0 ∨ ih_ n (nI o) = 0) := fun z => z.elim h7 h15
      obtain ⟨k9, hk9, ek9⟩ := (hO.1 o ho).2.2.2.2
      obtain ⟨k8, hk8, ek8⟩ := (hO.1 h hh).2.2.2.2
      refine V_iload_n (i := 1) (sx_di dX12_move 10 rfl) rfl rfl ?_
      refine V_iload_n (i := 2) (sx_di dX12_move 11 rfl) rfl rfl ?_
      refine V_icN_ne (a := h) (b := o) (rfl) (rfl) (by omega) (by omega) (tgt := 27) (sx_di dX12_move 12 rfl) (by decide) (fun h20 => ?_) (fun h20 => ?_)
      · have h21 : ¬ nI h = nI o := fun z => h20 ((nI_eq (by omega) (by omega)).mp z)
        refine V_aload_n (i := 0) (sx_di dX12_move 15 rfl) rfl rfl ?_
        refine V_getR (sx_di dX12_move 16 rfl) fX12_58 (fun _ => rfl) (hB.k _ rfl) (hB.r _ _ rfl) ?_
        refine V_bipush (v := 32) (sx_di dX12_move 17 rfl) (by decide) ?_
        refine V_iload_n (i := 2) (sx_di dX12_move 18 rfl) rfl rfl ?_
        refine V_iadd (sx_di dX12_move 19 rfl) ?_
        refine V_ialdN (n := 226) (j := (32 + o)) (sx_di dX12_move 20 rfl) (hB.k _ rfl) (nx_add (rfl) (rfl)) (by omega) (by omega) ?_
        refine V_bipush (v := 9) (sx_di dX12_move 21 rfl) (by decide) ?_
        refine V_icN_ne (a := k9) (b := 9) (ek9) (rfl) (by omega) (by omega) (tgt := 45) (sx_di dX12_move 22 rfl) (by decide) (fun h38 => ?_) (fun h38 => ?_)
        · have h39 : ¬ 9 ≤ hp_i w 398 (32 + (nI o).toNatClampNeg) := by rw [hd, ek9]; exact fun z => absurd ((nI_leI (a := 9) (b := k9) (by omega) (by omega)).mp z) (by omega)
          refine V_aload_n (i := 0) (sx_di dX12_move 25 rfl) rfl rfl ?_
          refine V_getR (sx_di dX12_move 26 rfl) fX12_58 (fun _ => rfl) (hB.k _ rfl) (hB.r _ _ rfl) ?_
          refine V_bipush (v := 32) (sx_di dX12_move 27 rfl) (by decide) ?_
          refine V_iload_n (i := 1) (sx_di dX12_move 28 rfl) rfl rfl ?_
          refine V_iadd (sx_di dX12_move 29 rfl) ?_
          refine V_ialdN (n := 226) (j := (32 + h)) (sx_di dX12_move 30 rfl) (hB.k _ rfl) (nx_add (rfl) (rfl)) (by omega) (by omega) ?_
          refine V_ifN_ne (a := k8) (ek8) (by omega) (tgt := 61) (sx_di dX12_move 31 rfl) (by decide) (fun h54 => ?_) (fun h54 => ?_)
          · have h55 : ¬ hp_i w 398 (32 + (nI h).toNatClampNeg) < 1 := by rw [hc, ek8]; exact fun z => absurd ((nI_ltI (a := k8) (b := 1) (by omega) (by omega)).mp z) (by omega)
            refine V_iconst (v := -1) (sx_di dX12_move 34 rfl) (by decide) ?_
            refine V_istore_n (i := 3) (sx_di dX12_move 35 rfl) rfl (by decide) (rfl) ?_
            refine V_aload_n (i := 0) (sx_di dX12_move 36 rfl) rfl rfl ?_
            refine V_iload_n (i := 3) (sx_di dX12_move 37 rfl) rfl rfl ?_
            refine V_cV1 (mc' := 0) (ms' := 0) (M' := mX12_isRefused) 1 (sx_di dX12_move 38 rfl) lX12_317 vX12_isRefused (hB.k _ rfl) (by decide) rfl (Nat.le_of_ble_eq_true rfl) ⟨Nat.le_of_ble_eq_true rfl, Nat.le_of_ble_eq_true rfl⟩ ⟨Nat.le_refl _, Nat.le_refl _⟩ ?_
            refine e_acc hB ?_
            refine V_if_eq (tgt := 73) (sx_di dX12_move 39 rfl) (by decide) (fun _ => ?_) (fun h68 => absurd rfl h68)
            refine V_aload_n (i := 0) (sx_di dX12_move 42 rfl) rfl rfl ?_
            refine V_cV0 (mc' := 0) (ms' := 0) (M' := mX12_keep) 1 (sx_di dX12_move 43 rfl) lX12_321 vX12_keep (hB.k _ rfl) (by decide) rfl (Nat.le_of_ble_eq_true rfl) ⟨Nat.le_of_ble_eq_true rfl, Nat.le_of_ble_eq_true rfl⟩ ⟨Nat.le_refl _, Nat.le_refl _⟩ ?_
            refine c_X12_keep hB ha ha4 (fun I hI => ?_)
            have e8 : hp_i (hp_wi w I) 398 = hp_i w 398 := hI.1 398 (by decide) (by decide)
            refine V_aload_n (i := 0) (sx_di dX12_move 44 rfl) rfl rfl ?_
            refine V_iload_n (i := 1) (sx_di dX12_move 45 rfl) rfl rfl ?_
            refine V_iload_n (i := 2) (sx_di dX12_move 46 rfl) rfl rfl ?_
            refine V_cV2 (mc' := 0) (ms' := 0) (M' := mX12_moveNow) 1 (sx_di dX12_move 47 rfl) lX12_324 vX12_moveNow (hB.k _ rfl) (by decide) rfl (Nat.le_of_ble_eq_true rfl) ⟨Nat.le_of_ble_eq_true rfl, Nat.le_of_ble_eq_true rfl⟩ ⟨Nat.le_refl _, Nat.le_refl _⟩ ?_
            refine c_X12_moveNow (w := hp_wi w I) (ly_wi hB I) (h := h) (o := o) (by omega) (by omega) h20 ?_
            rw [e8]
            refine V_aload_n (i := 0) (sx_di dX12_move 48 rfl) rfl rfl ?_
            refine V_getR (sx_di dX12_move 49 rfl) fX12_58 (fun _ => rfl) (hB.k _ rfl) (hB.r _ _ rfl) ?_
            refine V_bipush (v := 32) (sx_di dX12_move 50 rfl) (by decide) ?_
            refine V_iload_n (i := 2) (sx_di dX12_move 51 rfl) rfl rfl ?_
            refine V_iadd (sx_di dX12_move 52 rfl) ?_
            refine V_ialdN (n := 226) (j := (32 + o)) (sx_di dX12_move 53 rfl) (hB.k _ rfl) (nx_add (rfl) (rfl)) (by omega) (by omega) ?_
            refine V_iret (sx_di dX12_move 54 rfl) rfl (Nat.le_refl _) (Nat.le_refl _) ?_
            have e : wmove n (nI h) (nI o) (hp_i w 398 (32 + (nI o).toNatClampNeg)) (hp_i w 398 (32 + (nI h).toNatClampNeg)) = -1 := by rw [wmove, if_neg h16, if_neg h21, if_neg h39, if_neg h55]
            refine Q_int (h1 e h o hh ho h20 rfl rfl I hI) ?_
            rw [hp_i_wi, hp_u_at]
          · have h55 : hp_i w 398 (32 + (nI h).toNatClampNeg) < 1 := by rw [hc, ek8, h54]; decide
            refine V_iconst (v := 3) (sx_di dX12_move 32 rfl) (by decide) ?_
            refine V_goto (tgt := 62) (sx_di dX12_move 33 rfl) (by decide) ?_
            refine V_istore_n (i := 3) (sx_di dX12_move 35 rfl) rfl (by decide) (rfl) ?_
            refine V_aload_n (i := 0) (sx_di dX12_move 36 rfl) rfl rfl ?_
            refine V_iload_n (i := 3) (sx_di dX12_move 37 rfl) rfl rfl ?_
            refine V_cV1 (mc' := 0) (ms' := 0) (M' := mX12_isRefused) 1 (sx_di dX12_move 38 rfl) lX12_317 vX12_isRefused (hB.k _ rfl) (by decide) rfl (Nat.le_of_ble_eq_true rfl) ⟨Nat.le_of_ble_eq_true rfl, Nat.le_of_ble_eq_true rfl⟩ ⟨Nat.le_refl _, Nat.le_refl _⟩ ?_
            refine e_ref hB (k := 3) (by omega) ?_
            refine V_if_eq (tgt := 73) (sx_di dX12_move 39 rfl) (by decide) (fun h68 => absurd h68 (by decide)) (fun _ => ?_)
            refine V_iconst (v := -1) (sx_di dX12_move 40 rfl) (by decide) ?_
            refine V_iret (sx_di dX12_move 41 rfl) rfl (Nat.le_refl _) (Nat.le_refl _) ?_
            have e : wmove n (nI h) (nI o) (hp_i w 398 (32 + (nI o).toNatClampNeg)) (hp_i w 398 (32 + (nI h).toNatClampNeg)) = 3 := by rw [wmove, if_neg h16, if_neg h21, if_neg h39, if_pos h55]
            have q := h0 (by rw [e]; decide)
            rw [e] at q
            exact q
        · have h39 : 9 ≤ hp_i w 398 (32 + (nI o).toNatClampNeg) := by rw [hd, ek9, h38]; decide
          refine V_iconst (v := 2) (sx_di dX12_move 23 rfl) (by decide) ?_
          refine V_goto (tgt := 62) (sx_di dX12_move 24 rfl) (by decide) ?_
          refine V_istore_n (i := 3) (sx_di dX12_move 35 rfl) rfl (by decide) (rfl) ?_
          refine V_aload_n (i := 0) (sx_di dX12_move 36 rfl) rfl rfl ?_
          refine V_iload_n (i := 3) (sx_di dX12_move 37 rfl) rfl rfl ?_
          refine V_cV1 (mc' := 0) (ms' := 0) (M' := mX12_isRefused) 1 (sx_di dX12_move 38 rfl) lX12_317 vX12_isRefused (hB.k _ rfl) (by decide) rfl (Nat.le_of_ble_eq_true rfl) ⟨Nat.le_of_ble_eq_true rfl, Nat.le_of_ble_eq_true rfl⟩ ⟨Nat.le_refl _, Nat.le_refl _⟩ ?_
          refine e_ref hB (k := 2) (by omega) ?_
          refine V_if_eq (tgt := 73) (sx_di dX12_move 39 rfl) (by decide) (fun h68 => absurd h68 (by decide)) (fun _ => ?_)
          refine V_iconst (v := -1) (sx_di dX12_move 40 rfl) (by decide) ?_
          refine V_iret (sx_di dX12_move 41 rfl) rfl (Nat.le_refl _) (Nat.le_refl _) ?_
          have e : wmove n (nI h) (nI o) (hp_i w 398 (32 + (nI o).toNatClampNeg)) (hp_i w 398 (32 + (nI h).toNatClampNeg)) = 2 := by rw [wmove, if_neg h16, if_neg h21, if_pos h39]
          have q := h0 (by rw [e]; decide)
          rw [e] at q
          exact q
      · have h21 : nI h = nI o := by rw [h20]
        refine V_iconst (v := 1) (sx_di dX12_move 13 rfl) (by decide) ?_
        refine V_goto (tgt := 62) (sx_di dX12_move 14 rfl) (by decide) ?_
        refine V_istore_n (i := 3) (sx_di dX12_move 35 rfl) rfl (by decide) (rfl) ?_
        refine V_aload_n (i := 0) (sx_di dX12_move 36 rfl) rfl rfl ?_
        refine V_iload_n (i := 3) (sx_di dX12_move 37 rfl) rfl rfl ?_
        refine V_cV1 (mc' := 0) (ms' := 0) (M' := mX12_isRefused) 1 (sx_di dX12_move 38 rfl) lX12_317 vX12_isRefused (hB.k _ rfl) (by decide) rfl (Nat.le_of_ble_eq_true rfl) ⟨Nat.le_of_ble_eq_true rfl, Nat.le_of_ble_eq_true rfl⟩ ⟨Nat.le_refl _, Nat.le_refl _⟩ ?_
        refine e_ref hB (k := 1) (by omega) ?_
        refine V_if_eq (tgt := 73) (sx_di dX12_move 39 rfl) (by decide) (fun h68 => absurd h68 (by decide)) (fun _ => ?_)
        refine V_iconst (v := -1) (sx_di dX12_move 40 rfl) (by decide) ?_
        refine V_iret (sx_di dX12_move 41 rfl) rfl (Nat.le_refl _) (Nat.le_refl _) ?_
        have e : wmove n (nI h) (nI o) (hp_i w 398 (32 + (nI o).toNatClampNeg)) (hp_i w 398 (32 + (nI h).toNatClampNeg)) = 1 := by rw [wmove, if_neg h16, if_pos h21]
        have q := h0 (by rw [e]; decide)
        rw [e] at q
        exact q
set_option maxHeartbeats 2000000 in
set_option maxRecDepth 20000 in
theorem c_X12_give {E : sxE} {w : hpW} {Q : Option Value → hpW → Prop} {n m : Nat} {F : wF} {sz fo : Int32 → Int32} {bt : Int32} {m0 s : Nat → Int32} (R : RQ w n m F sz fo bt m0 s) {a : Nat} (ha : hp_i w 381 32 = nI a) (ha4 : a ≤ 40) {v : Int32} (h0 : ¬ wgive n v (s 41) = -1 → Q (some (.int (-1))) (rfR_ w (wgive n v (s 41)).toNatClampNeg)) (h1 : wgive n v (s 41) = -1 → ∀ I, KP w a I → Q (some (.int (s 41 + v))) (hp_wi w (hp_u I 398 41 (s 41 + v)))) : sx_C E mX12_give 2 0 0 [.ref 381, .int v] w Q := by
  obtain ⟨hB, hRS, hL, hO, hs⟩ := id R
  obtain ⟨hn, hn8, hm, hm6, hfo, hbt, hb, hm0⟩ := id hRS
  subst hs
  refine C_of (by decide +kernel) (Nat.le_of_ble_eq_true rfl) ?_
  refine V_aload_n (i := 0) (sx_di dX12_give 0 rfl) rfl rfl ?_
  refine V_aload_n (i := 0) (sx_di dX12_give 1 rfl) rfl rfl ?_
  refine V_getI (sx_di dX12_give 2 rfl) fX12_258 (fun _ => rfl) (hB.k _ rfl) ?_
  refine V_ifN_ne (a := n) (hn) (by omega) (tgt := 12) (sx_di dX12_give 3 rfl) (by decide) (fun h5 => ?_) (fun h5 => ?_)
  · refine V_iload_n (i := 1) (sx_di dX12_give 6 rfl) rfl rfl ?_
    refine V_iconst (v := 1) (sx_di dX12_give 7 rfl) (by decide) ?_
    refine V_bipush (v := 50) (sx_di dX12_give 8 rfl) (by decide) ?_
    refine V_cS3 (mc' := 0) (ms' := 0) (M' := mX12_in) 1 (sx_di dX12_give 9 rfl) lX12_214 vX12_in (Nat.le_of_ble_eq_true rfl) ⟨Nat.le_of_ble_eq_true rfl, Nat.le_of_ble_eq_true rfl⟩ ⟨Nat.le_refl _, Nat.le_refl _⟩ ?_
    refine c_X12_in ?_
    refine V_if_eq (tgt := 37) (sx_di dX12_give 10 rfl) (by decide) (fun h19 => ?_) (fun h19 => ?_)
    · refine V_iconst (v := 1) (sx_di dX12_give 19 rfl) (by decide) ?_
      refine V_goto (tgt := 42) (sx_di dX12_give 20 rfl) (by decide) ?_
      refine V_cV1 (mc' := 0) (ms' := 0) (M' := mX12_isRefused) 1 (sx_di dX12_give 22 rfl) lX12_317 vX12_isRefused (hB.k _ rfl) (by decide) rfl (Nat.le_of_ble_eq_true rfl) ⟨Nat.le_of_ble_eq_true rfl, Nat.le_of_ble_eq_true rfl⟩ ⟨Nat.le_refl _, Nat.le_refl _⟩ ?_
      refine e_ref hB (k := 1) (by omega) ?_
      refine V_if_eq (tgt := 50) (sx_di dX12_give 23 rfl) (by decide) (fun h45 => absurd h45 (by decide)) (fun _ => ?_)
      refine V_iconst (v := -1) (sx_di dX12_give 24 rfl) (by decide) ?_
      refine V_iret (sx_di dX12_give 25 rfl) rfl (Nat.le_refl _) (Nat.le_refl _) ?_
      have e : wgive n v (hp_i w 398 41) = 1 := by rw [wgive, if_neg h5, if_pos ((in_no h19).elim Or.inl (fun z => Or.inr (Or.inl z)))]
      have q := h0 (by rw [e]; decide)
      rw [e] at q
      exact q
    · refine V_aload_n (i := 0) (sx_di dX12_give 11 rfl) rfl rfl ?_
      refine V_getR (sx_di dX12_give 12 rfl) fX12_58 (fun _ => rfl) (hB.k _ rfl) (hB.r _ _ rfl) ?_
      refine V_bipush (v := 41) (sx_di dX12_give 13 rfl) (by decide) ?_
      refine V_ialdN (n := 226) (j := 41) (sx_di dX12_give 14 rfl) (hB.k _ rfl) (rfl) (by omega) (by omega) ?_
      refine V_iload_n (i := 1) (sx_di dX12_give 15 rfl) rfl rfl ?_
      refine V_iadd (sx_di dX12_give 16 rfl) ?_
      refine V_sipush (v := 999) (sx_di dX12_give 17 rfl) (by decide) ?_
      refine V_icmp_le (tgt := 41) (sx_di dX12_give 18 rfl) (by decide) (fun h34 => ?_) (fun h34 => ?_)
      · have h35 : ¬ (v < 1 ∨ 50 < v ∨ 999 < hp_i w 398 41 + v) := fun z => z.elim (fun z => in_ye h19 (Or.inl z)) (fun z => z.elim (fun z => in_ye h19 (Or.inr z)) (Int32.not_lt.mpr h34))
        refine V_iconst (v := -1) (sx_di dX12_give 21 rfl) (by decide) ?_
        refine V_cV1 (mc' := 0) (ms' := 0) (M' := mX12_isRefused) 1 (sx_di dX12_give 22 rfl) lX12_317 vX12_isRefused (hB.k _ rfl) (by decide) rfl (Nat.le_of_ble_eq_true rfl) ⟨Nat.le_of_ble_eq_true rfl, Nat.le_of_ble_eq_true rfl⟩ ⟨Nat.le_refl _, Nat.le_refl _⟩ ?_
        refine e_acc hB ?_
        refine V_if_eq (tgt := 50) (sx_di dX12_give 23 rfl) (by decide) (fun _ => ?_) (fun h45 => absurd rfl h45)
        refine V_aload_n (i := 0) (sx_di dX12_give 26 rfl) rfl rfl ?_
        refine V_cV0 (mc' := 0) (ms' := 0) (M' := mX12_keep) 1 (sx_di dX12_give 27 rfl) lX12_321 vX12_keep (hB.k _ rfl) (by decide) rfl (Nat.le_of_ble_eq_true rfl) ⟨Nat.le_of_ble_eq_true rfl, Nat.le_of_ble_eq_true rfl⟩ ⟨Nat.le_refl _, Nat.le_refl _⟩ ?_
        refine c_X12_keep hB ha ha4 (fun I hI => ?_)
        have e8 : hp_i (hp_wi w I) 398 = hp_i w 398 := hI.1 398 (by decide) (by decide)
        refine V_aload_n (i := 0) (sx_di dX12_give 28 rfl) rfl rfl ?_
        refine V_getR (sx_di dX12_give 29 rfl) fX12_58 (fun _ => rfl) (hB.k _ rfl) (hB.r _ _ rfl) ?_
        refine V_bipush (v := 41) (sx_di dX12_give 30 rfl) (by decide) ?_
        refine V_dup2 (sx_di dX12_give 31 rfl) rfl rfl ?_
        refine V_ialdN (n := 226) (j := 41) (sx_di dX12_give 32 rfl) (hB.k _ rfl) (rfl) (by omega) (by omega) ?_
        rw [e8]
        refine V_iload_n (i := 1) (sx_di dX12_give 33 rfl) rfl rfl ?_
        refine V_iadd (sx_di dX12_give 34 rfl) ?_
        refine V_iastN (n := 226) (j := 41) (sx_di dX12_give 35 rfl) (hB.k _ rfl) (rfl) (by omega) (by omega) ?_
        refine V_aload_n (i := 0) (sx_di dX12_give 36 rfl) rfl rfl ?_
        refine V_getR (sx_di dX12_give 37 rfl) fX12_58 (fun _ => rfl) (hB.k _ rfl) (hB.r _ _ rfl) ?_
        refine V_bipush (v := 41) (sx_di dX12_give 38 rfl) (by decide) ?_
        refine V_ialdN (n := 226) (j := 41) (sx_di dX12_give 39 rfl) (hB.k _ rfl) (rfl) (by omega) (by omega) ?_
        refine V_iret (sx_di dX12_give 40 rfl) rfl (Nat.le_refl _) (Nat.le_refl _) ?_
        have e : wgive n v (hp_i w 398 41) = -1 := by rw [wgive, if_neg h5, if_neg h35]
        refine Q_int (h1 e I hI) ?_
        exact (hp_i_at _ _ _ _).symm
      · refine V_iconst (v := 1) (sx_di dX12_give 19 rfl) (by decide) ?_
        refine V_goto (tgt := 42) (sx_di dX12_give 20 rfl) (by decide) ?_
        refine V_cV1 (mc' := 0) (ms' := 0) (M' := mX12_isRefused) 1 (sx_di dX12_give 22 rfl) lX12_317 vX12_isRefused (hB.k _ rfl) (by decide) rfl (Nat.le_of_ble_eq_true rfl) ⟨Nat.le_of_ble_eq_true rfl, Nat.le_of_ble_eq_true rfl⟩ ⟨Nat.le_refl _, Nat.le_refl _⟩ ?_
        refine e_ref hB (k := 1) (by omega) ?_
        refine V_if_eq (tgt := 50) (sx_di dX12_give 23 rfl) (by decide) (fun h45 => absurd h45 (by decide)) (fun _ => ?_)
        refine V_iconst (v := -1) (sx_di dX12_give 24 rfl) (by decide) ?_
        refine V_iret (sx_di dX12_give 25 rfl) rfl (Nat.le_refl _) (Nat.le_refl _) ?_
        have e : wgive n v (hp_i w 398 41) = 1 := by rw [wgive, if_neg h5, if_pos (Or.inr (Or.inr (Int32.not_le.mp h34)))]
        have q := h0 (by rw [e]; decide)
        rw [e] at q
        exact q
  · refine V_iconst (v := 0) (sx_di dX12_give 4 rfl) (by decide) ?_
    refine V_goto (tgt := 42) (sx_di dX12_give 5 rfl) (by decide) ?_
    refine V_cV1 (mc' := 0) (ms' := 0) (M' := mX12_isRefused) 1 (sx_di dX12_give 22 rfl) lX12_317 vX12_isRefused (hB.k _ rfl) (by decide) rfl (Nat.le_of_ble_eq_true rfl) ⟨Nat.le_of_ble_eq_true rfl, Nat.le_of_ble_eq_true rfl⟩ ⟨Nat.le_refl _, Nat.le_refl _⟩ ?_
    refine e_ref hB (k := 0) (by omega) ?_
    refine V_if_eq (tgt := 50) (sx_di dX12_give 23 rfl) (by decide) (fun h45 => absurd h45 (by decide)) (fun _ => ?_)
    refine V_iconst (v := -1) (sx_di dX12_give 24 rfl) (by decide) ?_
    refine V_iret (sx_di dX12_give 25 rfl) rfl (Nat.le_refl _) (Nat.le_refl _) ?_
    have e : wgive n v (hp_i w 398 41) = 0 := by rw [wgive, if_pos h5]
    have q := h0 (by rw [e]; decide)
    rw [e] at q
    exact q

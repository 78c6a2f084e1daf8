/-! forms that follow -/
def fw_ (s : Nat → Int32) (x : Int32) : Nat → Int32
  | 0 => x
  | k + 1 => z_f s (fw_ s x k)
theorem m_n {A : AS} (V : AV A) {f : Nat} (h : f < a_m A) : 0 < a_n A := Nat.pos_of_ne_zero (fun z => absurd (V.2.2.1.2.2.2 z) (by omega))
theorem fw_ok {A : AS} (V : AV A) {f : Nat} (hf : f < a_m A) : ∀ k, ∃ g, g < a_m A ∧ fw_ (a_s A) (nI f) k = nI g
  | 0 => ⟨f, hf, rfl⟩
  | k + 1 => by
    obtain ⟨g, hg, e⟩ := fw_ok V hf k
    obtain ⟨g2, hg2, e2⟩ := OKT_f V (m_n V hf) g hg
    exact ⟨g2, hg2, by show z_f (a_s A) (fw_ (a_s A) (nI f) k) = _; rw [e]; exact e2⟩
theorem ch_fw {A : AS} {w : hpW} {t : Nat} (V : AV A) (C : Cstr w t (a_n A) (a_m A) (a_s A)) {f : Nat} (hf : f < a_m A) : ∀ k, ch_ (hp_i w) t (nI f) k = fw_ (a_s A) (nI f) k
  | 0 => rfl
  | k + 1 => by
    obtain ⟨g, hg, e⟩ := fw_ok V hf k
    show fo_ (hp_i w) t (ch_ (hp_i w) t (nI f) k) = z_f (a_s A) (fw_ (a_s A) (nI f) k)
    rw [ch_fw V C hf k, e]
    exact fo_n C V.2.2.1.2.1 hg
theorem fw_add (s : Nat → Int32) (x : Int32) (j : Nat) : ∀ k, fw_ s x (j + k) = fw_ s (fw_ s x j) k
  | 0 => rfl
  | k + 1 => by
    show z_f s (fw_ s x (j + k)) = z_f s (fw_ s (fw_ s x j) k)
    rw [fw_add s x j k]
set_option maxHeartbeats 2000000 in
set_option maxRecDepth 20000 in
theorem fb_lp {E : sxE} {A : AS} {w : hpW} {Q : Option Value → hpW → Prop} (VA : AV A) (H : RR A w) {f m : Nat} (hf : f < a_m A) (hm : m ≤ 999) (h : Q (some (.int (fw_ (a_s A) (nI f) m))) w) : ∀ q k, k + q = m → ∀ g, g < a_m A → fw_ (a_s A) (nI f) k = nI g → V E mX12_followsBy (sx_rm 1 0 0) 0 0 0 0 5 [(4, .int (nI k)), (3, .int (nI g)), (2, .int (nI m)), (0, .ref 381)] [] w Q := by
  intro q
  obtain ⟨hB, h1, h2, h3, h4, h5, h6, ⟨h7, h8⟩, ⟨h9, h10⟩, h11, h12⟩ := id H
  have hm6 := VA.2.2.1.2.1
  induction q with
  | zero =>
    intro k hk g hg eg
    have e1 : k = m := by omega
    subst e1
    rw [eg] at h
    refine V_iload (sx_di dX12_followsBy 4 rfl) rfl ?_
    refine V_iload_n (i := 2) (sx_di dX12_followsBy 5 rfl) rfl rfl ?_
    refine V_icN_ge (a := k) (b := k) (rfl) (rfl) (by omega) (by omega) (tgt := 28) (sx_di dX12_followsBy 6 rfl) (by decide) (fun _ => ?_) (fun h8 => absurd h8 (by omega))
    refine V_iload_n (i := 3) (sx_di dX12_followsBy 18 rfl) rfl rfl ?_
    refine V_iret (sx_di dX12_followsBy 19 rfl) rfl (Nat.le_refl _) (Nat.le_refl _) ?_
    exact h
  | succ q ih =>
    intro k hk g hg eg
    obtain ⟨g2, hg2, e2⟩ := OKT_f VA (m_n VA hf) g hg
    have q1 := ih (k + 1) (by omega) g2 hg2 (by show z_f (a_s A) (fw_ (a_s A) (nI f) k) = _; rw [eg]; exact e2)
    rw [← nI_1] at q1
    have e3 : hp_i w 397 (2 * g + 1) = nI g2 := by
      rw [h3.2.2.2.2 _ (by omega), ← e2, z_f_n _ (by omega)]
      exact congrArg _ (by omega)
    refine V_iload (sx_di dX12_followsBy 4 rfl) rfl ?_
    refine V_iload_n (i := 2) (sx_di dX12_followsBy 5 rfl) rfl rfl ?_
    refine V_icN_ge (a := k) (b := m) (rfl) (rfl) (by omega) (by omega) (tgt := 28) (sx_di dX12_followsBy 6 rfl) (by decide) (fun h8 => absurd h8 (by omega)) (fun _ => ?_)
    refine V_aload_n (i := 0) (sx_di dX12_followsBy 7 rfl) rfl rfl ?_
    refine V_getR (sx_di dX12_followsBy 8 rfl) fX12_55 (fun _ => rfl) (hB.k _ rfl) (hB.r _ _ rfl) ?_
    refine V_iconst (v := 2) (sx_di dX12_followsBy 9 rfl) (by decide) ?_
    refine V_iload_n (i := 3) (sx_di dX12_followsBy 10 rfl) rfl rfl ?_
    refine V_imul (sx_di dX12_followsBy 11 rfl) ?_
    refine V_iconst (v := 1) (sx_di dX12_followsBy 12 rfl) (by decide) ?_
    refine V_iadd (sx_di dX12_followsBy 13 rfl) ?_
    refine V_ialdN (n := 12) (j := ((2 * g) + 1)) (sx_di dX12_followsBy 14 rfl) (hB.k _ rfl) (nx_add (nx_mul (rfl) (rfl)) (rfl)) (by omega) (by omega) ?_
    refine V_iv (y := nI g2) (e3) ?_
    refine V_istore_n (i := 3) (sx_di dX12_followsBy 15 rfl) rfl (by decide) (rfl) ?_
    refine V_inc (c := 1) (sx_di dX12_followsBy 16 rfl) (by decide) rfl (by decide) (rfl) ?_
    refine V_goto (tgt := 5) (sx_di dX12_followsBy 17 rfl) (by decide) ?_
    exact V_subk q1 ⟨rfl, rfl, rfl, rfl, trivial⟩
theorem e_followsBy {E : sxE} {A : AS} {w : hpW} {Q : Option Value → hpW → Prop} (VA : AV A) (H : RR A w) {f m : Nat} (hf : f < a_m A) (hm : m ≤ 999) (h : Q (some (.int (fw_ (a_s A) (nI f) m))) w) : sx_C E mX12_followsBy 1 0 0 [.ref 381, .int (nI f), .int (nI m)] w Q := by
  refine C_of (by decide +kernel) (Nat.le_of_ble_eq_true rfl) ?_
  refine V_iload_n (i := 1) (sx_di dX12_followsBy 0 rfl) rfl rfl ?_
  refine V_istore_n (i := 3) (sx_di dX12_followsBy 1 rfl) rfl (by decide) (rfl) ?_
  refine V_iconst (v := 0) (sx_di dX12_followsBy 2 rfl) (by decide) ?_
  refine V_istore (sx_di dX12_followsBy 3 rfl) (by decide) (rfl) ?_
  refine V_sub (ls' := [(4, .int (nI 0)), (3, .int (nI f)), (2, .int (nI m)), (0, .ref 381)]) ⟨rfl, rfl, rfl, rfl, trivial⟩ ?_
  exact fb_lp VA H hf hm h m 0 (by omega) f hf rfl
def q_follows (A : AS) (x y : Int32) : Int32 := if ih_ (a_m A) x = 0 ∨ y < 0 ∨ 999 < y then -1 else fw_ (a_s A) x y.toNatClampNeg
set_option maxHeartbeats 2000000 in
set_option maxRecDepth 20000 in
theorem oC_follows {E : sxE} {A : AS} {w : hpW} (VA : AV A) (H : CR A w) (x : Int32) (y : Int32) : oC E mX11_follows 4 [.ref 16, .int x, .int y] w A (q_follows A x y) A := by
  intro Q h
  replace h := h w H fR_rf
  obtain ⟨t, p, C, c3'⟩ := CN_of VA H
  have hB := H.1
  have hn8 := VA.2.2.1.1
  have ht := C.2.1
  have hst := C.2.2.1
  have hn := C.2.2.2.1
  unfold q_follows at h
  have hm6 := VA.2.2.1.2.1
  have hm := c3'.2.2.2.2.1
  refine C_of (by decide +kernel) (Nat.le_of_ble_eq_true rfl) ?_
  refine V_aload_n (i := 0) (sx_di dX11_follows 0 rfl) rfl rfl ?_
  refine V_iload_n (i := 1) (sx_di dX11_follows 1 rfl) rfl rfl ?_
  refine V_cV1 (mc' := 0) (ms' := 0) (M' := mX11_isForm) 1 (sx_di dX11_follows 2 rfl) lX11_202 vX11_isForm (hB.k _ rfl) (by decide) rfl (Nat.le_of_ble_eq_true rfl) ⟨Nat.le_of_ble_eq_true rfl, Nat.le_of_ble_eq_true rfl⟩ ⟨Nat.le_refl _, Nat.le_refl _⟩ ?_
  refine c_X11_isForm hB ht hst hm hm6 ?_
  refine V_if_eq (tgt := 19) (sx_di dX11_follows 3 rfl) (by decide) (fun h5 => ?_) (fun h5 => ?_)
  · rw [if_pos (Or.inl h5)] at h
    refine V_iconst (v := -1) (sx_di dX11_follows 9 rfl) (by decide) ?_
    refine V_iret (sx_di dX11_follows 10 rfl) rfl (Nat.le_refl _) (Nat.le_refl _) ?_
    exact h
  · refine V_iload_n (i := 2) (sx_di dX11_follows 4 rfl) rfl rfl ?_
    refine V_if_lt (tgt := 19) (sx_di dX11_follows 5 rfl) (by decide) (fun h9 => ?_) (fun h9 => ?_)
    · rw [if_pos (Or.inr (Or.inl h9))] at h
      refine V_iconst (v := -1) (sx_di dX11_follows 9 rfl) (by decide) ?_
      refine V_iret (sx_di dX11_follows 10 rfl) rfl (Nat.le_refl _) (Nat.le_refl _) ?_
      exact h
    · refine V_iload_n (i := 2) (sx_di dX11_follows 6 rfl) rfl rfl ?_
      refine V_sipush (v := 999) (sx_di dX11_follows 7 rfl) (by decide) ?_
      refine V_icmp_le (tgt := 21) (sx_di dX11_follows 8 rfl) (by decide) (fun h16 => ?_) (fun h16 => ?_)
      · have h20 : ¬ (ih_ (a_m A) x = 0 ∨ y < 0 ∨ 999 < y) := fun z => z.elim h5 (fun z => z.elim h9 (Int32.not_lt.mpr h16))
        rw [if_neg h20] at h
        obtain ⟨f, hf, rfl⟩ := ih_ye (by omega) h5
        obtain ⟨j, hj, rfl⟩ := nb_ (v := y) (k := 999) (by decide) h9 (Int32.not_lt.mpr h16)
        rw [nI_clamp (by omega), ← ch_fw VA c3' hf] at h
        refine V_aload_n (i := 0) (sx_di dX11_follows 11 rfl) rfl rfl ?_
        refine V_getR (sx_di dX11_follows 12 rfl) fX11_48 (fun _ => rfl) (hB.k _ rfl) (ht) ?_
        refine V_iload_n (i := 1) (sx_di dX11_follows 13 rfl) rfl rfl ?_
        refine V_iload_n (i := 2) (sx_di dX11_follows 14 rfl) rfl rfl ?_
        refine V_cV2 (mc' := 0) (ms' := 0) (M' := mX8_changed) 3 (sx_di dX11_follows 15 rfl) lX11_381 vX8_changed (hst.1) (by decide) rfl (Nat.le_of_ble_eq_true rfl) ⟨Nat.le_of_ble_eq_true rfl, Nat.le_of_ble_eq_true rfl⟩ ⟨Nat.le_refl _, Nat.le_refl _⟩ ?_
        refine c_X8_changed hst (by omega) ?_
        refine V_iret (sx_di dX11_follows 16 rfl) rfl (Nat.le_refl _) (Nat.le_refl _) ?_
        exact h
      · rw [if_pos (Or.inr (Or.inr (Int32.not_le.mp h16)))] at h
        refine V_iconst (v := -1) (sx_di dX11_follows 9 rfl) (by decide) ?_
        refine V_iret (sx_di dX11_follows 10 rfl) rfl (Nat.le_refl _) (Nat.le_refl _) ?_
        exact h
set_option maxHeartbeats 2000000 in
set_option maxRecDepth 20000 in
theorem oR_follows {E : sxE} {A : AS} {w : hpW} (VA : AV A) (H : RR A w) (x : Int32) (y : Int32) : oR E mX12_follows 3 [.ref 381, .int x, .int y] w A (q_follows A x y) A := by
  intro Q h
  replace h := h w H fC_rf
  obtain ⟨hB, h1, h2, h3, h4, h5, h6, ⟨h7, h8⟩, ⟨h9, h10⟩, h11, h12⟩ := id H
  have hn8 := VA.2.2.1.1
  have hm6 := VA.2.2.1.2.1
  have hn : hp_i w 381 25 = nI (a_n A) := h3.1
  have hr : ∀ j, hp_i w 398 j = a_r A j := fun j => congrFun h4 j
  unfold q_follows at h
  refine C_of (by decide +kernel) (Nat.le_of_ble_eq_true rfl) ?_
  refine V_aload_n (i := 0) (sx_di dX12_follows 0 rfl) rfl rfl ?_
  refine V_iload_n (i := 1) (sx_di dX12_follows 1 rfl) rfl rfl ?_
  refine V_cV1 (mc' := 0) (ms' := 0) (M' := mX12_isForm) 2 (sx_di dX12_follows 2 rfl) lX12_314 vX12_isForm (hB.k _ rfl) (by decide) rfl (Nat.le_of_ble_eq_true rfl) ⟨Nat.le_of_ble_eq_true rfl, Nat.le_of_ble_eq_true rfl⟩ ⟨Nat.le_refl _, Nat.le_refl _⟩ ?_
  refine c_X12_isForm hB h3.2.1 hm6 ?_
  refine V_if_eq (tgt := 28) (sx_di dX12_follows 3 rfl) (by decide) (fun h5_ => ?_) (fun h5_ => ?_)
  · rw [if_pos (Or.inl h5_)] at h
    refine V_iconst (v := -1) (sx_di dX12_follows 14 rfl) (by decide) ?_
    refine V_iret (sx_di dX12_follows 15 rfl) rfl (Nat.le_refl _) (Nat.le_refl _) ?_
    exact h
  · refine V_iload_n (i := 2) (sx_di dX12_follows 4 rfl) rfl rfl ?_
    refine V_iconst (v := 0) (sx_di dX12_follows 5 rfl) (by decide) ?_
    refine V_sipush (v := 999) (sx_di dX12_follows 6 rfl) (by decide) ?_
    refine V_cS3 (mc' := 0) (ms' := 0) (M' := mX12_in) 1 (sx_di dX12_follows 7 rfl) lX12_214 vX12_in (Nat.le_of_ble_eq_true rfl) ⟨Nat.le_of_ble_eq_true rfl, Nat.le_of_ble_eq_true rfl⟩ ⟨Nat.le_refl _, Nat.le_refl _⟩ ?_
    refine c_X12_in ?_
    refine V_if_eq (tgt := 28) (sx_di dX12_follows 8 rfl) (by decide) (fun h16 => ?_) (fun h16 => ?_)
    · rw [if_pos (Or.inr (in_no h16))] at h
      refine V_iconst (v := -1) (sx_di dX12_follows 14 rfl) (by decide) ?_
      refine V_iret (sx_di dX12_follows 15 rfl) rfl (Nat.le_refl _) (Nat.le_refl _) ?_
      exact h
    · have h15 := in_ye h16
      have h20 : ¬ (ih_ (a_m A) x = 0 ∨ y < 0 ∨ 999 < y) := fun z => z.elim h5_ h15
      rw [if_neg h20] at h
      obtain ⟨f, hf, rfl⟩ := ih_ye (by omega) h5_
      obtain ⟨j, hj, rfl⟩ := nb_ (v := y) (k := 999) (by decide) (fun z => h15 (Or.inl z)) (fun z => h15 (Or.inr z))
      rw [nI_clamp (by omega)] at h
      refine V_aload_n (i := 0) (sx_di dX12_follows 9 rfl) rfl rfl ?_
      refine V_iload_n (i := 1) (sx_di dX12_follows 10 rfl) rfl rfl ?_
      refine V_iload_n (i := 2) (sx_di dX12_follows 11 rfl) rfl rfl ?_
      refine V_cV2 (mc' := 0) (ms' := 0) (M' := mX12_followsBy) 1 (sx_di dX12_follows 12 rfl) lX12_420 vX12_followsBy (hB.k _ rfl) (by decide) rfl (Nat.le_of_ble_eq_true rfl) ⟨Nat.le_of_ble_eq_true rfl, Nat.le_of_ble_eq_true rfl⟩ ⟨Nat.le_refl _, Nat.le_refl _⟩ ?_
      refine e_followsBy VA H hf hj ?_
      refine V_goto (tgt := 29) (sx_di dX12_follows 13 rfl) (by decide) ?_
      refine V_iret (sx_di dX12_follows 15 rfl) rfl (Nat.le_refl _) (Nat.le_refl _) ?_
      exact h
/-! the ring -/
theorem pigeon : ∀ (m : Nat) (u : Nat → Nat), (∀ i, i ≤ m → u i < m) → ∃ i j, i < j ∧ j ≤ m ∧ u i = u j
  | 0, u, h => absurd (h 0 (by omega)) (by omega)
  | m + 1, u, h => by
    by_cases hx : ∃ i, i ≤ m ∧ u i = u (m + 1)
    · obtain ⟨i, hi, e⟩ := hx
      exact ⟨i, m + 1, by omega, by omega, e⟩
    · have hne : ∀ i, i ≤ m → u i ≠ u (m + 1) := fun i hi e => hx ⟨i, hi, e⟩
      obtain ⟨i, j, hij, hj, e⟩ := pigeon m (fun i => if u (m + 1) < u i then u i - 1 else u i) (fun i hi => by
        have a := h i (by omega)
        have b := h (m + 1) (by omega)
        have c := hne i hi
        show (if u (m + 1) < u i then u i - 1 else u i) < m
        split <;> omega)
      have a := hne i (by omega)
      have b := hne j hj
      have e : (if u (m + 1) < u i then u i - 1 else u i) = (if u (m + 1) < u j then u j - 1 else u j) := e
      exact ⟨i, j, hij, by omega, by split at e <;> split at e <;> omega⟩
theorem least_ {P : Nat → Prop} (n : Nat) : P n → ∃ p, p ≤ n ∧ P p ∧ ∀ q, q < p → ¬ P q := by
  induction n using Nat.strongRecOn with
  | ind n ih =>
    intro h
    by_cases hx : ∃ q, q < n ∧ P q
    · obtain ⟨q, hq, hp⟩ := hx
      obtain ⟨p, a, b⟩ := ih q hq hp
      exact ⟨p, by omega, b⟩
    · exact ⟨n, by omega, h, fun q hq hp => hx ⟨q, hq, hp⟩⟩
/-- behind m steps it goes round; the ring is as long from wherever one looks -/
theorem ring_ex {A : AS} (V : AV A) {f : Nat} (hf : f < a_m A) : ∃ p, 0 < p ∧ p ≤ a_m A ∧ (∀ j, a_m A ≤ j → fw_ (a_s A) (nI f) (j + p) = fw_ (a_s A) (nI f) j) ∧ ∀ q j, 0 < q → q < p → a_m A ≤ j → ¬ fw_ (a_s A) (nI f) (j + q) = fw_ (a_s A) (nI f) j := by
  have st : ∀ i k d, fw_ (a_s A) (nI f) i = fw_ (a_s A) (nI f) k → fw_ (a_s A) (nI f) (i + d) = fw_ (a_s A) (nI f) (k + d) := fun i k d e => by rw [fw_add, fw_add, e]
  have hm6 := V.2.2.1.2.1
  have hu : ∀ k, ∃ g, g < a_m A ∧ fw_ (a_s A) (nI f) k = nI g := fw_ok V hf
  obtain ⟨i, j, hij, hj, e⟩ := pigeon (a_m A) (fun k => (hu k).choose) (fun i _ => (hu i).choose_spec.1)
  have e2 : fw_ (a_s A) (nI f) i = fw_ (a_s A) (nI f) j := by
    rw [(hu i).choose_spec.2, (hu j).choose_spec.2]
    exact congrArg nI e
  have hper : ∀ d, a_m A ≤ d → fw_ (a_s A) (nI f) (d + (j - i)) = fw_ (a_s A) (nI f) d := fun d hd => by
    have z := st j i (d - i) e2.symm
    rw [show j + (d - i) = d + (j - i) by omega, show i + (d - i) = d by omega] at z
    exact z
  obtain ⟨p, hp, ⟨p0, p1⟩, p2⟩ := least_ (P := fun p => 0 < p ∧ ∃ d, a_m A ≤ d ∧ fw_ (a_s A) (nI f) (d + p) = fw_ (a_s A) (nI f) d) (j - i) ⟨by omega, a_m A, by omega, hper _ (by omega)⟩
  refine ⟨p, p0, by omega, fun d hd => ?_, fun q d q0 q1 hd e3 => p2 q q1 ⟨q0, d, hd, e3⟩⟩
  obtain ⟨d0, hd0, e0⟩ := p1
  have hrep : ∀ c d, a_m A ≤ d → fw_ (a_s A) (nI f) (d + c * (j - i)) = fw_ (a_s A) (nI f) d := by
    intro c
    induction c with
    | zero => intro d _; rw [Nat.zero_mul, Nat.add_zero]
    | succ c ih =>
      intro d hd
      rw [Nat.succ_mul, ← Nat.add_assoc, hper _ (by omega)]
      exact ih d hd
  have hbig : d0 ≤ d + d0 * (j - i) := by
    have : d0 * 1 ≤ d0 * (j - i) := Nat.mul_le_mul_left _ (by omega)
    omega
  have z := st (d0 + p) d0 (d + d0 * (j - i) - d0) e0
  rw [show d0 + p + (d + d0 * (j - i) - d0) = (d + p) + d0 * (j - i) by omega, show d0 + (d + d0 * (j - i) - d0) = d + d0 * (j - i) by omega, hrep d0 (d + p) (by omega), hrep d0 d hd] at z
  exact z
set_option maxHeartbeats 2000000 in
set_option maxRecDepth 20000 in
theorem rR_lp {E : sxE} {A : AS} {w : hpW} {Q : Option Value → hpW → Prop} (VA : AV A) (H : RR A w) {p g : Nat} (hg : g < a_m A) (hp : p ≤ 6) (h : Q (some (.int (nI p))) w) (e1 : fw_ (a_s A) (nI g) p = nI g) (e2 : ∀ q, 0 < q → q < p → ¬ fw_ (a_s A) (nI g) q = nI g) : ∀ d k, k + d = p → 0 < k → V E mX12_ring (sx_rm 3 0 0) 0 0 0 0 20 [(3, .int (nI k)), (2, .int (nI g)), (0, .ref 381)] [] w Q := by
  intro d
  have hB := H.1
  induction d with
  | zero =>
    intro k hk k0
    have e3 : k = p := by omega
    subst e3
    refine V_aload_n (i := 0) (sx_di dX12_ring 13 rfl) rfl rfl ?_
    refine V_iload_n (i := 2) (sx_di dX12_ring 14 rfl) rfl rfl ?_
    refine V_iload_n (i := 3) (sx_di dX12_ring 15 rfl) rfl rfl ?_
    refine V_cV2 (mc' := 0) (ms' := 0) (M' := mX12_followsBy) 1 (sx_di dX12_ring 16 rfl) lX12_420 vX12_followsBy (hB.k _ rfl) (by decide) rfl (Nat.le_of_ble_eq_true rfl) ⟨Nat.le_of_ble_eq_true rfl, Nat.le_of_ble_eq_true rfl⟩ ⟨Nat.le_refl _, Nat.le_refl _⟩ ?_
    refine e_followsBy VA H hg (by omega) ?_
    refine V_iload_n (i := 2) (sx_di dX12_ring 17 rfl) rfl rfl ?_
    refine V_icmp_eq (tgt := 36) (sx_di dX12_ring 18 rfl) (by decide) (fun _ => ?_) (fun h27 => absurd e1 h27)
    refine V_iload_n (i := 3) (sx_di dX12_ring 21 rfl) rfl rfl ?_
    refine V_iret (sx_di dX12_ring 22 rfl) rfl (Nat.le_refl _) (Nat.le_refl _) ?_
    exact h
  | succ d ih =>
    intro k hk k0
    have q1 := ih (k + 1) (by omega) (by omega)
    rw [← nI_1] at q1
    refine V_aload_n (i := 0) (sx_di dX12_ring 13 rfl) rfl rfl ?_
    refine V_iload_n (i := 2) (sx_di dX12_ring 14 rfl) rfl rfl ?_
    refine V_iload_n (i := 3) (sx_di dX12_ring 15 rfl) rfl rfl ?_
    refine V_cV2 (mc' := 0) (ms' := 0) (M' := mX12_followsBy) 1 (sx_di dX12_ring 16 rfl) lX12_420 vX12_followsBy (hB.k _ rfl) (by decide) rfl (Nat.le_of_ble_eq_true rfl) ⟨Nat.le_of_ble_eq_true rfl, Nat.le_of_ble_eq_true rfl⟩ ⟨Nat.le_refl _, Nat.le_refl _⟩ ?_
    refine e_followsBy VA H hg (by omega) ?_
    refine V_iload_n (i := 2) (sx_di dX12_ring 17 rfl) rfl rfl ?_
    refine V_icmp_eq (tgt := 36) (sx_di dX12_ring 18 rfl) (by decide) (fun h27 => absurd h27 (e2 k k0 (by omega))) (fun _ => ?_)
    refine V_inc (c := 1) (sx_di dX12_ring 19 rfl) (by decide) rfl (by decide) (rfl) ?_
    refine V_goto (tgt := 20) (sx_di dX12_ring 20 rfl) (by decide) ?_
    exact V_subk q1 ⟨rfl, rfl, rfl, trivial⟩
set_option maxHeartbeats 2000000 in
set_option maxRecDepth 20000 in
theorem eR_ring {E : sxE} {A : AS} {w : hpW} {Q : Option Value → hpW → Prop} (VA : AV A) (H : RR A w) {x : Int32} (h0 : ih_ (a_m A) x = 0 → Q (some (.int (-1))) w) (h1 : ∀ f, f < a_m A → x = nI f → ∃ p, p ≤ 6 ∧ 0 < p ∧ fw_ (a_s A) (nI f) (6 + p) = fw_ (a_s A) (nI f) 6 ∧ (∀ q, 0 < q → q < p → ¬ fw_ (a_s A) (nI f) (6 + q) = fw_ (a_s A) (nI f) 6) ∧ Q (some (.int (nI p))) w) : sx_C E mX12_ring 3 0 0 [.ref 381, .int x] w Q := by
  obtain ⟨hB, h1, h2, h3, h4, h5, h6, ⟨h7, h8⟩, ⟨h9, h10⟩, h11, h12⟩ := id H
  have hm6 := VA.2.2.1.2.1
  refine C_of (by decide +kernel) (Nat.le_of_ble_eq_true rfl) ?_
  refine V_aload_n (i := 0) (sx_di dX12_ring 0 rfl) rfl rfl ?_
  refine V_iload_n (i := 1) (sx_di dX12_ring 1 rfl) rfl rfl ?_
  refine V_cV1 (mc' := 0) (ms' := 0) (M' := mX12_isForm) 2 (sx_di dX12_ring 2 rfl) lX12_314 vX12_isForm (hB.k _ rfl) (by decide) rfl (Nat.le_of_ble_eq_true rfl) ⟨Nat.le_of_ble_eq_true rfl, Nat.le_of_ble_eq_true rfl⟩ ⟨Nat.le_refl _, Nat.le_refl _⟩ ?_
  refine c_X12_isForm hB h3.2.1 hm6 ?_
  refine V_if_ne (tgt := 10) (sx_di dX12_ring 3 rfl) (by decide) (fun h5_ => ?_) (fun h5_ => ?_)
  · obtain ⟨f, hf, rfl⟩ := ih_ye (by omega) h5_
    obtain ⟨p, p6, p0, e1, e2, hQ⟩ := h1 f hf rfl
    obtain ⟨g, hg, eg⟩ := fw_ok VA hf 6
    rw [fw_add, eg] at e1
    have e3 : ∀ q, 0 < q → q < p → ¬ fw_ (a_s A) (nI g) q = nI g := fun q a b => by
      have := e2 q a b
      rw [fw_add, eg] at this
      exact this
    refine V_aload_n (i := 0) (sx_di dX12_ring 6 rfl) rfl rfl ?_
    refine V_iload_n (i := 1) (sx_di dX12_ring 7 rfl) rfl rfl ?_
    refine V_bipush (v := 6) (sx_di dX12_ring 8 rfl) (by decide) ?_
    refine V_cV2 (mc' := 0) (ms' := 0) (M' := mX12_followsBy) 1 (sx_di dX12_ring 9 rfl) lX12_420 vX12_followsBy (hB.k _ rfl) (by decide) rfl (Nat.le_of_ble_eq_true rfl) ⟨Nat.le_of_ble_eq_true rfl, Nat.le_of_ble_eq_true rfl⟩ ⟨Nat.le_refl _, Nat.le_refl _⟩ ?_
    refine e_followsBy (m := 6) VA H hf (by omega) ?_
    refine V_iv (y := nI g) eg ?_
    refine V_istore_n (i := 2) (sx_di dX12_ring 10 rfl) rfl (by decide) (rfl) ?_
    refine V_iconst (v := 1) (sx_di dX12_ring 11 rfl) (by decide) ?_
    refine V_istore_n (i := 3) (sx_di dX12_ring 12 rfl) rfl (by decide) (rfl) ?_
    refine V_sub (ls' := [(3, .int (nI 1)), (2, .int (nI g)), (0, .ref 381)]) ⟨rfl, rfl, rfl, trivial⟩ ?_
    exact rR_lp VA H hg p6 hQ e1 e3 (p - 1) 1 (by omega) (by omega)
  · refine V_iconst (v := -1) (sx_di dX12_ring 4 rfl) (by decide) ?_
    refine V_iret (sx_di dX12_ring 5 rfl) rfl (Nat.le_refl _) (Nat.le_refl _) ?_
    exact h0 h5_
set_option maxHeartbeats 2000000 in
set_option maxRecDepth 20000 in
theorem rC_lp {E : sxE} {A : AS} {w : hpW} {t : Nat} {Q : Option Value → hpW → Prop} (VA : AV A) (hB : ly_B w) (ht : hp_r w 16 4 = some t) (hst : is_St w t) (C : Cstr w t (a_n A) (a_m A) (a_s A)) {p g : Nat} (hg : g < a_m A) (hp : p ≤ a_m A) (h : Q (some (.int (nI p))) w) (e1 : fw_ (a_s A) (nI g) p = nI g) (e2 : ∀ q, 0 < q → q < p → ¬ fw_ (a_s A) (nI g) q = nI g) : ∀ d k, k + d = p → 0 < k → V E mX11_ring (sx_rm 4 0 0) 0 0 0 0 41 [(5, .int (nI (k - 1))), (4, .int (nI k)), (3, .int (fw_ (a_s A) (nI g) k)), (2, .int (nI g)), (0, .ref 16)] [] w Q := by
  intro d
  have hm6 := VA.2.2.1.2.1
  have hm := C.2.2.2.2.1
  induction d with
  | zero =>
    intro k hk k0
    have e3 : k = p := by omega
    subst e3
    rw [e1]
    refine V_iload (sx_di dX11_ring 23 rfl) rfl ?_
    refine V_aload_n (i := 0) (sx_di dX11_ring 24 rfl) rfl rfl ?_
    refine V_getR (sx_di dX11_ring 25 rfl) fX11_48 (fun _ => rfl) (hB.k _ rfl) (ht) ?_
    refine V_getI (sx_di dX11_ring 26 rfl) fX11_230 (fun _ => rfl) (hst.1) ?_
    refine V_iv (y := nI (a_m A)) (hm) ?_
    refine V_icN_ge (a := (k - 1)) (b := (a_m A)) (rfl) (rfl) (by omega) (by omega) (tgt := 76) (sx_di dX11_ring 27 rfl) (by decide) (fun h50 => absurd h50 (by omega)) (fun _ => ?_)
    refine V_iload_n (i := 3) (sx_di dX11_ring 28 rfl) rfl rfl ?_
    refine V_iload_n (i := 2) (sx_di dX11_ring 29 rfl) rfl rfl ?_
    refine V_icN_eq (a := g) (b := g) (rfl) (rfl) (by omega) (by omega) (tgt := 76) (sx_di dX11_ring 30 rfl) (by decide) (fun _ => ?_) (fun h55 => absurd h55 (by omega))
    refine V_iload (sx_di dX11_ring 39 rfl) rfl ?_
    refine V_iret (sx_di dX11_ring 40 rfl) rfl (Nat.le_refl _) (Nat.le_refl _) ?_
    exact h
  | succ d ih =>
    intro k hk k0
    obtain ⟨g2, hg2, eg2⟩ := fw_ok VA hg k
    have q1 := ih (k + 1) (by omega) (by omega)
    rw [Nat.add_sub_cancel] at q1
    have e4 : sl_ (hp_i w) t (36 + 2 * nI g2 + 1) = fw_ (a_s A) (nI g) (k + 1) := by
      show _ = z_f (a_s A) (fw_ (a_s A) (nI g) k)
      rw [eg2]
      exact fo_n C hm6 hg2
    have hne : ¬ nI g2 = nI g := fun z => e2 k k0 (by omega) (eg2.trans z)
    have e5 : nI (k - 1) + 1 = nI k := (nI_add (k - 1) 1).trans (congrArg nI (by omega))
    have e6 : nI k + 1 = nI (k + 1) := nI_add k 1
    rw [eg2]
    rw [← e5, ← e6] at q1
    refine V_iload (sx_di dX11_ring 23 rfl) rfl ?_
    refine V_aload_n (i := 0) (sx_di dX11_ring 24 rfl) rfl rfl ?_
    refine V_getR (sx_di dX11_ring 25 rfl) fX11_48 (fun _ => rfl) (hB.k _ rfl) (ht) ?_
    refine V_getI (sx_di dX11_ring 26 rfl) fX11_230 (fun _ => rfl) (hst.1) ?_
    refine V_iv (y := nI (a_m A)) (hm) ?_
    refine V_icN_ge (a := (k - 1)) (b := (a_m A)) (rfl) (rfl) (by omega) (by omega) (tgt := 76) (sx_di dX11_ring 27 rfl) (by decide) (fun h50 => absurd h50 (by omega)) (fun _ => ?_)
    refine V_iload_n (i := 3) (sx_di dX11_ring 28 rfl) rfl rfl ?_
    refine V_iload_n (i := 2) (sx_di dX11_ring 29 rfl) rfl rfl ?_
    refine V_icmp_eq (tgt := 76) (sx_di dX11_ring 30 rfl) (by decide) (fun h55 => absurd h55 hne) (fun _ => ?_)
    refine V_aload_n (i := 0) (sx_di dX11_ring 31 rfl) rfl rfl ?_
    refine V_getR (sx_di dX11_ring 32 rfl) fX11_48 (fun _ => rfl) (hB.k _ rfl) (ht) ?_
    refine V_iload_n (i := 3) (sx_di dX11_ring 33 rfl) rfl rfl ?_
    refine V_cV1 (mc' := 0) (ms' := 0) (M' := mX8_following) 2 (sx_di dX11_ring 34 rfl) lX11_208 vX8_following (hst.1) (by decide) rfl (Nat.le_of_ble_eq_true rfl) ⟨Nat.le_of_ble_eq_true rfl, Nat.le_of_ble_eq_true rfl⟩ ⟨Nat.le_refl _, Nat.le_refl _⟩ ?_
    refine c_X8_following hst ?_
    refine V_iv (y := fw_ (a_s A) (nI g) (k + 1)) (e4) ?_
    refine V_istore_n (i := 3) (sx_di dX11_ring 35 rfl) rfl (by decide) (rfl) ?_
    refine V_inc (c := 1) (sx_di dX11_ring 36 rfl) (by decide) rfl (by decide) (rfl) ?_
    refine V_inc (c := 1) (sx_di dX11_ring 37 rfl) (by decide) rfl (by decide) (rfl) ?_
    refine V_goto (tgt := 41) (sx_di dX11_ring 38 rfl) (by decide) ?_
    exact V_subk q1 ⟨rfl, rfl, rfl, rfl, rfl, trivial⟩
set_option maxHeartbeats 2000000 in
set_option maxRecDepth 20000 in
theorem eC_ring {E : sxE} {A : AS} {w : hpW} {Q : Option Value → hpW → Prop} (VA : AV A) (H : CR A w) {x : Int32} (h0 : ih_ (a_m A) x = 0 → Q (some (.int (-1))) w) (h1 : ∀ f, f < a_m A → x = nI f → ∃ p, p ≤ a_m A ∧ 0 < p ∧ fw_ (a_s A) (nI f) (a_m A + p) = fw_ (a_s A) (nI f) (a_m A) ∧ (∀ q, 0 < q → q < p → ¬ fw_ (a_s A) (nI f) (a_m A + q) = fw_ (a_s A) (nI f) (a_m A)) ∧ Q (some (.int (nI p))) w) : sx_C E mX11_ring 4 0 0 [.ref 16, .int x] w Q := by
  obtain ⟨t, p', C', C⟩ := CN_of VA H
  have hB := H.1
  have ht := C'.2.1
  have hst := C'.2.2.1
  have hm6 := VA.2.2.1.2.1
  have hm := C.2.2.2.2.1
  refine C_of (by decide +kernel) (Nat.le_of_ble_eq_true rfl) ?_
  refine V_aload_n (i := 0) (sx_di dX11_ring 0 rfl) rfl rfl ?_
  refine V_iload_n (i := 1) (sx_di dX11_ring 1 rfl) rfl rfl ?_
  refine V_cV1 (mc' := 0) (ms' := 0) (M' := mX11_isForm) 1 (sx_di dX11_ring 2 rfl) lX11_202 vX11_isForm (hB.k _ rfl) (by decide) rfl (Nat.le_of_ble_eq_true rfl) ⟨Nat.le_of_ble_eq_true rfl, Nat.le_of_ble_eq_true rfl⟩ ⟨Nat.le_refl _, Nat.le_refl _⟩ ?_
  refine c_X11_isForm hB ht hst hm hm6 ?_
  refine V_if_ne (tgt := 10) (sx_di dX11_ring 3 rfl) (by decide) (fun h5 => ?_) (fun h5 => ?_)
  · obtain ⟨f, hf, rfl⟩ := ih_ye (by omega) h5
    obtain ⟨p, p6, p0, e1, e2, hQ⟩ := h1 f hf rfl
    obtain ⟨g, hg, eg⟩ := fw_ok VA hf (a_m A)
    rw [fw_add, eg] at e1
    have e3 : ∀ q, 0 < q → q < p → ¬ fw_ (a_s A) (nI g) q = nI g := fun q a b => by
      have := e2 q a b
      rw [fw_add, eg] at this
      exact this
    refine V_aload_n (i := 0) (sx_di dX11_ring 6 rfl) rfl rfl ?_
    refine V_getR (sx_di dX11_ring 7 rfl) fX11_48 (fun _ => rfl) (hB.k _ rfl) (ht) ?_
    refine V_iload_n (i := 1) (sx_di dX11_ring 8 rfl) rfl rfl ?_
    refine V_aload_n (i := 0) (sx_di dX11_ring 9 rfl) rfl rfl ?_
    refine V_getR (sx_di dX11_ring 10 rfl) fX11_48 (fun _ => rfl) (hB.k _ rfl) (ht) ?_
    refine V_getI (sx_di dX11_ring 11 rfl) fX11_230 (fun _ => rfl) (hst.1) ?_
    refine V_iv (y := nI (a_m A)) (hm) ?_
    refine V_cV2 (mc' := 0) (ms' := 0) (M' := mX8_changed) 3 (sx_di dX11_ring 12 rfl) lX11_381 vX8_changed (hst.1) (by decide) rfl (Nat.le_of_ble_eq_true rfl) ⟨Nat.le_of_ble_eq_true rfl, Nat.le_of_ble_eq_true rfl⟩ ⟨Nat.le_refl _, Nat.le_refl _⟩ ?_
    refine c_X8_changed hst (by omega) ?_
    refine V_iv (y := nI g) ((ch_fw VA C hf _).trans eg) ?_
    refine V_istore_n (i := 2) (sx_di dX11_ring 13 rfl) rfl (by decide) (rfl) ?_
    refine V_aload_n (i := 0) (sx_di dX11_ring 14 rfl) rfl rfl ?_
    refine V_getR (sx_di dX11_ring 15 rfl) fX11_48 (fun _ => rfl) (hB.k _ rfl) (ht) ?_
    refine V_iload_n (i := 2) (sx_di dX11_ring 16 rfl) rfl rfl ?_
    refine V_cV1 (mc' := 0) (ms' := 0) (M' := mX8_following) 2 (sx_di dX11_ring 17 rfl) lX11_208 vX8_following (hst.1) (by decide) rfl (Nat.le_of_ble_eq_true rfl) ⟨Nat.le_of_ble_eq_true rfl, Nat.le_of_ble_eq_true rfl⟩ ⟨Nat.le_refl _, Nat.le_refl _⟩ ?_
    refine c_X8_following hst ?_
    refine V_iv (y := fw_ (a_s A) (nI g) 1) (fo_n C hm6 hg) ?_
    refine V_istore_n (i := 3) (sx_di dX11_ring 18 rfl) rfl (by decide) (rfl) ?_
    refine V_iconst (v := 1) (sx_di dX11_ring 19 rfl) (by decide) ?_
    refine V_istore (sx_di dX11_ring 20 rfl) (by decide) (rfl) ?_
    refine V_iconst (v := 0) (sx_di dX11_ring 21 rfl) (by decide) ?_
    refine V_istore (sx_di dX11_ring 22 rfl) (by decide) (rfl) ?_
    refine V_sub (ls' := [(5, .int (nI 0)), (4, .int (nI 1)), (3, .int (fw_ (a_s A) (nI g) 1)), (2, .int (nI g)), (0, .ref 16)]) ⟨rfl, rfl, rfl, rfl, rfl, trivial⟩ ?_
    exact rC_lp VA hB ht hst C hg p6 hQ e1 e3 (p - 1) 1 (by omega) (by omega)
  · refine V_iconst (v := -1) (sx_di dX11_ring 4 rfl) (by decide) ?_
    refine V_iret (sx_di dX11_ring 5 rfl) rfl (Nat.le_refl _) (Nat.le_refl _) ?_
    exact h0 h5
theorem op_ring {E : sxE} {A : AS} (V : AV A) (x : Int32) : ∃ v : Int32, (∀ {w : hpW}, CR A w → oC E mX11_ring 4 [.ref 16, .int x] w A v A) ∧ ∀ {w : hpW}, RR A w → oR E mX12_ring 3 [.ref 381, .int x] w A v A := by
  have hm6 := V.2.2.1.2.1
  by_cases hx : ih_ (a_m A) x = 0
  · exact ⟨-1, fun {w} H Q h => eC_ring V H (fun _ => h w H fR_rf) (fun f hf e => absurd hx (by rw [e, ih_1 hf (by omega)]; decide)), fun {w} H Q h => eR_ring V H (fun _ => h w H fC_rf) (fun f hf e => absurd hx (by rw [e, ih_1 hf (by omega)]; decide))⟩
  · obtain ⟨f, hf, ex⟩ := ih_ye (by omega) hx
    obtain ⟨p, p0, p1, p2, p3⟩ := ring_ex V hf
    have uq : ∀ f2, x = nI f2 → f2 < a_m A → f2 = f := fun f2 e h2 => (nI_eq (by omega) (by omega)).mp (e.symm.trans ex)
    exact ⟨nI p, fun {w} H Q h => eC_ring V H (fun z => absurd z hx) (fun f2 hf2 e => by
        have := uq f2 e hf2
        subst this
        exact ⟨p, p1, p0, p2 _ (by omega), fun q a b => p3 q _ a b (by omega), h w H fR_rf⟩), fun {w} H Q h => eR_ring V H (fun z => absurd z hx) (fun f2 hf2 e => by
        have := uq f2 e hf2
        subst this
        exact ⟨p, by omega, p0, p2 _ (by omega), fun q a b => p3 q _ a b (by omega), h w H fC_rf⟩)⟩

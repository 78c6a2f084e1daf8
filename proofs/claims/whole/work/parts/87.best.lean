/-! the best day to look -/
def cnt_ (p : Nat → Bool) : Nat → Nat
  | 0 => 0
  | k + 1 => if p k = true then cnt_ p k + 1 else cnt_ p k
theorem cnt_le (p : Nat → Bool) : ∀ k, cnt_ p k ≤ k
  | 0 => Nat.le_refl _
  | k + 1 => by
    have := cnt_le p k
    unfold cnt_
    split <;> omega
theorem cnt_cg {p q : Nat → Bool} : ∀ k, (∀ c, c < k → p c = q c) → cnt_ p k = cnt_ q k
  | 0, _ => rfl
  | k + 1, h => by
    unfold cnt_
    rw [cnt_cg k (fun c hc => h c (by omega)), h k (by omega)]
def pv_ (i : Nat) : Int32 := nI i - 1
theorem pv_s (i : Nat) (h : i < 100) : pv_ i + 1 = pv_ (i + 1) := by
  unfold pv_
  rw [Int32.sub_add_cancel]
  exact (pk_sub (a := i + 1) (b := 1) (by omega)).symm
theorem pv_ge {i n : Nat} (h : i < 100) (hn : n ≤ 8) : nI n ≤ pv_ i ↔ n + 1 ≤ i := by
  have e : (pv_ i).toInt = (i : Int) - 1 := pk_sub_toInt (a := i) (b := 1) (by omega) (by omega)
  rw [fa_le, e, nI_toInt (by omega)]
  omega
noncomputable def tC_ (A : AS) (g : Int32) (k : Nat) (pl : Int32) (c : Nat) : Bool := fs_ok A g c && decide (wd_ A g c k 42 = pl)
noncomputable def tR_ (A : AS) (g : Int32) (k : Nat) (pl : Int32) (u : Nat) : Bool := pRf A g u && decide (wd_ A g u k 42 = pl)
theorem cnt_CR {A : AS} (V : AV A) (g : Int32) (k : Nat) (pl : Int32) : cnt_ (tR_ A g k pl) 10 = cnt_ (tC_ A g k pl) (a_n A + 1) := by
  have hn8 := V.2.2.1.1
  have e1 : cnt_ (tR_ A g k pl) (a_n A) = cnt_ (tC_ A g k pl) (a_n A) := cnt_cg _ (fun c hc => by
    unfold tR_ tC_ pRf
    rw [decide_eq_true (Or.inl hc), Bool.true_and])
  have e2 : ∀ q, a_n A + q ≤ 9 → cnt_ (tR_ A g k pl) (a_n A + q) = cnt_ (tR_ A g k pl) (a_n A) := by
    intro q
    induction q with
    | zero => intro _; rfl
    | succ q ih =>
      intro hq
      show (if tR_ A g k pl (a_n A + q) = true then _ else cnt_ (tR_ A g k pl) (a_n A + q)) = _
      have e0 : tR_ A g k pl (a_n A + q) = false := by unfold tR_ pRf; rw [decide_eq_false (by omega), Bool.false_and, Bool.false_and]
      rw [e0, if_neg (by decide), ih (by omega)]
  have e3 := e2 (9 - a_n A) (by omega)
  rw [show a_n A + (9 - a_n A) = 9 by omega] at e3
  have e4 : tR_ A g k pl 9 = tC_ A g k pl (a_n A) := by
    unfold tR_ tC_ pRf
    rw [decide_eq_true (Or.inr rfl), Bool.true_and, fs_9 (show a_n A ≤ 9 by omega), wd_9 (show a_n A ≤ 9 by omega)]
  show (if tR_ A g k pl 9 = true then cnt_ (tR_ A g k pl) 9 + 1 else cnt_ (tR_ A g k pl) 9) = (if tC_ A g k pl (a_n A) = true then cnt_ (tC_ A g k pl) (a_n A) + 1 else cnt_ (tC_ A g k pl) (a_n A))
  rw [e3, e1, e4]
noncomputable def mA_ (A : AS) (g : Int32) (k : Nat) : Nat → Int32
  | 0 => 0
  | i + 1 => mx_ (mA_ A g k i) (nI (cnt_ (tC_ A g k (pv_ i)) (a_n A + 1)))
noncomputable def bb_ (f : Nat → Int32) : Nat → Nat × Int32
  | 0 => (1, f 1)
  | k + 1 => if f (k + 2) < (bb_ f k).2 then (k + 2, f (k + 2)) else bb_ f k
theorem bb_le (f : Nat → Int32) : ∀ k, (bb_ f k).1 ≤ k + 1
  | 0 => Nat.le_refl _
  | k + 1 => by
    have := bb_le f k
    unfold bb_
    split
    · exact Nat.le_refl _
    · omega
noncomputable def q_best (A : AS) (x : Int32) : Int32 := @ite _ (a_n A = 0 ∨ x < 1 ∨ 5 < x ∨ ∀ c, c < a_n A + 1 → fs_ok A x c = false) (Classical.propDecidable _) (-1) (nI (bb_ (fun k => mA_ A x k (a_n A + 1)) 39).1)
theorem tqc_0 {p : Nat → Bool} {out : Nat → Int32} (ho : ∀ s, s < 20 → ¬ out s = -1) : ∀ d s, s + d ≤ 20 → (tqc p out 0 d s 0 = -1 ↔ ∀ c, s ≤ c → c < s + d → p c = false) := by
  intro d
  induction d with
  | zero =>
    intro s _
    refine ⟨fun _ c h1 h2 => absurd h2 (by omega), fun _ => ?_⟩
    show (if (0 : Int32) = -1 then nI 0 else -1) = -1
    decide
  | succ d ih =>
    intro s hs
    show (if p s = true then (if nI 0 = 0 then out s else tqc p out 0 d (s + 1) (0 + 1)) else tqc p out 0 d (s + 1) 0) = -1 ↔ _
    by_cases hp : p s = true
    · rw [if_pos hp, if_pos (show nI 0 = 0 from rfl)]
      exact ⟨fun z => absurd z (ho s (by omega)), fun z => absurd (z s (by omega) (by omega)) (by rw [hp]; decide)⟩
    · rw [if_neg hp, ih (s + 1) (by omega)]
      constructor
      · intro z c h1 h2
        by_cases e : c = s
        · rw [e]; simpa using hp
        · exact z c (by omega) (by omega)
      · intro z c h1 h2
        exact z c (by omega) (by omega)
set_option maxHeartbeats 2000000 in
set_option maxRecDepth 20000 in
theorem ma_in {E : sxE} {A : AS} {w : hpW} {Q : Option Value → hpW → Prop} (VA : AV A) (H : CR A w) {g : Int32} (hT : TK_ A g w (41 * (a_n A + 1))) {k i : Nat} (hk0 : 0 < k) (hk : k ≤ 40) (h : V E mX11_mostAgreeing (sx_rm 3 0 0) 0 0 0 0 69 [(5, .int (nI (cnt_ (tC_ A g k (pv_ i)) (a_n A + 1)))), (4, .int (pv_ i)), (3, .int (mA_ A g k i)), (2, .int (sb_ (fs_ok A g) (a_n A + 1))), (1, .int (nI k)), (0, .ref 16)] [] w Q) : ∀ d c, c + d = a_n A + 1 → V E mX11_mostAgreeing (sx_rm 3 0 0) 0 0 0 0 23 [(6, .int (nI c)), (5, .int (nI (cnt_ (tC_ A g k (pv_ i)) c))), (4, .int (pv_ i)), (3, .int (mA_ A g k i)), (2, .int (sb_ (fs_ok A g) (a_n A + 1))), (1, .int (nI k)), (0, .ref 16)] [] w Q := by
  intro d
  have hn8 := VA.2.2.1.1
  obtain ⟨t, hB, ht, hst, hn, _, _⟩ := CRn VA H
  induction d with
  | zero =>
    intro c hc
    have e : c = a_n A + 1 := by omega
    subst e
    refine V_iload (sx_di dX11_mostAgreeing 13 rfl) rfl ?_
    refine V_aload_n (i := 0) (sx_di dX11_mostAgreeing 14 rfl) rfl rfl ?_
    refine V_getR (sx_di dX11_mostAgreeing 15 rfl) fX11_48 (fun _ => rfl) (hB.k _ rfl) (ht) ?_
    refine V_cV0 (mc' := 0) (ms' := 0) (M' := mX8_houseCount) 2 (sx_di dX11_mostAgreeing 16 rfl) lX11_308 vX8_houseCount (hst.1) (by decide) rfl (Nat.le_of_ble_eq_true rfl) ⟨Nat.le_of_ble_eq_true rfl, Nat.le_of_ble_eq_true rfl⟩ ⟨Nat.le_refl _, Nat.le_refl _⟩ ?_
    refine c_X8_houseCount (hst.1) (hc8 hn hn8) ?_
    refine V_iv (y := nI (a_n A)) (hn) ?_
    refine V_icN_gt (a := (a_n A + 1)) (b := (a_n A)) (rfl) (rfl) (by omega) (by omega) (tgt := 69) (sx_di dX11_mostAgreeing 17 rfl) (by decide) (fun _ => ?_) (fun h32 => absurd h32 (by omega))
    exact V_subk h ⟨rfl, rfl, rfl, rfl, rfl, rfl, trivial⟩
  | succ d ih =>
    intro c hc
    have q1 := ih (c + 1) (by omega)
    have e1 : cnt_ (tC_ A g k (pv_ i)) (c + 1) = if tC_ A g k (pv_ i) c = true then cnt_ (tC_ A g k (pv_ i)) c + 1 else cnt_ (tC_ A g k (pv_ i)) c := rfl
    rw [e1] at q1
    have tst := sb_tst (p := fs_ok A g) (k := a_n A + 1) (c := c) (by omega) (by omega)
    have et : hp_i w 380 (c * 41 + k) = wd_ A g c k 42 := hT c k (by omega) hk0 hk (by omega)
    have hno : ¬ (fs_ok A g c = true ∧ wd_ A g c k 42 = pv_ i) → tC_ A g k (pv_ i) c = false := fun z => by
      unfold tC_
      by_cases hf : fs_ok A g c = true
      · rw [hf, Bool.true_and]; exact decide_eq_false (fun q => z ⟨hf, q⟩)
      · rw [show fs_ok A g c = false by simpa using hf, Bool.false_and]
    have hye : fs_ok A g c = true → wd_ A g c k 42 = pv_ i → tC_ A g k (pv_ i) c = true := fun z y => by
      unfold tC_
      rw [z, decide_eq_true y]
      rfl
    refine V_iload (sx_di dX11_mostAgreeing 13 rfl) rfl ?_
    refine V_aload_n (i := 0) (sx_di dX11_mostAgreeing 14 rfl) rfl rfl ?_
    refine V_getR (sx_di dX11_mostAgreeing 15 rfl) fX11_48 (fun _ => rfl) (hB.k _ rfl) (ht) ?_
    refine V_cV0 (mc' := 0) (ms' := 0) (M' := mX8_houseCount) 2 (sx_di dX11_mostAgreeing 16 rfl) lX11_308 vX8_houseCount (hst.1) (by decide) rfl (Nat.le_of_ble_eq_true rfl) ⟨Nat.le_of_ble_eq_true rfl, Nat.le_of_ble_eq_true rfl⟩ ⟨Nat.le_refl _, Nat.le_refl _⟩ ?_
    refine c_X8_houseCount (hst.1) (hc8 hn hn8) ?_
    refine V_iv (y := nI (a_n A)) (hn) ?_
    refine V_icN_gt (a := c) (b := (a_n A)) (rfl) (rfl) (by omega) (by omega) (tgt := 69) (sx_di dX11_mostAgreeing 17 rfl) (by decide) (fun h32 => absurd h32 (by omega)) (fun _ => ?_)
    refine V_iload_n (i := 2) (sx_di dX11_mostAgreeing 18 rfl) rfl rfl ?_
    refine V_iload (sx_di dX11_mostAgreeing 19 rfl) rfl ?_
    refine V_ishr (sx_di dX11_mostAgreeing 20 rfl) ?_
    refine V_iconst (v := 1) (sx_di dX11_mostAgreeing 21 rfl) (by decide) ?_
    refine V_iand (sx_di dX11_mostAgreeing 22 rfl) ?_
    refine V_if_eq (tgt := 63) (sx_di dX11_mostAgreeing 23 rfl) (by decide) (fun h41 => ?_) (fun h41 => ?_)
    · rw [if_neg (by rw [hno (fun z => tst.mp h41 z.1)]; decide), ← nI_1] at q1
      refine V_inc (c := 1) (sx_di dX11_mostAgreeing 34 rfl) (by decide) rfl (by decide) (rfl) ?_
      refine V_goto (tgt := 23) (sx_di dX11_mostAgreeing 35 rfl) (by decide) ?_
      exact V_subk q1 ⟨rfl, rfl, rfl, rfl, rfl, rfl, rfl, trivial⟩
    · have hf : fs_ok A g c = true := Classical.byContradiction (fun z => h41 (tst.mpr z))
      refine V_aload_n (i := 0) (sx_di dX11_mostAgreeing 24 rfl) rfl rfl ?_
      refine V_iload (sx_di dX11_mostAgreeing 25 rfl) rfl ?_
      refine V_bipush (v := 41) (sx_di dX11_mostAgreeing 26 rfl) (by decide) ?_
      refine V_imul (sx_di dX11_mostAgreeing 27 rfl) ?_
      refine V_iload_n (i := 1) (sx_di dX11_mostAgreeing 28 rfl) rfl rfl ?_
      refine V_iadd (sx_di dX11_mostAgreeing 29 rfl) ?_
      refine V_cV1 (mc' := 0) (ms' := 0) (M' := mX11_entry) 1 (sx_di dX11_mostAgreeing 30 rfl) lX11_315 vX11_entry (hB.k _ rfl) (by decide) rfl (Nat.le_of_ble_eq_true rfl) ⟨Nat.le_of_ble_eq_true rfl, Nat.le_of_ble_eq_true rfl⟩ ⟨Nat.le_refl _, Nat.le_refl _⟩ ?_
      refine c_X11_entryN (j := ((c * 41) + k)) (hB.k _ rfl) (hB.r _ _ rfl) (hB.k _ rfl) (nx_add (nx_mul (rfl) (rfl)) (rfl)) (by omega) ?_
      refine V_iv (y := wd_ A g c k 42) (et) ?_
      refine V_iload (sx_di dX11_mostAgreeing 31 rfl) rfl ?_
      refine V_icmp_ne (tgt := 63) (sx_di dX11_mostAgreeing 32 rfl) (by decide) (fun h57 => ?_) (fun h57 => ?_)
      · rw [if_neg (by rw [hno (fun z => h57 z.2)]; decide), ← nI_1] at q1
        refine V_inc (c := 1) (sx_di dX11_mostAgreeing 34 rfl) (by decide) rfl (by decide) (rfl) ?_
        refine V_goto (tgt := 23) (sx_di dX11_mostAgreeing 35 rfl) (by decide) ?_
        exact V_subk q1 ⟨rfl, rfl, rfl, rfl, rfl, rfl, rfl, trivial⟩
      · rw [if_pos (hye hf h57), ← nI_1, ← nI_1] at q1
        refine V_inc (c := 1) (sx_di dX11_mostAgreeing 33 rfl) (by decide) rfl (by decide) (rfl) ?_
        refine V_inc (c := 1) (sx_di dX11_mostAgreeing 34 rfl) (by decide) rfl (by decide) (rfl) ?_
        refine V_goto (tgt := 23) (sx_di dX11_mostAgreeing 35 rfl) (by decide) ?_
        exact V_subk q1 ⟨rfl, rfl, rfl, rfl, rfl, rfl, rfl, trivial⟩
set_option maxHeartbeats 2000000 in
set_option maxRecDepth 20000 in
theorem ma_out {E : sxE} {A : AS} {w : hpW} {Q : Option Value → hpW → Prop} (VA : AV A) (H : CR A w) {g : Int32} (hT : TK_ A g w (41 * (a_n A + 1))) {k : Nat} (hk0 : 0 < k) (hk : k ≤ 40) (h : Q (some (.int (mA_ A g k (a_n A + 1)))) w) : ∀ d i, i + d = a_n A + 1 → V E mX11_mostAgreeing (sx_rm 3 0 0) 0 0 0 0 5 [(4, .int (pv_ i)), (3, .int (mA_ A g k i)), (2, .int (sb_ (fs_ok A g) (a_n A + 1))), (1, .int (nI k)), (0, .ref 16)] [] w Q := by
  intro d
  have hn8 := VA.2.2.1.1
  obtain ⟨t, hB, ht, hst, hn, _, _⟩ := CRn VA H
  induction d with
  | zero =>
    intro i hi
    have e : i = a_n A + 1 := by omega
    subst e
    refine V_iload (sx_di dX11_mostAgreeing 4 rfl) rfl ?_
    refine V_aload_n (i := 0) (sx_di dX11_mostAgreeing 5 rfl) rfl rfl ?_
    refine V_getR (sx_di dX11_mostAgreeing 6 rfl) fX11_48 (fun _ => rfl) (hB.k _ rfl) (ht) ?_
    refine V_cV0 (mc' := 0) (ms' := 0) (M' := mX8_houseCount) 2 (sx_di dX11_mostAgreeing 7 rfl) lX11_308 vX8_houseCount (hst.1) (by decide) rfl (Nat.le_of_ble_eq_true rfl) ⟨Nat.le_of_ble_eq_true rfl, Nat.le_of_ble_eq_true rfl⟩ ⟨Nat.le_refl _, Nat.le_refl _⟩ ?_
    refine c_X8_houseCount (hst.1) (hc8 hn hn8) ?_
    refine V_iv (y := nI (a_n A)) (hn) ?_
    refine V_icmp_ge (tgt := 82) (sx_di dX11_mostAgreeing 8 rfl) (by decide) (fun _ => ?_) (fun h14 => absurd ((pv_ge (by omega) hn8).mpr (by omega)) h14)
    refine V_iload_n (i := 3) (sx_di dX11_mostAgreeing 42 rfl) rfl rfl ?_
    refine V_iret (sx_di dX11_mostAgreeing 43 rfl) rfl (Nat.le_refl _) (Nat.le_refl _) ?_
    exact h
  | succ d ih =>
    intro i hi
    have q1 := ih (i + 1) (by omega)
    rw [← pv_s i (by omega)] at q1
    have hin : V E mX11_mostAgreeing (sx_rm 3 0 0) 0 0 0 0 69 [(5, .int (nI (cnt_ (tC_ A g k (pv_ i)) (a_n A + 1)))), (4, .int (pv_ i)), (3, .int (mA_ A g k i)), (2, .int (sb_ (fs_ok A g) (a_n A + 1))), (1, .int (nI k)), (0, .ref 16)] [] w Q := by
      refine V_iload_n (i := 3) (sx_di dX11_mostAgreeing 36 rfl) rfl rfl ?_
      refine V_iload (sx_di dX11_mostAgreeing 37 rfl) rfl ?_
      refine V_mmax (sx_di dX11_mostAgreeing 38 rfl) (sx_a3 185 rfl rfl) (sx_a3 186 rfl rfl) (sx_a1 22 rfl rfl) (sx_a3 187 rfl rfl) ⟨Nat.le_of_ble_eq_true rfl, Nat.le_of_ble_eq_true rfl, Nat.le_refl _, Nat.le_refl _⟩ ?_
      refine V_istore_n (i := 3) (sx_di dX11_mostAgreeing 39 rfl) rfl (by decide) (rfl) ?_
      refine V_inc (c := 1) (sx_di dX11_mostAgreeing 40 rfl) (by decide) rfl (by decide) (rfl) ?_
      refine V_goto (tgt := 5) (sx_di dX11_mostAgreeing 41 rfl) (by decide) ?_
      exact V_subk q1 ⟨rfl, rfl, rfl, rfl, rfl, trivial⟩
    refine V_iload (sx_di dX11_mostAgreeing 4 rfl) rfl ?_
    refine V_aload_n (i := 0) (sx_di dX11_mostAgreeing 5 rfl) rfl rfl ?_
    refine V_getR (sx_di dX11_mostAgreeing 6 rfl) fX11_48 (fun _ => rfl) (hB.k _ rfl) (ht) ?_
    refine V_cV0 (mc' := 0) (ms' := 0) (M' := mX8_houseCount) 2 (sx_di dX11_mostAgreeing 7 rfl) lX11_308 vX8_houseCount (hst.1) (by decide) rfl (Nat.le_of_ble_eq_true rfl) ⟨Nat.le_of_ble_eq_true rfl, Nat.le_of_ble_eq_true rfl⟩ ⟨Nat.le_refl _, Nat.le_refl _⟩ ?_
    refine c_X8_houseCount (hst.1) (hc8 hn hn8) ?_
    refine V_iv (y := nI (a_n A)) (hn) ?_
    refine V_icmp_ge (tgt := 82) (sx_di dX11_mostAgreeing 8 rfl) (by decide) (fun h14 => absurd h14 (fun z => absurd ((pv_ge (by omega) hn8).mp z) (by omega))) (fun _ => ?_)
    refine V_iconst (v := 0) (sx_di dX11_mostAgreeing 9 rfl) (by decide) ?_
    refine V_istore (sx_di dX11_mostAgreeing 10 rfl) (by decide) (rfl) ?_
    refine V_iconst (v := 0) (sx_di dX11_mostAgreeing 11 rfl) (by decide) ?_
    refine V_istore (sx_di dX11_mostAgreeing 12 rfl) (by decide) (rfl) ?_
    refine V_sub (ls' := [(6, .int (nI 0)), (5, .int (nI 0)), (4, .int (pv_ i)), (3, .int (mA_ A g k i)), (2, .int (sb_ (fs_ok A g) (a_n A + 1))), (1, .int (nI k)), (0, .ref 16)]) ⟨rfl, rfl, rfl, rfl, rfl, rfl, rfl, trivial⟩ ?_
    exact ma_in VA H hT hk0 hk hin (a_n A + 1) 0 (by omega)
set_option maxHeartbeats 2000000 in
set_option maxRecDepth 20000 in
theorem e_mostAgreeing {E : sxE} {A : AS} {w : hpW} {Q : Option Value → hpW → Prop} (VA : AV A) (H : CR A w) {g : Int32} (hT : TK_ A g w (41 * (a_n A + 1))) {k : Nat} (hk0 : 0 < k) (hk : k ≤ 40) (h : Q (some (.int (mA_ A g k (a_n A + 1)))) w) : sx_C E mX11_mostAgreeing 3 0 0 [.ref 16, .int (nI k), .int (sb_ (fs_ok A g) (a_n A + 1))] w Q := by
  refine C_of (by decide +kernel) (Nat.le_of_ble_eq_true rfl) ?_
  refine V_iconst (v := 0) (sx_di dX11_mostAgreeing 0 rfl) (by decide) ?_
  refine V_istore_n (i := 3) (sx_di dX11_mostAgreeing 1 rfl) rfl (by decide) (rfl) ?_
  refine V_iconst (v := -1) (sx_di dX11_mostAgreeing 2 rfl) (by decide) ?_
  refine V_istore (sx_di dX11_mostAgreeing 3 rfl) (by decide) (rfl) ?_
  refine V_sub (ls' := [(4, .int (pv_ 0)), (3, .int (mA_ A g k 0)), (2, .int (sb_ (fs_ok A g) (a_n A + 1))), (1, .int (nI k)), (0, .ref 16)]) ⟨rfl, rfl, rfl, rfl, rfl, trivial⟩ ?_
  exact ma_out VA H hT hk0 hk h (a_n A + 1) 0 (by omega)
set_option maxHeartbeats 2000000 in
set_option maxRecDepth 20000 in
theorem bsC_lp {E : sxE} {A : AS} {w : hpW} {Q : Option Value → hpW → Prop} (VA : AV A) (H : CR A w) {g : Int32} (hT : TK_ A g w (41 * (a_n A + 1))) (h : Q (some (.int (nI (bb_ (fun k => mA_ A g k (a_n A + 1)) 39).1))) w) : ∀ d k, k + d = 39 → V E mX11_best (sx_rm 8 0 0) 0 0 0 0 43 [(5, .int (nI (k + 2))), (4, .int (bb_ (fun k => mA_ A g k (a_n A + 1)) k).2), (3, .int (nI (bb_ (fun k => mA_ A g k (a_n A + 1)) k).1)), (2, .int (sb_ (fs_ok A g) (a_n A + 1))), (0, .ref 16)] [] w Q := by
  intro d
  have hB := H.1
  induction d with
  | zero =>
    intro k hk
    have e : k = 39 := by omega
    subst e
    refine V_iload (sx_di dX11_best 27 rfl) rfl ?_
    refine V_bipush (v := 40) (sx_di dX11_best 28 rfl) (by decide) ?_
    refine V_icN_gt (a := (39 + 2)) (b := 40) (rfl) (rfl) (by omega) (by omega) (tgt := 84) (sx_di dX11_best 29 rfl) (by decide) (fun _ => ?_) (fun h47 => absurd h47 (by omega))
    refine V_iload_n (i := 3) (sx_di dX11_best 47 rfl) rfl rfl ?_
    refine V_iret (sx_di dX11_best 48 rfl) rfl (Nat.le_refl _) (Nat.le_refl _) ?_
    exact h
  | succ d ih =>
    intro k hk
    have q1 := ih (k + 1) (by omega)
    have e1 : bb_ (fun k => mA_ A g k (a_n A + 1)) (k + 1) = if mA_ A g (k + 2) (a_n A + 1) < (bb_ (fun k => mA_ A g k (a_n A + 1)) k).2 then (k + 2, mA_ A g (k + 2) (a_n A + 1)) else bb_ (fun k => mA_ A g k (a_n A + 1)) k := rfl
    rw [e1, show k + 1 + 2 = k + 2 + 1 by omega, ← nI_1] at q1
    have hle := bb_le (fun k => mA_ A g k (a_n A + 1)) k
    have hm1 : ¬ nI (bb_ (fun k => mA_ A g k (a_n A + 1)) k).1 = -1 := nI_m1 (by omega)
    refine V_iload (sx_di dX11_best 27 rfl) rfl ?_
    refine V_bipush (v := 40) (sx_di dX11_best 28 rfl) (by decide) ?_
    refine V_icN_gt (a := (k + 2)) (b := 40) (rfl) (rfl) (by omega) (by omega) (tgt := 84) (sx_di dX11_best 29 rfl) (by decide) (fun h47 => absurd h47 (by omega)) (fun _ => ?_)
    refine V_aload_n (i := 0) (sx_di dX11_best 30 rfl) rfl rfl ?_
    refine V_iload (sx_di dX11_best 31 rfl) rfl ?_
    refine V_iload_n (i := 2) (sx_di dX11_best 32 rfl) rfl rfl ?_
    refine V_cV2 (mc' := 0) (ms' := 0) (M' := mX11_mostAgreeing) 3 (sx_di dX11_best 33 rfl) lX11_362 vX11_mostAgreeing (hB.k _ rfl) (by decide) rfl (Nat.le_of_ble_eq_true rfl) ⟨Nat.le_of_ble_eq_true rfl, Nat.le_of_ble_eq_true rfl⟩ ⟨Nat.le_refl _, Nat.le_refl _⟩ ?_
    refine e_mostAgreeing VA H hT (k := k + 2) (by omega) (by omega) ?_
    refine V_istore (sx_di dX11_best 34 rfl) (by decide) (rfl) ?_
    refine V_iload_n (i := 3) (sx_di dX11_best 35 rfl) rfl rfl ?_
    refine V_iconst (v := -1) (sx_di dX11_best 36 rfl) (by decide) ?_
    refine V_icmp_eq (tgt := 71) (sx_di dX11_best 37 rfl) (by decide) (fun h61 => absurd h61 hm1) (fun _ => ?_)
    refine V_iload (sx_di dX11_best 38 rfl) rfl ?_
    refine V_iload (sx_di dX11_best 39 rfl) rfl ?_
    refine V_icmp_ge (tgt := 78) (sx_di dX11_best 40 rfl) (by decide) (fun h68 => ?_) (fun h68 => ?_)
    · rw [if_neg (Int32.not_lt.mpr h68)] at q1
      refine V_inc (c := 1) (sx_di dX11_best 45 rfl) (by decide) rfl (by decide) (rfl) ?_
      refine V_goto (tgt := 43) (sx_di dX11_best 46 rfl) (by decide) ?_
      exact V_subk q1 ⟨rfl, rfl, rfl, rfl, rfl, trivial⟩
    · rw [if_pos (Int32.not_le.mp h68)] at q1
      refine V_iload (sx_di dX11_best 41 rfl) rfl ?_
      refine V_istore (sx_di dX11_best 42 rfl) (by decide) (rfl) ?_
      refine V_iload (sx_di dX11_best 43 rfl) rfl ?_
      refine V_istore_n (i := 3) (sx_di dX11_best 44 rfl) rfl (by decide) (rfl) ?_
      refine V_inc (c := 1) (sx_di dX11_best 45 rfl) (by decide) rfl (by decide) (rfl) ?_
      refine V_goto (tgt := 43) (sx_di dX11_best 46 rfl) (by decide) ?_
      exact V_subk q1 ⟨rfl, rfl, rfl, rfl, rfl, trivial⟩
set_option maxHeartbeats 2000000 in
set_option maxRecDepth 20000 in
theorem bsC_1 {E : sxE} {A : AS} {w : hpW} {Q : Option Value → hpW → Prop} (VA : AV A) (H : CR A w) {g : Int32} (hT : TK_ A g w (41 * (a_n A + 1))) (h : Q (some (.int (nI (bb_ (fun k => mA_ A g k (a_n A + 1)) 39).1))) w) : V E mX11_best (sx_rm 8 0 0) 0 0 0 0 43 [(5, .int (nI 1)), (4, .int 0), (3, .int (-1)), (2, .int (sb_ (fs_ok A g) (a_n A + 1))), (0, .ref 16)] [] w Q := by
  have hB := H.1
  refine V_iload (sx_di dX11_best 27 rfl) rfl ?_
  refine V_bipush (v := 40) (sx_di dX11_best 28 rfl) (by decide) ?_
  refine V_icN_gt (a := 1) (b := 40) (rfl) (rfl) (by omega) (by omega) (tgt := 84) (sx_di dX11_best 29 rfl) (by decide) (fun h47 => absurd h47 (by omega)) (fun _ => ?_)
  refine V_aload_n (i := 0) (sx_di dX11_best 30 rfl) rfl rfl ?_
  refine V_iload (sx_di dX11_best 31 rfl) rfl ?_
  refine V_iload_n (i := 2) (sx_di dX11_best 32 rfl) rfl rfl ?_
  refine V_cV2 (mc' := 0) (ms' := 0) (M' := mX11_mostAgreeing) 3 (sx_di dX11_best 33 rfl) lX11_362 vX11_mostAgreeing (hB.k _ rfl) (by decide) rfl (Nat.le_of_ble_eq_true rfl) ⟨Nat.le_of_ble_eq_true rfl, Nat.le_of_ble_eq_true rfl⟩ ⟨Nat.le_refl _, Nat.le_refl _⟩ ?_
  refine e_mostAgreeing VA H hT (k := 1) (by omega) (by omega) ?_
  refine V_istore (sx_di dX11_best 34 rfl) (by decide) (rfl) ?_
  refine V_iload_n (i := 3) (sx_di dX11_best 35 rfl) rfl rfl ?_
  refine V_iconst (v := -1) (sx_di dX11_best 36 rfl) (by decide) ?_
  refine V_icmp_eq (tgt := 71) (sx_di dX11_best 37 rfl) (by decide) (fun _ => ?_) (fun h61 => absurd rfl h61)
  refine V_iload (sx_di dX11_best 41 rfl) rfl ?_
  refine V_istore (sx_di dX11_best 42 rfl) (by decide) (rfl) ?_
  refine V_iload (sx_di dX11_best 43 rfl) rfl ?_
  refine V_istore_n (i := 3) (sx_di dX11_best 44 rfl) rfl (by decide) (rfl) ?_
  refine V_inc (c := 1) (sx_di dX11_best 45 rfl) (by decide) rfl (by decide) (rfl) ?_
  refine V_goto (tgt := 43) (sx_di dX11_best 46 rfl) (by decide) ?_
  refine V_sub (ls' := [(5, .int (nI (0 + 2))), (4, .int (mA_ A g 1 (a_n A + 1))), (3, .int (nI 1)), (2, .int (sb_ (fs_ok A g) (a_n A + 1))), (0, .ref 16)]) ⟨rfl, rfl, rfl, rfl, rfl, trivial⟩ ?_
  exact bsC_lp VA H hT h 39 0 (by omega)
set_option maxHeartbeats 2000000 in
set_option maxRecDepth 20000 in
theorem oC_best {E : sxE} {A : AS} {w : hpW} (VA : AV A) (H : CR A w) (x : Int32) : oC E mX11_best 8 [.ref 16, .int x] w A (q_best A x) A := by
  intro Q h
  obtain ⟨t, hB, ht, hst, hn, _, _⟩ := CRn VA H
  have hn8 := VA.2.2.1.1
  unfold q_best at h
  have hno : (a_n A = 0 ∨ x < 1 ∨ 5 < x) → Q (some (.int (-1))) w := fun e => by
    rw [if_pos (e.elim Or.inl (fun e => Or.inr (e.elim Or.inl (fun e => Or.inr (Or.inl e)))))] at h
    exact h w H fR_rf
  refine C_of (by decide +kernel) (Nat.le_of_ble_eq_true rfl) ?_
  refine V_aload_n (i := 0) (sx_di dX11_best 0 rfl) rfl rfl ?_
  refine V_cV0 (mc' := 0) (ms' := 0) (M' := mX11_isStreet) 1 (sx_di dX11_best 1 rfl) lX11_154 vX11_isStreet (hB.k _ rfl) (by decide) rfl (Nat.le_of_ble_eq_true rfl) ⟨Nat.le_of_ble_eq_true rfl, Nat.le_of_ble_eq_true rfl⟩ ⟨Nat.le_refl _, Nat.le_refl _⟩ ?_
  refine c_X11_isStreet hB ht hst hn hn8 ?_
  refine V_if_eq (tgt := 17) (sx_di dX11_best 2 rfl) (by decide) (fun h4 => ?_) (fun h4 => ?_)
  · have h5 : a_n A = 0 := Classical.byContradiction (fun z => by rw [if_neg z] at h4; exact absurd h4 (by decide))
    refine V_iconst (v := -1) (sx_di dX11_best 9 rfl) (by decide) ?_
    refine V_iret (sx_di dX11_best 10 rfl) rfl (Nat.le_refl _) (Nat.le_refl _) ?_
    exact hno (Or.inl h5)
  · have h5 : ¬ a_n A = 0 := fun z => h4 (if_pos z)
    refine V_iload_n (i := 1) (sx_di dX11_best 3 rfl) rfl rfl ?_
    refine V_iconst (v := 1) (sx_di dX11_best 4 rfl) (by decide) ?_
    refine V_icmp_lt (tgt := 17) (sx_di dX11_best 5 rfl) (by decide) (fun h9 => ?_) (fun h9 => ?_)
    · refine V_iconst (v := -1) (sx_di dX11_best 9 rfl) (by decide) ?_
      refine V_iret (sx_di dX11_best 10 rfl) rfl (Nat.le_refl _) (Nat.le_refl _) ?_
      exact hno (Or.inr (Or.inl h9))
    · refine V_iload_n (i := 1) (sx_di dX11_best 6 rfl) rfl rfl ?_
      refine V_iconst (v := 5) (sx_di dX11_best 7 rfl) (by decide) ?_
      refine V_icmp_le (tgt := 19) (sx_di dX11_best 8 rfl) (by decide) (fun h14 => ?_) (fun h14 => ?_)
      · have hg : ¬ (a_n A = 0 ∨ x < 1 ∨ 5 < x) := fun z => z.elim h5 (fun z => z.elim h9 (Int32.not_lt.mpr h14))
        have h0 : 0 < a_n A := by omega
        obtain ⟨g, hg5, rfl⟩ := nb_ (v := x) (k := 5) (by decide) (by rw [fa_lt, ti_0]; rw [fa_lt, ti_1] at h9; omega) (Int32.not_lt.mpr h14)
        refine V_aload_n (i := 0) (sx_di dX11_best 11 rfl) rfl rfl ?_
        refine V_iload_n (i := 1) (sx_di dX11_best 12 rfl) rfl rfl ?_
        refine V_cV1 (mc' := 0) (ms' := 0) (M' := mX11_fillWalks) 7 (sx_di dX11_best 13 rfl) lX11_356 vX11_fillWalks (hB.k _ rfl) (by decide) rfl (Nat.le_of_ble_eq_true rfl) ⟨Nat.le_of_ble_eq_true rfl, Nat.le_of_ble_eq_true rfl⟩ ⟨Nat.le_refl _, Nat.le_refl _⟩ ?_
        refine e_fillWalks VA H h0 hg5 (fun w2 H2 f2 hT => ?_)
        have hB2 := H2.1
        refine V_aload_n (i := 0) (sx_di dX11_best 14 rfl) rfl rfl ?_
        refine V_cV0 (mc' := 0) (ms' := 0) (M' := mX11_fitting) 3 (sx_di dX11_best 15 rfl) lX11_359 vX11_fitting (hB2.k _ rfl) (by decide) rfl (Nat.le_of_ble_eq_true rfl) ⟨Nat.le_of_ble_eq_true rfl, Nat.le_of_ble_eq_true rfl⟩ ⟨Nat.le_refl _, Nat.le_refl _⟩ ?_
        refine e_fitting VA H2 hT ?_
        refine V_istore_n (i := 2) (sx_di dX11_best 16 rfl) rfl (by decide) (rfl) ?_
        refine V_iload_n (i := 2) (sx_di dX11_best 17 rfl) rfl rfl ?_
        refine V_if_ne (tgt := 35) (sx_di dX11_best 18 rfl) (by decide) (fun h30 => ?_) (fun h30 => ?_)
        · have hs := fun z => h30 ((sb_0 (p := fs_ok A (nI g)) (k := a_n A + 1) (by omega)).mpr z)
          rw [if_neg (fun z => z.elim (fun z => hg (Or.inl z)) (fun z => z.elim (fun z => hg (Or.inr (Or.inl z))) (fun z => z.elim (fun z => hg (Or.inr (Or.inr z))) hs)))] at h
          refine V_iconst (v := -1) (sx_di dX11_best 21 rfl) (by decide) ?_
          refine V_istore_n (i := 3) (sx_di dX11_best 22 rfl) rfl (by decide) (rfl) ?_
          refine V_iconst (v := 0) (sx_di dX11_best 23 rfl) (by decide) ?_
          refine V_istore (sx_di dX11_best 24 rfl) (by decide) (rfl) ?_
          refine V_iconst (v := 1) (sx_di dX11_best 25 rfl) (by decide) ?_
          refine V_istore (sx_di dX11_best 26 rfl) (by decide) (rfl) ?_
          refine V_sub (ls' := [(5, .int (nI 1)), (4, .int 0), (3, .int (-1)), (2, .int (sb_ (fs_ok A (nI g)) (a_n A + 1))), (0, .ref 16)]) ⟨rfl, rfl, rfl, rfl, rfl, trivial⟩ ?_
          exact bsC_1 VA H2 hT (h w2 H2 f2)
        · have hs := (sb_0 (p := fs_ok A (nI g)) (k := a_n A + 1) (by omega)).mp h30
          rw [if_pos (Or.inr (Or.inr (Or.inr hs)))] at h
          refine V_iconst (v := -1) (sx_di dX11_best 19 rfl) (by decide) ?_
          refine V_iret (sx_di dX11_best 20 rfl) rfl (Nat.le_refl _) (Nat.le_refl _) ?_
          exact h w2 H2 f2
      · refine V_iconst (v := -1) (sx_di dX11_best 9 rfl) (by decide) ?_
        refine V_iret (sx_di dX11_best 10 rfl) rfl (Nat.le_refl _) (Nat.le_refl _) ?_
        exact hno (Or.inr (Or.inr (Int32.not_le.mp h14)))
set_option maxHeartbeats 2000000 in
set_option maxRecDepth 20000 in
theorem mt_in {E : sxE} {A : AS} {w : hpW} {Q : Option Value → hpW → Prop} (VA : AV A) (H : RR A w) {g : Int32} (hT : PK_ A g w 410) {k i : Nat} (hk0 : 0 < k) (hk : k ≤ 40) (h : V E mX12_mostTell (sx_rm 5 0 0) 0 0 0 0 66 [(4, .int (nI (cnt_ (tR_ A g k (pv_ i)) 10))), (3, .int (pv_ i)), (2, .int (mA_ A g k i)), (1, .int (nI k)), (0, .ref 381)] [] w Q) : ∀ d u, u + d = 10 → V E mX12_mostTell (sx_rm 5 0 0) 0 0 0 0 18 [(5, .int (nI u)), (4, .int (nI (cnt_ (tR_ A g k (pv_ i)) u))), (3, .int (pv_ i)), (2, .int (mA_ A g k i)), (1, .int (nI k)), (0, .ref 381)] [] w Q := by
  intro d
  have hB := H.1
  induction d with
  | zero =>
    intro u hu
    have e : u = 10 := by omega
    subst e
    refine V_iload (sx_di dX12_mostTell 12 rfl) rfl ?_
    refine V_bipush (v := 9) (sx_di dX12_mostTell 13 rfl) (by decide) ?_
    refine V_icN_gt (a := 10) (b := 9) (rfl) (rfl) (by omega) (by omega) (tgt := 66) (sx_di dX12_mostTell 14 rfl) (by decide) (fun _ => ?_) (fun h22 => absurd h22 (by omega))
    exact V_subk h ⟨rfl, rfl, rfl, rfl, rfl, trivial⟩
  | succ d ih =>
    intro u hu
    have q1 := ih (u + 1) (by omega)
    have e1 : cnt_ (tR_ A g k (pv_ i)) (u + 1) = if tR_ A g k (pv_ i) u = true then cnt_ (tR_ A g k (pv_ i)) u + 1 else cnt_ (tR_ A g k (pv_ i)) u := rfl
    rw [e1] at q1
    have hno : ¬ (pRf A g u = true ∧ wd_ A g u k 42 = pv_ i) → tR_ A g k (pv_ i) u = false := fun z => by
      unfold tR_
      by_cases hf : pRf A g u = true
      · rw [hf, Bool.true_and]; exact decide_eq_false (fun q => z ⟨hf, q⟩)
      · rw [show pRf A g u = false by simpa using hf, Bool.false_and]
    have hye : pRf A g u = true → wd_ A g u k 42 = pv_ i → tR_ A g k (pv_ i) u = true := fun z y => by
      unfold tR_
      rw [z, decide_eq_true y]
      rfl
    refine V_iload (sx_di dX12_mostTell 12 rfl) rfl ?_
    refine V_bipush (v := 9) (sx_di dX12_mostTell 13 rfl) (by decide) ?_
    refine V_icN_gt (a := u) (b := 9) (rfl) (rfl) (by omega) (by omega) (tgt := 66) (sx_di dX12_mostTell 14 rfl) (by decide) (fun h22 => absurd h22 (by omega)) (fun _ => ?_)
    refine V_iload (sx_di dX12_mostTell 15 rfl) rfl ?_
    refine V_aload_n (i := 0) (sx_di dX12_mostTell 16 rfl) rfl rfl ?_
    refine V_iload (sx_di dX12_mostTell 17 rfl) rfl ?_
    refine V_cV1 (mc' := 0) (ms' := 0) (M' := mX12_isSo) 4 (sx_di dX12_mostTell 18 rfl) lX12_411 vX12_isSo (hB.k _ rfl) (by decide) rfl (Nat.le_of_ble_eq_true rfl) ⟨Nat.le_of_ble_eq_true rfl, Nat.le_of_ble_eq_true rfl⟩ ⟨Nat.le_refl _, Nat.le_refl _⟩ ?_
    refine e_isSo VA H hT (by omega) ?_
    refine V_if_eq (tgt := 56) (sx_di dX12_mostTell 19 rfl) (by decide) (fun h33 => ?_) (fun h33 => ?_)
    · have hb : ¬ pRf A g u = true := fun z => by rw [if_pos z] at h33; exact absurd h33 (by decide)
      rw [if_neg (by rw [hno (fun z => hb z.1)]; decide), ← nI_1] at q1
      refine V_iconst (v := 0) (sx_di dX12_mostTell 32 rfl) (by decide) ?_
      refine V_iadd (sx_di dX12_mostTell 33 rfl) ?_
      refine V_istore (sx_di dX12_mostTell 34 rfl) (by decide) (rfl) ?_
      refine V_inc (c := 1) (sx_di dX12_mostTell 35 rfl) (by decide) rfl (by decide) (rfl) ?_
      refine V_goto (tgt := 18) (sx_di dX12_mostTell 36 rfl) (by decide) ?_
      rw [Int32.add_zero]
      exact V_subk q1 ⟨rfl, rfl, rfl, rfl, rfl, rfl, trivial⟩
    · have hf : pRf A g u = true := Classical.byContradiction (fun z => h33 (if_neg z))
      have hu9 : u < a_n A ∨ u = 9 := Classical.byContradiction (fun z => by unfold pRf at hf; rw [decide_eq_false z, Bool.false_and] at hf; exact absurd hf (by decide))
      have et : hp_i w 405 (41 * u + k) = wd_ A g u k 42 := hT u k hu9 hk0 hk (by omega)
      refine V_aload_n (i := 0) (sx_di dX12_mostTell 20 rfl) rfl rfl ?_
      refine V_getR (sx_di dX12_mostTell 21 rfl) fX12_84 (fun _ => rfl) (hB.k _ rfl) (hB.r _ _ rfl) ?_
      refine V_bipush (v := 41) (sx_di dX12_mostTell 22 rfl) (by decide) ?_
      refine V_iload (sx_di dX12_mostTell 23 rfl) rfl ?_
      refine V_imul (sx_di dX12_mostTell 24 rfl) ?_
      refine V_iload_n (i := 1) (sx_di dX12_mostTell 25 rfl) rfl rfl ?_
      refine V_iadd (sx_di dX12_mostTell 26 rfl) ?_
      refine V_ialdN (n := 410) (j := ((41 * u) + k)) (sx_di dX12_mostTell 27 rfl) (hB.k _ rfl) (nx_add (nx_mul (rfl) (rfl)) (rfl)) (by omega) (by omega) ?_
      refine V_iv (y := wd_ A g u k 42) (et) ?_
      refine V_iload_n (i := 3) (sx_di dX12_mostTell 28 rfl) rfl rfl ?_
      refine V_icmp_ne (tgt := 56) (sx_di dX12_mostTell 29 rfl) (by decide) (fun h49 => ?_) (fun h49 => ?_)
      · rw [if_neg (by rw [hno (fun z => h49 z.2)]; decide), ← nI_1] at q1
        refine V_iconst (v := 0) (sx_di dX12_mostTell 32 rfl) (by decide) ?_
        refine V_iadd (sx_di dX12_mostTell 33 rfl) ?_
        refine V_istore (sx_di dX12_mostTell 34 rfl) (by decide) (rfl) ?_
        refine V_inc (c := 1) (sx_di dX12_mostTell 35 rfl) (by decide) rfl (by decide) (rfl) ?_
        refine V_goto (tgt := 18) (sx_di dX12_mostTell 36 rfl) (by decide) ?_
        rw [Int32.add_zero]
        exact V_subk q1 ⟨rfl, rfl, rfl, rfl, rfl, rfl, trivial⟩
      · rw [if_pos (hye hf h49), ← nI_1, ← nI_1] at q1
        refine V_iconst (v := 1) (sx_di dX12_mostTell 30 rfl) (by decide) ?_
        refine V_goto (tgt := 57) (sx_di dX12_mostTell 31 rfl) (by decide) ?_
        refine V_iadd (sx_di dX12_mostTell 33 rfl) ?_
        refine V_istore (sx_di dX12_mostTell 34 rfl) (by decide) (rfl) ?_
        refine V_inc (c := 1) (sx_di dX12_mostTell 35 rfl) (by decide) rfl (by decide) (rfl) ?_
        refine V_goto (tgt := 18) (sx_di dX12_mostTell 36 rfl) (by decide) ?_
        exact V_subk q1 ⟨rfl, rfl, rfl, rfl, rfl, rfl, trivial⟩
set_option maxHeartbeats 2000000 in
set_option maxRecDepth 20000 in
theorem mt_out {E : sxE} {A : AS} {w : hpW} {Q : Option Value → hpW → Prop} (VA : AV A) (H : RR A w) {g : Int32} (hT : PK_ A g w 410) {k : Nat} (hk0 : 0 < k) (hk : k ≤ 40) (h : Q (some (.int (mA_ A g k (a_n A + 1)))) w) : ∀ d i, i + d = a_n A + 1 → V E mX12_mostTell (sx_rm 5 0 0) 0 0 0 0 4 [(3, .int (pv_ i)), (2, .int (mA_ A g k i)), (1, .int (nI k)), (0, .ref 381)] [] w Q := by
  intro d
  have hn8 := VA.2.2.1.1
  have hB := H.1
  have hn := H.2.2.2.1.1
  induction d with
  | zero =>
    intro i hi
    have e : i = a_n A + 1 := by omega
    subst e
    refine V_iload_n (i := 3) (sx_di dX12_mostTell 4 rfl) rfl rfl ?_
    refine V_aload_n (i := 0) (sx_di dX12_mostTell 5 rfl) rfl rfl ?_
    refine V_getI (sx_di dX12_mostTell 6 rfl) fX12_258 (fun _ => rfl) (hB.k _ rfl) ?_
    refine V_iv (y := nI (a_n A)) (hn) ?_
    refine V_icmp_ge (tgt := 79) (sx_di dX12_mostTell 7 rfl) (by decide) (fun _ => ?_) (fun h9 => absurd ((pv_ge (by omega) hn8).mpr (by omega)) h9)
    refine V_iload_n (i := 2) (sx_di dX12_mostTell 43 rfl) rfl rfl ?_
    refine V_iret (sx_di dX12_mostTell 44 rfl) rfl (Nat.le_refl _) (Nat.le_refl _) ?_
    exact h
  | succ d ih =>
    intro i hi
    have q1 := ih (i + 1) (by omega)
    rw [← pv_s i (by omega)] at q1
    have hin : V E mX12_mostTell (sx_rm 5 0 0) 0 0 0 0 66 [(4, .int (nI (cnt_ (tR_ A g k (pv_ i)) 10))), (3, .int (pv_ i)), (2, .int (mA_ A g k i)), (1, .int (nI k)), (0, .ref 381)] [] w Q := by
      rw [cnt_CR VA]
      refine V_iload_n (i := 2) (sx_di dX12_mostTell 37 rfl) rfl rfl ?_
      refine V_iload (sx_di dX12_mostTell 38 rfl) rfl ?_
      refine V_mmax (sx_di dX12_mostTell 39 rfl) (sx_a6 223 rfl rfl) (sx_a3 186 rfl rfl) (sx_a1 22 rfl rfl) (sx_a3 187 rfl rfl) ⟨Nat.le_of_ble_eq_true rfl, Nat.le_of_ble_eq_true rfl, Nat.le_refl _, Nat.le_refl _⟩ ?_
      refine V_istore_n (i := 2) (sx_di dX12_mostTell 40 rfl) rfl (by decide) (rfl) ?_
      refine V_inc (c := 1) (sx_di dX12_mostTell 41 rfl) (by decide) rfl (by decide) (rfl) ?_
      refine V_goto (tgt := 4) (sx_di dX12_mostTell 42 rfl) (by decide) ?_
      exact V_subk q1 ⟨rfl, rfl, rfl, rfl, trivial⟩
    refine V_iload_n (i := 3) (sx_di dX12_mostTell 4 rfl) rfl rfl ?_
    refine V_aload_n (i := 0) (sx_di dX12_mostTell 5 rfl) rfl rfl ?_
    refine V_getI (sx_di dX12_mostTell 6 rfl) fX12_258 (fun _ => rfl) (hB.k _ rfl) ?_
    refine V_iv (y := nI (a_n A)) (hn) ?_
    refine V_icmp_ge (tgt := 79) (sx_di dX12_mostTell 7 rfl) (by decide) (fun h9 => absurd h9 (fun z => absurd ((pv_ge (by omega) hn8).mp z) (by omega))) (fun _ => ?_)
    refine V_iconst (v := 0) (sx_di dX12_mostTell 8 rfl) (by decide) ?_
    refine V_istore (sx_di dX12_mostTell 9 rfl) (by decide) (rfl) ?_
    refine V_iconst (v := 0) (sx_di dX12_mostTell 10 rfl) (by decide) ?_
    refine V_istore (sx_di dX12_mostTell 11 rfl) (by decide) (rfl) ?_
    refine V_sub (ls' := [(5, .int (nI 0)), (4, .int (nI 0)), (3, .int (pv_ i)), (2, .int (mA_ A g k i)), (1, .int (nI k)), (0, .ref 381)]) ⟨rfl, rfl, rfl, rfl, rfl, rfl, trivial⟩ ?_
    exact mt_in VA H hT hk0 hk hin 10 0 (by omega)
set_option maxHeartbeats 2000000 in
set_option maxRecDepth 20000 in
theorem e_mostTell {E : sxE} {A : AS} {w : hpW} {Q : Option Value → hpW → Prop} (VA : AV A) (H : RR A w) {g : Int32} (hT : PK_ A g w 410) {k : Nat} (hk0 : 0 < k) (hk : k ≤ 40) (h : Q (some (.int (mA_ A g k (a_n A + 1)))) w) : sx_C E mX12_mostTell 5 0 0 [.ref 381, .int (nI k)] w Q := by
  refine C_of (by decide +kernel) (Nat.le_of_ble_eq_true rfl) ?_
  refine V_iconst (v := 0) (sx_di dX12_mostTell 0 rfl) (by decide) ?_
  refine V_istore_n (i := 2) (sx_di dX12_mostTell 1 rfl) rfl (by decide) (rfl) ?_
  refine V_iconst (v := -1) (sx_di dX12_mostTell 2 rfl) (by decide) ?_
  refine V_istore_n (i := 3) (sx_di dX12_mostTell 3 rfl) rfl (by decide) (rfl) ?_
  refine V_sub (ls' := [(3, .int (pv_ 0)), (2, .int (mA_ A g k 0)), (1, .int (nI k)), (0, .ref 381)]) ⟨rfl, rfl, rfl, rfl, trivial⟩ ?_
  exact mt_out VA H hT hk0 hk h (a_n A + 1) 0 (by omega)
set_option maxHeartbeats 2000000 in
set_option maxRecDepth 20000 in
theorem bsR_lp {E : sxE} {A : AS} {w : hpW} {Q : Option Value → hpW → Prop} (VA : AV A) (H : RR A w) {g : Int32} (hT : PK_ A g w 410) (h : Q (some (.int (nI (bb_ (fun k => mA_ A g k (a_n A + 1)) 39).1))) w) : ∀ d k, k + d = 39 → V E mX12_best (sx_rm 11 0 0) 0 0 0 0 31 [(4, .int (nI (k + 2))), (3, .int (bb_ (fun k => mA_ A g k (a_n A + 1)) k).2), (2, .int (nI (bb_ (fun k => mA_ A g k (a_n A + 1)) k).1)), (0, .ref 381)] [] w Q := by
  intro d
  have hB := H.1
  induction d with
  | zero =>
    intro k hk
    have e : k = 39 := by omega
    subst e
    refine V_iload (sx_di dX12_best 20 rfl) rfl ?_
    refine V_bipush (v := 40) (sx_di dX12_best 21 rfl) (by decide) ?_
    refine V_icN_gt (a := (39 + 2)) (b := 40) (rfl) (rfl) (by omega) (by omega) (tgt := 64) (sx_di dX12_best 22 rfl) (by decide) (fun _ => ?_) (fun h35 => absurd h35 (by omega))
    refine V_iload_n (i := 2) (sx_di dX12_best 36 rfl) rfl rfl ?_
    refine V_iret (sx_di dX12_best 37 rfl) rfl (Nat.le_refl _) (Nat.le_refl _) ?_
    exact h
  | succ d ih =>
    intro k hk
    have q1 := ih (k + 1) (by omega)
    have e1 : bb_ (fun k => mA_ A g k (a_n A + 1)) (k + 1) = if mA_ A g (k + 2) (a_n A + 1) < (bb_ (fun k => mA_ A g k (a_n A + 1)) k).2 then (k + 2, mA_ A g (k + 2) (a_n A + 1)) else bb_ (fun k => mA_ A g k (a_n A + 1)) k := rfl
    rw [e1, show k + 1 + 2 = k + 2 + 1 by omega, ← nI_1] at q1
    refine V_iload (sx_di dX12_best 20 rfl) rfl ?_
    refine V_bipush (v := 40) (sx_di dX12_best 21 rfl) (by decide) ?_
    refine V_icN_gt (a := (k + 2)) (b := 40) (rfl) (rfl) (by omega) (by omega) (tgt := 64) (sx_di dX12_best 22 rfl) (by decide) (fun h35 => absurd h35 (by omega)) (fun _ => ?_)
    refine V_aload_n (i := 0) (sx_di dX12_best 23 rfl) rfl rfl ?_
    refine V_iload (sx_di dX12_best 24 rfl) rfl ?_
    refine V_cV1 (mc' := 0) (ms' := 0) (M' := mX12_mostTell) 5 (sx_di dX12_best 25 rfl) lX12_417 vX12_mostTell (hB.k _ rfl) (by decide) rfl (Nat.le_of_ble_eq_true rfl) ⟨Nat.le_of_ble_eq_true rfl, Nat.le_of_ble_eq_true rfl⟩ ⟨Nat.le_refl _, Nat.le_refl _⟩ ?_
    refine e_mostTell VA H hT (k := k + 2) (by omega) (by omega) ?_
    refine V_istore (sx_di dX12_best 26 rfl) (by decide) (rfl) ?_
    refine V_iload (sx_di dX12_best 27 rfl) rfl ?_
    refine V_iload_n (i := 3) (sx_di dX12_best 28 rfl) rfl rfl ?_
    refine V_icmp_ge (tgt := 58) (sx_di dX12_best 29 rfl) (by decide) (fun h49 => ?_) (fun h49 => ?_)
    · rw [if_neg (Int32.not_lt.mpr h49)] at q1
      refine V_inc (c := 1) (sx_di dX12_best 34 rfl) (by decide) rfl (by decide) (rfl) ?_
      refine V_goto (tgt := 31) (sx_di dX12_best 35 rfl) (by decide) ?_
      exact V_subk q1 ⟨rfl, rfl, rfl, rfl, trivial⟩
    · rw [if_pos (Int32.not_le.mp h49)] at q1
      refine V_iload (sx_di dX12_best 30 rfl) rfl ?_
      refine V_istore_n (i := 2) (sx_di dX12_best 31 rfl) rfl (by decide) (rfl) ?_
      refine V_iload (sx_di dX12_best 32 rfl) rfl ?_
      refine V_istore_n (i := 3) (sx_di dX12_best 33 rfl) rfl (by decide) (rfl) ?_
      refine V_inc (c := 1) (sx_di dX12_best 34 rfl) (by decide) rfl (by decide) (rfl) ?_
      refine V_goto (tgt := 31) (sx_di dX12_best 35 rfl) (by decide) ?_
      exact V_subk q1 ⟨rfl, rfl, rfl, rfl, trivial⟩
set_option maxHeartbeats 2000000 in
set_option maxRecDepth 20000 in
theorem oR_best {E : sxE} {A : AS} {w : hpW} (VA : AV A) (H : RR A w) (x : Int32) : oR E mX12_best 11 [.ref 381, .int x] w A (q_best A x) A := by
  intro Q h
  have hB := H.1
  have hn := H.2.2.2.1.1
  have hn8 := VA.2.2.1.1
  unfold q_best at h
  refine C_of (by decide +kernel) (Nat.le_of_ble_eq_true rfl) ?_
  refine V_aload_n (i := 0) (sx_di dX12_best 0 rfl) rfl rfl ?_
  refine V_iload_n (i := 1) (sx_di dX12_best 1 rfl) rfl rfl ?_
  refine V_cV1 (mc' := 0) (ms' := 0) (M' := mX12_isMore) 2 (sx_di dX12_best 2 rfl) lX12_405 vX12_isMore (hB.k _ rfl) (by decide) rfl (Nat.le_of_ble_eq_true rfl) ⟨Nat.le_of_ble_eq_true rfl, Nat.le_of_ble_eq_true rfl⟩ ⟨Nat.le_refl _, Nat.le_refl _⟩ ?_
  refine c_X12_isMore hB hn hn8 ?_
  refine V_if_eq (tgt := 18) (sx_di dX12_best 3 rfl) (by decide) (fun h5 => ?_) (fun h5 => ?_)
  · have hg : (a_n A = 0 ∨ x < 1 ∨ 5 < x) := Classical.byContradiction (fun z => by rw [if_neg z] at h5; exact absurd h5 (by decide))
    rw [if_pos (hg.elim Or.inl (fun e => Or.inr (e.elim Or.inl (fun e => Or.inr (Or.inl e)))))] at h
    refine V_iconst (v := -1) (sx_di dX12_best 10 rfl) (by decide) ?_
    refine V_iret (sx_di dX12_best 11 rfl) rfl (Nat.le_refl _) (Nat.le_refl _) ?_
    exact h w H fC_rf
  · have hg : ¬ (a_n A = 0 ∨ x < 1 ∨ 5 < x) := fun z => h5 (if_pos z)
    have h1 : ¬ x < 1 := fun z => hg (Or.inr (Or.inl z))
    obtain ⟨g, hg5, rfl⟩ := nb_ (v := x) (k := 5) (by decide) (by rw [fa_lt, ti_0]; rw [fa_lt, ti_1] at h1; omega) (fun z => hg (Or.inr (Or.inr z)))
    have hg1 : 1 ≤ g := Nat.le_of_not_lt (fun q => h1 ((nI_ltI (b := 1) (by omega) (by decide)).mpr q))
    refine V_aload_n (i := 0) (sx_di dX12_best 4 rfl) rfl rfl ?_
    refine V_iload_n (i := 1) (sx_di dX12_best 5 rfl) rfl rfl ?_
    refine V_iconst (v := 0) (sx_di dX12_best 6 rfl) (by decide) ?_
    refine V_cV2 (mc' := 0) (ms' := 0) (M' := mX12_who) 10 (sx_di dX12_best 7 rfl) lX12_414 vX12_who (hB.k _ rfl) (by decide) rfl (Nat.le_of_ble_eq_true rfl) ⟨Nat.le_of_ble_eq_true rfl, Nat.le_of_ble_eq_true rfl⟩ ⟨Nat.le_refl _, Nat.le_refl _⟩ ?_
    refine e_whoR VA H (by omega) hg1 hg5 (by decide) (fun w2 H2 f2 hT => ?_)
    have hB2 := H2.1
    have e9 := tqc_eq VA (nI g) 0 (a_n A) 0 0 (by omega)
    rw [show 10 - 0 = 10 from rfl, Nat.sub_zero] at e9
    have e8 := tqc_0 (p := fs_ok A (nI g)) (out := oC9 (a_n A)) (fun s hs => by unfold oC9; exact nI_m1 (by split <;> omega)) (a_n A + 1) 0 (by omega)
    rw [e9]
    refine V_iconst (v := -1) (sx_di dX12_best 8 rfl) (by decide) ?_
    refine V_icmp_ne (tgt := 20) (sx_di dX12_best 9 rfl) (by decide) (fun h15 => ?_) (fun h15 => ?_)
    · have hs : ¬ ∀ c, c < a_n A + 1 → fs_ok A (nI g) c = false := fun z => h15 (e8.mpr (fun c _ hc => z c (by omega)))
      rw [if_neg (fun z => z.elim (fun z => hg (Or.inl z)) (fun z => z.elim (fun z => hg (Or.inr (Or.inl z))) (fun z => z.elim (fun z => hg (Or.inr (Or.inr z))) hs)))] at h
      refine V_iconst (v := 1) (sx_di dX12_best 12 rfl) (by decide) ?_
      refine V_istore_n (i := 2) (sx_di dX12_best 13 rfl) rfl (by decide) (rfl) ?_
      refine V_aload_n (i := 0) (sx_di dX12_best 14 rfl) rfl rfl ?_
      refine V_iconst (v := 1) (sx_di dX12_best 15 rfl) (by decide) ?_
      refine V_cV1 (mc' := 0) (ms' := 0) (M' := mX12_mostTell) 5 (sx_di dX12_best 16 rfl) lX12_417 vX12_mostTell (hB2.k _ rfl) (by decide) rfl (Nat.le_of_ble_eq_true rfl) ⟨Nat.le_of_ble_eq_true rfl, Nat.le_of_ble_eq_true rfl⟩ ⟨Nat.le_refl _, Nat.le_refl _⟩ ?_
      refine e_mostTell VA H2 hT (k := 1) (by omega) (by omega) ?_
      refine V_istore_n (i := 3) (sx_di dX12_best 17 rfl) rfl (by decide) (rfl) ?_
      refine V_iconst (v := 2) (sx_di dX12_best 18 rfl) (by decide) ?_
      refine V_istore (sx_di dX12_best 19 rfl) (by decide) (rfl) ?_
      refine V_sub (ls' := [(4, .int (nI (0 + 2))), (3, .int (mA_ A (nI g) 1 (a_n A + 1))), (2, .int (nI 1)), (0, .ref 381)]) ⟨rfl, rfl, rfl, rfl, trivial⟩ ?_
      exact bsR_lp VA H2 hT (h w2 H2 f2) 39 0 (by omega)
    · have hs : ∀ c, c < a_n A + 1 → fs_ok A (nI g) c = false := fun c hc => e8.mp h15 c (by omega) (by omega)
      rw [if_pos (Or.inr (Or.inr (Or.inr hs)))] at h
      refine V_iconst (v := -1) (sx_di dX12_best 10 rfl) (by decide) ?_
      refine V_iret (sx_di dX12_best 11 rfl) rfl (Nat.le_refl _) (Nat.le_refl _) ?_
      exact h w2 H2 f2

/-! treaties -/
theorem k_putAside {E : sxE} {Q : Option Value → hpW → Prop} {A : AS} {w : hpW} (H : RR A w) (h : ∀ w', RR A w' → fC w w' → (∀ j, j < 45 → hp_i w' 401 j = a_r A j) → Q none w') : sx_C E mX12_putAside 1 0 0 [.ref 381] w Q := by
  refine c_X12_putAside H.1 (h _ (RR_mv (w := w) (ly_wi H.1 _) (fun b h1 h2 h3 h4 h5 h6 => cq_o (by omega)) (fun j hj => by rw [hp_i_wi, cq_o (by omega)]) H) (fC_wi (fun b hb => cq_o (by omega))) (fun j hj => ?_))
  rw [hp_i_wi]
  unfold cq_
  rw [if_pos ⟨rfl, by omega, by omega⟩, Nat.sub_zero, Nat.zero_add]
  exact congrFun H.2.2.2.2.1 j
theorem k_takeBack {E : sxE} {Q : Option Value → hpW → Prop} {A : AS} {w : hpW} {r2 : Nat → Int32} (H : RR (pt_r A r2) w) (hs : ∀ j, j < 45 → hp_i w 401 j = a_r A j) (h45 : ∀ j, 45 ≤ j → r2 j = a_r A j) (h : ∀ w', RR A w' → fC w w' → Q none w') : sx_C E mX12_takeBack 1 0 0 [.ref 381] w Q := by
  have z : RR (pt_r (pt_r A r2) (a_r A)) (hp_wi w (cq_ (hp_i w) 398 0 401 0 45)) := RR_w H (ly_wi H.1 _) (fun b hb => cq_o hb) (by
    rw [hp_i_wi]
    funext j
    unfold cq_
    by_cases hj : j < 45
    · rw [if_pos ⟨rfl, by omega, by omega⟩, Nat.sub_zero, Nat.zero_add]; exact hs j hj
    · rw [if_neg (by omega)]
      exact (congrFun H.2.2.2.2.1 j).trans (h45 j (by omega)))
  exact c_X12_takeBack H.1 (h _ z (fC_wi (fun b hb => cq_o (by omega))))
theorem e_wouldGo2 {E : sxE} {Q : Option Value → hpW → Prop} {A : AS} {w : hpW} {r : Nat → Int32} (V : AV A) (hO : OKF (a_n A) (a_m A) r) (H : RR (pt_r A r) w) (hq : ∀ w', RR (pt_r A r) w' → fC w w' → hp_i w' 401 = hp_i w 401 → hp_i w' 405 = hp_i w 405 → Q (some (.int (go2 A r))) w') : sx_C E mX12_wouldGo 7 0 0 [.ref 381] w Q := c_X12_wouldGo (RQ_of (AV_r V hO) H) (fun I f => hq _ (RR_q (RX_FQ f) H) (fC_q (RX_FQ f)) (f 401 (by unfold RX; omega)) (f 405 (by unfold RX; omega)))
/-- the houses of the set, among the first k, show nothing -/
def tr_ (r : Nat → Int32) (s : Int32) (k : Nat) : Nat → Int32 := fun j => if 8 ≤ j ∧ j < 8 + k ∧ ¬ (s >>> (nI (j - 8) &&& 31)) &&& 1 = 0 then -9 else r j
theorem tr_0 (r : Nat → Int32) (s : Int32) : tr_ r s 0 = r := by funext j; unfold tr_; rw [if_neg (by omega)]
theorem tr_y (r : Nat → Int32) {s : Int32} {k : Nat} (h : ¬ (s >>> (nI k &&& 31)) &&& 1 = 0) : up_ (tr_ r s k) (8 + k) (-9) = tr_ r s (k + 1) := by
  funext j
  unfold up_ tr_
  by_cases e : j = 8 + k
  · rw [if_pos e, if_pos ⟨by omega, by omega, by rw [e, Nat.add_sub_cancel_left]; exact h⟩]
  · rw [if_neg e]
    by_cases h2 : 8 ≤ j ∧ j < 8 + k ∧ ¬ (s >>> (nI (j - 8) &&& 31)) &&& 1 = 0
    · rw [if_pos h2, if_pos ⟨h2.1, by omega, h2.2.2⟩]
    · rw [if_neg h2, if_neg (fun z => h2 ⟨z.1, by omega, z.2.2⟩)]
theorem tr_n (r : Nat → Int32) {s : Int32} {k : Nat} (h : (s >>> (nI k &&& 31)) &&& 1 = 0) : tr_ r s (k + 1) = tr_ r s k := by
  funext j
  unfold tr_
  by_cases h2 : 8 ≤ j ∧ j < 8 + k ∧ ¬ (s >>> (nI (j - 8) &&& 31)) &&& 1 = 0
  · rw [if_pos ⟨h2.1, by omega, h2.2.2⟩, if_pos h2]
  · rw [if_neg h2, if_neg (fun z => ?_)]
    by_cases e : j = 8 + k
    · rw [e, Nat.add_sub_cancel_left] at z
      exact z.2.2 h
    · exact h2 ⟨z.1, by omega, z.2.2⟩
theorem OKF_tr {n m : Nat} {r : Nat → Int32} (hn : n ≤ 8) (H : OKF n m r) (s : Int32) : ∀ k, k ≤ n → OKF n m (tr_ r s k)
  | 0, _ => by rw [tr_0]; exact H
  | k + 1, hk => by
    by_cases h : (s >>> (nI k &&& 31)) &&& 1 = 0
    · rw [tr_n _ h]; exact OKF_tr hn H s k (by omega)
    · rw [← tr_y _ h]
      exact OKF_sh hn (by omega) (OKF_tr hn H s k (by omega)) (by decide) (by decide)
noncomputable def tg_ (A : AS) (s : Int32) : Int32 := gmx_ (mv2 A (a_r A)) (ft1 A) s (a_n A)
theorem tr_go {A : AS} (V : AV A) (s : Int32) : go2 A (tr_ (a_r A) s (a_n A)) = tg_ A s := by
  have hn8 := V.2.2.1.1
  refine gl_cg (fun h hh => ?_)
  show mv2 A (tr_ (a_r A) s (a_n A)) h = if (s >>> (nI h &&& 31)) &&& 1 = 0 then mv2 A (a_r A) h else ft1 A h
  by_cases hb : (s >>> (nI h &&& 31)) &&& 1 = 0
  · rw [if_pos hb]
    refine mv2_cg (fun j hj => ?_)
    unfold tr_
    rw [if_neg (fun z => ?_)]
    have e : j = 8 + h := by omega
    rw [e, Nat.add_sub_cancel_left] at z
    exact z.2.2 hb
  · rw [if_neg hb]
    refine mv2_cg (fun j hj => ?_)
    unfold tr_ up_
    by_cases e : j = 8 + h
    · rw [if_pos ⟨by omega, by omega, by rw [e, Nat.add_sub_cancel_left]; exact hb⟩, if_pos e]
    · rw [if_neg (fun z => by omega), if_neg e]
def ty_ (A : AS) (s : Nat) : Prop := bi_ (tg_ A (nI s)) &&& nI s = 0
theorem ty_iff {A : AS} (V : AV A) {s : Nat} (hs : s < 256) : ty_ A s ↔ (tg_ A (nI s) = -1 ∨ ¬ (nI s >>> (tg_ A (nI s) &&& 31)) &&& 1 = 1) := by
  have hn8 := V.2.2.1.1
  unfold ty_
  rcases gl_rng (fun h => if (nI s >>> (nI h &&& 31)) &&& 1 = 0 then mv2 A (a_r A) h else ft1 A h) (a_n A) with e | ⟨g, hg, e⟩
  · have e : tg_ A (nI s) = -1 := e
    rw [e]
    refine ⟨fun _ => Or.inl rfl, fun _ => ?_⟩
    show (0 : Int32) &&& nI s = 0
    exact Int32.zero_and
  · have e : tg_ A (nI s) = nI g := e
    rw [e]
    have hb : bi_ (nI g) = 1 <<< (nI g &&& 31) := if_neg (nI_m1 (by omega))
    rw [hb, sbit_ g (by omega) s hs]
    constructor
    · intro z
      exact Or.inr (fun q => by rw [q] at z; exact absurd z (by decide))
    · intro z
      rcases z with z | z
      · exact absurd z (nI_m1 (by omega))
      · exact (and1 (nI s >>> (nI g &&& 31))).resolve_right z
set_option maxHeartbeats 2000000 in
set_option maxRecDepth 20000 in
theorem it_lp {E : sxE} {A : AS} {w : hpW} {Q : Option Value → hpW → Prop} (VA : AV A) {s : Nat} (hs : s < 256) (h1 : ty_ A s → ∀ w', RR A w' → fC w w' → Q (some (.int 1)) w') (h0 : ¬ ty_ A s → ∀ w', RR A w' → fC w w' → Q (some (.int 0)) w') : ∀ d k w1, k + d = a_n A → RR (pt_r A (tr_ (a_r A) (nI s) k)) w1 → fC w w1 → (∀ j, j < 45 → hp_i w1 401 j = a_r A j) → V E mX12_isTreaty (sx_rm 8 0 0) 0 0 0 0 6 [(2, .int (nI k)), (1, .int (nI s)), (0, .ref 381)] [] w1 Q := by
  intro d
  have hn8 := VA.2.2.1.1
  induction d with
  | zero =>
    intro k w1 hk H1 f1 hs1
    have hB := H1.1
    have hn := H1.2.2.2.1.1
    have e : k = a_n A := by omega
    subst e
    refine V_iload_n (i := 2) (sx_di dX12_isTreaty 4 rfl) rfl rfl ?_
    refine V_aload_n (i := 0) (sx_di dX12_isTreaty 5 rfl) rfl rfl ?_
    refine V_getI (sx_di dX12_isTreaty 6 rfl) fX12_258 (fun _ => rfl) (hB.k _ rfl) ?_
    refine V_iv (y := nI (a_n A)) (hn) ?_
    refine V_icN_ge (a := (a_n A)) (b := (a_n A)) (rfl) (rfl) (by omega) (by omega) (tgt := 51) (sx_di dX12_isTreaty 7 rfl) (by decide) (fun _ => ?_) (fun h11 => absurd h11 (by omega))
    refine V_aload_n (i := 0) (sx_di dX12_isTreaty 28 rfl) rfl rfl ?_
    refine V_cV0 (mc' := 0) (ms' := 0) (M' := mX12_wouldGo) 7 (sx_di dX12_isTreaty 29 rfl) lX12_305 vX12_wouldGo (hB.k _ rfl) (by decide) rfl (Nat.le_of_ble_eq_true rfl) ⟨Nat.le_of_ble_eq_true rfl, Nat.le_of_ble_eq_true rfl⟩ ⟨Nat.le_refl _, Nat.le_refl _⟩ ?_
    refine e_wouldGo2 VA (OKF_tr hn8 VA.2.2.2.1.1 (nI s) (a_n A) (by omega)) H1 (fun w2 H2 f2 e401 _ => ?_)
    have hB2 := H2.1
    refine V_iv (y := tg_ A (nI s)) (tr_go VA _) ?_
    refine V_istore_n (i := 2) (sx_di dX12_isTreaty 30 rfl) rfl (by decide) (rfl) ?_
    refine V_aload_n (i := 0) (sx_di dX12_isTreaty 31 rfl) rfl rfl ?_
    refine V_cV0 (mc' := 0) (ms' := 0) (M' := mX12_takeBack) 1 (sx_di dX12_isTreaty 32 rfl) lX12_359 vX12_takeBack (hB2.k _ rfl) (by decide) rfl (Nat.le_of_ble_eq_true rfl) ⟨Nat.le_of_ble_eq_true rfl, Nat.le_of_ble_eq_true rfl⟩ ⟨Nat.le_refl _, Nat.le_refl _⟩ ?_
    refine k_takeBack H2 (fun j hj => by rw [e401]; exact hs1 j hj) (fun j hj => by unfold tr_; rw [if_neg (by omega)]) (fun w3 H3 f3 => ?_)
    refine V_iload_n (i := 2) (sx_di dX12_isTreaty 33 rfl) rfl rfl ?_
    refine V_iconst (v := -1) (sx_di dX12_isTreaty 34 rfl) (by decide) ?_
    refine V_icmp_eq (tgt := 73) (sx_di dX12_isTreaty 35 rfl) (by decide) (fun h62 => ?_) (fun h62 => ?_)
    · refine V_iconst (v := 1) (sx_di dX12_isTreaty 40 rfl) (by decide) ?_
      refine V_goto (tgt := 78) (sx_di dX12_isTreaty 41 rfl) (by decide) ?_
      refine V_zret (sx_di dX12_isTreaty 43 rfl) rfl (by first | rfl | decide) (Nat.le_refl _) (Nat.le_refl _) ?_
      exact h1 ((ty_iff VA hs).mpr (Or.inl h62)) w3 H3 (fC_tr f1 (fC_tr f2 f3))
    · refine V_iload_n (i := 1) (sx_di dX12_isTreaty 36 rfl) rfl rfl ?_
      refine V_iload_n (i := 2) (sx_di dX12_isTreaty 37 rfl) rfl rfl ?_
      refine V_cS2 (mc' := 0) (ms' := 0) (M' := mX12_has) 1 (sx_di dX12_isTreaty 38 rfl) lX12_225 vX12_has (Nat.le_of_ble_eq_true rfl) ⟨Nat.le_of_ble_eq_true rfl, Nat.le_of_ble_eq_true rfl⟩ ⟨Nat.le_refl _, Nat.le_refl _⟩ ?_
      refine c_X12_has ?_
      refine V_if_ne (tgt := 77) (sx_di dX12_isTreaty 39 rfl) (by decide) (fun h70 => ?_) (fun h70 => ?_)
      · have hb : (nI s >>> (tg_ A (nI s) &&& 31)) &&& 1 = 1 := Classical.byContradiction (fun z => h70 (if_neg z))
        refine V_iconst (v := 0) (sx_di dX12_isTreaty 42 rfl) (by decide) ?_
        refine V_zret (sx_di dX12_isTreaty 43 rfl) rfl (by first | rfl | decide) (Nat.le_refl _) (Nat.le_refl _) ?_
        exact h0 (fun z => ((ty_iff VA hs).mp z).elim h62 (fun q => q hb)) w3 H3 (fC_tr f1 (fC_tr f2 f3))
      · have hb : ¬ (nI s >>> (tg_ A (nI s) &&& 31)) &&& 1 = 1 := fun z => by rw [if_pos z] at h70; exact absurd h70 (by decide)
        refine V_iconst (v := 1) (sx_di dX12_isTreaty 40 rfl) (by decide) ?_
        refine V_goto (tgt := 78) (sx_di dX12_isTreaty 41 rfl) (by decide) ?_
        refine V_zret (sx_di dX12_isTreaty 43 rfl) rfl (by first | rfl | decide) (Nat.le_refl _) (Nat.le_refl _) ?_
        exact h1 ((ty_iff VA hs).mpr (Or.inr hb)) w3 H3 (fC_tr f1 (fC_tr f2 f3))
  | succ d ih =>
    intro k w1 hk H1 f1 hs1
    have hB := H1.1
    have hn := H1.2.2.2.1.1
    have hr : hp_i w1 398 (8 + k) = tr_ (a_r A) (nI s) k (8 + k) := congrFun H1.2.2.2.2.1 _
    refine V_iload_n (i := 2) (sx_di dX12_isTreaty 4 rfl) rfl rfl ?_
    refine V_aload_n (i := 0) (sx_di dX12_isTreaty 5 rfl) rfl rfl ?_
    refine V_getI (sx_di dX12_isTreaty 6 rfl) fX12_258 (fun _ => rfl) (hB.k _ rfl) ?_
    refine V_iv (y := nI (a_n A)) (hn) ?_
    refine V_icN_ge (a := k) (b := (a_n A)) (rfl) (rfl) (by omega) (by omega) (tgt := 51) (sx_di dX12_isTreaty 7 rfl) (by decide) (fun h11 => absurd h11 (by omega)) (fun _ => ?_)
    refine V_aload_n (i := 0) (sx_di dX12_isTreaty 8 rfl) rfl rfl ?_
    refine V_getR (sx_di dX12_isTreaty 9 rfl) fX12_58 (fun _ => rfl) (hB.k _ rfl) (hB.r _ _ rfl) ?_
    refine V_bipush (v := 8) (sx_di dX12_isTreaty 10 rfl) (by decide) ?_
    refine V_iload_n (i := 2) (sx_di dX12_isTreaty 11 rfl) rfl rfl ?_
    refine V_iadd (sx_di dX12_isTreaty 12 rfl) ?_
    refine V_iload_n (i := 1) (sx_di dX12_isTreaty 13 rfl) rfl rfl ?_
    refine V_iload_n (i := 2) (sx_di dX12_isTreaty 14 rfl) rfl rfl ?_
    refine V_cS2 (mc' := 0) (ms' := 0) (M' := mX12_has) 1 (sx_di dX12_isTreaty 15 rfl) lX12_225 vX12_has (Nat.le_of_ble_eq_true rfl) ⟨Nat.le_of_ble_eq_true rfl, Nat.le_of_ble_eq_true rfl⟩ ⟨Nat.le_refl _, Nat.le_refl _⟩ ?_
    refine c_X12_has ?_
    refine V_if_eq (tgt := 35) (sx_di dX12_isTreaty 16 rfl) (by decide) (fun h27 => ?_) (fun h27 => ?_)
    · have hb : (nI s >>> (nI k &&& 31)) &&& 1 = 0 := (and1 _).resolve_right (fun z => by rw [if_pos z] at h27; exact absurd h27 (by decide))
      obtain ⟨H2, f2⟩ := RR_st H1 (8 + k) (tr_ (a_r A) (nI s) k (8 + k))
      rw [up_id] at H2
      have H3 : RR (pt_r A (tr_ (a_r A) (nI s) (k + 1))) (hp_si w1 398 (8 + k) (tr_ (a_r A) (nI s) k (8 + k))) := by rw [tr_n _ hb]; exact H2
      have q1 := ih (k + 1) _ (by omega) H3 (fC_tr f1 f2) (fun j hj => by rw [hp_i_si, if_neg (by omega)]; exact hs1 j hj)
      rw [← nI_1] at q1
      refine V_aload_n (i := 0) (sx_di dX12_isTreaty 19 rfl) rfl rfl ?_
      refine V_getR (sx_di dX12_isTreaty 20 rfl) fX12_58 (fun _ => rfl) (hB.k _ rfl) (hB.r _ _ rfl) ?_
      refine V_bipush (v := 8) (sx_di dX12_isTreaty 21 rfl) (by decide) ?_
      refine V_iload_n (i := 2) (sx_di dX12_isTreaty 22 rfl) rfl rfl ?_
      refine V_iadd (sx_di dX12_isTreaty 23 rfl) ?_
      refine V_ialdN (n := 226) (j := (8 + k)) (sx_di dX12_isTreaty 24 rfl) (hB.k _ rfl) (nx_add (rfl) (rfl)) (by omega) (by omega) ?_
      refine V_iv (y := tr_ (a_r A) (nI s) k (8 + k)) (hr) ?_
      refine V_iastN (n := 226) (j := (8 + k)) (sx_di dX12_isTreaty 25 rfl) (hB.k _ rfl) (nx_add (rfl) (rfl)) (by omega) (by omega) ?_
      refine V_inc (c := 1) (sx_di dX12_isTreaty 26 rfl) (by decide) rfl (by decide) (rfl) ?_
      refine V_goto (tgt := 6) (sx_di dX12_isTreaty 27 rfl) (by decide) ?_
      exact V_subk q1 ⟨rfl, rfl, rfl, trivial⟩
    · have hb : ¬ (nI s >>> (nI k &&& 31)) &&& 1 = 0 := fun z => h27 (if_neg (by rw [z]; decide))
      obtain ⟨H2, f2⟩ := RR_st H1 (8 + k) (-9)
      rw [tr_y _ hb] at H2
      have q1 := ih (k + 1) _ (by omega) H2 (fC_tr f1 f2) (fun j hj => by rw [hp_i_si, if_neg (by omega)]; exact hs1 j hj)
      rw [← nI_1] at q1
      refine V_bipush (v := -9) (sx_di dX12_isTreaty 17 rfl) (by decide) ?_
      refine V_goto (tgt := 44) (sx_di dX12_isTreaty 18 rfl) (by decide) ?_
      refine V_iastN (n := 226) (j := (8 + k)) (sx_di dX12_isTreaty 25 rfl) (hB.k _ rfl) (nx_add (rfl) (rfl)) (by omega) (by omega) ?_
      refine V_inc (c := 1) (sx_di dX12_isTreaty 26 rfl) (by decide) rfl (by decide) (rfl) ?_
      refine V_goto (tgt := 6) (sx_di dX12_isTreaty 27 rfl) (by decide) ?_
      exact V_subk q1 ⟨rfl, rfl, rfl, trivial⟩
set_option maxHeartbeats 2000000 in
set_option maxRecDepth 20000 in
theorem e_isTreaty {E : sxE} {A : AS} {w : hpW} {Q : Option Value → hpW → Prop} (VA : AV A) (H : RR A w) {s : Nat} (hs : s < 256) (h1 : ty_ A s → ∀ w', RR A w' → fC w w' → Q (some (.int 1)) w') (h0 : ¬ ty_ A s → ∀ w', RR A w' → fC w w' → Q (some (.int 0)) w') : sx_C E mX12_isTreaty 8 0 0 [.ref 381, .int (nI s)] w Q := by
  have hB := H.1
  refine C_of (by decide +kernel) (Nat.le_of_ble_eq_true rfl) ?_
  refine V_aload_n (i := 0) (sx_di dX12_isTreaty 0 rfl) rfl rfl ?_
  refine V_cV0 (mc' := 0) (ms' := 0) (M' := mX12_putAside) 1 (sx_di dX12_isTreaty 1 rfl) lX12_356 vX12_putAside (hB.k _ rfl) (by decide) rfl (Nat.le_of_ble_eq_true rfl) ⟨Nat.le_of_ble_eq_true rfl, Nat.le_of_ble_eq_true rfl⟩ ⟨Nat.le_refl _, Nat.le_refl _⟩ ?_
  refine k_putAside H (fun w2 H2 f2 hs2 => ?_)
  refine V_iconst (v := 0) (sx_di dX12_isTreaty 2 rfl) (by decide) ?_
  refine V_istore_n (i := 2) (sx_di dX12_isTreaty 3 rfl) rfl (by decide) (rfl) ?_
  refine V_sub (ls' := [(2, .int (nI 0)), (1, .int (nI s)), (0, .ref 381)]) ⟨rfl, rfl, rfl, trivial⟩ ?_
  exact it_lp VA hs h1 h0 (a_n A) 0 w2 (by omega) (by rw [tr_0]; exact H2) f2 hs2
noncomputable def tql (p : Nat → Prop) (v : Int32) : Nat → Nat → Nat → Int32
  | 0, _, c => if v = -1 then nI c else -1
  | d + 1, s, c => @ite _ (p s) (Classical.propDecidable _) (if nI c = v then nI s else tql p v d (s + 1) (c + 1)) (tql p v d (s + 1) c)
theorem tql_neg (p : Nat → Prop) {v : Int32} (hv : v < -1) : ∀ d z c, c + d ≤ 1000 → tql p v d z c = -1 := by
  intro d
  induction d with
  | zero =>
    intro z c _
    show (if v = -1 then nI c else -1) = -1
    rw [if_neg (fun q => by rw [q] at hv; exact absurd hv (by decide))]
  | succ d ih =>
    intro z c e
    unfold tql
    have hne : ¬ nI c = v := fun q => by
      rw [← q, fa_lt, nI_toInt (by omega), ti_m1] at hv
      omega
    rw [if_neg hne, ih (z + 1) (c + 1) (by omega), ih (z + 1) c (by omega)]
    split <;> rfl
def tyk_ (E : sxE) (A : AS) (k : Int32) (s : Nat) : Prop := bc_ E (nI s) = k ∧ ty_ A s
noncomputable def q_treaties (E : sxE) (A : AS) (k v : Int32) : Int32 := if a_n A = 0 ∨ k < 1 ∨ 3 < k ∨ v < -1 then -1 else tql (tyk_ E A k) v (2 ^ a_n A) 0 0
set_option maxHeartbeats 2000000 in
set_option maxRecDepth 20000 in
theorem tR_lp {E : sxE} {A : AS} {w : hpW} {Q : Option Value → hpW → Prop} (VA : AV A) {k v : Int32} : ∀ d s c w1, s + d = 2 ^ a_n A → RR A w1 → fC w w1 → (∀ w', RR A w' → fC w w' → Q (some (.int (tql (tyk_ E A k) v d s c))) w') → V E mX12_treaties (sx_rm 9 0 0) 0 0 0 0 28 [(4, .int (nI s)), (3, .int (nI c)), (2, .int v), (1, .int k), (0, .ref 381)] [] w1 Q := by
  intro d
  have hn8 := VA.2.2.1.1
  have hp := p2_le hn8
  have hsh := sh_n (a_n A) (by omega)
  induction d with
  | zero =>
    intro s c w1 hs H1 f1 h
    have hB := H1.1
    have hn := H1.2.2.2.1.1
    have z := h w1 H1 f1
    unfold tql at z
    have e : s = 2 ^ a_n A := by omega
    subst e
    refine V_iload (sx_di dX12_treaties 17 rfl) rfl ?_
    refine V_iconst (v := 1) (sx_di dX12_treaties 18 rfl) (by decide) ?_
    refine V_aload_n (i := 0) (sx_di dX12_treaties 19 rfl) rfl rfl ?_
    refine V_getI (sx_di dX12_treaties 20 rfl) fX12_258 (fun _ => rfl) (hB.k _ rfl) ?_
    refine V_iv (y := nI (a_n A)) (hn) ?_
    refine V_ishl (sx_di dX12_treaties 21 rfl) ?_
    refine V_iv (y := nI (2 ^ a_n A)) (hsh) ?_
    refine V_icN_ge (a := (2 ^ a_n A)) (b := (2 ^ a_n A)) (rfl) (rfl) (by omega) (by omega) (tgt := 74) (sx_di dX12_treaties 22 rfl) (by decide) (fun _ => ?_) (fun h36 => absurd h36 (by omega))
    refine V_iload_n (i := 2) (sx_di dX12_treaties 39 rfl) rfl rfl ?_
    refine V_iconst (v := -1) (sx_di dX12_treaties 40 rfl) (by decide) ?_
    refine V_icmp_ne (tgt := 83) (sx_di dX12_treaties 41 rfl) (by decide) (fun h76 => ?_) (fun h76 => ?_)
    · rw [if_neg h76] at z
      refine V_iconst (v := -1) (sx_di dX12_treaties 44 rfl) (by decide) ?_
      refine V_iret (sx_di dX12_treaties 45 rfl) rfl (Nat.le_refl _) (Nat.le_refl _) ?_
      exact z
    · rw [if_pos h76] at z
      refine V_iload_n (i := 3) (sx_di dX12_treaties 42 rfl) rfl rfl ?_
      refine V_goto (tgt := 84) (sx_di dX12_treaties 43 rfl) (by decide) ?_
      refine V_iret (sx_di dX12_treaties 45 rfl) rfl (Nat.le_refl _) (Nat.le_refl _) ?_
      exact z
  | succ d ih =>
    intro s c w1 hs H1 f1 h
    have hB := H1.1
    have hn := H1.2.2.2.1.1
    unfold tql at h
    refine V_iload (sx_di dX12_treaties 17 rfl) rfl ?_
    refine V_iconst (v := 1) (sx_di dX12_treaties 18 rfl) (by decide) ?_
    refine V_aload_n (i := 0) (sx_di dX12_treaties 19 rfl) rfl rfl ?_
    refine V_getI (sx_di dX12_treaties 20 rfl) fX12_258 (fun _ => rfl) (hB.k _ rfl) ?_
    refine V_iv (y := nI (a_n A)) (hn) ?_
    refine V_ishl (sx_di dX12_treaties 21 rfl) ?_
    refine V_iv (y := nI (2 ^ a_n A)) (hsh) ?_
    refine V_icN_ge (a := s) (b := (2 ^ a_n A)) (rfl) (rfl) (by omega) (by omega) (tgt := 74) (sx_di dX12_treaties 22 rfl) (by decide) (fun h36 => absurd h36 (by omega)) (fun _ => ?_)
    refine V_iload (sx_di dX12_treaties 23 rfl) rfl ?_
    refine V_cS1 (mc' := 0) (ms' := 0) (M' := mJ6_bitCount_0f7a4) 1 (sx_di dX12_treaties 24 rfl) lX12_383 vJ6_bitCount_0f7a4 (Nat.le_of_ble_eq_true rfl) ⟨Nat.le_of_ble_eq_true rfl, Nat.le_of_ble_eq_true rfl⟩ ⟨Nat.le_refl _, Nat.le_refl _⟩ ?_
    refine c_bitCount ?_
    refine V_iload_n (i := 1) (sx_di dX12_treaties 25 rfl) rfl rfl ?_
    refine V_icmp_ne (tgt := 68) (sx_di dX12_treaties 26 rfl) (by decide) (fun h45 => ?_) (fun h45 => ?_)
    · have hp2 : ¬ tyk_ E A k s := fun z => h45 z.1
      rw [if_neg hp2] at h
      have q1 := ih (s + 1) c w1 (by omega) H1 f1 h
      rw [← nI_1] at q1
      refine V_inc (c := 1) (sx_di dX12_treaties 37 rfl) (by decide) rfl (by decide) (rfl) ?_
      refine V_goto (tgt := 28) (sx_di dX12_treaties 38 rfl) (by decide) ?_
      exact V_subk q1 ⟨rfl, rfl, rfl, rfl, rfl, trivial⟩
    · refine V_aload_n (i := 0) (sx_di dX12_treaties 27 rfl) rfl rfl ?_
      refine V_iload (sx_di dX12_treaties 28 rfl) rfl ?_
      refine V_cV1 (mc' := 0) (ms' := 0) (M' := mX12_isTreaty) 8 (sx_di dX12_treaties 29 rfl) lX12_388 vX12_isTreaty (hB.k _ rfl) (by decide) rfl (Nat.le_of_ble_eq_true rfl) ⟨Nat.le_of_ble_eq_true rfl, Nat.le_of_ble_eq_true rfl⟩ ⟨Nat.le_refl _, Nat.le_refl _⟩ ?_
      refine e_isTreaty VA H1 (by omega) (fun b w2 H2 f2 => ?_) (fun b w2 H2 f2 => ?_)
      · have hp2 : tyk_ E A k s := ⟨h45, b⟩
        rw [if_pos hp2] at h
        refine V_ifN_eq (a := 1) (rfl) (by omega) (tgt := 68) (sx_di dX12_treaties 30 rfl) (by decide) (fun h54 => absurd h54 (by omega)) (fun _ => ?_)
        refine V_iload_n (i := 3) (sx_di dX12_treaties 31 rfl) rfl rfl ?_
        refine V_iload_n (i := 2) (sx_di dX12_treaties 32 rfl) rfl rfl ?_
        refine V_icmp_ne (tgt := 65) (sx_di dX12_treaties 33 rfl) (by decide) (fun h59 => ?_) (fun h59 => ?_)
        · rw [if_neg h59] at h
          have q1 := ih (s + 1) (c + 1) w2 (by omega) H2 (fC_tr f1 f2) h
          rw [← nI_1, ← nI_1] at q1
          refine V_inc (c := 1) (sx_di dX12_treaties 36 rfl) (by decide) rfl (by decide) (rfl) ?_
          refine V_inc (c := 1) (sx_di dX12_treaties 37 rfl) (by decide) rfl (by decide) (rfl) ?_
          refine V_goto (tgt := 28) (sx_di dX12_treaties 38 rfl) (by decide) ?_
          exact V_subk q1 ⟨rfl, rfl, rfl, rfl, rfl, trivial⟩
        · rw [if_pos h59] at h
          refine V_iload (sx_di dX12_treaties 34 rfl) rfl ?_
          refine V_iret (sx_di dX12_treaties 35 rfl) rfl (Nat.le_refl _) (Nat.le_refl _) ?_
          exact h w2 H2 (fC_tr f1 f2)
      · have hp2 : ¬ tyk_ E A k s := fun z => b z.2
        rw [if_neg hp2] at h
        have q1 := ih (s + 1) c w2 (by omega) H2 (fC_tr f1 f2) h
        rw [← nI_1] at q1
        refine V_ifN_eq (a := 0) (rfl) (by omega) (tgt := 68) (sx_di dX12_treaties 30 rfl) (by decide) (fun _ => ?_) (fun h54 => absurd h54 (by omega))
        refine V_inc (c := 1) (sx_di dX12_treaties 37 rfl) (by decide) rfl (by decide) (rfl) ?_
        refine V_goto (tgt := 28) (sx_di dX12_treaties 38 rfl) (by decide) ?_
        exact V_subk q1 ⟨rfl, rfl, rfl, rfl, rfl, trivial⟩
set_option maxHeartbeats 2000000 in
set_option maxRecDepth 20000 in
theorem oR_treaties {E : sxE} {A : AS} {w : hpW} (VA : AV A) (H : RR A w) (k v : Int32) : oR E mX12_treaties 9 [.ref 381, .int k, .int v] w A (q_treaties E A k v) A := by
  intro Q h
  have hB := H.1
  have hn := H.2.2.2.1.1
  have hn8 := VA.2.2.1.1
  unfold q_treaties at h
  refine C_of (by decide +kernel) (Nat.le_of_ble_eq_true rfl) ?_
  refine V_aload_n (i := 0) (sx_di dX12_treaties 0 rfl) rfl rfl ?_
  refine V_getI (sx_di dX12_treaties 1 rfl) fX12_258 (fun _ => rfl) (hB.k _ rfl) ?_
  refine V_iv (y := nI (a_n A)) (hn) ?_
  refine V_ifN_eq (a := (a_n A)) (rfl) (by omega) (tgt := 21) (sx_di dX12_treaties 2 rfl) (by decide) (fun h4 => ?_) (fun h4 => ?_)
  · rw [if_pos (Or.inl h4)] at h
    refine V_iconst (v := -1) (sx_di dX12_treaties 11 rfl) (by decide) ?_
    refine V_iret (sx_di dX12_treaties 12 rfl) rfl (Nat.le_refl _) (Nat.le_refl _) ?_
    exact h w H fC_rf
  · refine V_iload_n (i := 1) (sx_di dX12_treaties 3 rfl) rfl rfl ?_
    refine V_iconst (v := 1) (sx_di dX12_treaties 4 rfl) (by decide) ?_
    refine V_iconst (v := 3) (sx_di dX12_treaties 5 rfl) (by decide) ?_
    refine V_cS3 (mc' := 0) (ms' := 0) (M' := mX12_in) 1 (sx_di dX12_treaties 6 rfl) lX12_214 vX12_in (Nat.le_of_ble_eq_true rfl) ⟨Nat.le_of_ble_eq_true rfl, Nat.le_of_ble_eq_true rfl⟩ ⟨Nat.le_refl _, Nat.le_refl _⟩ ?_
    refine c_X12_in ?_
    refine V_if_eq (tgt := 21) (sx_di dX12_treaties 7 rfl) (by decide) (fun h13 => ?_) (fun h13 => ?_)
    · rw [if_pos (Or.inr ((in_no h13).elim Or.inl (fun z => Or.inr (Or.inl z))))] at h
      refine V_iconst (v := -1) (sx_di dX12_treaties 11 rfl) (by decide) ?_
      refine V_iret (sx_di dX12_treaties 12 rfl) rfl (Nat.le_refl _) (Nat.le_refl _) ?_
      exact h w H fC_rf
    · have h14 := in_ye h13
      refine V_iload_n (i := 2) (sx_di dX12_treaties 8 rfl) rfl rfl ?_
      refine V_iconst (v := -1) (sx_di dX12_treaties 9 rfl) (by decide) ?_
      refine V_icmp_ge (tgt := 23) (sx_di dX12_treaties 10 rfl) (by decide) (fun h18 => ?_) (fun h18 => ?_)
      · rw [if_neg (fun z => z.elim h4 (fun z => z.elim (fun z => h14 (Or.inl z)) (fun z => z.elim (fun z => h14 (Or.inr z)) (Int32.not_lt.mpr h18))))] at h
        refine V_iconst (v := 0) (sx_di dX12_treaties 13 rfl) (by decide) ?_
        refine V_istore_n (i := 3) (sx_di dX12_treaties 14 rfl) rfl (by decide) (rfl) ?_
        refine V_iconst (v := 0) (sx_di dX12_treaties 15 rfl) (by decide) ?_
        refine V_istore (sx_di dX12_treaties 16 rfl) (by decide) (rfl) ?_
        refine V_sub (ls' := [(4, .int (nI 0)), (3, .int (nI 0)), (2, .int v), (1, .int k), (0, .ref 381)]) ⟨rfl, rfl, rfl, rfl, rfl, trivial⟩ ?_
        exact tR_lp VA (2 ^ a_n A) 0 0 w (by omega) H fC_rf h
      · rw [if_pos (Or.inr (Or.inr (Or.inr (Int32.not_le.mp h18))))] at h
        refine V_iconst (v := -1) (sx_di dX12_treaties 11 rfl) (by decide) ?_
        refine V_iret (sx_di dX12_treaties 12 rfl) rfl (Nat.le_refl _) (Nat.le_refl _) ?_
        exact h w H fC_rf
set_option maxHeartbeats 2000000 in
set_option maxRecDepth 20000 in
theorem tC_lp {E : sxE} {A : AS} {w : hpW} {Q : Option Value → hpW → Prop} (VA : AV A) (H : CR A w) (hT : TW (mv2 A (a_r A)) (ft1 A) w (a_n A)) {k v : Int32} : ∀ d s c, s + d = 2 ^ a_n A → Q (some (.int (tql (tyk_ E A k) v d s c))) w → V E mX11_treaties (sx_rm 6 0 0) 0 0 0 0 28 [(4, .int (nI s)), (3, .int (nI c)), (2, .int v), (1, .int k), (0, .ref 16)] [] w Q := by
  intro d
  have hn8 := VA.2.2.1.1
  have hp := p2_le hn8
  have hsh := sh_n (a_n A) (by omega)
  obtain ⟨t, hB, ht, hst, hn, _, _⟩ := CRn VA H
  induction d with
  | zero =>
    intro s c hs z
    unfold tql at z
    have e : s = 2 ^ a_n A := by omega
    subst e
    refine V_iload (sx_di dX11_treaties 17 rfl) rfl ?_
    refine V_iconst (v := 1) (sx_di dX11_treaties 18 rfl) (by decide) ?_
    refine V_aload_n (i := 0) (sx_di dX11_treaties 19 rfl) rfl rfl ?_
    refine V_getR (sx_di dX11_treaties 20 rfl) fX11_48 (fun _ => rfl) (hB.k _ rfl) (ht) ?_
    refine V_cV0 (mc' := 0) (ms' := 0) (M' := mX8_houseCount) 2 (sx_di dX11_treaties 21 rfl) lX11_308 vX8_houseCount (hst.1) (by decide) rfl (Nat.le_of_ble_eq_true rfl) ⟨Nat.le_of_ble_eq_true rfl, Nat.le_of_ble_eq_true rfl⟩ ⟨Nat.le_refl _, Nat.le_refl _⟩ ?_
    refine c_X8_houseCount (hst.1) (hc8 hn hn8) ?_
    refine V_iv (y := nI (a_n A)) (hn) ?_
    refine V_ishl (sx_di dX11_treaties 22 rfl) ?_
    refine V_iv (y := nI (2 ^ a_n A)) (hsh) ?_
    refine V_icN_ge (a := (2 ^ a_n A)) (b := (2 ^ a_n A)) (rfl) (rfl) (by omega) (by omega) (tgt := 83) (sx_di dX11_treaties 23 rfl) (by decide) (fun _ => ?_) (fun h39 => absurd h39 (by omega))
    refine V_iload_n (i := 2) (sx_di dX11_treaties 43 rfl) rfl rfl ?_
    refine V_iconst (v := -1) (sx_di dX11_treaties 44 rfl) (by decide) ?_
    refine V_icmp_ne (tgt := 92) (sx_di dX11_treaties 45 rfl) (by decide) (fun h85 => ?_) (fun h85 => ?_)
    · rw [if_neg h85] at z
      refine V_iconst (v := -1) (sx_di dX11_treaties 48 rfl) (by decide) ?_
      refine V_iret (sx_di dX11_treaties 49 rfl) rfl (Nat.le_refl _) (Nat.le_refl _) ?_
      exact z
    · rw [if_pos h85] at z
      refine V_iload_n (i := 3) (sx_di dX11_treaties 46 rfl) rfl rfl ?_
      refine V_goto (tgt := 93) (sx_di dX11_treaties 47 rfl) (by decide) ?_
      refine V_iret (sx_di dX11_treaties 49 rfl) rfl (Nat.le_refl _) (Nat.le_refl _) ?_
      exact z
  | succ d ih =>
    intro s c hs h
    unfold tql at h
    refine V_iload (sx_di dX11_treaties 17 rfl) rfl ?_
    refine V_iconst (v := 1) (sx_di dX11_treaties 18 rfl) (by decide) ?_
    refine V_aload_n (i := 0) (sx_di dX11_treaties 19 rfl) rfl rfl ?_
    refine V_getR (sx_di dX11_treaties 20 rfl) fX11_48 (fun _ => rfl) (hB.k _ rfl) (ht) ?_
    refine V_cV0 (mc' := 0) (ms' := 0) (M' := mX8_houseCount) 2 (sx_di dX11_treaties 21 rfl) lX11_308 vX8_houseCount (hst.1) (by decide) rfl (Nat.le_of_ble_eq_true rfl) ⟨Nat.le_of_ble_eq_true rfl, Nat.le_of_ble_eq_true rfl⟩ ⟨Nat.le_refl _, Nat.le_refl _⟩ ?_
    refine c_X8_houseCount (hst.1) (hc8 hn hn8) ?_
    refine V_iv (y := nI (a_n A)) (hn) ?_
    refine V_ishl (sx_di dX11_treaties 22 rfl) ?_
    refine V_iv (y := nI (2 ^ a_n A)) (hsh) ?_
    refine V_icN_ge (a := s) (b := (2 ^ a_n A)) (rfl) (rfl) (by omega) (by omega) (tgt := 83) (sx_di dX11_treaties 23 rfl) (by decide) (fun h39 => absurd h39 (by omega)) (fun _ => ?_)
    refine V_iload (sx_di dX11_treaties 24 rfl) rfl ?_
    refine V_cS1 (mc' := 0) (ms' := 0) (M' := mJ6_bitCount_0f7a4) 1 (sx_di dX11_treaties 25 rfl) lX11_327 vJ6_bitCount_0f7a4 (Nat.le_of_ble_eq_true rfl) ⟨Nat.le_of_ble_eq_true rfl, Nat.le_of_ble_eq_true rfl⟩ ⟨Nat.le_refl _, Nat.le_refl _⟩ ?_
    refine c_bitCount ?_
    refine V_iload_n (i := 1) (sx_di dX11_treaties 26 rfl) rfl rfl ?_
    refine V_icmp_ne (tgt := 77) (sx_di dX11_treaties 27 rfl) (by decide) (fun h48 => ?_) (fun h48 => ?_)
    · have hp2 : ¬ tyk_ E A k s := fun z => h48 z.1
      rw [if_neg hp2] at h
      have q1 := ih (s + 1) c (by omega) h
      rw [← nI_1] at q1
      refine V_inc (c := 1) (sx_di dX11_treaties 41 rfl) (by decide) rfl (by decide) (rfl) ?_
      refine V_goto (tgt := 28) (sx_di dX11_treaties 42 rfl) (by decide) ?_
      exact V_subk q1 ⟨rfl, rfl, rfl, rfl, rfl, trivial⟩
    · refine V_aload_n (i := 0) (sx_di dX11_treaties 28 rfl) rfl rfl ?_
      refine V_iload (sx_di dX11_treaties 29 rfl) rfl ?_
      refine V_cV1 (mc' := 0) (ms' := 0) (M' := mX11_goalOfMixed) 3 (sx_di dX11_treaties 30 rfl) lX11_332 vX11_goalOfMixed (hB.k _ rfl) (by decide) rfl (Nat.le_of_ble_eq_true rfl) ⟨Nat.le_of_ble_eq_true rfl, Nat.le_of_ble_eq_true rfl⟩ ⟨Nat.le_refl _, Nat.le_refl _⟩ ?_
      refine e_goalOfMixed VA H hT ?_
      refine V_cS1 (mc' := 0) (ms' := 0) (M' := mX11_bitOf) 1 (sx_di dX11_treaties 31 rfl) lX11_296 vX11_bitOf (Nat.le_of_ble_eq_true rfl) ⟨Nat.le_of_ble_eq_true rfl, Nat.le_of_ble_eq_true rfl⟩ ⟨Nat.le_refl _, Nat.le_refl _⟩ ?_
      refine c_X11_bitOf ?_
      refine V_iload (sx_di dX11_treaties 32 rfl) rfl ?_
      refine V_iand (sx_di dX11_treaties 33 rfl) ?_
      refine V_if_ne (tgt := 77) (sx_di dX11_treaties 34 rfl) (by decide) (fun h63 => ?_) (fun h63 => ?_)
      · have hp2 : ¬ tyk_ E A k s := fun z => h63 z.2
        rw [if_neg hp2] at h
        have q1 := ih (s + 1) c (by omega) h
        rw [← nI_1] at q1
        refine V_inc (c := 1) (sx_di dX11_treaties 41 rfl) (by decide) rfl (by decide) (rfl) ?_
        refine V_goto (tgt := 28) (sx_di dX11_treaties 42 rfl) (by decide) ?_
        exact V_subk q1 ⟨rfl, rfl, rfl, rfl, rfl, trivial⟩
      · have hp2 : tyk_ E A k s := ⟨h48, h63⟩
        rw [if_pos hp2] at h
        refine V_iload_n (i := 3) (sx_di dX11_treaties 35 rfl) rfl rfl ?_
        refine V_iload_n (i := 2) (sx_di dX11_treaties 36 rfl) rfl rfl ?_
        refine V_icmp_ne (tgt := 74) (sx_di dX11_treaties 37 rfl) (by decide) (fun h68 => ?_) (fun h68 => ?_)
        · rw [if_neg h68] at h
          have q1 := ih (s + 1) (c + 1) (by omega) h
          rw [← nI_1, ← nI_1] at q1
          refine V_inc (c := 1) (sx_di dX11_treaties 40 rfl) (by decide) rfl (by decide) (rfl) ?_
          refine V_inc (c := 1) (sx_di dX11_treaties 41 rfl) (by decide) rfl (by decide) (rfl) ?_
          refine V_goto (tgt := 28) (sx_di dX11_treaties 42 rfl) (by decide) ?_
          exact V_subk q1 ⟨rfl, rfl, rfl, rfl, rfl, trivial⟩
        · rw [if_pos h68] at h
          refine V_iload (sx_di dX11_treaties 38 rfl) rfl ?_
          refine V_iret (sx_di dX11_treaties 39 rfl) rfl (Nat.le_refl _) (Nat.le_refl _) ?_
          exact h
set_option maxHeartbeats 2000000 in
set_option maxRecDepth 20000 in
theorem oC_treaties {E : sxE} {A : AS} {w : hpW} (VA : AV A) (H : CR A w) (k v : Int32) : oC E mX11_treaties 6 [.ref 16, .int k, .int v] w A (q_treaties E A k v) A := by
  intro Q h
  obtain ⟨t, hB, ht, hst, hn, _, _⟩ := CRn VA H
  have hn8 := VA.2.2.1.1
  have hp := p2_le hn8
  have hp1 : 1 ≤ 2 ^ a_n A := Nat.one_le_two_pow
  have hno : (a_n A = 0 ∨ k < 1 ∨ 3 < k) → Q (some (.int (-1))) w := fun e => by
    rw [q_treaties, if_pos (e.elim Or.inl (fun e => Or.inr (e.elim Or.inl (fun e => Or.inr (Or.inl e)))))] at h
    exact h w H fR_rf
  refine C_of (by decide +kernel) (Nat.le_of_ble_eq_true rfl) ?_
  refine V_aload_n (i := 0) (sx_di dX11_treaties 0 rfl) rfl rfl ?_
  refine V_cV0 (mc' := 0) (ms' := 0) (M' := mX11_isStreet) 1 (sx_di dX11_treaties 1 rfl) lX11_154 vX11_isStreet (hB.k _ rfl) (by decide) rfl (Nat.le_of_ble_eq_true rfl) ⟨Nat.le_of_ble_eq_true rfl, Nat.le_of_ble_eq_true rfl⟩ ⟨Nat.le_refl _, Nat.le_refl _⟩ ?_
  refine c_X11_isStreet hB ht hst hn hn8 ?_
  refine V_if_eq (tgt := 17) (sx_di dX11_treaties 2 rfl) (by decide) (fun h4 => ?_) (fun h4 => ?_)
  · have h5 : a_n A = 0 := Classical.byContradiction (fun z => by rw [if_neg z] at h4; exact absurd h4 (by decide))
    refine V_iconst (v := -1) (sx_di dX11_treaties 9 rfl) (by decide) ?_
    refine V_iret (sx_di dX11_treaties 10 rfl) rfl (Nat.le_refl _) (Nat.le_refl _) ?_
    exact hno (Or.inl h5)
  · have h5 : ¬ a_n A = 0 := fun z => h4 (if_pos z)
    refine V_iload_n (i := 1) (sx_di dX11_treaties 3 rfl) rfl rfl ?_
    refine V_iconst (v := 1) (sx_di dX11_treaties 4 rfl) (by decide) ?_
    refine V_icmp_lt (tgt := 17) (sx_di dX11_treaties 5 rfl) (by decide) (fun h9 => ?_) (fun h9 => ?_)
    · refine V_iconst (v := -1) (sx_di dX11_treaties 9 rfl) (by decide) ?_
      refine V_iret (sx_di dX11_treaties 10 rfl) rfl (Nat.le_refl _) (Nat.le_refl _) ?_
      exact hno (Or.inr (Or.inl h9))
    · refine V_iload_n (i := 1) (sx_di dX11_treaties 6 rfl) rfl rfl ?_
      refine V_iconst (v := 3) (sx_di dX11_treaties 7 rfl) (by decide) ?_
      refine V_icmp_le (tgt := 19) (sx_di dX11_treaties 8 rfl) (by decide) (fun h14 => ?_) (fun h14 => ?_)
      · have hg : ¬ (a_n A = 0 ∨ k < 1 ∨ 3 < k) := fun z => z.elim h5 (fun z => z.elim h9 (Int32.not_lt.mpr h14))
        have eq : q_treaties E A k v = tql (tyk_ E A k) v (2 ^ a_n A - 1) 1 0 := by
          unfold q_treaties
          have e1 : tql (tyk_ E A k) v (2 ^ a_n A) 0 0 = tql (tyk_ E A k) v (2 ^ a_n A - 1) 1 0 := by
            obtain ⟨q, eq⟩ : ∃ q, 2 ^ a_n A = q + 1 := ⟨2 ^ a_n A - 1, by omega⟩
            rw [eq]
            show @ite _ (tyk_ E A k 0) (Classical.propDecidable _) _ _ = _
            rw [if_neg (fun z => by have := z.1; rw [show nI 0 = 0 from rfl, bc_0] at this; exact h9 (by rw [← this]; decide))]
            rfl
          by_cases hv : v < -1
          · rw [if_pos (Or.inr (Or.inr (Or.inr hv))), tql_neg _ hv _ _ _ (by omega)]
          · rw [if_neg (fun z => z.elim (fun z => hg (Or.inl z)) (fun z => z.elim (fun z => hg (Or.inr (Or.inl z))) (fun z => z.elim (fun z => hg (Or.inr (Or.inr z))) hv))), e1]
        rw [eq] at h
        have h0 : 0 < a_n A := by omega
        refine V_aload_n (i := 0) (sx_di dX11_treaties 11 rfl) rfl rfl ?_
        refine V_cV0 (mc' := 0) (ms' := 0) (M' := mX11_fillTreatyWorths) 5 (sx_di dX11_treaties 12 rfl) lX11_324 vX11_fillTreatyWorths (hB.k _ rfl) (by decide) rfl (Nat.le_of_ble_eq_true rfl) ⟨Nat.le_of_ble_eq_true rfl, Nat.le_of_ble_eq_true rfl⟩ ⟨Nat.le_refl _, Nat.le_refl _⟩ ?_
        refine e_fillTreaty VA H h0 (fun w2 H2 f2 hT => ?_)
        refine V_iconst (v := 0) (sx_di dX11_treaties 13 rfl) (by decide) ?_
        refine V_istore_n (i := 3) (sx_di dX11_treaties 14 rfl) rfl (by decide) (rfl) ?_
        refine V_iconst (v := 1) (sx_di dX11_treaties 15 rfl) (by decide) ?_
        refine V_istore (sx_di dX11_treaties 16 rfl) (by decide) (rfl) ?_
        refine V_sub (ls' := [(4, .int (nI 1)), (3, .int (nI 0)), (2, .int v), (1, .int k), (0, .ref 16)]) ⟨rfl, rfl, rfl, rfl, rfl, trivial⟩ ?_
        exact tC_lp VA H2 hT (2 ^ a_n A - 1) 1 0 (by omega) (h w2 H2 f2)
      · refine V_iconst (v := -1) (sx_di dX11_treaties 9 rfl) (by decide) ?_
        refine V_iret (sx_di dX11_treaties 10 rfl) rfl (Nat.le_refl _) (Nat.le_refl _) ?_
        exact hno (Or.inr (Or.inr (Int32.not_le.mp h14)))

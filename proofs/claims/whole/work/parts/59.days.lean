/-! days, by what both sides hold -/
noncomputable def P_ (A : AS) (r : Nat → Int32) : Nat → Int32 := pd_ (F_ A) (z_s (a_s A)) (z_f (a_s A)) (a_s A 0) (a_n A) (z_m (a_s A)) r
def pt_r (A : AS) (r : Nat → Int32) : AS := pt_rK A r (a_K A)
def kp2_ (A : AS) : AS := pt_rK A (a_r A) (kK (a_K A) (a_r A))
noncomputable def dy_ (A : AS) : AS := pt_r (kp2_ A) (P_ A (a_r A))
noncomputable def dit_ (A : AS) : Nat → AS
  | 0 => A
  | k + 1 => dy_ (dit_ A k)
theorem fC_tr {w w1 w2 : hpW} (h : fC w w1) (h2 : fC w1 w2) : fC w w2 := ⟨h2.1.trans h.1, fun b hb => ⟨(h2.2.1 b hb).1.trans (h.2.1 b hb).1, (h2.2.1 b hb).2.1.trans (h.2.1 b hb).2.1, (h2.2.1 b hb).2.2.trans (h.2.1 b hb).2.2⟩, fun b => (h2.2.2.1 b).trans (h.2.2.1 b), h2.2.2.2.trans h.2.2.2⟩
theorem fR_tr {w w1 w2 : hpW} (h : fR w w1) (h2 : fR w1 w2) : fR w w2 := ⟨h2.1.trans h.1, fun b hb => ⟨(h2.2.1 b hb).1.trans (h.2.1 b hb).1, (h2.2.1 b hb).2.1.trans (h.2.1 b hb).2.1, (h2.2.1 b hb).2.2.trans (h.2.1 b hb).2.2⟩, fun b => (h2.2.2 b).trans (h.2.2 b)⟩
theorem OKS_cg {n m : Nat} {r r2 : Nat → Int32} (hn : n ≤ 8) (h : ∀ j, j < 44 → r2 j = r j) (H : OKS n m r) : OKS n m r2 := by
  refine ⟨fun k hk => ?_, fun z => ?_, fun z => ?_⟩
  · rw [h k (by omega), h (8 + k) (by omega), h (16 + k) (by omega), h (24 + k) (by omega), h (32 + k) (by omega)]
    exact H.1 k hk
  · rw [h 43 (by omega)]; exact H.2.1 z
  · rw [h 42 (by omega)]; exact H.2.2 z
theorem la_lo {r : Nat → Int32} {j : Nat} (h : j < 45) : la_ r j = r j := by
  unfold la_
  split
  · rw [if_neg (by omega), if_neg (by omega), if_neg (by omega), if_neg (by omega)]
  · rw [if_neg (by omega), if_neg (by omega), if_neg (by omega), if_neg (by omega)]
theorem dv_44 {F : wF} {sz fo : Int32 → Int32} {bt : Int32} {n : Nat} {m0 s : Nat → Int32} : dv_ F sz fo bt n m0 s 44 = s 44 + 1 := by
  have e1 : d1_ n m0 s 44 = s 44 + 1 := by unfold d1_; rw [if_pos rfl]
  unfold dv_
  split
  · unfold d2_
    rw [if_neg (by omega), if_neg (by omega), if_neg (by omega), e1]
  · exact e1
theorem dv_41 {F : wF} {sz fo : Int32 → Int32} {bt : Int32} {n : Nat} {m0 s : Nat → Int32} (hn : n ≤ 8) : dv_ F sz fo bt n m0 s 41 = s 41 := by
  have e1 : d1_ n m0 s 41 = s 41 := by unfold d1_; rw [if_neg (by omega), if_neg (by omega)]
  unfold dv_
  split
  · unfold d2_
    rw [if_neg (by omega), if_neg (by omega), if_neg (by omega), e1]
  · exact e1
theorem OKF_dv {A : AS} (V : AV A) (h0 : 0 < a_n A) {r : Nat → Int32} (H : OKF (a_n A) (a_m A) r) {d : Nat} (hd : d < 9999) (e : r 44 = nI d) : OKF (a_n A) (a_m A) (dv_ (F_ A) (z_s (a_s A)) (z_f (a_s A)) (a_s A 0) (a_n A) (z_m (a_s A)) r) := by
  have hn := V.2.2.1.1
  refine ⟨OKS_dv hn H.1 (OKT_m V h0) (OKT_f V h0), by rw [dv_41 hn]; exact H.2.1, ⟨d + 1, by omega, by rw [dv_44, e]; exact nI_add d 1⟩, by rw [dv_hi hn (by omega)]; exact H.2.2.2.1, fun j hj => by rw [dv_hi hn (by omega)]; exact H.2.2.2.2 j hj⟩
theorem OKF_la {n m : Nat} (hn : n ≤ 8) {r : Nat → Int32} (H : OKF n m r) : OKF n m (la_ r) := by
  refine ⟨OKS_cg hn (fun j hj => la_lo (by omega)) H.1, by rw [la_lo (by omega)]; exact H.2.1, by rw [la_lo (by omega)]; exact H.2.2.1, ?_, fun j hj => ?_⟩
  · obtain ⟨g, hg, e⟩ := H.2.2.2.1
    unfold la_
    rw [e, nI_clamp (by omega)]
    by_cases h : g = 60
    · rw [if_pos h, if_neg (by omega), if_neg (by omega), if_neg (by omega), if_neg (by omega)]
      exact ⟨60, by omega, by rw [h]⟩
    · rw [if_neg h, if_neg (by omega), if_neg (by omega), if_neg (by omega), if_pos rfl]
      exact ⟨g + 1, by omega, rfl⟩
  · obtain ⟨g, hg, e⟩ := H.2.2.2.1
    unfold la_
    rw [e, nI_clamp (by omega)]
    by_cases h : g = 60
    · rw [if_pos h, if_neg (by omega), if_neg (by omega), if_neg (by omega), if_neg (by omega)]
      exact H.2.2.2.2 j hj
    · rw [if_neg h, if_neg (by omega), if_neg (by omega), if_neg (by omega), if_neg (by omega)]
      exact H.2.2.2.2 j hj
theorem OKF_P {A : AS} (V : AV A) (h0 : 0 < a_n A) {r : Nat → Int32} (H : OKF (a_n A) (a_m A) r) {d : Nat} (hd : d < 9999) (e : r 44 = nI d) : OKF (a_n A) (a_m A) (P_ A r) ∧ P_ A r 44 = nI (d + 1) := by
  have q := OKF_dv V h0 H hd e
  unfold P_ pd_
  split
  · refine ⟨OKF_la V.2.2.1.1 q, ?_⟩
    rw [la_lo (by omega), dv_44, e]; exact nI_add d 1
  · refine ⟨q, ?_⟩
    rw [dv_44, e]; exact nI_add d 1
theorem AV_r {A : AS} (V : AV A) {r : Nat → Int32} (h : OKF (a_n A) (a_m A) r) : AV (pt_r A r) := by
  obtain ⟨v1, v2, v3, ⟨v4, v5, v6, v7⟩, v8, v9⟩ := V
  exact ⟨v1, v2, v3, ⟨h, v5, v6, v7⟩, v8, v9⟩
theorem AV_k {A : AS} (V : AV A) (h0 : 0 < a_n A) : AV (kp2_ A) := AV_kp V h0 V.2.2.2.1.1
theorem dit_ok {A : AS} (V : AV A) (h0 : 0 < a_n A) {d : Nat} (e : a_r A 44 = nI d) : ∀ k, d + k ≤ 9999 → AV (dit_ A k) ∧ a_n (dit_ A k) = a_n A ∧ a_r (dit_ A k) 44 = nI (d + k)
  | 0, _ => ⟨V, rfl, e⟩
  | k + 1, hk => by
    obtain ⟨v, en, e4⟩ := dit_ok V h0 e k (by omega)
    have q := OKF_P v (by omega) v.2.2.2.1.1 (by omega) e4
    exact ⟨AV_r (AV_k v (by omega)) q.1, en, q.2⟩
theorem dit_n (A : AS) : ∀ k, a_n (dit_ A k) = a_n A
  | 0 => rfl
  | k + 1 => dit_n A k
theorem k_X12_keep {E : sxE} {Q : Option Value → hpW → Prop} {A : AS} {w : hpW} (V : AV A) (H : RR A w) (h : ∀ w', RR (kp2_ A) w' → fC w w' → hp_j w' = hp_j w → Q none w') : sx_C E mX12_keep 1 0 0 [.ref 381] w Q := by
  refine c_X12_keep H.1 H.2.2.2.2.2.1.1 V.2.2.2.1.2.1 (fun I hI => ?_)
  have z := RR_kp V H hI (J := I) (fun _ _ => rfl) ((hI.1 398 (by omega) (by omega)).trans H.2.2.2.2.1)
  exact h _ z.1 z.2 rfl
theorem RR_r {A : AS} {w : hpW} (H : RR A w) {I : Nat → Nat → Int32} {r : Nat → Int32} (f : fr_ w I RY) (hr : I 398 = r) : RR (pt_r A r) (hp_wi w I) := by
  obtain ⟨hB, h1, h2, h3, h4, h5, h6, ⟨h7, h8⟩, ⟨h9, h10⟩, h11, h12⟩ := id H
  have hB2 : ly_B (hp_wi w I) := ly_wi hB _
  have e : ∀ b, b ≠ 398 ∧ b ≠ 390 ∧ b ≠ 391 → hp_i (hp_wi w I) b = hp_i w b := fun b z => f b (by unfold RY; omega)
  have g1 : ∀ j, j ≠ 1000 → hp_i (hp_wi w I) 381 j = hp_i w 381 j := fun j _ => by rw [e 381 (by omega)]
  exact ⟨hB2, tp_mv (g1 2 (by omega)) (e 382 (by omega)) h1, Rlaws_mv (fun b b1 b2 => e b (by omega)) (g1 13 (by omega)) (g1 29 (by omega)) h2, Rstr_mv (g1 25 (by omega)) (g1 26 (by omega)) (e 395 (by omega)) (e 396 (by omega)) (e 397 (by omega)) h3, hr, Rkept_mv (g1 32 (by omega)) (e 400 (by omega)) h5, Rimg_mv (g1 47 (by omega)) (e 409 (by omega)) h6, ⟨(g1 40 (by omega)).trans h7, nts_mv (e 402 (by omega)) (e 403 (by omega)) (e 404 (by omega)) h8⟩, ⟨(g1 45 (by omega)).trans h9, nts_mv (e 406 (by omega)) (e 407 (by omega)) (e 408 (by omega)) h10⟩, fun j hj => by rw [e 399 (by omega)]; exact h11 j hj, (g1 30 (by omega)).trans h12⟩
theorem k_X12_passDay {E : sxE} {Q : Option Value → hpW → Prop} {A : AS} {w : hpW} (V : AV A) (H : RR A w) (h0 : 0 < a_n A) (h : ∀ w', RR (pt_r A (P_ A (a_r A))) w' → fC w w' → hp_j w' = hp_j w → Q none w') : sx_C E mX12_passDay 9 0 0 [.ref 381] w Q := by
  obtain ⟨L, hL, e⟩ := V.2.2.2.1.1.2.2.2.1
  refine c_X12_passDay (RQ_of V H) h0 e hL (fun I f hr => ?_)
  exact h _ (RR_r H f hr) (fC_wi (fun b hb => f b (by unfold RY; omega))) rfl
def wdays (n : Nat) (x d : Int32) : Int32 := if n = 0 then 0 else if x < 1 ∨ 60 < x then 1 else if 9999 < d + x then 4 else -1
noncomputable def q_days (A : AS) (x : Int32) : Int32 × AS := if wdays (a_n A) x (a_r A 44) = -1 then (if a_r (dit_ A x.toNatClampNeg) 42 = -1 then -2 else a_r (dit_ A x.toNatClampNeg) 42, dit_ A x.toNatClampNeg) else (-1, rj_ A (wdays (a_n A) x (a_r A 44)))
theorem wdays_ok {A : AS} (V : AV A) {x : Int32} (h : wdays (a_n A) x (a_r A 44) = -1) : 0 < a_n A ∧ ∃ k d, k ≤ 60 ∧ x = nI k ∧ a_r A 44 = nI d ∧ d + k ≤ 9999 := by
  unfold wdays at h
  obtain ⟨h1, h⟩ := if_m1 h (by decide)
  obtain ⟨h2, h⟩ := if_m1 h (by decide)
  obtain ⟨h3, h⟩ := if_m1 h (by decide)
  have z1 : ¬ x < 1 := fun z => h2 (Or.inl z)
  obtain ⟨q, hq, eq⟩ := nb_ (v := x) (k := 60) (by decide) (by rw [fa_lt, ti_0]; rw [fa_lt, ti_1] at z1; omega) (fun z => h2 (Or.inr z))
  obtain ⟨d, hd, ed⟩ := V.2.2.2.1.1.2.2.1
  refine ⟨by omega, q, d, hq, eq, ed, ?_⟩
  rw [eq, ed, nI_add] at h3
  rcases Nat.lt_or_ge 9999 (d + q) with y | y
  · exact absurd ((nI_ltI (a := 9999) (by decide) (by omega)).mpr y) h3
  · exact y
set_option maxHeartbeats 2000000 in
set_option maxRecDepth 20000 in
theorem dR_lp {E : sxE} {Q : Option Value → hpW → Prop} {A : AS} {w : hpW} (VA : AV A) (h0 : 0 < a_n A) {d m : Nat} (ed : a_r A 44 = nI d) (hd : d + m ≤ 9999) (hm : m ≤ 60) (h : ∀ w', RR (dit_ A m) w' → fC w w' → Q (some (.int (if a_r (dit_ A m) 42 = -1 then -2 else a_r (dit_ A m) 42))) w') : ∀ q k w1, k + q = m → RR (dit_ A k) w1 → fC w w1 → V E mX12_days (sx_rm 10 0 0) 0 0 0 0 49 [(2, .int (nI k)), (1, .int (nI m)), (0, .ref 381)] [] w1 Q := by
  intro q
  induction q with
  | zero =>
    intro k w1 hk H1 f1
    have e1 : k = m := by omega
    subst e1
    have hB := H1.1
    have z := h w1 H1 f1
    have e42 : hp_i w1 398 42 = a_r (dit_ A k) 42 := congrFun H1.2.2.2.2.1 42
    refine V_iload_n (i := 2) (sx_di dX12_days 26 rfl) rfl rfl ?_
    refine V_iload_n (i := 1) (sx_di dX12_days 27 rfl) rfl rfl ?_
    refine V_icN_ge (a := k) (b := k) (rfl) (rfl) (by omega) (by omega) (tgt := 68) (sx_di dX12_days 28 rfl) (by decide) (fun _ => ?_) (fun h51 => absurd h51 (by omega))
    refine V_aload_n (i := 0) (sx_di dX12_days 35 rfl) rfl rfl ?_
    refine V_getR (sx_di dX12_days 36 rfl) fX12_58 (fun _ => rfl) (hB.k _ rfl) (hB.r _ _ rfl) ?_
    refine V_bipush (v := 42) (sx_di dX12_days 37 rfl) (by decide) ?_
    refine V_ialdN (n := 226) (j := 42) (sx_di dX12_days 38 rfl) (hB.k _ rfl) (rfl) (by omega) (by omega) ?_
    refine V_iv (y := a_r (dit_ A k) 42) (e42) ?_
    refine V_iconst (v := -1) (sx_di dX12_days 39 rfl) (by decide) ?_
    refine V_icmp_ne (tgt := 84) (sx_di dX12_days 40 rfl) (by decide) (fun h76 => ?_) (fun h76 => ?_)
    · rw [if_neg h76] at z
      refine V_aload_n (i := 0) (sx_di dX12_days 43 rfl) rfl rfl ?_
      refine V_getR (sx_di dX12_days 44 rfl) fX12_58 (fun _ => rfl) (hB.k _ rfl) (hB.r _ _ rfl) ?_
      refine V_bipush (v := 42) (sx_di dX12_days 45 rfl) (by decide) ?_
      refine V_ialdN (n := 226) (j := 42) (sx_di dX12_days 46 rfl) (hB.k _ rfl) (rfl) (by omega) (by omega) ?_
      refine V_iv (y := a_r (dit_ A k) 42) (e42) ?_
      refine V_iret (sx_di dX12_days 47 rfl) rfl (Nat.le_refl _) (Nat.le_refl _) ?_
      exact z
    · rw [if_pos h76] at z
      refine V_bipush (v := -2) (sx_di dX12_days 41 rfl) (by decide) ?_
      refine V_goto (tgt := 91) (sx_di dX12_days 42 rfl) (by decide) ?_
      refine V_iret (sx_di dX12_days 47 rfl) rfl (Nat.le_refl _) (Nat.le_refl _) ?_
      exact z
  | succ q ih =>
    intro k w1 hk H1 f1
    have hB := H1.1
    obtain ⟨V1, en1, e41⟩ := dit_ok VA h0 ed k (by omega)
    refine V_iload_n (i := 2) (sx_di dX12_days 26 rfl) rfl rfl ?_
    refine V_iload_n (i := 1) (sx_di dX12_days 27 rfl) rfl rfl ?_
    refine V_icN_ge (a := k) (b := m) (rfl) (rfl) (by omega) (by omega) (tgt := 68) (sx_di dX12_days 28 rfl) (by decide) (fun h51 => absurd h51 (by omega)) (fun _ => ?_)
    refine V_aload_n (i := 0) (sx_di dX12_days 29 rfl) rfl rfl ?_
    refine V_cV0 (mc' := 0) (ms' := 0) (M' := mX12_keep) 1 (sx_di dX12_days 30 rfl) lX12_321 vX12_keep (hB.k _ rfl) (by decide) rfl (Nat.le_of_ble_eq_true rfl) ⟨Nat.le_of_ble_eq_true rfl, Nat.le_of_ble_eq_true rfl⟩ ⟨Nat.le_refl _, Nat.le_refl _⟩ ?_
    refine k_X12_keep V1 H1 (fun w2 H2 f2 _ => ?_)
    have hB2 := H2.1
    refine V_aload_n (i := 0) (sx_di dX12_days 31 rfl) rfl rfl ?_
    refine V_cV0 (mc' := 0) (ms' := 0) (M' := mX12_passDay) 9 (sx_di dX12_days 32 rfl) lX12_330 vX12_passDay (hB2.k _ rfl) (by decide) rfl (Nat.le_of_ble_eq_true rfl) ⟨Nat.le_of_ble_eq_true rfl, Nat.le_of_ble_eq_true rfl⟩ ⟨Nat.le_refl _, Nat.le_refl _⟩ ?_
    refine k_X12_passDay (AV_k V1 (by omega)) H2 (show 0 < a_n (dit_ A k) by omega) (fun w3 H3 f3 _ => ?_)
    have q1 := ih (k + 1) w3 (by omega) H3 (fC_tr f1 (fC_tr f2 f3))
    rw [← nI_1] at q1
    refine V_inc (c := 1) (sx_di dX12_days 33 rfl) (by decide) rfl (by decide) (rfl) ?_
    refine V_goto (tgt := 49) (sx_di dX12_days 34 rfl) (by decide) ?_
    exact V_subk q1 ⟨rfl, rfl, rfl, trivial⟩
set_option maxHeartbeats 2000000 in
set_option maxRecDepth 20000 in
theorem oR_days {E : sxE} {A : AS} {w : hpW} (V : AV A) (H : RR A w) (x : Int32) : oR E mX12_days 10 [.ref 381, .int x] w A (q_days A x).1 (q_days A x).2 := by
  intro Q h
  have hB := H.1
  have hn8 := V.2.2.1.1
  have hn : hp_i w 381 25 = nI (a_n A) := H.2.2.2.1.1
  have e44 : hp_i w 398 44 = a_r A 44 := congrFun H.2.2.2.2.1 44
  have hrj : ∀ why, wdays (a_n A) x (a_r A 44) = why → ¬ why = -1 → Q (some (.int (-1))) (rfR_ w why.toNatClampNeg) := fun why e1 e2 => by
    subst e1
    rw [q_days, if_neg e2] at h
    exact h _ (RR_rj H) fC_rj
  refine C_of (by decide +kernel) (Nat.le_of_ble_eq_true rfl) ?_
  refine V_aload_n (i := 0) (sx_di dX12_days 0 rfl) rfl rfl ?_
  refine V_aload_n (i := 0) (sx_di dX12_days 1 rfl) rfl rfl ?_
  refine V_getI (sx_di dX12_days 2 rfl) fX12_258 (fun _ => rfl) (hB.k _ rfl) ?_
  refine V_iv (y := nI (a_n A)) (hn) ?_
  refine V_ifN_ne (a := (a_n A)) (rfl) (by omega) (tgt := 12) (sx_di dX12_days 3 rfl) (by decide) (fun h5 => ?_) (fun h5 => ?_)
  · refine V_iload_n (i := 1) (sx_di dX12_days 6 rfl) rfl rfl ?_
    refine V_iconst (v := 1) (sx_di dX12_days 7 rfl) (by decide) ?_
    refine V_bipush (v := 60) (sx_di dX12_days 8 rfl) (by decide) ?_
    refine V_cS3 (mc' := 0) (ms' := 0) (M' := mX12_in) 1 (sx_di dX12_days 9 rfl) lX12_214 vX12_in (Nat.le_of_ble_eq_true rfl) ⟨Nat.le_of_ble_eq_true rfl, Nat.le_of_ble_eq_true rfl⟩ ⟨Nat.le_refl _, Nat.le_refl _⟩ ?_
    refine c_X12_in ?_
    refine V_if_ne (tgt := 26) (sx_di dX12_days 10 rfl) (by decide) (fun h19 => ?_) (fun h19 => ?_)
    · have h20 := in_ye h19
      refine V_aload_n (i := 0) (sx_di dX12_days 13 rfl) rfl rfl ?_
      refine V_iload_n (i := 1) (sx_di dX12_days 14 rfl) rfl rfl ?_
      refine V_cV1 (mc' := 0) (ms' := 0) (M' := mX12_areDays) 2 (sx_di dX12_days 15 rfl) lX12_327 vX12_areDays (hB.k _ rfl) (by decide) rfl (Nat.le_of_ble_eq_true rfl) ⟨Nat.le_of_ble_eq_true rfl, Nat.le_of_ble_eq_true rfl⟩ ⟨Nat.le_refl _, Nat.le_refl _⟩ ?_
      refine c_X12_areDays hB ?_
      refine V_if_ne (tgt := 38) (sx_di dX12_days 16 rfl) (by decide) (fun h31 => ?_) (fun h31 => ?_)
      · rw [e44, ad_, if_neg h19] at h31
        have h32 : ¬ 9999 < a_r A 44 + x := fun z => h31 (if_pos z)
        have e : wdays (a_n A) x (a_r A 44) = -1 := by rw [wdays, if_neg h5, if_neg h20, if_neg h32]
        rw [q_days, if_pos e] at h
        obtain ⟨h00, k, d, hk, rfl, ed, hd⟩ := wdays_ok V e
        rw [nI_clamp (by omega)] at h
        refine V_iconst (v := -1) (sx_di dX12_days 19 rfl) (by decide) ?_
        refine V_cV1 (mc' := 0) (ms' := 0) (M' := mX12_isRefused) 1 (sx_di dX12_days 20 rfl) lX12_317 vX12_isRefused (hB.k _ rfl) (by decide) rfl (Nat.le_of_ble_eq_true rfl) ⟨Nat.le_of_ble_eq_true rfl, Nat.le_of_ble_eq_true rfl⟩ ⟨Nat.le_refl _, Nat.le_refl _⟩ ?_
        refine e_acc hB ?_
        refine V_if_eq (tgt := 47) (sx_di dX12_days 21 rfl) (by decide) (fun _ => ?_) (fun h42 => absurd rfl h42)
        refine V_iconst (v := 0) (sx_di dX12_days 24 rfl) (by decide) ?_
        refine V_istore_n (i := 2) (sx_di dX12_days 25 rfl) rfl (by decide) (rfl) ?_
        refine V_sub (ls' := [(2, .int (nI 0)), (1, .int (nI k)), (0, .ref 381)]) ⟨rfl, rfl, rfl, trivial⟩ ?_
        exact dR_lp V h00 ed hd hk h k 0 w (by omega) H fC_rf
      · rw [e44, ad_, if_neg h19] at h31
        have h32 : 9999 < a_r A 44 + x := Classical.byContradiction (fun z => by rw [if_neg z] at h31; exact absurd h31 (by decide))
        refine V_iconst (v := 4) (sx_di dX12_days 17 rfl) (by decide) ?_
        refine V_goto (tgt := 39) (sx_di dX12_days 18 rfl) (by decide) ?_
        refine V_cV1 (mc' := 0) (ms' := 0) (M' := mX12_isRefused) 1 (sx_di dX12_days 20 rfl) lX12_317 vX12_isRefused (hB.k _ rfl) (by decide) rfl (Nat.le_of_ble_eq_true rfl) ⟨Nat.le_of_ble_eq_true rfl, Nat.le_of_ble_eq_true rfl⟩ ⟨Nat.le_refl _, Nat.le_refl _⟩ ?_
        refine e_ref hB (k := 4) (by omega) ?_
        refine V_if_eq (tgt := 47) (sx_di dX12_days 21 rfl) (by decide) (fun h42 => absurd h42 (by decide)) (fun _ => ?_)
        refine V_iconst (v := -1) (sx_di dX12_days 22 rfl) (by decide) ?_
        refine V_iret (sx_di dX12_days 23 rfl) rfl (Nat.le_refl _) (Nat.le_refl _) ?_
        exact hrj 4 (by rw [wdays, if_neg h5, if_neg h20, if_pos h32]) (by decide)
    · refine V_iconst (v := 1) (sx_di dX12_days 11 rfl) (by decide) ?_
      refine V_goto (tgt := 39) (sx_di dX12_days 12 rfl) (by decide) ?_
      refine V_cV1 (mc' := 0) (ms' := 0) (M' := mX12_isRefused) 1 (sx_di dX12_days 20 rfl) lX12_317 vX12_isRefused (hB.k _ rfl) (by decide) rfl (Nat.le_of_ble_eq_true rfl) ⟨Nat.le_of_ble_eq_true rfl, Nat.le_of_ble_eq_true rfl⟩ ⟨Nat.le_refl _, Nat.le_refl _⟩ ?_
      refine e_ref hB (k := 1) (by omega) ?_
      refine V_if_eq (tgt := 47) (sx_di dX12_days 21 rfl) (by decide) (fun h42 => absurd h42 (by decide)) (fun _ => ?_)
      refine V_iconst (v := -1) (sx_di dX12_days 22 rfl) (by decide) ?_
      refine V_iret (sx_di dX12_days 23 rfl) rfl (Nat.le_refl _) (Nat.le_refl _) ?_
      exact hrj 1 (by rw [wdays, if_neg h5, if_pos (in_no h19)]) (by decide)
  · refine V_iconst (v := 0) (sx_di dX12_days 4 rfl) (by decide) ?_
    refine V_goto (tgt := 39) (sx_di dX12_days 5 rfl) (by decide) ?_
    refine V_cV1 (mc' := 0) (ms' := 0) (M' := mX12_isRefused) 1 (sx_di dX12_days 20 rfl) lX12_317 vX12_isRefused (hB.k _ rfl) (by decide) rfl (Nat.le_of_ble_eq_true rfl) ⟨Nat.le_of_ble_eq_true rfl, Nat.le_of_ble_eq_true rfl⟩ ⟨Nat.le_refl _, Nat.le_refl _⟩ ?_
    refine e_ref hB (k := 0) (by omega) ?_
    refine V_if_eq (tgt := 47) (sx_di dX12_days 21 rfl) (by decide) (fun h42 => absurd h42 (by decide)) (fun _ => ?_)
    refine V_iconst (v := -1) (sx_di dX12_days 22 rfl) (by decide) ?_
    refine V_iret (sx_di dX12_days 23 rfl) rfl (Nat.le_refl _) (Nat.le_refl _) ?_
    exact hrj 0 (by rw [wdays, if_pos h5]) (by decide)
/-! the class lives a day -/
theorem gc_le {g : Nat} {G : Nat → Nat} {k : Nat} (h : gc_ g G k) : ∀ i, i < k → G i ≤ g ∧ g ≤ G i + i + 1
  | 0, hi => h.1 hi
  | i + 1, hi => by
    have a := gc_le h i (by omega)
    have b := h.2 i hi
    omega
theorem lw2_o {I : Nat → Nat → Int32} {g b : Nat} (h : b ≠ 57) (h2 : b < 72 ∨ 74 < b) : lw2_ I g b = I b := by
  funext j
  unfold lw2_
  rw [hp_u_nk _ _ (by omega), hp_u_nk _ _ (by omega), hp_u_nk _ _ (by omega), hp_u_nk _ _ (by omega)]
theorem lw2_57 {I : Nat → Nat → Int32} {g j : Nat} (h : j ≠ 12) : lw2_ I g 57 j = I 57 j := by
  unfold lw2_
  rw [hp_u_nk _ _ (by omega), hp_u_nk _ _ (by omega), hp_u_nk _ _ (by omega), hp_u_nk _ _ (by omega)]
theorem lw2_l {I : Nat → Nat → Int32} {g b j : Nat} (h : 72 ≤ b) (h1 : b ≤ 74) (h2 : j ≠ g % 128) : lw2_ I g b j = I b j := by
  unfold lw2_
  rw [hp_u_nk _ _ (by omega), hp_u_nk _ _ (by omega), hp_u_nk _ _ (by omega), hp_u_nk _ _ (by omega)]
theorem rg_wr {I : Nat → Nat → Int32} {g g2 : Nat} {r : Nat → Int32} (H : rg_ I 71 g2 r) (h1 : g2 ≤ g) (h2 : g < g2 + 68) : rg_ (lw2_ I g) 71 g2 r := by
  refine ⟨H.1, H.2.1, fun i hi => ?_⟩
  have z : (g2 - 1 - i) % 128 ≠ g % 128 := by split at hi <;> omega
  rw [lw2_l (by omega) (by omega) z, lw2_l (by omega) (by omega) z, lw2_l (by omega) (by omega) z]
  exact H.2.2 i hi
theorem rg_dy {I : Nat → Nat → Int32} {L g : Nat} {r r2 : Nat → Int32} {d : Nat} (hd : d < 2 ^ 30) (e : r 44 = nI d) (e2 : r2 44 = nI (d + 1)) (h : ∀ j, 45 ≤ j → r2 j = r j) (H : rg_ I L g r) : rg_ I L g r2 := by
  unfold rg_
  have h1 := H.1
  rw [e, nI_clamp (by omega)] at h1
  rw [e2, nI_clamp (by omega), h 45 (by omega)]
  refine ⟨by omega, H.2.1, fun i hi => ?_⟩
  rw [h _ (by omega), h _ (by omega), h _ (by omega)]
  exact H.2.2 i hi
theorem la_A {r : Nat → Int32} {g : Nat} (hg : g < 60) (e : r 45 = nI g) : la_ r 45 = nI (g + 1) ∧ la_ r (46 + 3 * g) = r 44 ∧ la_ r (46 + 3 * g + 1) = r 42 ∧ la_ r (46 + 3 * g + 2) = r 43 ∧ ∀ k, 46 ≤ k → k < 46 + 3 * g → la_ r k = r k := by
  unfold la_
  rw [e, nI_clamp (by omega)]
  refine ⟨?_, ?_, ?_, ?_, fun k h1 h2 => ?_⟩
  · rw [if_neg (by omega), if_neg (by omega), if_neg (by omega), if_neg (by omega), if_pos rfl]
  · rw [if_neg (by omega), if_pos rfl]
  · rw [if_neg (by omega), if_neg (by omega), if_pos rfl]
  · rw [if_neg (by omega), if_neg (by omega), if_neg (by omega), if_pos rfl]
  · rw [if_neg (by omega), if_neg (by omega), if_neg (by omega), if_neg (by omega), if_neg (by omega)]
theorem la_B {r : Nat → Int32} (e : r 45 = nI 60) : la_ r 45 = nI 60 ∧ la_ r 223 = r 44 ∧ la_ r 224 = r 42 ∧ la_ r 225 = r 43 ∧ ∀ k, 46 ≤ k → k < 223 → la_ r k = r (k + 3) := by
  unfold la_
  rw [e, nI_clamp (by omega)]
  refine ⟨?_, ?_, ?_, ?_, fun k h1 h2 => ?_⟩
  · rw [if_pos rfl, if_neg (by omega), if_neg (by omega), if_neg (by omega), if_neg (by omega)]
  · rw [if_pos rfl, if_pos rfl]
  · rw [if_pos rfl, if_neg (by omega), if_pos rfl]
  · rw [if_pos rfl, if_neg (by omega), if_neg (by omega), if_pos rfl]
  · rw [if_pos rfl, if_neg (by omega), if_neg (by omega), if_neg (by omega), if_pos (by omega)]
theorem rg_la {I : Nat → Nat → Int32} {g : Nat} {r r2 : Nat → Int32} {d : Nat} (hd : d < 2 ^ 30) (e : r 44 = nI d) (e2 : r2 44 = nI (d + 1)) (h : ∀ j, 45 ≤ j → r2 j = r j) (H : rg_ I 71 g r) (w1 : I 57 11 = r2 44) (w2 : I 57 9 = r2 42) (w3 : I 57 10 = r2 43) : rg_ (lw2_ I g) 71 (g + 1) (la_ r2) := by
  have h1 := H.1
  rw [e, nI_clamp (by omega)] at h1
  have e45 : r2 45 = nI (if g < 60 then g else 60) := (h 45 (by omega)).trans H.2.1
  have k1 : ∀ i, i < (if g < 60 then g else 60) → I 72 ((g - 1 - i) % 128) = r2 (46 + 3 * ((if g < 60 then g else 60) - 1 - i)) ∧ I 73 ((g - 1 - i) % 128) = r2 (46 + 3 * ((if g < 60 then g else 60) - 1 - i) + 1) ∧ I 74 ((g - 1 - i) % 128) = r2 (46 + 3 * ((if g < 60 then g else 60) - 1 - i) + 2) := fun i hi => by
    rw [h _ (by omega), h _ (by omega), h _ (by omega)]
    exact H.2.2 i hi
  refine ⟨by rw [la_lo (by omega), e2, nI_clamp (by omega)]; omega, ?_, fun i hi => ?_⟩
  · by_cases hg : g < 60
    · rw [if_pos hg] at e45
      rw [(la_A hg e45).1]
      by_cases hg2 : g + 1 < 60
      · rw [if_pos hg2]
      · rw [if_neg hg2, show g + 1 = 60 by omega]
    · rw [if_neg hg] at e45
      rw [(la_B e45).1, if_neg (by omega)]
  · by_cases hi0 : i = 0
    · subst hi0
      rw [show g + 1 - 1 - 0 = g by omega]
      have l1 : lw2_ I g 72 (g % 128) = r2 44 := by unfold lw2_; rw [hp_u_nk _ _ (by omega), hp_u_nk _ _ (by omega), hp_u_nk _ _ (by omega), hp_u_at]; exact w1
      have l2 : lw2_ I g 73 (g % 128) = r2 42 := by unfold lw2_; rw [hp_u_nk _ _ (by omega), hp_u_nk _ _ (by omega), hp_u_at]; exact w2
      have l3 : lw2_ I g 74 (g % 128) = r2 43 := by unfold lw2_; rw [hp_u_nk _ _ (by omega), hp_u_at]; exact w3
      rw [l1, l2, l3]
      by_cases hg : g < 60
      · rw [if_pos hg] at e45
        have e9 : (if g + 1 < 60 then g + 1 else 60) - 1 - 0 = g := by
          by_cases hg2 : g + 1 < 60
          · rw [if_pos hg2]; omega
          · rw [if_neg hg2]; omega
        rw [e9, (la_A hg e45).2.1, (la_A hg e45).2.2.1, (la_A hg e45).2.2.2.1]
        exact ⟨rfl, rfl, rfl⟩
      · rw [if_neg hg] at e45
        rw [if_neg (by omega)]
        exact ⟨(la_B e45).2.1.symm, (la_B e45).2.2.1.symm, (la_B e45).2.2.2.1.symm⟩
    · have hi2 : i - 1 < (if g < 60 then g else 60) := by
        by_cases hg : g < 60
        · rw [if_pos hg]; split at hi <;> omega
        · rw [if_neg hg]; split at hi <;> omega
      have z := k1 (i - 1) hi2
      have hi60 : i < 60 := by split at hi <;> omega
      have hig : i ≤ g := by split at hi <;> omega
      have e10 : g + 1 - 1 - i = g - 1 - (i - 1) := by omega
      have z2 : (g - 1 - (i - 1)) % 128 ≠ g % 128 := by omega
      rw [e10, lw2_l (by omega) (by omega) z2, lw2_l (by omega) (by omega) z2, lw2_l (by omega) (by omega) z2, z.1, z.2.1, z.2.2]
      by_cases hg : g < 60
      · rw [if_pos hg] at e45
        have e9 : (if g + 1 < 60 then g + 1 else 60) - 1 - i = g - i := by
          by_cases hg2 : g + 1 < 60
          · rw [if_pos hg2]; omega
          · rw [if_neg hg2]; omega
        rw [e9, if_pos hg, (la_A hg e45).2.2.2.2 _ (by omega) (by omega), (la_A hg e45).2.2.2.2 _ (by omega) (by omega), (la_A hg e45).2.2.2.2 _ (by omega) (by omega)]
        refine ⟨congrArg r2 (by omega), congrArg r2 (by omega), congrArg r2 (by omega)⟩
      · rw [if_neg hg] at e45
        rw [if_neg hg, if_neg (by omega), (la_B e45).2.2.2.2 _ (by omega) (by omega), (la_B e45).2.2.2.2 _ (by omega) (by omega), (la_B e45).2.2.2.2 _ (by omega) (by omega)]
        refine ⟨congrArg r2 (by omega), congrArg r2 (by omega), congrArg r2 (by omega)⟩

/-! walks: the reference -/
def pt_s (A : AS) (s : Nat → Int32) : AS := (A.1, (A.2.1.1, A.2.1.2.1, s), A.2.2)
theorem AV_ps {A : AS} (V : AV A) {s : Nat → Int32} (h : 0 < a_n A → OKT (a_n A) (a_m A) s) : AV (pt_s A s) := ⟨V.1, V.2.1, ⟨V.2.2.1.1, V.2.2.1.2.1, h, V.2.2.1.2.2.2⟩, V.2.2.2⟩
theorem RR_ps {A : AS} {w : hpW} (H : RR A w) {u : Nat} (hu : u < 8) (v : Int32) : RR (pt_s A (up_ (a_s A) (4 + 4 * u) v)) (hp_si w 396 (4 * u) v) ∧ fC w (hp_si w 396 (4 * u) v) := by
  obtain ⟨hB, h1, h2, h3, h4, h5, h6, ⟨h7, h8⟩, ⟨h9, h10⟩, h11, h12⟩ := id H
  have hB2 : ly_B (hp_si w 396 (4 * u) v) := hB
  have e : ∀ b, b ≠ 396 → hp_i (hp_si w 396 (4 * u) v) b = hp_i w b := fun b z => by
    funext j
    exact hp_u_nk _ _ (fun q => z q.1)
  have g1 : ∀ j, j ≠ 1000 → hp_i (hp_si w 396 (4 * u) v) 381 j = hp_i w 381 j := fun j _ => by rw [e 381 (by omega)]
  have hstr : Rstr (hp_i (hp_si w 396 (4 * u) v)) (a_n A) (a_m A) (up_ (a_s A) (4 + 4 * u) v) := by
    refine ⟨(g1 25 (by omega)).trans h3.1, (g1 26 (by omega)).trans h3.2.1, fun j hj => ?_, fun j hj => ?_, fun j hj => ?_⟩
    · rw [e 395 (by omega), up_ne (by omega)]; exact h3.2.2.1 j hj
    · rw [hp_i_si]
      by_cases c : j = 4 * u
      · rw [if_pos ⟨rfl, c⟩, c, up_at]
      · rw [if_neg (fun q => c q.2), up_ne (by omega)]; exact h3.2.2.2.1 j hj
    · rw [e 397 (by omega), up_ne (by omega)]; exact h3.2.2.2.2 j hj
  exact ⟨⟨hB2, tp_mv (g1 2 (by omega)) (e 382 (by omega)) h1, Rlaws_mv (fun b b1 b2 => e b (by omega)) (g1 13 (by omega)) (g1 29 (by omega)) h2, hstr, (e 398 (by omega)).trans h4, Rkept_mv (g1 32 (by omega)) (e 400 (by omega)) h5, Rimg_mv (g1 47 (by omega)) (e 409 (by omega)) h6, ⟨(g1 40 (by omega)).trans h7, nts_mv (e 402 (by omega)) (e 403 (by omega)) (e 404 (by omega)) h8⟩, ⟨(g1 45 (by omega)).trans h9, nts_mv (e 406 (by omega)) (e 407 (by omega)) (e 408 (by omega)) h10⟩, fun j hj => by rw [e 399 (by omega)]; exact h11 j hj, (g1 30 (by omega)).trans h12⟩, fC_wi (fun b hb => e b (by omega))⟩
theorem k_takeBack2 {E : sxE} {Q : Option Value → hpW → Prop} {A : AS} {w : hpW} {r2 : Nat → Int32} (H : RR (pt_r A r2) w) (hs : ∀ j, j < 45 → hp_i w 401 j = a_r A j) (h45 : ∀ j, 45 ≤ j → r2 j = a_r A j) (h : ∀ w', RR A w' → fC w w' → hp_i w' 405 = hp_i w 405 → Q none w') : sx_C E mX12_takeBack 1 0 0 [.ref 381] w Q := by
  have z : RR (pt_r (pt_r A r2) (a_r A)) (hp_wi w (cq_ (hp_i w) 398 0 401 0 45)) := RR_w H (ly_wi H.1 _) (fun b hb => cq_o hb) (by
    rw [hp_i_wi]
    funext j
    unfold cq_
    by_cases hj : j < 45
    · rw [if_pos ⟨rfl, by omega, by omega⟩, Nat.sub_zero, Nat.zero_add]; exact hs j hj
    · rw [if_neg (by omega)]
      exact (congrFun H.2.2.2.2.1 j).trans (h45 j (by omega)))
  exact c_X12_takeBack H.1 (h _ z (fC_wi (fun b hb => cq_o (by omega))) (by rw [hp_i_wi, cq_o (by omega)]))
theorem bg_cg {s r r2 : Nat → Int32} {n : Nat} (h : ∀ j, 45 ≤ j → r j = r2 j) : bg_ s n r = bg_ s n r2 := by
  have e : bpr_ s n r = bpr_ s n r2 := by
    funext j
    unfold bpr_ zr_
    by_cases c : j < 45
    · rw [if_pos c, if_pos c]
    · rw [if_neg c, if_neg c, h j (by omega)]
  unfold bg_
  rw [e]
theorem bg_hi {s r : Nat → Int32} {n j : Nat} (hn : n ≤ 8) (h : 45 ≤ j) : bg_ s n r j = r j := by
  unfold bg_
  rw [up_ne (by omega), up_ne (by omega), up_ne (by omega)]
  unfold bpr_ zr_
  rw [if_neg (by omega), if_neg (by omega), if_neg (by omega), if_neg (by omega), if_neg (by omega)]
theorem wd_s (A : AS) (g : Int32) (c k : Nat) : wd_ A g c (k + 1) = dv_ (F_ A) (z_s (sx2 (a_s A) (a_n A) c g)) (z_f (sx2 (a_s A) (a_n A) c g)) (sx2 (a_s A) (a_n A) c g 0) (a_n A) (z_m (sx2 (a_s A) (a_n A) c g)) (wd_ A g c k) := rfl
theorem wd_F {A : AS} (V : AV A) (h0 : 0 < a_n A) {g : Nat} (hg : g ≤ 5) (c : Nat) : ∀ k, k ≤ 40 → OKF (a_n A) (a_m A) (wd_ A (nI g) c k) ∧ wd_ A (nI g) c k 44 = nI k ∧ ∀ j, 45 ≤ j → wd_ A (nI g) c k j = a_r A j
  | 0, _ => ⟨OKF_bg V.2.2.1.1 (OKT_x V h0 hg c) V.2.2.2.1.1, by
      show bg_ _ _ _ 44 = nI 0
      unfold bg_
      rw [up_ne (by omega), up_ne (by omega), up_ne (by omega), bpr_z V.2.2.1.1 (by omega) (by omega)]
      rfl, fun j hj => bg_hi V.2.2.1.1 hj⟩
  | k + 1, hk => by
    obtain ⟨a, b, d⟩ := wd_F V h0 hg c k (by omega)
    rw [wd_s]
    exact ⟨OKF_dv (A := pt_s A (sx2 (a_s A) (a_n A) c (nI g))) (AV_ps V (fun _ => OKT_x V h0 hg c)) h0 a (by omega) b, by rw [dv_44, b]; exact nI_add k 1, fun j hj => by rw [dv_hi V.2.2.1.1 hj]; exact d j hj⟩
def PK_ (A : AS) (g : Int32) (w : hpW) (z : Nat) : Prop := ∀ u k, (u < a_n A ∨ u = 9) → 0 < k → k ≤ 40 → 41 * u + k < z → hp_i w 405 (41 * u + k) = wd_ A g u k 42
theorem k_live {E : sxE} {Q : Option Value → hpW → Prop} {A : AS} {w : hpW} (V : AV A) (H : RR A w) (h0 : 0 < a_n A) (h : ∀ w' x, RR (pt_r A (dv_ (F_ A) (z_s (a_s A)) (z_f (a_s A)) (a_s A 0) (a_n A) (z_m (a_s A)) (a_r A))) w' → fC w w' → hp_i w' 401 = hp_i w 401 → hp_i w' 405 = hp_i w 405 → Q (some (.int x)) w') : sx_C E mX12_live 8 0 0 [.ref 381] w Q := c_X12_live (RQ_of V H) h0 (fun I x f e er => h _ x (RR_r H f e) (fC_wi (fun b hb => f b (by unfold RY; omega))) (f 401 (by unfold RY; omega)) (f 405 (by unfold RY; omega)))
theorem k_beginR {E : sxE} {Q : Option Value → hpW → Prop} {A : AS} {w : hpW} (V : AV A) (H : RR A w) (h : ∀ w', RR (pt_r A (bg_ (a_s A) (a_n A) (a_r A))) w' → fC w w' → hp_i w' 401 = hp_i w 401 → hp_i w' 405 = hp_i w 405 → Q none w') : sx_C E mX12_begin 2 0 0 [.ref 381] w Q := by
  have h3 := H.2.2.2.1
  refine c_X12_begin H.1 h3.1 V.2.2.1.1 h3.2.2.1 h3.2.2.2.1 ?_
  have e8 : hp_i w 398 = a_r A := H.2.2.2.2.1
  rw [e8]
  exact h _ (RR_w H (ly_wi H.1 _) (fun b hb => h98_o _ _ hb) (by rw [hp_i_wi]; exact if_pos rfl)) (fC_wi (fun b hb => h98_o _ _ (by omega))) (by rw [hp_i_wi, h98_o _ _ (by omega)]) (by rw [hp_i_wi, h98_o _ _ (by omega)])
theorem RR_405 {A : AS} {w : hpW} (H : RR A w) (k : Nat) (x : Int32) : RR A (hp_si w 405 k x) ∧ fC w (hp_si w 405 k x) := by
  have e : ∀ b, b ≠ 405 → hp_i (hp_si w 405 k x) b = hp_i w b := fun b z => by
    funext j
    exact hp_u_nk _ _ (fun q => z q.1)
  exact ⟨RR_mv (w := w) H.1 (fun b h1 h2 h3 h4 h5 h6 => e b h6) (fun j hj => by rw [e 381 (by omega)]) H, fC_wi (fun b hb => e b (by omega))⟩
set_option maxHeartbeats 2000000 in
set_option maxRecDepth 20000 in
theorem c_X12_isWho {E : sxE} {w : hpW} {Q : Option Value → hpW → Prop} (hB : ly_B w) {n : Nat} (hn : hp_i w 381 25 = nI n) (hn8 : n ≤ 8) {u : Nat} (hu : u ≤ 9) (h : Q (some (.int (nI (if u < n ∨ u = 9 then 1 else 0)))) w) : sx_C E mX12_isWho 3 0 0 [.ref 381, .int (nI u)] w Q := by
  refine C_of (by decide +kernel) (Nat.le_of_ble_eq_true rfl) ?_
  refine V_iload_n (i := 1) (sx_di dX12_isWho 0 rfl) rfl rfl ?_
  refine V_bipush (v := 9) (sx_di dX12_isWho 1 rfl) (by decide) ?_
  refine V_icN_eq (a := u) (b := 9) (rfl) (rfl) (by omega) (by omega) (tgt := 14) (sx_di dX12_isWho 2 rfl) (by decide) (fun h3 => ?_) (fun h3 => ?_)
  · rw [if_pos (Or.inr h3)] at h
    refine V_iconst (v := 1) (sx_di dX12_isWho 7 rfl) (by decide) ?_
    refine V_goto (tgt := 19) (sx_di dX12_isWho 8 rfl) (by decide) ?_
    refine V_zret (sx_di dX12_isWho 10 rfl) rfl (by first | rfl | decide) (Nat.le_refl _) (Nat.le_refl _) ?_
    exact h
  · refine V_aload_n (i := 0) (sx_di dX12_isWho 3 rfl) rfl rfl ?_
    refine V_iload_n (i := 1) (sx_di dX12_isWho 4 rfl) rfl rfl ?_
    refine V_cV1 (mc' := 0) (ms' := 0) (M' := mX12_isHouse) 2 (sx_di dX12_isWho 5 rfl) lX12_311 vX12_isHouse (hB.k _ rfl) (by decide) rfl (Nat.le_of_ble_eq_true rfl) ⟨Nat.le_of_ble_eq_true rfl, Nat.le_of_ble_eq_true rfl⟩ ⟨Nat.le_refl _, Nat.le_refl _⟩ ?_
    refine c_X12_isHouse hB hn hn8 ?_
    refine V_iv (y := nI (if u < n then 1 else 0)) (ih_v hn8 (by omega)) ?_
    refine V_if_eq (tgt := 18) (sx_di dX12_isWho 6 rfl) (by decide) (fun h11 => ?_) (fun h11 => ?_)
    · have hx : ¬ u < n := fun z => by rw [if_pos z] at h11; exact absurd h11 (by decide)
      rw [if_neg (fun z => z.elim hx h3)] at h
      refine V_iconst (v := 0) (sx_di dX12_isWho 9 rfl) (by decide) ?_
      refine V_zret (sx_di dX12_isWho 10 rfl) rfl (by first | rfl | decide) (Nat.le_refl _) (Nat.le_refl _) ?_
      exact h
    · have hx : u < n := Classical.byContradiction (fun z => by rw [if_neg z] at h11; exact h11 rfl)
      rw [if_pos (Or.inl hx)] at h
      refine V_iconst (v := 1) (sx_di dX12_isWho 7 rfl) (by decide) ?_
      refine V_goto (tgt := 19) (sx_di dX12_isWho 8 rfl) (by decide) ?_
      refine V_zret (sx_di dX12_isWho 10 rfl) rfl (by first | rfl | decide) (Nat.le_refl _) (Nat.le_refl _) ?_
      exact h
set_option maxHeartbeats 2000000 in
set_option maxRecDepth 20000 in
theorem lp_in {E : sxE} {A : AS} {w : hpW} {Q : Option Value → hpW → Prop} (VA : AV A) (h0 : 0 < a_n A) {g u : Nat} {was : Int32} (hg : g ≤ 5) (hu : u < a_n A ∨ u = 9) (hq : ∀ w1, RR (pt_r (pt_s A (sx2 (a_s A) (a_n A) u (nI g))) (wd_ A (nI g) u 40)) w1 → fC w w1 → (∀ j, j < 45 → hp_i w1 401 j = a_r A j) → PK_ A (nI g) w1 (41 * u + 41) → V E mX12_layPaths (sx_rm 9 0 0) 0 0 0 0 105 [(3, .int was), (2, .int (nI u)), (1, .int (nI g)), (0, .ref 381)] [] w1 Q) : ∀ d k w1, k + d = 41 → 0 < k → RR (pt_r (pt_s A (sx2 (a_s A) (a_n A) u (nI g))) (wd_ A (nI g) u (k - 1))) w1 → fC w w1 → (∀ j, j < 45 → hp_i w1 401 j = a_r A j) → PK_ A (nI g) w1 (41 * u + k) → V E mX12_layPaths (sx_rm 9 0 0) 0 0 0 0 68 [(4, .int (nI k)), (3, .int was), (2, .int (nI u)), (1, .int (nI g)), (0, .ref 381)] [] w1 Q := by
  intro d
  have hn8 := VA.2.2.1.1
  have VB : AV (pt_s A (sx2 (a_s A) (a_n A) u (nI g))) := AV_ps VA (fun _ => OKT_x VA h0 hg u)
  induction d with
  | zero =>
    intro k w1 hk k0 H1 f1 hs hT
    have hB := H1.1
    have e : k = 41 := by omega
    subst e
    refine V_iload (sx_di dX12_layPaths 41 rfl) rfl ?_
    refine V_bipush (v := 40) (sx_di dX12_layPaths 42 rfl) (by decide) ?_
    refine V_icN_gt (a := 41) (b := 40) (rfl) (rfl) (by omega) (by omega) (tgt := 105) (sx_di dX12_layPaths 43 rfl) (by decide) (fun _ => ?_) (fun h72 => absurd h72 (by omega))
    refine V_sub (ls' := [(3, .int was), (2, .int (nI u)), (1, .int (nI g)), (0, .ref 381)]) ⟨rfl, rfl, rfl, rfl, trivial⟩ ?_
    exact hq w1 H1 f1 hs hT
  | succ d ih =>
    intro k w1 hk k0 H1 f1 hs hT
    have hB := H1.1
    have hw := wd_F VA h0 hg u (k - 1) (by omega)
    have VB2 := AV_r VB hw.1
    have ew : wd_ A (nI g) u k = dv_ (F_ A) (z_s (sx2 (a_s A) (a_n A) u (nI g))) (z_f (sx2 (a_s A) (a_n A) u (nI g))) (sx2 (a_s A) (a_n A) u (nI g) 0) (a_n A) (z_m (sx2 (a_s A) (a_n A) u (nI g))) (wd_ A (nI g) u (k - 1)) := by
      obtain ⟨k2, rfl⟩ : ∃ k2, k = k2 + 1 := ⟨k - 1, by omega⟩
      rw [Nat.add_sub_cancel]
      rfl
    refine V_iload (sx_di dX12_layPaths 41 rfl) rfl ?_
    refine V_bipush (v := 40) (sx_di dX12_layPaths 42 rfl) (by decide) ?_
    refine V_icN_gt (a := k) (b := 40) (rfl) (rfl) (by omega) (by omega) (tgt := 105) (sx_di dX12_layPaths 43 rfl) (by decide) (fun h72 => absurd h72 (by omega)) (fun _ => ?_)
    refine V_aload_n (i := 0) (sx_di dX12_layPaths 44 rfl) rfl rfl ?_
    refine V_cV0 (mc' := 0) (ms' := 0) (M' := mX12_live) 8 (sx_di dX12_layPaths 45 rfl) lX12_308 vX12_live (by first | exact hB.k _ rfl | exact hB2.k _ rfl) (by decide) rfl (Nat.le_of_ble_eq_true rfl) ⟨Nat.le_of_ble_eq_true rfl, Nat.le_of_ble_eq_true rfl⟩ ⟨Nat.le_refl _, Nat.le_refl _⟩ ?_
    refine k_live VB2 H1 h0 (fun w2 x2 H2 f2 e401 e405 => ?_)
    have H2 : RR (pt_r (pt_s A (sx2 (a_s A) (a_n A) u (nI g))) (wd_ A (nI g) u k)) w2 := by rw [ew]; exact H2
    have hB2 := H2.1
    have e42 : hp_i w2 398 42 = wd_ A (nI g) u k 42 := congrFun H2.2.2.2.2.1 42
    obtain ⟨H3, f3⟩ := RR_405 H2 (41 * u + k) (wd_ A (nI g) u k 42)
    have hT3 : PK_ A (nI g) (hp_si w2 405 (41 * u + k) (wd_ A (nI g) u k 42)) (41 * u + (k + 1)) := fun u2 k2 hu2 hk2 hk3 hz => by
      rw [hp_i_si]
      by_cases hx : 41 * u2 + k2 = 41 * u + k
      · rw [if_pos ⟨rfl, hx⟩, show u2 = u by omega, show k2 = k by omega]
      · rw [if_neg (fun q => hx q.2), e405]; exact hT u2 k2 hu2 hk2 hk3 (by omega)
    have q1 := ih (k + 1) _ (by omega) (by omega) (by rw [Nat.add_sub_cancel]; exact H3) (fC_tr f1 (fC_tr f2 f3)) (fun j hj => by rw [hp_i_si, if_neg (by omega), e401]; exact hs j hj) hT3
    rw [← nI_1] at q1
    refine V_pop (sx_di dX12_layPaths 46 rfl) rfl ?_
    refine V_aload_n (i := 0) (sx_di dX12_layPaths 47 rfl) rfl rfl ?_
    refine V_getR (sx_di dX12_layPaths 48 rfl) fX12_84 (fun _ => rfl) (by first | exact hB.k _ rfl | exact hB2.k _ rfl) (by first | exact hB.r _ _ rfl | exact hB2.r _ _ rfl) ?_
    refine V_bipush (v := 41) (sx_di dX12_layPaths 49 rfl) (by decide) ?_
    refine V_iload_n (i := 2) (sx_di dX12_layPaths 50 rfl) rfl rfl ?_
    refine V_imul (sx_di dX12_layPaths 51 rfl) ?_
    refine V_iload (sx_di dX12_layPaths 52 rfl) rfl ?_
    refine V_iadd (sx_di dX12_layPaths 53 rfl) ?_
    refine V_aload_n (i := 0) (sx_di dX12_layPaths 54 rfl) rfl rfl ?_
    refine V_getR (sx_di dX12_layPaths 55 rfl) fX12_58 (fun _ => rfl) (by first | exact hB.k _ rfl | exact hB2.k _ rfl) (by first | exact hB.r _ _ rfl | exact hB2.r _ _ rfl) ?_
    refine V_bipush (v := 42) (sx_di dX12_layPaths 56 rfl) (by decide) ?_
    refine V_ialdN (n := 226) (j := 42) (sx_di dX12_layPaths 57 rfl) (by first | exact hB.k _ rfl | exact hB2.k _ rfl) (rfl) (by omega) (by omega) ?_
    refine V_iv (y := wd_ A (nI g) u k 42) (e42) ?_
    refine V_iastN (n := 410) (j := ((41 * u) + k)) (sx_di dX12_layPaths 58 rfl) (by first | exact hB.k _ rfl | exact hB2.k _ rfl) (nx_add (nx_mul (rfl) (rfl)) (rfl)) (by omega) (by omega) ?_
    refine V_inc (c := 1) (sx_di dX12_layPaths 59 rfl) (by decide) rfl (by decide) (rfl) ?_
    refine V_goto (tgt := 68) (sx_di dX12_layPaths 60 rfl) (by decide) ?_
    exact V_subk q1 ⟨rfl, rfl, rfl, rfl, rfl, trivial⟩
theorem sx2_id {s : Nat → Int32} {n u : Nat} {g : Int32} (hu : u < n) : up_ (sx2 s n u g) (4 + 4 * u) (s (4 + 4 * u)) = s := by
  unfold sx2
  rw [if_pos hu, up_up, up_id]
theorem pt_rs (A : AS) (r s : Nat → Int32) : pt_s (pt_r A r) s = pt_r (pt_s A s) r := rfl
set_option maxHeartbeats 2000000 in
set_option maxRecDepth 20000 in
theorem lp_out {E : sxE} {A : AS} {w : hpW} {Q : Option Value → hpW → Prop} (VA : AV A) (h0 : 0 < a_n A) {g : Nat} (hg : g ≤ 5) (hq : ∀ w1, RR A w1 → fC w w1 → PK_ A (nI g) w1 410 → Q none w1) : ∀ d u w1 r1, u + d = 10 → RR (pt_r A r1) w1 → OKF (a_n A) (a_m A) r1 → (∀ j, 45 ≤ j → r1 j = a_r A j) → fC w w1 → (∀ j, j < 45 → hp_i w1 401 j = a_r A j) → PK_ A (nI g) w1 (41 * u) → V E mX12_layPaths (sx_rm 9 0 0) 0 0 0 0 6 [(2, .int (nI u)), (1, .int (nI g)), (0, .ref 381)] [] w1 Q := by
  intro d
  have hn8 := VA.2.2.1.1
  induction d with
  | zero =>
    intro u w1 r1 hu H1 hO1 h45 f1 hs hT
    have hB := H1.1
    have e : u = 10 := by omega
    subst e
    refine V_iload_n (i := 2) (sx_di dX12_layPaths 4 rfl) rfl rfl ?_
    refine V_bipush (v := 9) (sx_di dX12_layPaths 5 rfl) (by decide) ?_
    refine V_icN_gt (a := 10) (b := 9) (rfl) (rfl) (by omega) (by omega) (tgt := 128) (sx_di dX12_layPaths 6 rfl) (by decide) (fun _ => ?_) (fun h9 => absurd h9 (by omega))
    refine V_aload_n (i := 0) (sx_di dX12_layPaths 75 rfl) rfl rfl ?_
    refine V_cV0 (mc' := 0) (ms' := 0) (M' := mX12_takeBack) 1 (sx_di dX12_layPaths 76 rfl) lX12_359 vX12_takeBack (hB.k _ rfl) (by decide) rfl (Nat.le_of_ble_eq_true rfl) ⟨Nat.le_of_ble_eq_true rfl, Nat.le_of_ble_eq_true rfl⟩ ⟨Nat.le_refl _, Nat.le_refl _⟩ ?_
    refine k_takeBack2 H1 hs h45 (fun w2 H2 f2 e405 => ?_)
    refine V_vret (sx_di dX12_layPaths 77 rfl) rfl (Nat.le_refl _) (Nat.le_refl _) ?_
    exact hq w2 H2 (fC_tr f1 f2) (fun u2 k2 a b c e => by rw [e405]; exact hT u2 k2 a b c e)
  | succ d ih =>
    intro u w1 r1 hu H1 hO1 h45 f1 hs hT
    have hB := H1.1
    have hn : hp_i w1 381 25 = nI (a_n A) := H1.2.2.2.1.1
    have V1 : AV (pt_r A r1) := AV_r VA hO1
    have nx : ∀ w2 r2, RR (pt_r A r2) w2 → OKF (a_n A) (a_m A) r2 → (∀ j, 45 ≤ j → r2 j = a_r A j) → fC w w2 → (∀ j, j < 45 → hp_i w2 401 j = a_r A j) → PK_ A (nI g) w2 (41 * u + 41) → V E mX12_layPaths (sx_rm 9 0 0) 0 0 0 0 122 [(2, .int (nI u)), (1, .int (nI g)), (0, .ref 381)] [] w2 Q := fun w2 r2 H2 hO2 h452 f2 hs2 hT2 => by
      have q1 := ih (u + 1) w2 r2 (by omega) H2 hO2 h452 f2 hs2 (by rw [show 41 * (u + 1) = 41 * u + 41 by omega]; exact hT2)
      rw [← nI_1] at q1
      refine V_inc (c := 1) (sx_di dX12_layPaths 73 rfl) (by decide) rfl (by decide) (rfl) ?_
      refine V_goto (tgt := 6) (sx_di dX12_layPaths 74 rfl) (by decide) ?_
      exact V_subk q1 ⟨rfl, rfl, rfl, trivial⟩
    by_cases h9 : u = 9
    · have es : sx2 (a_s A) (a_n A) u (nI g) = a_s A := if_neg (by omega)
      have hend : ∀ w3, RR (pt_r (pt_s A (sx2 (a_s A) (a_n A) u (nI g))) (wd_ A (nI g) u 40)) w3 → fC w w3 → (∀ j, j < 45 → hp_i w3 401 j = a_r A j) → PK_ A (nI g) w3 (41 * u + 41) → V E mX12_layPaths (sx_rm 9 0 0) 0 0 0 0 105 [(3, .int 0), (2, .int (nI u)), (1, .int (nI g)), (0, .ref 381)] [] w3 Q := fun w3 H3 f3 hs3 hT3 => by
        have hB3 := H3.1
        have hw := wd_F VA h0 hg u 40 (by omega)
        rw [es] at H3
        refine V_iload_n (i := 2) (sx_di dX12_layPaths 61 rfl) rfl rfl ?_
        refine V_bipush (v := 9) (sx_di dX12_layPaths 62 rfl) (by decide) ?_
        refine V_icN_eq (a := u) (b := 9) (rfl) (rfl) (by omega) (by omega) (tgt := 122) (sx_di dX12_layPaths 63 rfl) (by decide) (fun _ => ?_) (fun h108 => absurd h108 (by omega))
        refine V_sub (ls' := [(2, .int (nI u)), (1, .int (nI g)), (0, .ref 381)]) ⟨rfl, rfl, rfl, trivial⟩ ?_
        exact nx w3 _ H3 hw.1 hw.2.2 f3 hs3 hT3
      refine V_iload_n (i := 2) (sx_di dX12_layPaths 4 rfl) rfl rfl ?_
      refine V_bipush (v := 9) (sx_di dX12_layPaths 5 rfl) (by decide) ?_
      refine V_icN_gt (a := u) (b := 9) (rfl) (rfl) (by omega) (by omega) (tgt := 128) (sx_di dX12_layPaths 6 rfl) (by decide) (fun h9 => absurd h9 (by omega)) (fun _ => ?_)
      refine V_aload_n (i := 0) (sx_di dX12_layPaths 7 rfl) rfl rfl ?_
      refine V_iload_n (i := 2) (sx_di dX12_layPaths 8 rfl) rfl rfl ?_
      refine V_cV1 (mc' := 0) (ms' := 0) (M' := mX12_isWho) 3 (sx_di dX12_layPaths 9 rfl) lX12_402 vX12_isWho (hB.k _ rfl) (by decide) rfl (Nat.le_of_ble_eq_true rfl) ⟨Nat.le_of_ble_eq_true rfl, Nat.le_of_ble_eq_true rfl⟩ ⟨Nat.le_refl _, Nat.le_refl _⟩ ?_
      refine c_X12_isWho hB hn hn8 (by omega) ?_
      rw [if_pos (Or.inr h9)]
      refine V_ifN_eq (a := 1) (rfl) (by omega) (tgt := 122) (sx_di dX12_layPaths 10 rfl) (by decide) (fun h17 => absurd h17 (by omega)) (fun _ => ?_)
      refine V_iload_n (i := 2) (sx_di dX12_layPaths 11 rfl) rfl rfl ?_
      refine V_bipush (v := 9) (sx_di dX12_layPaths 12 rfl) (by decide) ?_
      refine V_icN_ne (a := u) (b := 9) (rfl) (rfl) (by omega) (by omega) (tgt := 30) (sx_di dX12_layPaths 13 rfl) (by decide) (fun h23 => absurd h23 (by omega)) (fun _ => ?_)
      refine V_iconst (v := 0) (sx_di dX12_layPaths 14 rfl) (by decide) ?_
      refine V_goto (tgt := 36) (sx_di dX12_layPaths 15 rfl) (by decide) ?_
      refine V_istore_n (i := 3) (sx_di dX12_layPaths 20 rfl) rfl (by decide) (rfl) ?_
      refine V_iload_n (i := 2) (sx_di dX12_layPaths 21 rfl) rfl rfl ?_
      refine V_bipush (v := 9) (sx_di dX12_layPaths 22 rfl) (by decide) ?_
      refine V_icN_eq (a := u) (b := 9) (rfl) (rfl) (by omega) (by omega) (tgt := 61) (sx_di dX12_layPaths 23 rfl) (by decide) (fun _ => ?_) (fun h40 => absurd h40 (by omega))
      refine V_aload_n (i := 0) (sx_di dX12_layPaths 37 rfl) rfl rfl ?_
      refine V_cV0 (mc' := 0) (ms' := 0) (M' := mX12_begin) 2 (sx_di dX12_layPaths 38 rfl) lX12_267 vX12_begin (hB.k _ rfl) (by decide) rfl (Nat.le_of_ble_eq_true rfl) ⟨Nat.le_of_ble_eq_true rfl, Nat.le_of_ble_eq_true rfl⟩ ⟨Nat.le_refl _, Nat.le_refl _⟩ ?_
      refine k_beginR V1 H1 (fun w2 H2 f2 e401 e405 => ?_)
      refine V_iconst (v := 1) (sx_di dX12_layPaths 39 rfl) (by decide) ?_
      refine V_istore (sx_di dX12_layPaths 40 rfl) (by decide) (rfl) ?_
      refine V_sub (ls' := [(4, .int (nI 1)), (3, .int 0), (2, .int (nI u)), (1, .int (nI g)), (0, .ref 381)]) ⟨rfl, rfl, rfl, rfl, rfl, trivial⟩ ?_
      exact lp_in VA h0 hg (Or.inr h9) hend 40 1 w2 (by omega) (by omega) (by rw [es, show wd_ A (nI g) u (1 - 1) = bg_ (a_s A) (a_n A) r1 by (show bg_ _ _ _ = _; rw [es]; exact bg_cg (fun j hj => (h45 j hj).symm))]; exact H2) (fC_tr f1 f2) (fun j hj => by rw [e401]; exact hs j hj) (fun u2 k2 a b c e => by rw [e405]; exact hT u2 k2 a b c (by omega))
    · by_cases hu2 : u < a_n A
      · have es : sx2 (a_s A) (a_n A) u (nI g) = up_ (a_s A) (4 + 4 * u) (mn_ 9 (a_s A (4 + 4 * u) + nI g)) := if_pos hu2
        have eo : hp_i w1 396 (4 * u + 0) = a_s A (4 + 4 * u) := H1.2.2.2.1.2.2.2.1 (4 * u) (show 4 * u < 4 * a_n A by omega)
        obtain ⟨H2, f2⟩ := RR_ps H1 (u := u) (by omega) (mn_ 9 (a_s A (4 + 4 * u) + nI g))
        have H2 : RR (pt_r (pt_s A (sx2 (a_s A) (a_n A) u (nI g))) r1) (hp_si w1 396 (4 * u) (mn_ 9 (a_s A (4 + 4 * u) + nI g))) := by rw [es]; exact H2
        have VB : AV (pt_s A (sx2 (a_s A) (a_n A) u (nI g))) := AV_ps VA (fun _ => OKT_x VA h0 hg u)
        have hend : ∀ w3, RR (pt_r (pt_s A (sx2 (a_s A) (a_n A) u (nI g))) (wd_ A (nI g) u 40)) w3 → fC w w3 → (∀ j, j < 45 → hp_i w3 401 j = a_r A j) → PK_ A (nI g) w3 (41 * u + 41) → V E mX12_layPaths (sx_rm 9 0 0) 0 0 0 0 105 [(3, .int (a_s A (4 + 4 * u))), (2, .int (nI u)), (1, .int (nI g)), (0, .ref 381)] [] w3 Q := fun w3 H3 f3 hs3 hT3 => by
          have hB3 := H3.1
          have hw := wd_F VA h0 hg u 40 (by omega)
          obtain ⟨H4, f4⟩ := RR_ps H3 (u := u) (by omega) (a_s A (4 + 4 * u))
          have H4 : RR (pt_r A (wd_ A (nI g) u 40)) (hp_si w3 396 (4 * u) (a_s A (4 + 4 * u))) := by
            have e5 : up_ (a_s (pt_r (pt_s A (sx2 (a_s A) (a_n A) u (nI g))) (wd_ A (nI g) u 40))) (4 + 4 * u) (a_s A (4 + 4 * u)) = a_s A := sx2_id hu2
            rw [e5] at H4
            exact H4
          refine V_iload_n (i := 2) (sx_di dX12_layPaths 61 rfl) rfl rfl ?_
          refine V_bipush (v := 9) (sx_di dX12_layPaths 62 rfl) (by decide) ?_
          refine V_icN_eq (a := u) (b := 9) (rfl) (rfl) (by omega) (by omega) (tgt := 122) (sx_di dX12_layPaths 63 rfl) (by decide) (fun h108 => absurd h108 (by omega)) (fun _ => ?_)
          refine V_aload_n (i := 0) (sx_di dX12_layPaths 64 rfl) rfl rfl ?_
          refine V_getR (sx_di dX12_layPaths 65 rfl) fX12_52 (fun _ => rfl) (hB3.k _ rfl) (hB3.r _ _ rfl) ?_
          refine V_iconst (v := 4) (sx_di dX12_layPaths 66 rfl) (by decide) ?_
          refine V_iload_n (i := 2) (sx_di dX12_layPaths 67 rfl) rfl rfl ?_
          refine V_imul (sx_di dX12_layPaths 68 rfl) ?_
          refine V_iconst (v := 0) (sx_di dX12_layPaths 69 rfl) (by decide) ?_
          refine V_iadd (sx_di dX12_layPaths 70 rfl) ?_
          refine V_iload_n (i := 3) (sx_di dX12_layPaths 71 rfl) rfl rfl ?_
          refine V_iastN (n := 32) (j := (4 * u)) (sx_di dX12_layPaths 72 rfl) (hB3.k _ rfl) (nx_z1 (nx_mul (rfl) (rfl))) (by omega) (by omega) ?_
          refine V_sub (ls' := [(2, .int (nI u)), (1, .int (nI g)), (0, .ref 381)]) ⟨rfl, rfl, rfl, trivial⟩ ?_
          exact nx _ _ H4 hw.1 hw.2.2 (fC_tr f3 f4) (fun j hj => by rw [hp_i_si, if_neg (by omega)]; exact hs3 j hj) (fun u2 k2 a b c e => by rw [hp_i_si, if_neg (by omega)]; exact hT3 u2 k2 a b c e)
        refine V_iload_n (i := 2) (sx_di dX12_layPaths 4 rfl) rfl rfl ?_
        refine V_bipush (v := 9) (sx_di dX12_layPaths 5 rfl) (by decide) ?_
        refine V_icN_gt (a := u) (b := 9) (rfl) (rfl) (by omega) (by omega) (tgt := 128) (sx_di dX12_layPaths 6 rfl) (by decide) (fun h9 => absurd h9 (by omega)) (fun _ => ?_)
        refine V_aload_n (i := 0) (sx_di dX12_layPaths 7 rfl) rfl rfl ?_
        refine V_iload_n (i := 2) (sx_di dX12_layPaths 8 rfl) rfl rfl ?_
        refine V_cV1 (mc' := 0) (ms' := 0) (M' := mX12_isWho) 3 (sx_di dX12_layPaths 9 rfl) lX12_402 vX12_isWho (hB.k _ rfl) (by decide) rfl (Nat.le_of_ble_eq_true rfl) ⟨Nat.le_of_ble_eq_true rfl, Nat.le_of_ble_eq_true rfl⟩ ⟨Nat.le_refl _, Nat.le_refl _⟩ ?_
        refine c_X12_isWho hB hn hn8 (by omega) ?_
        rw [if_pos (Or.inl hu2)]
        refine V_ifN_eq (a := 1) (rfl) (by omega) (tgt := 122) (sx_di dX12_layPaths 10 rfl) (by decide) (fun h17 => absurd h17 (by omega)) (fun _ => ?_)
        refine V_iload_n (i := 2) (sx_di dX12_layPaths 11 rfl) rfl rfl ?_
        refine V_bipush (v := 9) (sx_di dX12_layPaths 12 rfl) (by decide) ?_
        refine V_icN_ne (a := u) (b := 9) (rfl) (rfl) (by omega) (by omega) (tgt := 30) (sx_di dX12_layPaths 13 rfl) (by decide) (fun _ => ?_) (fun h23 => absurd h23 (by omega))
        refine V_aload_n (i := 0) (sx_di dX12_layPaths 16 rfl) rfl rfl ?_
        refine V_iload_n (i := 2) (sx_di dX12_layPaths 17 rfl) rfl rfl ?_
        refine V_iconst (v := 0) (sx_di dX12_layPaths 18 rfl) (by decide) ?_
        refine V_cV2 (mc' := 0) (ms' := 0) (M' := mX12_of) 1 (sx_di dX12_layPaths 19 rfl) lX12_261 vX12_of (hB.k _ rfl) (by decide) rfl (Nat.le_of_ble_eq_true rfl) ⟨Nat.le_of_ble_eq_true rfl, Nat.le_of_ble_eq_true rfl⟩ ⟨Nat.le_refl _, Nat.le_refl _⟩ ?_
        refine c_X12_of (x := u) (y := 0) hB (by omega) (by omega) ?_
        refine V_iv (y := a_s A (4 + 4 * u)) eo ?_
        refine V_istore_n (i := 3) (sx_di dX12_layPaths 20 rfl) rfl (by decide) (rfl) ?_
        refine V_iload_n (i := 2) (sx_di dX12_layPaths 21 rfl) rfl rfl ?_
        refine V_bipush (v := 9) (sx_di dX12_layPaths 22 rfl) (by decide) ?_
        refine V_icN_eq (a := u) (b := 9) (rfl) (rfl) (by omega) (by omega) (tgt := 61) (sx_di dX12_layPaths 23 rfl) (by decide) (fun h40 => absurd h40 (by omega)) (fun _ => ?_)
        refine V_aload_n (i := 0) (sx_di dX12_layPaths 24 rfl) rfl rfl ?_
        refine V_getR (sx_di dX12_layPaths 25 rfl) fX12_52 (fun _ => rfl) (hB.k _ rfl) (hB.r _ _ rfl) ?_
        refine V_iconst (v := 4) (sx_di dX12_layPaths 26 rfl) (by decide) ?_
        refine V_iload_n (i := 2) (sx_di dX12_layPaths 27 rfl) rfl rfl ?_
        refine V_imul (sx_di dX12_layPaths 28 rfl) ?_
        refine V_iconst (v := 0) (sx_di dX12_layPaths 29 rfl) (by decide) ?_
        refine V_iadd (sx_di dX12_layPaths 30 rfl) ?_
        refine V_bipush (v := 9) (sx_di dX12_layPaths 31 rfl) (by decide) ?_
        refine V_iload_n (i := 3) (sx_di dX12_layPaths 32 rfl) rfl rfl ?_
        refine V_iload_n (i := 1) (sx_di dX12_layPaths 33 rfl) rfl rfl ?_
        refine V_iadd (sx_di dX12_layPaths 34 rfl) ?_
        refine V_mmin (sx_di dX12_layPaths 35 rfl) (sx_a6 222 rfl rfl) (sx_a3 135 rfl rfl) (sx_a1 22 rfl rfl) (sx_a3 136 rfl rfl) ⟨Nat.le_of_ble_eq_true rfl, Nat.le_of_ble_eq_true rfl, Nat.le_refl _, Nat.le_refl _⟩ ?_
        refine V_iv (y := mn_ 9 (a_s A (4 + 4 * u) + nI g)) (rfl) ?_
        refine V_iastN (n := 32) (j := (4 * u)) (sx_di dX12_layPaths 36 rfl) (hB.k _ rfl) (nx_z1 (nx_mul (rfl) (rfl))) (by omega) (by omega) ?_
        refine V_aload_n (i := 0) (sx_di dX12_layPaths 37 rfl) rfl rfl ?_
        refine V_cV0 (mc' := 0) (ms' := 0) (M' := mX12_begin) 2 (sx_di dX12_layPaths 38 rfl) lX12_267 vX12_begin (hB.k _ rfl) (by decide) rfl (Nat.le_of_ble_eq_true rfl) ⟨Nat.le_of_ble_eq_true rfl, Nat.le_of_ble_eq_true rfl⟩ ⟨Nat.le_refl _, Nat.le_refl _⟩ ?_
        refine k_beginR (AV_r VB hO1) H2 (fun w3 H3 f3 e401 e405 => ?_)
        refine V_iconst (v := 1) (sx_di dX12_layPaths 39 rfl) (by decide) ?_
        refine V_istore (sx_di dX12_layPaths 40 rfl) (by decide) (rfl) ?_
        refine V_sub (ls' := [(4, .int (nI 1)), (3, .int (a_s A (4 + 4 * u))), (2, .int (nI u)), (1, .int (nI g)), (0, .ref 381)]) ⟨rfl, rfl, rfl, rfl, rfl, trivial⟩ ?_
        exact lp_in VA h0 hg (Or.inl hu2) hend 40 1 w3 (by omega) (by omega) (by rw [show wd_ A (nI g) u (1 - 1) = bg_ (sx2 (a_s A) (a_n A) u (nI g)) (a_n A) r1 from bg_cg (fun j hj => (h45 j hj).symm)]; exact H3) (fC_tr f1 (fC_tr f2 f3)) (fun j hj => by rw [e401, hp_i_si, if_neg (by omega)]; exact hs j hj) (fun u2 k2 a b c e => by rw [e405, hp_i_si, if_neg (by omega)]; exact hT u2 k2 a b c (by omega))
      · have hno : ¬ (u < a_n A ∨ u = 9) := fun z => z.elim hu2 h9
        refine V_iload_n (i := 2) (sx_di dX12_layPaths 4 rfl) rfl rfl ?_
        refine V_bipush (v := 9) (sx_di dX12_layPaths 5 rfl) (by decide) ?_
        refine V_icN_gt (a := u) (b := 9) (rfl) (rfl) (by omega) (by omega) (tgt := 128) (sx_di dX12_layPaths 6 rfl) (by decide) (fun h9 => absurd h9 (by omega)) (fun _ => ?_)
        refine V_aload_n (i := 0) (sx_di dX12_layPaths 7 rfl) rfl rfl ?_
        refine V_iload_n (i := 2) (sx_di dX12_layPaths 8 rfl) rfl rfl ?_
        refine V_cV1 (mc' := 0) (ms' := 0) (M' := mX12_isWho) 3 (sx_di dX12_layPaths 9 rfl) lX12_402 vX12_isWho (hB.k _ rfl) (by decide) rfl (Nat.le_of_ble_eq_true rfl) ⟨Nat.le_of_ble_eq_true rfl, Nat.le_of_ble_eq_true rfl⟩ ⟨Nat.le_refl _, Nat.le_refl _⟩ ?_
        refine c_X12_isWho hB hn hn8 (by omega) ?_
        rw [if_neg hno]
        refine V_ifN_eq (a := 0) (rfl) (by omega) (tgt := 122) (sx_di dX12_layPaths 10 rfl) (by decide) (fun _ => ?_) (fun h17 => absurd h17 (by omega))
        refine V_sub (ls' := [(2, .int (nI u)), (1, .int (nI g)), (0, .ref 381)]) ⟨rfl, rfl, rfl, trivial⟩ ?_
        exact nx w1 r1 H1 hO1 h45 f1 hs (fun u2 k2 a b c e => hT u2 k2 a b c (by rcases a with a | a; omega; omega))
set_option maxHeartbeats 2000000 in
set_option maxRecDepth 20000 in
theorem e_layPaths {E : sxE} {A : AS} {w : hpW} {Q : Option Value → hpW → Prop} (VA : AV A) (H : RR A w) (h0 : 0 < a_n A) {g : Nat} (hg : g ≤ 5) (hq : ∀ w1, RR A w1 → fC w w1 → PK_ A (nI g) w1 410 → Q none w1) : sx_C E mX12_layPaths 9 0 0 [.ref 381, .int (nI g)] w Q := by
  have hB := H.1
  refine C_of (by decide +kernel) (Nat.le_of_ble_eq_true rfl) ?_
  refine V_aload_n (i := 0) (sx_di dX12_layPaths 0 rfl) rfl rfl ?_
  refine V_cV0 (mc' := 0) (ms' := 0) (M' := mX12_putAside) 1 (sx_di dX12_layPaths 1 rfl) lX12_356 vX12_putAside (hB.k _ rfl) (by decide) rfl (Nat.le_of_ble_eq_true rfl) ⟨Nat.le_of_ble_eq_true rfl, Nat.le_of_ble_eq_true rfl⟩ ⟨Nat.le_refl _, Nat.le_refl _⟩ ?_
  refine k_putAside H (fun w2 H2 f2 hs2 => ?_)
  refine V_iconst (v := 0) (sx_di dX12_layPaths 2 rfl) (by decide) ?_
  refine V_istore_n (i := 2) (sx_di dX12_layPaths 3 rfl) rfl (by decide) (rfl) ?_
  refine V_sub (ls' := [(2, .int (nI 0)), (1, .int (nI g)), (0, .ref 381)]) ⟨rfl, rfl, rfl, trivial⟩ ?_
  exact lp_out VA h0 hg hq 10 0 w2 (a_r A) (by omega) H2 VA.2.2.2.1.1 (fun _ _ => rfl) f2 hs2 (fun u k _ _ _ hz => absurd hz (by omega))

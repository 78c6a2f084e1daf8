/-! who minded more: the reference -/
set_option maxHeartbeats 2000000 in
set_option maxRecDepth 20000 in
theorem so_lp {E : sxE} {A : AS} {w : hpW} {Q : Option Value → hpW → Prop} (VA : AV A) (H : RR A w) {g : Int32} (hT : PK_ A g w 410) {u : Nat} (hu : u ≤ 9) (h : Q (some (.int (if pRf A g u then 1 else 0))) w) : ∀ d k b, k + d = (a_S A).length → (b = 0 ∨ b = 1) → (b = 1 → u < a_n A ∨ u = 9) → pRf A g u = (decide (b = 1) && ((a_S A).drop k).all (ft2 A g u)) → V E mX12_isSo (sx_rm 4 0 0) 0 0 0 0 8 [(3, .int (nI k)), (2, .int (nI b)), (1, .int (nI u)), (0, .ref 381)] [] w Q := by
  intro d
  obtain ⟨hB, h1, h2, h3, h4, h5, h6, ⟨h7, h8⟩, ⟨h9, h10⟩, h11, h12⟩ := id H
  have hn8 := VA.2.2.1.1
  have hl : (a_S A).length ≤ 10 := VA.2.2.2.2.1.1
  have hfin : ∀ b, (b = 0 ∨ b = 1) → pRf A g u = decide (b = 1) → Q (some (.int (nI b))) w := fun b hb he => by
    have e1 : (if pRf A g u then (1 : Int32) else 0) = nI b := by
      rw [he]
      rcases hb with rfl | rfl <;> rfl
    rw [e1] at h
    exact h
  induction d with
  | zero =>
    intro k b hk hb hbu he
    rw [List.drop_eq_nil_of_le (by omega), List.all_nil, Bool.and_true] at he
    have hz := hfin b hb he
    have hnb : narrow .boolean (.int (nI b)) = .int (nI b) := by rcases hb with rfl | rfl <;> rfl
    refine V_iload_n (i := 3) (sx_di dX12_isSo 6 rfl) rfl rfl ?_
    refine V_aload_n (i := 0) (sx_di dX12_isSo 7 rfl) rfl rfl ?_
    refine V_getI (sx_di dX12_isSo 8 rfl) fX12_270 (fun _ => rfl) (hB.k _ rfl) ?_
    refine V_iv (y := nI (a_S A).length) (h7) ?_
    refine V_icN_ge (a := k) (b := (a_S A).length) (rfl) (rfl) (by omega) (by omega) (tgt := 71) (sx_di dX12_isSo 9 rfl) (by decide) (fun _ => ?_) (fun h13 => absurd h13 (by omega))
    refine V_iload_n (i := 2) (sx_di dX12_isSo 42 rfl) rfl rfl ?_
    refine V_zret (sx_di dX12_isSo 43 rfl) rfl (hnb) (Nat.le_refl _) (Nat.le_refl _) ?_
    exact hz
  | succ d ih =>
    intro k b hk hb hbu he
    have hnb : narrow .boolean (.int (nI b)) = .int (nI b) := by rcases hb with rfl | rfl <;> rfl
    obtain ⟨q, eq, ed, hq⟩ := at_len (L := a_S A) (k := k) (by omega)
    obtain ⟨⟨j, hj0, hj, ej⟩, _, hbq⟩ := VA.2.2.2.2.1.2.1 q hq
    obtain ⟨n1, n2, n3⟩ := h8 k q eq
    have hc0 : (nI k).toNatClampNeg = k := nI_clamp (by omega)
    rw [ed, List.all_cons] at he
    have ef : ft2 A g u q = decide ((if wd_ A g u j 42 = q.2.1 then (1 : Int32) else 0) = q.2.2) := by unfold ft2; rw [ej, nI_clamp (by omega)]
    rw [ef] at he
    have q0 := ih (k + 1) 0 (by omega) (Or.inl rfl) (fun z => absurd z (by omega))
    have q1 := ih (k + 1) 1 (by omega) (Or.inr rfl)
    rw [← nI_1] at q0 q1
    have hb0 : b = 0 → Q (some (.int (nI b))) w := fun z => hfin b hb (by rw [he, z]; rfl)
    have hno : ¬ (if wd_ A g u j 42 = q.2.1 then (1 : Int32) else 0) = q.2.2 → V E mX12_isSo (sx_rm 4 0 0) 0 0 0 0 8 [(3, .int (nI k + nI 1)), (2, .int (nI 0)), (1, .int (nI u)), (0, .ref 381)] [] w Q := fun z => q0 (by
      rw [he, decide_eq_false z, Bool.false_and, Bool.and_false]; rfl)
    have hye : ¬ b = 0 → (if wd_ A g u j 42 = q.2.1 then (1 : Int32) else 0) = q.2.2 → V E mX12_isSo (sx_rm 4 0 0) 0 0 0 0 8 [(3, .int (nI k + nI 1)), (2, .int (nI 1)), (1, .int (nI u)), (0, .ref 381)] [] w Q := fun y z => q1 (fun _ => hbu (by omega)) (by
      rw [he, decide_eq_true z, Bool.true_and, show b = 1 by omega])
    refine V_iload_n (i := 3) (sx_di dX12_isSo 6 rfl) rfl rfl ?_
    refine V_aload_n (i := 0) (sx_di dX12_isSo 7 rfl) rfl rfl ?_
    refine V_getI (sx_di dX12_isSo 8 rfl) fX12_270 (fun _ => rfl) (hB.k _ rfl) ?_
    refine V_iv (y := nI (a_S A).length) (h7) ?_
    refine V_icN_ge (a := k) (b := (a_S A).length) (rfl) (rfl) (by omega) (by omega) (tgt := 71) (sx_di dX12_isSo 9 rfl) (by decide) (fun h13 => absurd h13 (by omega)) (fun _ => ?_)
    refine V_iload_n (i := 2) (sx_di dX12_isSo 10 rfl) rfl rfl ?_
    refine V_ifN_eq (a := b) (rfl) (by omega) (tgt := 71) (sx_di dX12_isSo 11 rfl) (by decide) (fun h17 => ?_) (fun h17 => ?_)
    · refine V_iload_n (i := 2) (sx_di dX12_isSo 42 rfl) rfl rfl ?_
      refine V_zret (sx_di dX12_isSo 43 rfl) rfl (hnb) (Nat.le_refl _) (Nat.le_refl _) ?_
      exact hb0 h17
    · have et : hp_i w 405 (41 * u + j) = wd_ A g u j 42 := hT u j (hbu (by omega)) hj0 hj (by omega)
      refine V_aload_n (i := 0) (sx_di dX12_isSo 12 rfl) rfl rfl ?_
      refine V_getR (sx_di dX12_isSo 13 rfl) fX12_84 (fun _ => rfl) (hB.k _ rfl) (hB.r _ _ rfl) ?_
      refine V_bipush (v := 41) (sx_di dX12_isSo 14 rfl) (by decide) ?_
      refine V_iload_n (i := 1) (sx_di dX12_isSo 15 rfl) rfl rfl ?_
      refine V_imul (sx_di dX12_isSo 16 rfl) ?_
      refine V_aload_n (i := 0) (sx_di dX12_isSo 17 rfl) rfl rfl ?_
      refine V_getR (sx_di dX12_isSo 18 rfl) fX12_74 (fun _ => rfl) (hB.k _ rfl) (hB.r _ _ rfl) ?_
      refine V_iload_n (i := 3) (sx_di dX12_isSo 19 rfl) rfl rfl ?_
      refine V_ialdN (n := 10) (j := k) (sx_di dX12_isSo 20 rfl) (hB.k _ rfl) (rfl) (by omega) (by omega) ?_
      refine V_iv (y := nI j) (n1.trans ej) ?_
      refine V_iadd (sx_di dX12_isSo 21 rfl) ?_
      refine V_ialdN (n := 410) (j := ((41 * u) + j)) (sx_di dX12_isSo 22 rfl) (hB.k _ rfl) (nx_add (nx_mul (rfl) (rfl)) (rfl)) (by omega) (by omega) ?_
      refine V_iv (y := wd_ A g u j 42) (et) ?_
      refine V_aload_n (i := 0) (sx_di dX12_isSo 23 rfl) rfl rfl ?_
      refine V_getR (sx_di dX12_isSo 24 rfl) fX12_77 (fun _ => rfl) (hB.k _ rfl) (hB.r _ _ rfl) ?_
      refine V_iload_n (i := 3) (sx_di dX12_isSo 25 rfl) rfl rfl ?_
      refine V_ialdN (n := 10) (j := k) (sx_di dX12_isSo 26 rfl) (hB.k _ rfl) (rfl) (by omega) (by omega) ?_
      refine V_iv (y := q.2.1) (n2) ?_
      refine V_icmp_ne (tgt := 49) (sx_di dX12_isSo 27 rfl) (by decide) (fun h42 => ?_) (fun h42 => ?_)
      · rw [if_neg h42] at hno hye
        refine V_iconst (v := 0) (sx_di dX12_isSo 30 rfl) (by decide) ?_
        refine V_aload_n (i := 0) (sx_di dX12_isSo 31 rfl) rfl rfl ?_
        refine V_getR (sx_di dX12_isSo 32 rfl) fX12_80 (fun _ => rfl) (hB.k _ rfl) (hB.r _ _ rfl) ?_
        refine V_iload_n (i := 3) (sx_di dX12_isSo 33 rfl) rfl rfl ?_
        refine V_zald (sx_di dX12_isSo 34 rfl) (hB.k _ rfl) (vp_in_nI (show k < 10 by omega) (by decide)) ?_
        refine V_icmp_ne (tgt := 63) (sx_di dX12_isSo 35 rfl) (by decide) (fun h56 => ?_) (fun h56 => ?_)
        · rw [hc0, n3] at h56
          refine V_iconst (v := 0) (sx_di dX12_isSo 38 rfl) (by decide) ?_
          refine V_istore_n (i := 2) (sx_di dX12_isSo 39 rfl) rfl (by decide) (rfl) ?_
          refine V_inc (c := 1) (sx_di dX12_isSo 40 rfl) (by decide) rfl (by decide) (rfl) ?_
          refine V_goto (tgt := 8) (sx_di dX12_isSo 41 rfl) (by decide) ?_
          exact V_subk (hno h56) ⟨rfl, rfl, rfl, rfl, trivial⟩
        · rw [hc0, n3] at h56
          refine V_iconst (v := 1) (sx_di dX12_isSo 36 rfl) (by decide) ?_
          refine V_goto (tgt := 64) (sx_di dX12_isSo 37 rfl) (by decide) ?_
          refine V_istore_n (i := 2) (sx_di dX12_isSo 39 rfl) rfl (by decide) (rfl) ?_
          refine V_inc (c := 1) (sx_di dX12_isSo 40 rfl) (by decide) rfl (by decide) (rfl) ?_
          refine V_goto (tgt := 8) (sx_di dX12_isSo 41 rfl) (by decide) ?_
          exact V_subk (hye h17 h56) ⟨rfl, rfl, rfl, rfl, trivial⟩
      · rw [if_pos h42] at hno hye
        refine V_iconst (v := 1) (sx_di dX12_isSo 28 rfl) (by decide) ?_
        refine V_goto (tgt := 50) (sx_di dX12_isSo 29 rfl) (by decide) ?_
        refine V_aload_n (i := 0) (sx_di dX12_isSo 31 rfl) rfl rfl ?_
        refine V_getR (sx_di dX12_isSo 32 rfl) fX12_80 (fun _ => rfl) (hB.k _ rfl) (hB.r _ _ rfl) ?_
        refine V_iload_n (i := 3) (sx_di dX12_isSo 33 rfl) rfl rfl ?_
        refine V_zald (sx_di dX12_isSo 34 rfl) (hB.k _ rfl) (vp_in_nI (show k < 10 by omega) (by decide)) ?_
        refine V_icmp_ne (tgt := 63) (sx_di dX12_isSo 35 rfl) (by decide) (fun h56 => ?_) (fun h56 => ?_)
        · rw [hc0, n3] at h56
          refine V_iconst (v := 0) (sx_di dX12_isSo 38 rfl) (by decide) ?_
          refine V_istore_n (i := 2) (sx_di dX12_isSo 39 rfl) rfl (by decide) (rfl) ?_
          refine V_inc (c := 1) (sx_di dX12_isSo 40 rfl) (by decide) rfl (by decide) (rfl) ?_
          refine V_goto (tgt := 8) (sx_di dX12_isSo 41 rfl) (by decide) ?_
          exact V_subk (hno h56) ⟨rfl, rfl, rfl, rfl, trivial⟩
        · rw [hc0, n3] at h56
          refine V_iconst (v := 1) (sx_di dX12_isSo 36 rfl) (by decide) ?_
          refine V_goto (tgt := 64) (sx_di dX12_isSo 37 rfl) (by decide) ?_
          refine V_istore_n (i := 2) (sx_di dX12_isSo 39 rfl) rfl (by decide) (rfl) ?_
          refine V_inc (c := 1) (sx_di dX12_isSo 40 rfl) (by decide) rfl (by decide) (rfl) ?_
          refine V_goto (tgt := 8) (sx_di dX12_isSo 41 rfl) (by decide) ?_
          exact V_subk (hye h17 h56) ⟨rfl, rfl, rfl, rfl, trivial⟩
set_option maxHeartbeats 2000000 in
set_option maxRecDepth 20000 in
theorem e_isSo {E : sxE} {A : AS} {w : hpW} {Q : Option Value → hpW → Prop} (VA : AV A) (H : RR A w) {g : Int32} (hT : PK_ A g w 410) {u : Nat} (hu : u ≤ 9) (h : Q (some (.int (if pRf A g u then 1 else 0))) w) : sx_C E mX12_isSo 4 0 0 [.ref 381, .int (nI u)] w Q := by
  have hB := H.1
  have hn := H.2.2.2.1.1
  have hn8 := VA.2.2.1.1
  refine C_of (by decide +kernel) (Nat.le_of_ble_eq_true rfl) ?_
  refine V_aload_n (i := 0) (sx_di dX12_isSo 0 rfl) rfl rfl ?_
  refine V_iload_n (i := 1) (sx_di dX12_isSo 1 rfl) rfl rfl ?_
  refine V_cV1 (mc' := 0) (ms' := 0) (M' := mX12_isWho) 3 (sx_di dX12_isSo 2 rfl) lX12_402 vX12_isWho (hB.k _ rfl) (by decide) rfl (Nat.le_of_ble_eq_true rfl) ⟨Nat.le_of_ble_eq_true rfl, Nat.le_of_ble_eq_true rfl⟩ ⟨Nat.le_refl _, Nat.le_refl _⟩ ?_
  refine c_X12_isWho hB hn hn8 hu ?_
  refine V_istore_n (i := 2) (sx_di dX12_isSo 3 rfl) rfl (by decide) (rfl) ?_
  refine V_iconst (v := 0) (sx_di dX12_isSo 4 rfl) (by decide) ?_
  refine V_istore_n (i := 3) (sx_di dX12_isSo 5 rfl) rfl (by decide) (rfl) ?_
  refine V_sub (ls' := [(3, .int (nI 0)), (2, .int (nI (if u < a_n A ∨ u = 9 then 1 else 0))), (1, .int (nI u)), (0, .ref 381)]) ⟨rfl, rfl, rfl, rfl, trivial⟩ ?_
  refine so_lp VA H hT hu h (a_S A).length 0 _ (by omega) (by split; exact Or.inr rfl; exact Or.inl rfl) (fun z => Classical.byContradiction (fun q => by rw [if_neg q] at z; omega)) ?_
  unfold pRf
  rw [List.drop_zero]
  by_cases hx : u < a_n A ∨ u = 9
  · rw [if_pos hx, decide_eq_true hx]; rfl
  · rw [if_neg hx, decide_eq_false hx]; rfl
set_option maxHeartbeats 2000000 in
set_option maxRecDepth 20000 in
theorem c_X12_isMore {E : sxE} {w : hpW} {Q : Option Value → hpW → Prop} (hB : ly_B w) {n : Nat} (hn : hp_i w 381 25 = nI n) (hn8 : n ≤ 8) {x : Int32} (h : Q (some (.int (if n = 0 ∨ x < 1 ∨ 5 < x then 0 else 1))) w) : sx_C E mX12_isMore 2 0 0 [.ref 381, .int x] w Q := by
  refine C_of (by decide +kernel) (Nat.le_of_ble_eq_true rfl) ?_
  refine V_aload_n (i := 0) (sx_di dX12_isMore 0 rfl) rfl rfl ?_
  refine V_getI (sx_di dX12_isMore 1 rfl) fX12_258 (fun _ => rfl) (hB.k _ rfl) ?_
  refine V_iv (y := nI n) (hn) ?_
  refine V_ifN_le (a := n) (rfl) (by omega) (tgt := 20) (sx_di dX12_isMore 2 rfl) (by decide) (fun h4 => ?_) (fun h4 => ?_)
  · rw [if_pos (Or.inl (by omega))] at h
    refine V_iconst (v := 0) (sx_di dX12_isMore 10 rfl) (by decide) ?_
    refine V_zret (sx_di dX12_isMore 11 rfl) rfl (by first | rfl | decide) (Nat.le_refl _) (Nat.le_refl _) ?_
    exact h
  · refine V_iload_n (i := 1) (sx_di dX12_isMore 3 rfl) rfl rfl ?_
    refine V_iconst (v := 1) (sx_di dX12_isMore 4 rfl) (by decide) ?_
    refine V_iconst (v := 5) (sx_di dX12_isMore 5 rfl) (by decide) ?_
    refine V_cS3 (mc' := 0) (ms' := 0) (M' := mX12_in) 1 (sx_di dX12_isMore 6 rfl) lX12_214 vX12_in (Nat.le_of_ble_eq_true rfl) ⟨Nat.le_of_ble_eq_true rfl, Nat.le_of_ble_eq_true rfl⟩ ⟨Nat.le_refl _, Nat.le_refl _⟩ ?_
    refine c_X12_in ?_
    refine V_if_eq (tgt := 20) (sx_di dX12_isMore 7 rfl) (by decide) (fun h13 => ?_) (fun h13 => ?_)
    · rw [if_pos (Or.inr (in_no h13))] at h
      refine V_iconst (v := 0) (sx_di dX12_isMore 10 rfl) (by decide) ?_
      refine V_zret (sx_di dX12_isMore 11 rfl) rfl (by first | rfl | decide) (Nat.le_refl _) (Nat.le_refl _) ?_
      exact h
    · rw [if_neg (fun z => z.elim (by omega) (in_ye h13))] at h
      refine V_iconst (v := 1) (sx_di dX12_isMore 8 rfl) (by decide) ?_
      refine V_goto (tgt := 21) (sx_di dX12_isMore 9 rfl) (by decide) ?_
      refine V_zret (sx_di dX12_isMore 11 rfl) rfl (by first | rfl | decide) (Nat.le_refl _) (Nat.le_refl _) ?_
      exact h
set_option maxHeartbeats 2000000 in
set_option maxRecDepth 20000 in
theorem wR_lp2 {E : sxE} {A : AS} {w : hpW} {Q : Option Value → hpW → Prop} (VA : AV A) (H : RR A w) {g v : Int32} (hT : PK_ A g w 410) : ∀ d s c, s + d = 10 → Q (some (.int (tqc (pRf A g) nI v d s c))) w → V E mX12_who (sx_rm 10 0 0) 0 0 0 0 25 [(4, .int (nI s)), (3, .int (nI c)), (2, .int v), (0, .ref 381)] [] w Q := by
  intro d
  have hB := H.1
  induction d with
  | zero =>
    intro s c hs z
    unfold tqc at z
    have e : s = 10 := by omega
    subst e
    refine V_iload (sx_di dX12_who 16 rfl) rfl ?_
    refine V_bipush (v := 9) (sx_di dX12_who 17 rfl) (by decide) ?_
    refine V_icN_gt (a := 10) (b := 9) (rfl) (rfl) (by omega) (by omega) (tgt := 58) (sx_di dX12_who 18 rfl) (by decide) (fun _ => ?_) (fun h29 => absurd h29 (by omega))
    refine V_iload_n (i := 2) (sx_di dX12_who 31 rfl) rfl rfl ?_
    refine V_iconst (v := -1) (sx_di dX12_who 32 rfl) (by decide) ?_
    refine V_icmp_ne (tgt := 67) (sx_di dX12_who 33 rfl) (by decide) (fun h60 => ?_) (fun h60 => ?_)
    · rw [if_neg h60] at z
      refine V_iconst (v := -1) (sx_di dX12_who 36 rfl) (by decide) ?_
      refine V_iret (sx_di dX12_who 37 rfl) rfl (Nat.le_refl _) (Nat.le_refl _) ?_
      exact z
    · rw [if_pos h60] at z
      refine V_iload_n (i := 3) (sx_di dX12_who 34 rfl) rfl rfl ?_
      refine V_goto (tgt := 68) (sx_di dX12_who 35 rfl) (by decide) ?_
      refine V_iret (sx_di dX12_who 37 rfl) rfl (Nat.le_refl _) (Nat.le_refl _) ?_
      exact z
  | succ d ih =>
    intro s c hs h
    unfold tqc at h
    refine V_iload (sx_di dX12_who 16 rfl) rfl ?_
    refine V_bipush (v := 9) (sx_di dX12_who 17 rfl) (by decide) ?_
    refine V_icN_gt (a := s) (b := 9) (rfl) (rfl) (by omega) (by omega) (tgt := 58) (sx_di dX12_who 18 rfl) (by decide) (fun h29 => absurd h29 (by omega)) (fun _ => ?_)
    refine V_aload_n (i := 0) (sx_di dX12_who 19 rfl) rfl rfl ?_
    refine V_iload (sx_di dX12_who 20 rfl) rfl ?_
    refine V_cV1 (mc' := 0) (ms' := 0) (M' := mX12_isSo) 4 (sx_di dX12_who 21 rfl) lX12_411 vX12_isSo (hB.k _ rfl) (by decide) rfl (Nat.le_of_ble_eq_true rfl) ⟨Nat.le_of_ble_eq_true rfl, Nat.le_of_ble_eq_true rfl⟩ ⟨Nat.le_refl _, Nat.le_refl _⟩ ?_
    refine e_isSo VA H hT (by omega) ?_
    refine V_if_eq (tgt := 52) (sx_di dX12_who 22 rfl) (by decide) (fun h38 => ?_) (fun h38 => ?_)
    · have hb : ¬ pRf A g s = true := fun z => by rw [if_pos z] at h38; exact absurd h38 (by decide)
      rw [if_neg hb] at h
      have q1 := ih (s + 1) c (by omega) h
      rw [← nI_1] at q1
      refine V_inc (c := 1) (sx_di dX12_who 29 rfl) (by decide) rfl (by decide) (rfl) ?_
      refine V_goto (tgt := 25) (sx_di dX12_who 30 rfl) (by decide) ?_
      exact V_subk q1 ⟨rfl, rfl, rfl, rfl, trivial⟩
    · have hb : pRf A g s = true := Classical.byContradiction (fun z => h38 (if_neg z))
      rw [if_pos hb] at h
      refine V_iload_n (i := 3) (sx_di dX12_who 23 rfl) rfl rfl ?_
      refine V_iload_n (i := 2) (sx_di dX12_who 24 rfl) rfl rfl ?_
      refine V_icmp_ne (tgt := 49) (sx_di dX12_who 25 rfl) (by decide) (fun h43 => ?_) (fun h43 => ?_)
      · rw [if_neg h43] at h
        have q1 := ih (s + 1) (c + 1) (by omega) h
        rw [← nI_1, ← nI_1] at q1
        refine V_inc (c := 1) (sx_di dX12_who 28 rfl) (by decide) rfl (by decide) (rfl) ?_
        refine V_inc (c := 1) (sx_di dX12_who 29 rfl) (by decide) rfl (by decide) (rfl) ?_
        refine V_goto (tgt := 25) (sx_di dX12_who 30 rfl) (by decide) ?_
        exact V_subk q1 ⟨rfl, rfl, rfl, rfl, trivial⟩
      · rw [if_pos h43] at h
        refine V_iload (sx_di dX12_who 26 rfl) rfl ?_
        refine V_iret (sx_di dX12_who 27 rfl) rfl (Nat.le_refl _) (Nat.le_refl _) ?_
        exact h
set_option maxHeartbeats 2000000 in
set_option maxRecDepth 20000 in
theorem e_whoR {E : sxE} {A : AS} {w : hpW} {Q : Option Value → hpW → Prop} (VA : AV A) (H : RR A w) (h0 : 0 < a_n A) {g : Nat} (hg1 : 1 ≤ g) (hg : g ≤ 5) {v : Int32} (hv : ¬ v < -1) (h : ∀ w', RR A w' → fC w w' → PK_ A (nI g) w' 410 → Q (some (.int (tqc (pRf A (nI g)) nI v 10 0 0))) w') : sx_C E mX12_who 10 0 0 [.ref 381, .int (nI g), .int v] w Q := by
  have hB := H.1
  have hn := H.2.2.2.1.1
  have hn8 := VA.2.2.1.1
  have hng : ¬ (a_n A = 0 ∨ nI g < 1 ∨ 5 < nI g) := fun z => z.elim (by omega) (fun z => z.elim (fun z => absurd ((nI_ltI (b := 1) (by omega) (by decide)).mp z) (by omega)) (fun z => absurd ((nI_ltI (a := 5) (by decide) (by omega)).mp z) (by omega)))
  refine C_of (by decide +kernel) (Nat.le_of_ble_eq_true rfl) ?_
  refine V_aload_n (i := 0) (sx_di dX12_who 0 rfl) rfl rfl ?_
  refine V_iload_n (i := 1) (sx_di dX12_who 1 rfl) rfl rfl ?_
  refine V_cV1 (mc' := 0) (ms' := 0) (M' := mX12_isMore) 2 (sx_di dX12_who 2 rfl) lX12_405 vX12_isMore (hB.k _ rfl) (by decide) rfl (Nat.le_of_ble_eq_true rfl) ⟨Nat.le_of_ble_eq_true rfl, Nat.le_of_ble_eq_true rfl⟩ ⟨Nat.le_refl _, Nat.le_refl _⟩ ?_
  refine c_X12_isMore hB hn hn8 ?_
  rw [if_neg hng]
  refine V_ifN_eq (a := 1) (rfl) (by omega) (tgt := 13) (sx_di dX12_who 3 rfl) (by decide) (fun h5 => absurd h5 (by omega)) (fun _ => ?_)
  refine V_iload_n (i := 2) (sx_di dX12_who 4 rfl) rfl rfl ?_
  refine V_iconst (v := -1) (sx_di dX12_who 5 rfl) (by decide) ?_
  refine V_icmp_ge (tgt := 15) (sx_di dX12_who 6 rfl) (by decide) (fun _ => ?_) (fun h10 => absurd (Int32.not_lt.mp hv) h10)
  refine V_aload_n (i := 0) (sx_di dX12_who 9 rfl) rfl rfl ?_
  refine V_iload_n (i := 1) (sx_di dX12_who 10 rfl) rfl rfl ?_
  refine V_cV1 (mc' := 0) (ms' := 0) (M' := mX12_layPaths) 9 (sx_di dX12_who 11 rfl) lX12_408 vX12_layPaths (hB.k _ rfl) (by decide) rfl (Nat.le_of_ble_eq_true rfl) ⟨Nat.le_of_ble_eq_true rfl, Nat.le_of_ble_eq_true rfl⟩ ⟨Nat.le_refl _, Nat.le_refl _⟩ ?_
  refine e_layPaths VA H h0 hg (fun w2 H2 f2 hT => ?_)
  refine V_iconst (v := 0) (sx_di dX12_who 12 rfl) (by decide) ?_
  refine V_istore_n (i := 3) (sx_di dX12_who 13 rfl) rfl (by decide) (rfl) ?_
  refine V_iconst (v := 0) (sx_di dX12_who 14 rfl) (by decide) ?_
  refine V_istore (sx_di dX12_who 15 rfl) (by decide) (rfl) ?_
  refine V_sub (ls' := [(4, .int (nI 0)), (3, .int (nI 0)), (2, .int v), (0, .ref 381)]) ⟨rfl, rfl, rfl, rfl, trivial⟩ ?_
  exact wR_lp2 VA H2 hT 10 0 0 (by omega) (h w2 H2 f2 hT)
set_option maxHeartbeats 2000000 in
set_option maxRecDepth 20000 in
theorem oR_who {E : sxE} {A : AS} {w : hpW} (VA : AV A) (H : RR A w) (x v : Int32) : oR E mX12_who 10 [.ref 381, .int x, .int v] w A (q_who A x v) A := by
  intro Q h
  have hB := H.1
  have hn := H.2.2.2.1.1
  have hn8 := VA.2.2.1.1
  unfold q_who at h
  by_cases hx : a_n A = 0 ∨ x < 1 ∨ 5 < x ∨ v < -1
  · rw [if_pos hx] at h
    refine C_of (by decide +kernel) (Nat.le_of_ble_eq_true rfl) ?_
    refine V_aload_n (i := 0) (sx_di dX12_who 0 rfl) rfl rfl ?_
    refine V_iload_n (i := 1) (sx_di dX12_who 1 rfl) rfl rfl ?_
    refine V_cV1 (mc' := 0) (ms' := 0) (M' := mX12_isMore) 2 (sx_di dX12_who 2 rfl) lX12_405 vX12_isMore (hB.k _ rfl) (by decide) rfl (Nat.le_of_ble_eq_true rfl) ⟨Nat.le_of_ble_eq_true rfl, Nat.le_of_ble_eq_true rfl⟩ ⟨Nat.le_refl _, Nat.le_refl _⟩ ?_
    refine c_X12_isMore hB hn hn8 ?_
    refine V_if_eq (tgt := 13) (sx_di dX12_who 3 rfl) (by decide) (fun h5 => ?_) (fun h5 => ?_)
    · refine V_iconst (v := -1) (sx_di dX12_who 7 rfl) (by decide) ?_
      refine V_iret (sx_di dX12_who 8 rfl) rfl (Nat.le_refl _) (Nat.le_refl _) ?_
      exact h w H fC_rf
    · have hg : ¬ (a_n A = 0 ∨ x < 1 ∨ 5 < x) := fun z => h5 (if_pos z)
      have hv : v < -1 := hx.elim (fun z => absurd (Or.inl z) hg) (fun z => z.elim (fun z => absurd (Or.inr (Or.inl z)) hg) (fun z => z.elim (fun z => absurd (Or.inr (Or.inr z)) hg) id))
      refine V_iload_n (i := 2) (sx_di dX12_who 4 rfl) rfl rfl ?_
      refine V_iconst (v := -1) (sx_di dX12_who 5 rfl) (by decide) ?_
      refine V_icmp_ge (tgt := 15) (sx_di dX12_who 6 rfl) (by decide) (fun h10 => absurd hv (Int32.not_lt.mpr h10)) (fun _ => ?_)
      refine V_iconst (v := -1) (sx_di dX12_who 7 rfl) (by decide) ?_
      refine V_iret (sx_di dX12_who 8 rfl) rfl (Nat.le_refl _) (Nat.le_refl _) ?_
      exact h w H fC_rf
  · rw [if_neg hx] at h
    have h1 : ¬ x < 1 := fun z => hx (Or.inr (Or.inl z))
    obtain ⟨g, hg5, rfl⟩ := nb_ (v := x) (k := 5) (by decide) (by rw [fa_lt, ti_0]; rw [fa_lt, ti_1] at h1; omega) (fun z => hx (Or.inr (Or.inr (Or.inl z))))
    have hg1 : 1 ≤ g := Nat.le_of_not_lt (fun q => h1 ((nI_ltI (b := 1) (by omega) (by decide)).mpr q))
    refine e_whoR VA H (by omega) hg1 hg5 (fun z => hx (Or.inr (Or.inr (Or.inr z)))) (fun w2 H2 f2 hT => ?_)
    have e := tqc_eq VA (nI g) v (a_n A) 0 0 (by omega)
    rw [show 10 - 0 = 10 from rfl, Nat.sub_zero] at e
    rw [e]
    exact h w2 H2 f2

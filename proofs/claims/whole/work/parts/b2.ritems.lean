/-! the reference reads a street: items -/
theorem ro_k {w : hpW} {ad z l : Nat} (hB : ly_B w) (h : ro9 ad z l) : hp_k w ad = (13, l) := by
  rcases h with ⟨rfl, rfl, rfl⟩ | ⟨rfl, rfl, rfl⟩ | ⟨rfl, rfl, rfl⟩
  · exact hB.k _ rfl
  · exact hB.k _ rfl
  · exact hB.k _ rfl
theorem qP_ar {T : List Int32} {p n m ad z l j : Nat} {v : Int32} {w : hpW} (h : ro9 ad z l) (H : qP T p n m w) : qP T p n m (hp_si w ad j v) := by
  unfold ro9 at h
  exact ⟨ly_i H.1, ⟨H.2.1.1, (si_p (by omega)).trans H.2.1.2.1, fun k hk => (si_p (by omega)).trans (H.2.1.2.2 k hk)⟩, (si_p (by omega)).trans H.2.2.1, (si_p (by omega)).trans H.2.2.2.1, (si_p (by omega)).trans H.2.2.2.2.1, (si_p (by omega)).trans H.2.2.2.2.2⟩
theorem qF_ar {T : List Int32} {p n m ad z l j : Nat} {v : Int32} {w : hpW} (h : ro9 ad z l) (H : qF T p n m w) : qF T p n m (hp_si w ad j v) := by
  unfold ro9 at h
  exact ⟨ly_i H.1, ⟨H.2.1.1, (si_p (by omega)).trans H.2.1.2.1, fun k hk => (si_p (by omega)).trans (H.2.1.2.2 k hk)⟩, (si_p (by omega)).trans H.2.2.1, (si_p (by omega)).trans H.2.2.2.1, (si_p (by omega)).trans H.2.2.2.2⟩
theorem fT9_ar {ad z l j : Nat} {v : Int32} {w : hpW} (h : ro9 ad z l) : fT9 w (hp_si w ad j v) := by
  unfold ro9 at h
  exact ⟨rfl, fun b h1 h2 h3 h4 => by funext i; exact si_p (by omega), fun i _ _ _ _ => si_p (by omega)⟩
/-- what came of the items -/
def I9 (T : List Int32) (n m n1 m1 : Nat) (r : itT) (w : hpW) : Prop := (r.1 = true → qP T r.2.2 n m w ∧ sg9 n1 m1 (RS9 w) r.2.1) ∧ (¬ r.1 = true → qF T r.2.2 n m w)
set_option maxHeartbeats 2000000 in
set_option maxRecDepth 20000 in
theorem il_lp {E : sxE} {T : List Int32} {n m0 n1 m1 b m fr ad z l : Nat} {cl : Int32} {Q : Option Value → hpW → Prop} (hc : clk cl b m) (hro : ro9 ad z l) (hfr : fr + m ≤ l) {R0 : Nat → Int32} {p : Nat} : ∀ d k w, k + d = m → qP T p n m0 w → RS9 w = us9_ b k (z + fr) R0 → (∀ w', qP T p n m0 w' → RS9 w' = us9_ b m (z + fr) R0 → fT9 w w' → V E mX12_items (sx_rm 4 0 0) 0 0 0 0 28 [(4, .int (nI m)), (3, .int (nI fr)), (2, .ref ad), (1, .int cl), (0, .ref 381)] [] w' Q) → V E mX12_items (sx_rm 4 0 0) 0 0 0 0 3 [(5, .int (nI k)), (4, .int (nI m)), (3, .int (nI fr)), (2, .ref ad), (1, .int cl), (0, .ref 381)] [] w Q := by
  intro d
  have hl : l ≤ 32 := by unfold ro9 at hro; omega
  induction d with
  | zero =>
    intro k w hk H hR h
    have e : k = m := by omega
    subst e
    refine V_iload (sx_di dX12_items 2 rfl) rfl ?_
    refine V_iload (sx_di dX12_items 3 rfl) rfl ?_
    refine V_icN_ge (a := k) (b := k) (rfl) (rfl) (by omega) (by omega) (tgt := 28) (sx_di dX12_items 4 rfl) (by decide) (fun _ => ?_) (fun h7 => absurd h7 (by omega))
    exact V_subk (h w H hR fT9_rf) ⟨rfl, rfl, rfl, rfl, rfl, trivial⟩
  | succ d ih =>
    intro k w hk H hR h
    refine V_iload (sx_di dX12_items 2 rfl) rfl ?_
    refine V_iload (sx_di dX12_items 3 rfl) rfl ?_
    refine V_icN_ge (a := k) (b := m) (rfl) (rfl) (by omega) (by omega) (tgt := 28) (sx_di dX12_items 4 rfl) (by decide) (fun h7 => absurd h7 (by omega)) (fun _ => ?_)
    refine V_aload_n (i := 2) (sx_di dX12_items 5 rfl) rfl rfl ?_
    refine V_iload_n (i := 3) (sx_di dX12_items 6 rfl) rfl rfl ?_
    refine V_iload (sx_di dX12_items 7 rfl) rfl ?_
    refine V_iadd (sx_di dX12_items 8 rfl) ?_
    refine V_iv (y := nI (fr + k)) (nI_add _ _) ?_
    refine V_iload_n (i := 1) (sx_di dX12_items 9 rfl) rfl rfl ?_
    refine V_iload (sx_di dX12_items 10 rfl) rfl ?_
    refine V_cS2 (mc' := 0) (ms' := 0) (M' := mX12_usual) 1 (sx_di dX12_items 11 rfl) lX12_218 vX12_usual (Nat.le_of_ble_eq_true rfl) ⟨Nat.le_of_ble_eq_true rfl, Nat.le_of_ble_eq_true rfl⟩ ⟨Nat.le_refl _, Nat.le_refl _⟩ ?_
    refine c_X12_usual hc (show k < m by omega) ?_
    refine V_iastN (n := l) (j := fr + k) (sx_di dX12_items 12 rfl) (ro_k H.1 hro) rfl (by omega) (by omega) ?_
    refine V_inc (c := 1) (sx_di dX12_items 13 rfl) (by decide) rfl (by decide) (rfl) ?_
    refine V_goto (tgt := 3) (sx_di dX12_items 14 rfl) (by decide) ?_
    have q1 := ih (k + 1) _ (by omega) (qP_ar (j := fr + k) (v := it_us (b + k)) hro H) (by rw [RS_si hro (by omega), hR, ← Nat.add_assoc, us9_s]) (fun w2 H2 R2 f2 => h w2 H2 R2 (fT9_tr (fT9_ar hro) f2))
    rw [← nI_1 (a := k)] at q1
    exact V_subk q1 ⟨rfl, rfl, rfl, rfl, rfl, rfl, trivial⟩
theorem has_v {x : Int32} {k : Nat} (hk : k < 31) : (if (x >>> (nI k &&& 31)) &&& 1 = 1 then (1 : Int32) else 0) = bz9 (bt x k) := by
  rw [bit_v hk]
  cases bt x k
  · rw [if_neg Bool.false_ne_true]; rfl
  · rw [if_pos rfl]; rfl
theorem clk_b {c : Int32} {b m : Nat} (h : clk c b m) : b + m ≤ 10 ∧ m ≤ 4 := by unfold clk at h; omega
set_option maxHeartbeats 2000000 in
set_option maxRecDepth 20000 in
theorem il2 {E : sxE} {T : List Int32} {n m0 n1 m1 b m fr ad z l : Nat} {cl : Int32} {Q : Option Value → hpW → Prop} (hc : clk cl b m) (hro : ro9 ad z l) (hfr : fr + m ≤ l)  : ∀ f g th s p w, cn_ g m + f = m → (∀ k, k < m → bt th k = g k) → p ≤ T.length → qP T (skp_ T p) n m0 w → sg9 n1 m1 (RS9 w) s → (∀ w', I9 T n m0 n1 m1 (itF T b m (z + fr) f g s p) w' → fT9 w w' → Q none w') → V E mX12_items (sx_rm 4 0 0) 0 0 0 0 41 [(6, .int (ir9 b m (cz_ T p))), (5, .int th), (4, .int (nI m)), (3, .int (nI fr)), (2, .ref ad), (1, .int cl), (0, .ref 381)] [] w Q := by
  intro f
  have hl : l ≤ 32 := by unfold ro9 at hro; omega
  obtain ⟨hb, hm4⟩ := clk_b hc
  have fl : ∀ e w th, e < 1000 → qF T e n m0 w → Q none w → V E mX12_items (sx_rm 4 0 0) 0 0 0 0 41 [(6, .int (-1)), (5, .int th), (4, .int (nI m)), (3, .int (nI fr)), (2, .ref ad), (1, .int cl), (0, .ref 381)] [] w Q := by
    intro e w th he H h
    refine V_aload_n (i := 0) (sx_di dX12_items 22 rfl) rfl rfl ?_
    refine V_getI (sx_di dX12_items 23 rfl) fX12_116 (fun _ => rfl) (by first | exact H.1.k _ rfl) ?_
    refine V_iv (y := nI e) (H.2.2.1) ?_
    refine V_iconst (v := -1) (sx_di dX12_items 24 rfl) (by decide) ?_
    refine V_icmp_ne (tgt := 131) (sx_di dX12_items 25 rfl) (by decide) (fun _ => ?_) (fun h46 => absurd h46 (nI_nm1 (by omega)))
    refine V_vret (sx_di dX12_items 70 rfl) rfl (Nat.le_refl _) (Nat.le_refl _) ?_
    exact h
  have irn : ∀ c, ¬ ix_ b m c < m → ir9 b m c = -1 := fun c z => by unfold ir9; rw [if_neg z]
  have iry : ∀ c, ix_ b m c < m → ir9 b m c = nI (ix_ b m c) := fun c z => by unfold ir9; rw [if_pos z]
  induction f with
  | zero =>
    intro g th s p w hcn hth hp H hs h
    have ho : itF T b m (z + fr) 0 g s p = (true, s, skp_ T p) := rfl
    rw [ho] at h
    refine V_aload_n (i := 0) (sx_di dX12_items 22 rfl) rfl rfl ?_
    refine V_getI (sx_di dX12_items 23 rfl) fX12_116 (fun _ => rfl) (by first | exact H.1.k _ rfl) ?_
    refine V_iv (y := -1) (H.2.2.1) ?_
    refine V_iconst (v := -1) (sx_di dX12_items 24 rfl) (by decide) ?_
    refine V_icmp_ne (tgt := 131) (sx_di dX12_items 25 rfl) (by decide) (fun h46 => absurd rfl h46) (fun _ => ?_)
    refine V_iload (sx_di dX12_items 26 rfl) rfl ?_
    refine V_iconst (v := -1) (sx_di dX12_items 27 rfl) (by decide) ?_
    refine V_icmp_eq (tgt := 131) (sx_di dX12_items 28 rfl) (by decide) (fun h52 => ?_) (fun h52 => ?_)
    · refine V_vret (sx_di dX12_items 70 rfl) rfl (Nat.le_refl _) (Nat.le_refl _) ?_
      exact h w ⟨fun _ => ⟨H, hs⟩, fun z => absurd rfl z⟩ fT9_rf
    · have lm : (ix_ b m (cz_ T p)) < m := Classical.byContradiction (fun z => h52 (irn _ z))
      refine V_iload (sx_di dX12_items 29 rfl) rfl ?_
      refine V_iload (sx_di dX12_items 30 rfl) rfl ?_
      refine V_iv (y := nI (ix_ b m (cz_ T p))) (iry _ lm) ?_
      refine V_cS2 (mc' := 0) (ms' := 0) (M' := mX12_has) 1 (sx_di dX12_items 31 rfl) lX12_225 vX12_has (Nat.le_of_ble_eq_true rfl) ⟨Nat.le_of_ble_eq_true rfl, Nat.le_of_ble_eq_true rfl⟩ ⟨Nat.le_refl _, Nat.le_refl _⟩ ?_
      refine c_X12_has ?_
      refine V_iv (y := bz9 (bt th (ix_ b m (cz_ T p)))) (has_v (by omega)) ?_
      refine V_if_ne (tgt := 131) (sx_di dX12_items 32 rfl) (by decide) (fun h62 => ?_) (fun h62 => ?_)
      · refine V_vret (sx_di dX12_items 70 rfl) rfl (Nat.le_refl _) (Nat.le_refl _) ?_
        exact h w ⟨fun _ => ⟨H, hs⟩, fun z => absurd rfl z⟩ fT9_rf
      · exact absurd (cn_all m (show cn_ g m = m by omega) (ix_ b m (cz_ T p)) lm) (by rw [← hth _ lm]; exact bz9f h62)
  | succ f ih =>
    intro g th s p w hcn hth hp H hs h
    have hT := H.2.1.1
    refine V_aload_n (i := 0) (sx_di dX12_items 22 rfl) rfl rfl ?_
    refine V_getI (sx_di dX12_items 23 rfl) fX12_116 (fun _ => rfl) (by first | exact H.1.k _ rfl | exact H1.1.k _ rfl | exact H2.1.k _ rfl | exact H3.1.k _ rfl | exact H4.1.k _ rfl | exact H5.1.k _ rfl | exact H6.1.k _ rfl) ?_
    refine V_iv (y := -1) (H.2.2.1) ?_
    refine V_iconst (v := -1) (sx_di dX12_items 24 rfl) (by decide) ?_
    refine V_icmp_ne (tgt := 131) (sx_di dX12_items 25 rfl) (by decide) (fun h46 => absurd rfl h46) (fun _ => ?_)
    refine V_iload (sx_di dX12_items 26 rfl) rfl ?_
    refine V_iconst (v := -1) (sx_di dX12_items 27 rfl) (by decide) ?_
    refine V_icmp_eq (tgt := 131) (sx_di dX12_items 28 rfl) (by decide) (fun h52 => ?_) (fun h52 => ?_)
    · refine V_vret (sx_di dX12_items 70 rfl) rfl (Nat.le_refl _) (Nat.le_refl _) ?_
      rw [itF_stop (fun z => nI_nm1 (show (ix_ b m (cz_ T p)) < 2 ^ 31 by omega) ((iry _ z.1).symm.trans h52))] at h
      exact h w ⟨fun _ => ⟨H, hs⟩, fun z => absurd rfl z⟩ fT9_rf
    · have lm : (ix_ b m (cz_ T p)) < m := Classical.byContradiction (fun z => h52 (irn _ z))
      refine V_iload (sx_di dX12_items 29 rfl) rfl ?_
      refine V_iload (sx_di dX12_items 30 rfl) rfl ?_
      refine V_iv (y := nI (ix_ b m (cz_ T p))) (iry _ lm) ?_
      refine V_cS2 (mc' := 0) (ms' := 0) (M' := mX12_has) 1 (sx_di dX12_items 31 rfl) lX12_225 vX12_has (Nat.le_of_ble_eq_true rfl) ⟨by show 1 + 1 ≤ 4; omega, by show 64 + 64 * (1) ≤ 64 * (4); omega⟩ ⟨Nat.le_refl _, Nat.le_refl _⟩ ?_
      refine c_X12_has ?_
      refine V_iv (y := bz9 (bt th (ix_ b m (cz_ T p)))) (has_v (by omega)) ?_
      refine V_if_ne (tgt := 131) (sx_di dX12_items 32 rfl) (by decide) (fun h62 => ?_) (fun h62 => ?_)
      · refine V_vret (sx_di dX12_items 70 rfl) rfl (Nat.le_refl _) (Nat.le_refl _) ?_
        rw [itF_stop (fun z => by have q := bz9t h62; rw [hth _ lm, z.2] at q; exact absurd q Bool.false_ne_true)] at h
        exact h w ⟨fun _ => ⟨H, hs⟩, fun z => absurd rfl z⟩ fT9_rf
      · have gf : g (ix_ b m (cz_ T p)) = false := by rw [← hth _ lm]; exact Bool.eq_false_iff.mpr (bz9f h62)
        have hcc : (ix_ b m (cz_ T p)) < m ∧ g (ix_ b m (cz_ T p)) = false := ⟨lm, gf⟩
        have hq1 : skp_ T p + 1 ≤ T.length := cz_lt (fun q => by rw [q, ix_end hb (Or.inl rfl)] at lm; omega)
        have hg := nb9_go (T := T) (j := b + (ix_ b m (cz_ T p))) hq1
        unfold itF at h
        rw [if_pos hcc] at h
        refine V_iload (sx_di dX12_items 33 rfl) rfl ?_
        refine V_iconst (v := 1) (sx_di dX12_items 34 rfl) (by decide) ?_
        refine V_iload (sx_di dX12_items 35 rfl) rfl ?_
        refine V_ishl (sx_di dX12_items 36 rfl) ?_
        refine V_ior (sx_di dX12_items 37 rfl) ?_
        refine V_iv (y := th ||| 1 <<< (nI (ix_ b m (cz_ T p)) &&& 31)) (by rw [iry _ lm]) ?_
        refine V_istore (sx_di dX12_items 38 rfl) (by decide) (rfl) ?_
        refine V_aload_n (i := 0) (sx_di dX12_items 39 rfl) rfl rfl ?_
        refine V_dup (sx_di dX12_items 40 rfl) rfl ?_
        refine V_getI (sx_di dX12_items 41 rfl) fX12_109 (fun _ => rfl) (by first | exact H.1.k _ rfl | exact H1.1.k _ rfl | exact H2.1.k _ rfl | exact H3.1.k _ rfl | exact H4.1.k _ rfl | exact H5.1.k _ rfl | exact H6.1.k _ rfl) ?_
        refine V_iconst (v := 1) (sx_di dX12_items 42 rfl) (by decide) ?_
        refine V_iadd (sx_di dX12_items 43 rfl) ?_
        refine V_putI (sx_di dX12_items 44 rfl) fX12_109 (fun _ => rfl) rfl (by first | exact H.1.k _ rfl | exact H1.1.k _ rfl | exact H2.1.k _ rfl | exact H3.1.k _ rfl | exact H4.1.k _ rfl | exact H5.1.k _ rfl | exact H6.1.k _ rfl) (rfl) (rfl) ?_
        refine V_atS H (fun w1 H1 f1 s1 => ?_)
        refine V_aload_n (i := 2) (sx_di dX12_items 45 rfl) rfl rfl ?_
        refine V_iload_n (i := 3) (sx_di dX12_items 46 rfl) rfl rfl ?_
        refine V_iload (sx_di dX12_items 47 rfl) rfl ?_
        refine V_iv (y := nI (ix_ b m (cz_ T p))) (iry _ lm) ?_
        refine V_iadd (sx_di dX12_items 48 rfl) ?_
        refine V_iv (y := nI (fr + (ix_ b m (cz_ T p)))) (nI_add _ _) ?_
        refine V_aload_n (i := 0) (sx_di dX12_items 49 rfl) rfl rfl ?_
        refine V_iload_n (i := 1) (sx_di dX12_items 50 rfl) rfl rfl ?_
        refine V_iload (sx_di dX12_items 51 rfl) rfl ?_
        refine V_iv (y := nI (ix_ b m (cz_ T p))) (iry _ lm) ?_
        refine V_cS2 (mc' := 0) (ms' := 0) (M' := mX12_lowest) 1 (sx_di dX12_items 52 rfl) lX12_229 vX12_lowest (Nat.le_of_ble_eq_true rfl) ⟨by show 1 + 1 ≤ 4; omega, by show 64 + 64 * (1) ≤ 64 * (4); omega⟩ ⟨Nat.le_refl _, Nat.le_refl _⟩ ?_
        refine c_X12_lowest hc lm ?_
        refine V_iload_n (i := 1) (sx_di dX12_items 53 rfl) rfl rfl ?_
        refine V_iload (sx_di dX12_items 54 rfl) rfl ?_
        refine V_iv (y := nI (ix_ b m (cz_ T p))) (iry _ lm) ?_
        refine V_cS2 (mc' := 0) (ms' := 0) (M' := mX12_highest) 1 (sx_di dX12_items 55 rfl) lX12_232 vX12_highest (Nat.le_of_ble_eq_true rfl) ⟨by show 1 + 1 ≤ 4; omega, by show 64 + 64 * (1) ≤ 64 * (4); omega⟩ ⟨Nat.le_refl _, Nat.le_refl _⟩ ?_
        refine c_X12_highest hc lm ?_
        refine V_cV2 (mc' := 0) (ms' := 0) (M' := mX12_number) 3 (sx_di dX12_items 56 rfl) lX12_235 vX12_number (by first | exact H.1.k _ rfl | exact H1.1.k _ rfl | exact H2.1.k _ rfl | exact H3.1.k _ rfl | exact H4.1.k _ rfl | exact H5.1.k _ rfl | exact H6.1.k _ rfl) (by decide) rfl (Nat.le_of_ble_eq_true rfl) ⟨by show 3 + 1 ≤ 4; omega, by show 64 + 64 * (3) ≤ 64 * (4); omega⟩ ⟨Nat.le_refl _, Nat.le_refl _⟩ ?_
        refine c_number9 H1 hq1 (fun v w3 y3 z3 f3 s3 => ?_)
        have B3 : ly_B w3 := by
          by_cases q : (nb9_ T (b + (ix_ b m (cz_ T p))) (skp_ T p + 1)).1 = true
          · exact (y3 q).1.1
          · exact (z3 q).1
        have w3 : hp_i (hp_si w3 ad (fr + (ix_ b m (cz_ T p))) v) 381 4 = (if (nb9_ T (b + (ix_ b m (cz_ T p))) (skp_ T p + 1)).1 = true then -1 else nI (nb9_ T (b + (ix_ b m (cz_ T p))) (skp_ T p + 1)).2.2) := by
          rw [si_p (by unfold ro9 at hro; omega)]
          by_cases q : (nb9_ T (b + (ix_ b m (cz_ T p))) (skp_ T p + 1)).1 = true
          · rw [if_pos q]; exact (y3 q).1.2.2.1
          · rw [if_neg q]; exact (z3 q).2.2.1
        refine V_iastN (n := l) (j := fr + (ix_ b m (cz_ T p))) (sx_di dX12_items 57 rfl) (ro_k B3 hro) rfl (by omega) (by omega) ?_
        refine V_aload_n (i := 0) (sx_di dX12_items 58 rfl) rfl rfl ?_
        refine V_getI (sx_di dX12_items 59 rfl) fX12_116 (fun _ => rfl) ((ly_i B3).k _ rfl) ?_
        refine V_iv (y := if (nb9_ T (b + (ix_ b m (cz_ T p))) (skp_ T p + 1)).1 = true then -1 else nI (nb9_ T (b + (ix_ b m (cz_ T p))) (skp_ T p + 1)).2.2) (w3) ?_
        refine V_iconst (v := -1) (sx_di dX12_items 60 rfl) (by decide) ?_
        refine V_icmp_ne (tgt := 125) (sx_di dX12_items 61 rfl) (by decide) (fun h111 => ?_) (fun h111 => ?_)
        · have b9 : ¬ (nb9_ T (b + (ix_ b m (cz_ T p))) (skp_ T p + 1)).1 = true := fun z => h111 (if_pos z)
          rw [if_neg b9] at h
          refine V_iconst (v := -1) (sx_di dX12_items 67 rfl) (by decide) ?_
          refine V_istore (sx_di dX12_items 68 rfl) (by decide) (rfl) ?_
          refine V_goto (tgt := 41) (sx_di dX12_items 69 rfl) (by decide) ?_
          refine V_subk (fl (nb9_ T (b + (ix_ b m (cz_ T p))) (skp_ T p + 1)).2.2 _ (th ||| 1 <<< (nI (ix_ b m (cz_ T p)) &&& 31)) (by omega) (qF_ar hro (z3 b9)) (h _ ⟨fun q => absurd q Bool.false_ne_true, fun _ => qF_ar hro (z3 b9)⟩ (fT9_tr f1 (fT9_tr f3 (fT9_ar hro))))) ⟨rfl, rfl, rfl, rfl, rfl, rfl, rfl, trivial⟩
        · have b9 : (nb9_ T (b + (ix_ b m (cz_ T p))) (skp_ T p + 1)).1 = true := Classical.byContradiction (fun z => by rw [if_neg z] at h111; exact nI_nm1 (by omega) h111)
          rw [if_pos b9] at h
          obtain ⟨H3, ev⟩ := y3 b9
          subst ev
          have H4 := qP_ar (j := fr + (ix_ b m (cz_ T p))) (v := (nb9_ T (b + (ix_ b m (cz_ T p))) (skp_ T p + 1)).2.1) hro H3
          refine V_iload_n (i := 1) (sx_di dX12_items 62 rfl) rfl rfl ?_
          refine V_aload_n (i := 0) (sx_di dX12_items 63 rfl) rfl rfl ?_
          refine V_cV0 (mc' := 0) (ms' := 0) (M' := mX12_look) 2 (sx_di dX12_items 64 rfl) lX12_128 vX12_look (by first | exact H.1.k _ rfl | exact H1.1.k _ rfl | exact H2.1.k _ rfl | exact H3.1.k _ rfl | exact H4.1.k _ rfl | exact H5.1.k _ rfl | exact H6.1.k _ rfl) (by decide) rfl (Nat.le_of_ble_eq_true rfl) ⟨by show 2 + 1 ≤ 4; omega, by show 64 + 64 * (2) ≤ 64 * (4); omega⟩ ⟨Nat.le_refl _, Nat.le_refl _⟩ ?_
          refine c_lookS H4 hg.2 (fun w5 H5 f5 s5 => ?_)
          refine V_cS2 (mc' := 0) (ms' := 0) (M' := mX12_itemOf) 1 (sx_di dX12_items 65 rfl) lX12_222 vX12_itemOf (Nat.le_of_ble_eq_true rfl) ⟨by show 1 + 1 ≤ 4; omega, by show 64 + 64 * (1) ≤ 64 * (4); omega⟩ ⟨Nat.le_refl _, Nat.le_refl _⟩ ?_
          refine c_X12_itemOf hc ?_
          refine V_goto (tgt := 126) (sx_di dX12_items 66 rfl) (by decide) ?_
          refine V_istore (sx_di dX12_items 68 rfl) (by decide) (rfl) ?_
          refine V_goto (tgt := 41) (sx_di dX12_items 69 rfl) (by decide) ?_
          have q1 : _ := ih (ug_ g (ix_ b m (cz_ T p))) (th ||| 1 <<< (nI (ix_ b m (cz_ T p)) &&& 31)) (up_ s (z + fr + (ix_ b m (cz_ T p))) (nb9_ T (b + (ix_ b m (cz_ T p))) (skp_ T p + 1)).2.1) (nb9_ T (b + (ix_ b m (cz_ T p))) (skp_ T p + 1)).2.2 w5 (by rw [cn_ug m lm gf]; omega) (fun k hk => ?_) hg.2 H5 (by rw [s5, RS_si hro (by omega), s3, s1, ← Nat.add_assoc]; exact sg_up hs) (fun w6 i6 f6 => h w6 i6 (fT9_tr f1 (fT9_tr f3 (fT9_tr (fT9_ar hro) (fT9_tr f5 f6)))))
          · exact V_subk q1 ⟨rfl, rfl, rfl, rfl, rfl, rfl, rfl, trivial⟩
          · rw [bit_or (by omega) (by omega), hth k hk]
            rfl
set_option maxHeartbeats 2000000 in
set_option maxRecDepth 20000 in
theorem c_itemsR {E : sxE} {T : List Int32} {n m0 n1 m1 b m fr ad z l : Nat} {cl : Int32} {Q : Option Value → hpW → Prop} (hc : clk cl b m) (hro : ro9 ad z l) (hfr : fr + m ≤ l) {s : Nat → Int32} {n0 mm0 p : Nat} {w : hpW} (hn : 4 * n1 ≤ 4 * n0 ∨ (4 * n1 ≤ 4 * n0 + m ∧ z + fr = 4 + 4 * n0)) (hm : 2 * m1 ≤ 2 * mm0 ∨ (2 * m1 ≤ 2 * mm0 + m ∧ z + fr = 36 + 2 * mm0)) (H : qP T p n m0 w) (hs : sg9 n0 mm0 (RS9 w) s) (hp : p ≤ T.length) (h : ∀ w', I9 T n m0 n1 m1 (its_ T b m (z + fr) s p) w' → fT9 w w' → Q none w') : sx_C E mX12_items 4 0 0 [.ref 381, .int cl, .ref ad, .int (nI fr), .int (nI m)] w Q := by
  have cn0 : ∀ m, cn_ (fun _ => false) m = 0 := fun m => by
    induction m with
    | zero => rfl
    | succ m ih => unfold cn_; rw [ih, if_neg Bool.false_ne_true]
  refine C_of (by decide +kernel) (Nat.le_of_ble_eq_true rfl) ?_
  refine V_iconst (v := 0) (sx_di dX12_items 0 rfl) (by decide) ?_
  refine V_istore (sx_di dX12_items 1 rfl) (by decide) (rfl) ?_
  refine V_sub (ls' := [(5, .int (nI 0)), (4, .int (nI m)), (3, .int (nI fr)), (2, .ref ad), (1, .int cl), (0, .ref 381)]) ⟨rfl, rfl, rfl, rfl, rfl, rfl, trivial⟩ ?_
  refine il_lp (n1 := 0) (m1 := 0) hc hro hfr (R0 := RS9 w) m 0 w (by omega) H (us9_0 _ _ _).symm (fun w1 H1 R1 f1 => ?_)
  refine V_iconst (v := 0) (sx_di dX12_items 15 rfl) (by decide) ?_
  refine V_istore (sx_di dX12_items 16 rfl) (by decide) (rfl) ?_
  refine V_iload_n (i := 1) (sx_di dX12_items 17 rfl) rfl rfl ?_
  refine V_aload_n (i := 0) (sx_di dX12_items 18 rfl) rfl rfl ?_
  refine V_cV0 (mc' := 0) (ms' := 0) (M' := mX12_look) 2 (sx_di dX12_items 19 rfl) lX12_128 vX12_look (by first | exact H.1.k _ rfl | exact H1.1.k _ rfl | exact H2.1.k _ rfl | exact H3.1.k _ rfl | exact H4.1.k _ rfl | exact H5.1.k _ rfl | exact H6.1.k _ rfl) (by decide) rfl (Nat.le_of_ble_eq_true rfl) ⟨by show 2 + 1 ≤ 4; omega, by show 64 + 64 * (2) ≤ 64 * (4); omega⟩ ⟨Nat.le_refl _, Nat.le_refl _⟩ ?_
  refine c_lookS H1 hp (fun w2 H2 f2 s2 => ?_)
  refine V_cS2 (mc' := 0) (ms' := 0) (M' := mX12_itemOf) 1 (sx_di dX12_items 20 rfl) lX12_222 vX12_itemOf (Nat.le_of_ble_eq_true rfl) ⟨by show 1 + 1 ≤ 4; omega, by show 64 + 64 * (1) ≤ 64 * (4); omega⟩ ⟨Nat.le_refl _, Nat.le_refl _⟩ ?_
  refine c_X12_itemOf hc ?_
  refine V_istore (sx_di dX12_items 21 rfl) (by decide) (rfl) ?_
  refine V_sub (ls' := [(6, .int (ir9 b m (cz_ T p))), (5, .int 0), (4, .int (nI m)), (3, .int (nI fr)), (2, .ref ad), (1, .int cl), (0, .ref 381)]) ⟨rfl, rfl, rfl, rfl, rfl, rfl, rfl, trivial⟩ ?_
  exact il2 hc hro hfr m (fun _ => false) 0 (us9_ b m (z + fr) s) p w2 (by rw [cn0]; omega) (fun k _ => b_0 _) hp H2 (by rw [s2, R1]; exact sg_us hs hn hm) (fun w3 i3 f3 => h w3 i3 (fT9_tr f1 (fT9_tr f2 f3)))

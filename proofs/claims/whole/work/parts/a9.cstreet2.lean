/-! the class reads a street: clauses -/
def endc (c : Int32) : Bool := decide (c = -1 ∨ c = 59)
theorem sg_us {b m o n0 m0 n1 m1 : Nat} {S s : Nat → Int32} (h : sg9 n0 m0 S s) (hn : 4 * n1 ≤ 4 * n0 ∨ (4 * n1 ≤ 4 * n0 + m ∧ o = 4 + 4 * n0)) (hm : 2 * m1 ≤ 2 * m0 ∨ (2 * m1 ≤ 2 * m0 + m ∧ o = 36 + 2 * m0)) : sg9 n1 m1 (us9_ b m o S) (us9_ b m o s) := by
  refine ⟨fun j hj => ?_, fun j hj => ?_, fun j hj => ?_⟩
  · unfold us9_
    split
    · rfl
    · exact h.1 j hj
  · unfold us9_
    by_cases e : o ≤ 4 + j ∧ 4 + j < o + m
    · rw [if_pos e, if_pos e]
    · rw [if_neg e, if_neg e]
      exact h.2.1 j (by omega)
  · unfold us9_
    by_cases e : o ≤ 36 + j ∧ 36 + j < o + m
    · rw [if_pos e, if_pos e]
    · rw [if_neg e, if_neg e]
      exact h.2.2 j (by omega)
theorem sB_put {T : List Int32} {a p n m j : Nat} {hr : Bool} {w : hpW} {v : Int32} (ha : a2_ a) (H : sB T a p hr n m w) : sB T a p hr n m (hp_si w (a + 1) j v) := by
  unfold a2_ at ha
  exact ⟨ly_i H.1, ⟨H.2.1.1, (si_p (by omega)).trans H.2.1.2.1, fun k hk => (si_p (by omega)).trans (H.2.1.2.2 k hk)⟩, (si_p (by omega)).trans H.2.2.1, (si_p (by omega)).trans H.2.2.2.1, (si_p (by omega)).trans H.2.2.2.2.1, (si_p (by omega)).trans H.2.2.2.2.2⟩
theorem fS_put {a j : Nat} {w : hpW} {v : Int32} (ha : a2_ a) : fS a w (hp_si w (a + 1) j v) := by
  unfold a2_ at ha
  exact ⟨rfl, fun b h1 h2 h3 => by funext i; exact si_p (by omega), fun i _ _ => si_p (by omega)⟩
theorem sl_put {a j : Nat} {w : hpW} {v : Int32} : hp_i (hp_si w (a + 1) j v) (a + 1) = up_ (hp_i w (a + 1)) j v := by
  funext i
  unfold up_
  rw [hp_i_si]
  by_cases e : i = j
  · rw [if_pos ⟨rfl, e⟩, if_pos e]
  · rw [if_neg (fun z => e z.2), if_neg e]
theorem sB_sw {T : List Int32} {a p n m : Nat} {hr : Bool} {w : hpW} {S : Nat → Int32} (ha : a2_ a) (H : sB T a p hr n m w) : sB T a p hr n m (sw9 w a S) := by
  unfold a2_ at ha
  have e : ∀ b, b ≠ a + 1 → hp_i (sw9 w a S) b = hp_i w b := fun b hb => if_neg hb
  exact ⟨ly_wi H.1 _, tp_mv (by rw [e 17 (by omega)]) (e 18 (by omega)) H.2.1, by rw [e 17 (by omega)]; exact H.2.2.1, by rw [e a (by omega)]; exact H.2.2.2.1, by rw [e a (by omega)]; exact H.2.2.2.2.1, by rw [e a (by omega)]; exact H.2.2.2.2.2⟩
theorem fS_sw {a : Nat} {w : hpW} {S : Nat → Int32} (ha : a2_ a) : fS a w (sw9 w a S) := by
  unfold a2_ at ha
  exact ⟨rfl, fun b h1 h2 h3 => if_neg h3, fun i _ _ => by rw [show hp_i (sw9 w a S) 17 = hp_i w 17 from if_neg (by omega)]⟩
theorem sl_sw {a : Nat} {w : hpW} {S : Nat → Int32} : hp_i (sw9 w a S) (a + 1) = S := if_pos rfl
set_option maxHeartbeats 2000000 in
set_option maxRecDepth 20000 in
theorem ri_lp {E : sxE} {T : List Int32} {a b m o n1 m1 : Nat} {hr : Bool} {Q : Option Value → hpW → Prop} (hX : XO E) (ha : a2_ a) (hb : b + m ≤ 10) (ho : o + m ≤ 48) : ∀ f g th s p i w, cn_ g m + f = m → i + f = b + m → (∀ k, k < m → bt th (b + k) = g k) → p ≤ T.length → sB T a p hr n1 m1 w → sg9 n1 m1 (hp_i w (a + 1)) s → (∀ w', sB T a (itF T b m o f g s p).2.2 hr n1 m1 w' → sg9 n1 m1 (hp_i w' (a + 1)) (itF T b m o f g s p).2.1 → fS a w w' → Q (some (.int (bz9 ((itF T b m o f g s p).1 && endc (cz_ T (itF T b m o f g s p).2.2))))) w') → V E mX9_readItems (sx_rm 8 0 0) 0 0 0 0 27 [(6, .int (nI i)), (5, .int th), (4, .int (nI o)), (3, .int (nI (b + m))), (2, .int (nI b)), (1, .ref a), (0, .ref 19)] [] w Q := by
  intro f
  have fin : ∀ f g s p w w1 x, ¬ (ix_ b m (cz_ T p) < m ∧ g (ix_ b m (cz_ T p)) = false) → sB T a (skp_ T p) hr n1 m1 w1 → sg9 n1 m1 (hp_i w1 (a + 1)) s → fS a w w1 → x = bz9 (endc (cz_ T p)) → (∀ w', sB T a (itF T b m o f g s p).2.2 hr n1 m1 w' → sg9 n1 m1 (hp_i w' (a + 1)) (itF T b m o f g s p).2.1 → fS a w w' → Q (some (.int (bz9 ((itF T b m o f g s p).1 && endc (cz_ T (itF T b m o f g s p).2.2))))) w') → Q (some (.int x)) w1 := by
    intro f g s p w w1 x hc H1 s1 f1 e h
    rw [itF_stop hc] at h
    have z := h w1 H1 s1 f1
    rw [e]
    rw [Bool.true_and] at z
    show Q (some (.int (bz9 (endc (cz_ T p))))) w1
    have e2 : cz_ T (true, s, skp_ T p).2.2 = cz_ T p := cz_id T p
    rw [e2] at z
    exact z
  have n19 : ∀ w, ly_B w → hp_k w 19 = (9, 1) := fun w h => h.k _ rfl
  induction f with
  | zero =>
    intro g th s p i w hcn hi hth hp H hs h
    have hT := H.2.1.1
    refine V_iload (sx_di dX9_readItems 16 rfl) rfl ?_
    refine V_iload_n (i := 3) (sx_di dX9_readItems 17 rfl) rfl rfl ?_
    refine V_icN_gt (a := i) (b := (b + m)) (rfl) (rfl) (by omega) (by omega) (tgt := 141) (sx_di dX9_readItems 18 rfl) (by decide) (fun h30 => absurd h30 (by omega)) (fun _ => ?_)
    refine V_aload_n (i := 0) (sx_di dX9_readItems 19 rfl) rfl rfl ?_
    refine V_getR (sx_di dX9_readItems 20 rfl) fX9_9 (fun _ => rfl) (by first | exact H.1.k _ rfl | exact H1.1.k _ rfl | exact H2.1.k _ rfl | exact H3.1.k _ rfl | exact H4.1.k _ rfl | exact H5.1.k _ rfl | exact H6.1.k _ rfl) (by first | exact H.1.r _ _ rfl | exact H1.1.r _ _ rfl | exact H2.1.r _ _ rfl | exact H3.1.r _ _ rfl | exact H4.1.r _ _ rfl | exact H5.1.r _ _ rfl | exact H6.1.r _ _ rfl) ?_
    refine V_cV0 (mc' := 0) (ms' := 0) (M' := mX10_sign) 1 (sx_di dX9_readItems 21 rfl) lX9_30 vX10_sign (by first | exact H.1.k _ rfl | exact H1.1.k _ rfl | exact H2.1.k _ rfl | exact H3.1.k _ rfl | exact H4.1.k _ rfl | exact H5.1.k _ rfl | exact H6.1.k _ rfl) (by decide) rfl (Nat.le_of_ble_eq_true rfl) ⟨Nat.le_of_ble_eq_true rfl, Nat.le_of_ble_eq_true rfl⟩ ⟨Nat.le_refl _, Nat.le_refl _⟩ ?_
    refine c_signS ha H hp (fun w1 H1 f1 s1 => ?_)
    refine V_istore (sx_di dX9_readItems 22 rfl) (by decide) (rfl) ?_
    refine V_iload (sx_di dX9_readItems 23 rfl) rfl ?_
    refine V_iconst (v := -1) (sx_di dX9_readItems 24 rfl) (by decide) ?_
    refine V_icmp_eq (tgt := 55) (sx_di dX9_readItems 25 rfl) (by decide) (fun h45 => ?_) (fun h45 => ?_)
    · refine V_iconst (v := 1) (sx_di dX9_readItems 29 rfl) (by decide) ?_
      refine V_zret (sx_di dX9_readItems 30 rfl) rfl (by first | rfl | decide) (Nat.le_refl _) (Nat.le_refl _) ?_
      exact fin _ g s p w w1 1 (fun z => by rw [ix_end hb (Or.inl h45)] at z; omega) H1 (by rw [s1]; exact hs) f1 (by rw [h45]; rfl) h
    · refine V_iload (sx_di dX9_readItems 26 rfl) rfl ?_
      refine V_bipush (v := 59) (sx_di dX9_readItems 27 rfl) (by decide) ?_
      refine V_icmp_ne (tgt := 57) (sx_di dX9_readItems 28 rfl) (by decide) (fun h52 => ?_) (fun h52 => ?_)
      · have n9 : endc (cz_ T p) = false := decide_eq_false (fun z => z.elim h45 h52)
        refine V_iload (sx_di dX9_readItems 31 rfl) rfl ?_
        refine V_iload_n (i := 2) (sx_di dX9_readItems 32 rfl) rfl rfl ?_
        refine V_iload_n (i := 3) (sx_di dX9_readItems 33 rfl) rfl rfl ?_
        refine V_cS3 (mc' := 0) (ms' := 0) (M' := mX9_itemOf) 5 (sx_di dX9_readItems 34 rfl) lX9_56 vX9_itemOf (Nat.le_of_ble_eq_true rfl) ⟨Nat.le_of_ble_eq_true rfl, Nat.le_of_ble_eq_true rfl⟩ ⟨Nat.le_refl _, Nat.le_refl _⟩ ?_
        refine c_X9_itemOf hX hb ?_
        refine V_istore (sx_di dX9_readItems 35 rfl) (by decide) (rfl) ?_
        refine V_iload (sx_di dX9_readItems 36 rfl) rfl ?_
        refine V_iconst (v := -1) (sx_di dX9_readItems 37 rfl) (by decide) ?_
        refine V_icmp_eq (tgt := 82) (sx_di dX9_readItems 38 rfl) (by decide) (fun h69 => ?_) (fun h69 => ?_)
        · have nm : ¬ (ix_ b m (cz_ T p)) < m := fun z => nI_nm1 (show b + (ix_ b m (cz_ T p)) < 2 ^ 31 by omega) (by unfold iv9 at h69; rw [if_pos z] at h69; exact h69)
          refine V_iconst (v := 0) (sx_di dX9_readItems 45 rfl) (by decide) ?_
          refine V_zret (sx_di dX9_readItems 46 rfl) rfl (by first | rfl | decide) (Nat.le_refl _) (Nat.le_refl _) ?_
          exact fin _ g s p w w1 0 (fun z => nm z.1) H1 (by rw [s1]; exact hs) f1 (by rw [n9]; rfl) h
        · have lm : (ix_ b m (cz_ T p)) < m := Classical.byContradiction (fun z => h69 (by unfold iv9; rw [if_neg z]))
          have ev : iv9 b m (cz_ T p) = nI (b + (ix_ b m (cz_ T p))) := by unfold iv9; rw [if_pos lm]
          refine V_iload (sx_di dX9_readItems 39 rfl) rfl ?_
          refine V_iload (sx_di dX9_readItems 40 rfl) rfl ?_
          refine V_ishr (sx_di dX9_readItems 41 rfl) ?_
          refine V_iconst (v := 1) (sx_di dX9_readItems 42 rfl) (by decide) ?_
          refine V_iand (sx_di dX9_readItems 43 rfl) ?_
          refine V_if_eq (tgt := 84) (sx_di dX9_readItems 44 rfl) (by decide) (fun h79 => ?_) (fun h79 => ?_)
          · have z9 := cn_all m (show cn_ g m = m by omega) (ix_ b m (cz_ T p)) lm
            rw [ev, bit_v (by omega), hth _ lm, z9, if_pos rfl] at h79
            exact absurd h79 (by decide)
          · refine V_iconst (v := 0) (sx_di dX9_readItems 45 rfl) (by decide) ?_
            refine V_zret (sx_di dX9_readItems 46 rfl) rfl (by first | rfl | decide) (Nat.le_refl _) (Nat.le_refl _) ?_
            have z9 := cn_all m (show cn_ g m = m by omega) (ix_ b m (cz_ T p)) lm
            exact fin _ g s p w w1 0 (fun z => by rw [z9] at z; exact absurd z.2 (by decide)) H1 (by rw [s1]; exact hs) f1 (by rw [n9]; rfl) h
      · refine V_iconst (v := 1) (sx_di dX9_readItems 29 rfl) (by decide) ?_
        refine V_zret (sx_di dX9_readItems 30 rfl) rfl (by first | rfl | decide) (Nat.le_refl _) (Nat.le_refl _) ?_
        exact fin _ g s p w w1 1 (fun z => by rw [ix_end hb (Or.inr h52)] at z; omega) H1 (by rw [s1]; exact hs) f1 (by rw [h52]; rfl) h
  | succ f ih =>
    intro g th s p i w hcn hi hth hp H hs h
    have hT := H.2.1.1
    have g1 := skp_ge T p
    refine V_iload (sx_di dX9_readItems 16 rfl) rfl ?_
    refine V_iload_n (i := 3) (sx_di dX9_readItems 17 rfl) rfl rfl ?_
    refine V_icN_gt (a := i) (b := (b + m)) (rfl) (rfl) (by omega) (by omega) (tgt := 141) (sx_di dX9_readItems 18 rfl) (by decide) (fun h30 => absurd h30 (by omega)) (fun _ => ?_)
    refine V_aload_n (i := 0) (sx_di dX9_readItems 19 rfl) rfl rfl ?_
    refine V_getR (sx_di dX9_readItems 20 rfl) fX9_9 (fun _ => rfl) (by first | exact H.1.k _ rfl | exact H1.1.k _ rfl | exact H2.1.k _ rfl | exact H3.1.k _ rfl | exact H4.1.k _ rfl | exact H5.1.k _ rfl | exact H6.1.k _ rfl) (by first | exact H.1.r _ _ rfl | exact H1.1.r _ _ rfl | exact H2.1.r _ _ rfl | exact H3.1.r _ _ rfl | exact H4.1.r _ _ rfl | exact H5.1.r _ _ rfl | exact H6.1.r _ _ rfl) ?_
    refine V_cV0 (mc' := 0) (ms' := 0) (M' := mX10_sign) 1 (sx_di dX9_readItems 21 rfl) lX9_30 vX10_sign (by first | exact H.1.k _ rfl | exact H1.1.k _ rfl | exact H2.1.k _ rfl | exact H3.1.k _ rfl | exact H4.1.k _ rfl | exact H5.1.k _ rfl | exact H6.1.k _ rfl) (by decide) rfl (Nat.le_of_ble_eq_true rfl) ⟨Nat.le_of_ble_eq_true rfl, Nat.le_of_ble_eq_true rfl⟩ ⟨Nat.le_refl _, Nat.le_refl _⟩ ?_
    refine c_signS ha H hp (fun w1 H1 f1 s1 => ?_)
    refine V_istore (sx_di dX9_readItems 22 rfl) (by decide) (rfl) ?_
    refine V_iload (sx_di dX9_readItems 23 rfl) rfl ?_
    refine V_iconst (v := -1) (sx_di dX9_readItems 24 rfl) (by decide) ?_
    refine V_icmp_eq (tgt := 55) (sx_di dX9_readItems 25 rfl) (by decide) (fun h45 => ?_) (fun h45 => ?_)
    · refine V_iconst (v := 1) (sx_di dX9_readItems 29 rfl) (by decide) ?_
      refine V_zret (sx_di dX9_readItems 30 rfl) rfl (by first | rfl | decide) (Nat.le_refl _) (Nat.le_refl _) ?_
      exact fin _ g s p w w1 1 (fun z => by rw [ix_end hb (Or.inl h45)] at z; omega) H1 (by rw [s1]; exact hs) f1 (by rw [h45]; rfl) h
    · refine V_iload (sx_di dX9_readItems 26 rfl) rfl ?_
      refine V_bipush (v := 59) (sx_di dX9_readItems 27 rfl) (by decide) ?_
      refine V_icmp_ne (tgt := 57) (sx_di dX9_readItems 28 rfl) (by decide) (fun h52 => ?_) (fun h52 => ?_)
      · have n9 : endc (cz_ T p) = false := decide_eq_false (fun z => z.elim h45 h52)
        refine V_iload (sx_di dX9_readItems 31 rfl) rfl ?_
        refine V_iload_n (i := 2) (sx_di dX9_readItems 32 rfl) rfl rfl ?_
        refine V_iload_n (i := 3) (sx_di dX9_readItems 33 rfl) rfl rfl ?_
        refine V_cS3 (mc' := 0) (ms' := 0) (M' := mX9_itemOf) 5 (sx_di dX9_readItems 34 rfl) lX9_56 vX9_itemOf (Nat.le_of_ble_eq_true rfl) ⟨Nat.le_of_ble_eq_true rfl, Nat.le_of_ble_eq_true rfl⟩ ⟨Nat.le_refl _, Nat.le_refl _⟩ ?_
        refine c_X9_itemOf hX hb ?_
        refine V_istore (sx_di dX9_readItems 35 rfl) (by decide) (rfl) ?_
        refine V_iload (sx_di dX9_readItems 36 rfl) rfl ?_
        refine V_iconst (v := -1) (sx_di dX9_readItems 37 rfl) (by decide) ?_
        refine V_icmp_eq (tgt := 82) (sx_di dX9_readItems 38 rfl) (by decide) (fun h69 => ?_) (fun h69 => ?_)
        · have nm : ¬ (ix_ b m (cz_ T p)) < m := fun z => nI_nm1 (show b + (ix_ b m (cz_ T p)) < 2 ^ 31 by omega) (by unfold iv9 at h69; rw [if_pos z] at h69; exact h69)
          refine V_iconst (v := 0) (sx_di dX9_readItems 45 rfl) (by decide) ?_
          refine V_zret (sx_di dX9_readItems 46 rfl) rfl (by first | rfl | decide) (Nat.le_refl _) (Nat.le_refl _) ?_
          exact fin _ g s p w w1 0 (fun z => nm z.1) H1 (by rw [s1]; exact hs) f1 (by rw [n9]; rfl) h
        · have lm : (ix_ b m (cz_ T p)) < m := Classical.byContradiction (fun z => h69 (by unfold iv9; rw [if_neg z]))
          have ev : iv9 b m (cz_ T p) = nI (b + (ix_ b m (cz_ T p))) := by unfold iv9; rw [if_pos lm]
          refine V_iload (sx_di dX9_readItems 39 rfl) rfl ?_
          refine V_iload (sx_di dX9_readItems 40 rfl) rfl ?_
          refine V_ishr (sx_di dX9_readItems 41 rfl) ?_
          refine V_iconst (v := 1) (sx_di dX9_readItems 42 rfl) (by decide) ?_
          refine V_iand (sx_di dX9_readItems 43 rfl) ?_
          refine V_if_eq (tgt := 84) (sx_di dX9_readItems 44 rfl) (by decide) (fun h79 => ?_) (fun h79 => ?_)
          · have gf : g (ix_ b m (cz_ T p)) = false := by
              cases e : g (ix_ b m (cz_ T p))
              · rfl
              · rw [ev, bit_v (by omega), hth _ lm, e, if_pos rfl] at h79
                exact absurd h79 (by decide)
            have hc : (ix_ b m (cz_ T p)) < m ∧ g (ix_ b m (cz_ T p)) = false := ⟨lm, gf⟩
            unfold itF at h
            rw [if_pos hc] at h
            have hq1 : skp_ T p + 1 ≤ T.length := cz_lt h45
            have hg := nb9_go (T := T) (j := b + (ix_ b m (cz_ T p))) hq1
            refine V_iload (sx_di dX9_readItems 47 rfl) rfl ?_
            refine V_iconst (v := 1) (sx_di dX9_readItems 48 rfl) (by decide) ?_
            refine V_iload (sx_di dX9_readItems 49 rfl) rfl ?_
            refine V_ishl (sx_di dX9_readItems 50 rfl) ?_
            refine V_ior (sx_di dX9_readItems 51 rfl) ?_
            refine V_iv (y := th ||| 1 <<< (nI (b + (ix_ b m (cz_ T p))) &&& 31)) (by rw [ev]) ?_
            refine V_istore (sx_di dX9_readItems 52 rfl) (by decide) (rfl) ?_
            refine V_aload_n (i := 0) (sx_di dX9_readItems 53 rfl) rfl rfl ?_
            refine V_getR (sx_di dX9_readItems 54 rfl) fX9_9 (fun _ => rfl) (by first | exact H.1.k _ rfl | exact H1.1.k _ rfl | exact H2.1.k _ rfl | exact H3.1.k _ rfl | exact H4.1.k _ rfl | exact H5.1.k _ rfl | exact H6.1.k _ rfl) (by first | exact H.1.r _ _ rfl | exact H1.1.r _ _ rfl | exact H2.1.r _ _ rfl | exact H3.1.r _ _ rfl | exact H4.1.r _ _ rfl | exact H5.1.r _ _ rfl | exact H6.1.r _ _ rfl) ?_
            refine V_dup (sx_di dX9_readItems 55 rfl) rfl ?_
            refine V_getI (sx_di dX9_readItems 56 rfl) fX9_20 (fun _ => rfl) (by first | exact H.1.k _ rfl | exact H1.1.k _ rfl | exact H2.1.k _ rfl | exact H3.1.k _ rfl | exact H4.1.k _ rfl | exact H5.1.k _ rfl | exact H6.1.k _ rfl) ?_
            refine V_iv (y := nI (skp_ T p)) (H1.2.2.1) ?_
            refine V_iconst (v := 1) (sx_di dX9_readItems 57 rfl) (by decide) ?_
            refine V_iadd (sx_di dX9_readItems 58 rfl) ?_
            refine V_iv (y := nI (skp_ T p + 1)) (nI_add _ 1) ?_
            refine V_putI (sx_di dX9_readItems 59 rfl) fX9_20 (fun _ => rfl) rfl (by first | exact H.1.k _ rfl | exact H1.1.k _ rfl | exact H2.1.k _ rfl | exact H3.1.k _ rfl | exact H4.1.k _ rfl | exact H5.1.k _ rfl | exact H6.1.k _ rfl) (rfl) (rfl) ?_
            refine V_hdS ha H1 (fun w2 H2 f2 s2 => ?_)
            refine V_aload_n (i := 0) (sx_di dX9_readItems 60 rfl) rfl rfl ?_
            refine V_iload (sx_di dX9_readItems 61 rfl) rfl ?_
            refine V_iv (y := nI (b + (ix_ b m (cz_ T p)))) (ev) ?_
            refine V_cV1 (mc' := 0) (ms' := 0) (M' := mX9_readBounded) 2 (sx_di dX9_readItems 62 rfl) lX9_60 vX9_readBounded (by first | exact H.1.k _ rfl | exact H1.1.k _ rfl | exact H2.1.k _ rfl | exact H3.1.k _ rfl | exact H4.1.k _ rfl | exact H5.1.k _ rfl | exact H6.1.k _ rfl) (by decide) rfl (Nat.le_of_ble_eq_true rfl) ⟨Nat.le_of_ble_eq_true rfl, Nat.le_of_ble_eq_true rfl⟩ ⟨Nat.le_refl _, Nat.le_refl _⟩ ?_
            refine c_bounded9 hX ha (show b + (ix_ b m (cz_ T p)) < 10 by omega) H2 hq1 (fun w3 H3 f3 s3 n3 => ?_)
            refine V_if_ne (tgt := 117) (sx_di dX9_readItems 63 rfl) (by decide) (fun h112 => ?_) (fun h112 => ?_)
            · have b112 := bz9t h112
              rw [if_pos b112] at h
              refine V_aload_n (i := 1) (sx_di dX9_readItems 66 rfl) rfl rfl ?_
              refine V_iload (sx_di dX9_readItems 67 rfl) rfl ?_
              refine V_iload (sx_di dX9_readItems 68 rfl) rfl ?_
              refine V_iv (y := nI (b + (ix_ b m (cz_ T p)))) (ev) ?_
              refine V_iadd (sx_di dX9_readItems 69 rfl) ?_
              refine V_iload_n (i := 2) (sx_di dX9_readItems 70 rfl) rfl rfl ?_
              refine V_isub (sx_di dX9_readItems 71 rfl) ?_
              refine V_iv (y := nI (o + (ix_ b m (cz_ T p)))) (by rw [nI_add, pk_sub (show b ≤ o + (b + (ix_ b m (cz_ T p))) by omega)]; exact congrArg nI (by omega)) ?_
              refine V_aload_n (i := 0) (sx_di dX9_readItems 72 rfl) rfl rfl ?_
              refine V_getR (sx_di dX9_readItems 73 rfl) fX9_9 (fun _ => rfl) (by first | exact H.1.k _ rfl | exact H1.1.k _ rfl | exact H2.1.k _ rfl | exact H3.1.k _ rfl | exact H4.1.k _ rfl | exact H5.1.k _ rfl | exact H6.1.k _ rfl) (by first | exact H.1.r _ _ rfl | exact H1.1.r _ _ rfl | exact H2.1.r _ _ rfl | exact H3.1.r _ _ rfl | exact H4.1.r _ _ rfl | exact H5.1.r _ _ rfl | exact H6.1.r _ _ rfl) ?_
              refine V_getI (sx_di dX9_readItems 74 rfl) fX9_64 (fun _ => rfl) (by first | exact H.1.k _ rfl | exact H1.1.k _ rfl | exact H2.1.k _ rfl | exact H3.1.k _ rfl | exact H4.1.k _ rfl | exact H5.1.k _ rfl | exact H6.1.k _ rfl) ?_
              refine V_iv (y := (nb9_ T (b + (ix_ b m (cz_ T p))) (skp_ T p + 1)).2.1) (n3 b112) ?_
              refine V_cV2 (mc' := 0) (ms' := 0) (M' := mX8_put) 1 (sx_di dX9_readItems 75 rfl) lX9_67 vX8_put ((a2_St H3.1 ha).1) (by decide) rfl (Nat.le_of_ble_eq_true rfl) ⟨Nat.le_of_ble_eq_true rfl, Nat.le_of_ble_eq_true rfl⟩ ⟨Nat.le_refl _, Nat.le_refl _⟩ ?_
              refine c_X8_put (a2_St H3.1 ha) (show o + (ix_ b m (cz_ T p)) < 48 by omega) ?_
              refine V_inc (c := 1) (sx_di dX9_readItems 76 rfl) (by decide) rfl (by decide) (rfl) ?_
              refine V_goto (tgt := 27) (sx_di dX9_readItems 77 rfl) (by decide) ?_
              have q1 : _ := ih (ug_ g (ix_ b m (cz_ T p))) (th ||| 1 <<< (nI (b + (ix_ b m (cz_ T p))) &&& 31)) (up_ s (o + (ix_ b m (cz_ T p))) (nb9_ T (b + (ix_ b m (cz_ T p))) (skp_ T p + 1)).2.1) (nb9_ T (b + (ix_ b m (cz_ T p))) (skp_ T p + 1)).2.2 (i + 1) _ (by rw [cn_ug m lm gf]; omega) (by omega) (fun k hk => ?_) hg.2 (sB_put (j := o + (ix_ b m (cz_ T p))) (v := (nb9_ T (b + (ix_ b m (cz_ T p))) (skp_ T p + 1)).2.1) ha H3) (by rw [sl_put, s3, s2, s1]; exact sg_up hs) (fun w4 H4 s4 f4 => h w4 H4 s4 (fS_tr f1 (fS_tr f2 (fS_tr f3 (fS_tr (fS_put ha) f4)))))
              · rw [← nI_1 (a := i)] at q1
                exact V_subk q1 ⟨rfl, rfl, rfl, rfl, rfl, rfl, rfl, trivial⟩
              · rw [bit_or (by omega) (by omega), hth k hk]
                unfold ug_
                by_cases e : k = (ix_ b m (cz_ T p))
                · rw [decide_eq_true e, decide_eq_true (by omega)]
                · rw [decide_eq_false e, decide_eq_false (by omega)]
            · rw [if_neg (bz9f h112)] at h
              refine V_iconst (v := 0) (sx_di dX9_readItems 64 rfl) (by decide) ?_
              refine V_zret (sx_di dX9_readItems 65 rfl) rfl (by first | rfl | decide) (Nat.le_refl _) (Nat.le_refl _) ?_
              exact h w3 H3 (by rw [s3, s2, s1]; exact hs) (fS_tr f1 (fS_tr f2 f3))
          · have gt : g (ix_ b m (cz_ T p)) = true := by
              cases e : g (ix_ b m (cz_ T p))
              · rw [ev, bit_v (by omega), hth _ lm, e, if_neg Bool.false_ne_true] at h79
                exact absurd rfl h79
              · rfl
            refine V_iconst (v := 0) (sx_di dX9_readItems 45 rfl) (by decide) ?_
            refine V_zret (sx_di dX9_readItems 46 rfl) rfl (by first | rfl | decide) (Nat.le_refl _) (Nat.le_refl _) ?_
            exact fin _ g s p w w1 0 (fun z => by rw [gt] at z; exact absurd z.2 (by decide)) H1 (by rw [s1]; exact hs) f1 (by rw [n9]; rfl) h
      · refine V_iconst (v := 1) (sx_di dX9_readItems 29 rfl) (by decide) ?_
        refine V_zret (sx_di dX9_readItems 30 rfl) rfl (by first | rfl | decide) (Nat.le_refl _) (Nat.le_refl _) ?_
        exact fin _ g s p w w1 1 (fun z => by rw [ix_end hb (Or.inr h52)] at z; omega) H1 (by rw [s1]; exact hs) f1 (by rw [h52]; rfl) h
set_option maxHeartbeats 2000000 in
set_option maxRecDepth 20000 in
theorem c_items9 {E : sxE} {T : List Int32} {a b m o n0 m0 n1 m1 p : Nat} {hr : Bool} {s : Nat → Int32} {w : hpW} {Q : Option Value → hpW → Prop} (hX : XO E) (ha : a2_ a) (hb : b + m ≤ 10) (ho : o + m ≤ 48) (hn : 4 * n1 ≤ 4 * n0 ∨ (4 * n1 ≤ 4 * n0 + m ∧ o = 4 + 4 * n0)) (hm : 2 * m1 ≤ 2 * m0 ∨ (2 * m1 ≤ 2 * m0 + m ∧ o = 36 + 2 * m0)) (H : sB T a p hr n1 m1 w) (hs : sg9 n0 m0 (hp_i w (a + 1)) s) (hp : p + 1 ≤ T.length) (h : (∀ w', sB T a (its_ T b m o s (p + 1)).2.2 hr n1 m1 w' → sg9 n1 m1 (hp_i w' (a + 1)) (its_ T b m o s (p + 1)).2.1 → fS a w w' → Q (some (.int (bz9 ((its_ T b m o s (p + 1)).1 && endc (cz_ T (its_ T b m o s (p + 1)).2.2))))) w')) : sx_C E mX9_readItems 8 0 0 [.ref 19, .ref a, .int (nI b), .int (nI (b + m)), .int (nI o)] w Q := by
  have hT := H.2.1.1
  have cn0 : ∀ m, cn_ (fun _ => false) m = 0 := fun m => by
    induction m with
    | zero => rfl
    | succ m ih => unfold cn_; rw [ih, if_neg Bool.false_ne_true]
  refine C_of (by decide +kernel) (Nat.le_of_ble_eq_true rfl) ?_
  refine V_aload_n (i := 1) (sx_di dX9_readItems 0 rfl) rfl rfl ?_
  refine V_iload_n (i := 2) (sx_di dX9_readItems 1 rfl) rfl rfl ?_
  refine V_iload_n (i := 3) (sx_di dX9_readItems 2 rfl) rfl rfl ?_
  refine V_iload (sx_di dX9_readItems 3 rfl) rfl ?_
  refine V_cV3 (mc' := 0) (ms' := 0) (M' := mX8_setUsual) 2 (sx_di dX9_readItems 4 rfl) lX9_52 vX8_setUsual ((a2_St H.1 ha).1) (by decide) rfl (Nat.le_of_ble_eq_true rfl) ⟨by show 2 + 1 ≤ 8; omega, by show 64 + 64 * (2) ≤ 64 * (8); omega⟩ ⟨Nat.le_refl _, Nat.le_refl _⟩ ?_
  refine c_X8_setUsual hX (a2_St H.1 ha) hb ho ?_
  have H1 := sB_sw (S := us9_ b m o (hp_i w (a + 1))) ha H
  refine V_aload_n (i := 0) (sx_di dX9_readItems 5 rfl) rfl rfl ?_
  refine V_getR (sx_di dX9_readItems 6 rfl) fX9_9 (fun _ => rfl) (by first | exact H.1.k _ rfl | exact H1.1.k _ rfl | exact H2.1.k _ rfl | exact H3.1.k _ rfl | exact H4.1.k _ rfl | exact H5.1.k _ rfl | exact H6.1.k _ rfl) (by first | exact H.1.r _ _ rfl | exact H1.1.r _ _ rfl | exact H2.1.r _ _ rfl | exact H3.1.r _ _ rfl | exact H4.1.r _ _ rfl | exact H5.1.r _ _ rfl | exact H6.1.r _ _ rfl) ?_
  refine V_dup (sx_di dX9_readItems 7 rfl) rfl ?_
  refine V_getI (sx_di dX9_readItems 8 rfl) fX9_20 (fun _ => rfl) (by first | exact H.1.k _ rfl | exact H1.1.k _ rfl | exact H2.1.k _ rfl | exact H3.1.k _ rfl | exact H4.1.k _ rfl | exact H5.1.k _ rfl | exact H6.1.k _ rfl) ?_
  refine V_iv (y := nI p) (H1.2.2.1) ?_
  refine V_iconst (v := 1) (sx_di dX9_readItems 9 rfl) (by decide) ?_
  refine V_iadd (sx_di dX9_readItems 10 rfl) ?_
  refine V_iv (y := nI (p + 1)) (nI_add _ 1) ?_
  refine V_putI (sx_di dX9_readItems 11 rfl) fX9_20 (fun _ => rfl) rfl (by first | exact H.1.k _ rfl | exact H1.1.k _ rfl | exact H2.1.k _ rfl | exact H3.1.k _ rfl | exact H4.1.k _ rfl | exact H5.1.k _ rfl | exact H6.1.k _ rfl) (rfl) (rfl) ?_
  refine V_hdS ha H1 (fun w2 H2 f2 s2 => ?_)
  refine V_iconst (v := 0) (sx_di dX9_readItems 12 rfl) (by decide) ?_
  refine V_istore (sx_di dX9_readItems 13 rfl) (by decide) (rfl) ?_
  refine V_iload_n (i := 2) (sx_di dX9_readItems 14 rfl) rfl rfl ?_
  refine V_istore (sx_di dX9_readItems 15 rfl) (by decide) (rfl) ?_
  refine V_sub (ls' := [(6, .int (nI b)), (5, .int 0), (4, .int (nI o)), (3, .int (nI (b + m))), (2, .int (nI b)), (1, .ref a), (0, .ref 19)]) ⟨rfl, rfl, rfl, rfl, rfl, rfl, rfl, trivial⟩ ?_
  exact ri_lp hX ha hb ho m (fun _ => false) 0 (us9_ b m o s) (p + 1) b w2 (by rw [cn0]; omega) rfl (fun k _ => b_0 _) hp H2 (by rw [s2, sl_sw]; exact sg_us hs hn hm) (fun w3 H3 s3 f3 => h w3 H3 s3 (fS_tr (fS_sw ha) (fS_tr f2 f3)))

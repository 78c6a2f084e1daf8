/-! walks of the stain -/
noncomputable def sx2 (s : Nat → Int32) (n c : Nat) (g : Int32) : Nat → Int32 := if c < n then up_ s (4 + 4 * c) (mn_ 9 (s (4 + 4 * c) + g)) else s
noncomputable def wd_ (A : AS) (g : Int32) (c : Nat) : Nat → Nat → Int32 := dm_ (F_ A) (z_s (sx2 (a_s A) (a_n A) c g)) (z_f (sx2 (a_s A) (a_n A) c g)) (sx2 (a_s A) (a_n A) c g 0) (a_n A) (z_m (sx2 (a_s A) (a_n A) c g)) (bg_ (sx2 (a_s A) (a_n A) c g) (a_n A) (a_r A))
theorem sx2_hi {s : Nat → Int32} {n c j : Nat} {g : Int32} (hn : n ≤ 8) (h : 36 ≤ j ∨ j < 4) : sx2 s n c g j = s j := by
  unfold sx2
  split
  · exact up_ne (by omega)
  · rfl
theorem z_s_x {s : Nat → Int32} {n c : Nat} {g : Int32} (hn : n ≤ 8) : z_s (sx2 s n c g) = z_s s ∧ z_f (sx2 s n c g) = z_f s := by
  constructor
  · funext x
    exact sx2_hi hn (by omega)
  · funext x
    exact sx2_hi hn (by omega)
theorem bg_up {s r : Nat → Int32} {n c : Nat} {v : Int32} (hn : n ≤ 8) (hc : c < n) : up_ (bg_ s n r) c v = bg_ (up_ s (4 + 4 * c) v) n r := by
  have e1 : bpr_ (up_ s (4 + 4 * c) v) n r = up_ (bpr_ s n r) c v := by
    funext j
    unfold bpr_
    by_cases c1 : j < n
    · rw [if_pos c1]
      by_cases e : j = c
      · rw [e, up_at, up_at]
      · rw [up_ne (by omega), up_ne e, if_pos c1]
    · rw [if_neg c1, up_ne (show j ≠ c by omega), if_neg c1]
      by_cases c2 : 16 ≤ j ∧ j < 16 + n
      · rw [if_pos c2, if_pos c2, up_ne (by omega)]
      · rw [if_neg c2, if_neg c2]
        by_cases c3 : 24 ≤ j ∧ j < 24 + n
        · rw [if_pos c3, if_pos c3, up_ne (by omega)]
        · rw [if_neg c3, if_neg c3]
          by_cases c4 : 32 ≤ j ∧ j < 32 + n
          · rw [if_pos c4, if_pos c4, up_ne (by omega)]
          · rw [if_neg c4, if_neg c4]
  unfold bg_
  rw [e1, up_ne (show 3 ≠ 4 + 4 * c by omega), up_ne (show 1 ≠ 4 + 4 * c by omega), up_ne (show 2 ≠ 4 + 4 * c by omega)]
  rw [up_cm _ _ _ (show 43 ≠ c by omega), up_cm _ _ _ (show 42 ≠ c by omega), up_cm _ _ _ (show 41 ≠ c by omega)]
theorem OKT_up {n m : Nat} {s : Nat → Int32} {c q : Nat} (hn : n ≤ 8) (hc : c < n) (hq : q ≤ 9) (H : OKT n m s) : OKT n m (up_ s (4 + 4 * c) (nI q)) := by
  obtain ⟨a, b, d, e, f, g, h⟩ := H
  refine ⟨a, by rw [up_ne (by omega)]; exact b, by rw [up_ne (by omega)]; exact d, by rw [up_ne (by omega)]; exact e, by rw [up_ne (by omega)]; exact f, fun k i hk hi => ?_, fun k hk => by rw [up_ne (by omega), up_ne (by omega)]; exact h k hk⟩
  unfold up_
  split
  · exact ⟨q, hq, rfl⟩
  · exact g k i hk hi
theorem mn_g {k g : Nat} (hk : k ≤ 9) (hg : g ≤ 5) : ∃ q, q ≤ 9 ∧ mn_ 9 (nI k + nI g) = nI q := by
  have key : ∀ k, k < 10 → ∀ g, g < 6 → mn_ 9 (nI k + nI g) = nI (if k + g < 9 then k + g else 9) := by decide +kernel
  exact ⟨_, by split <;> omega, key k (by omega) g (by omega)⟩
theorem OKT_x {A : AS} (V : AV A) (h0 : 0 < a_n A) {g : Nat} (hg : g ≤ 5) (c : Nat) : OKT (a_n A) (a_m A) (sx2 (a_s A) (a_n A) c (nI g)) := by
  have H := V.2.2.1.2.2.1 h0
  unfold sx2
  split
  · next hc =>
    obtain ⟨k, hk, ek⟩ := H.2.2.2.2.2.1 c 0 hc (by omega)
    have ek : a_s A (4 + 4 * c) = nI k := ek
    obtain ⟨q, hq, eq⟩ := mn_g hk hg
    rw [ek, eq]
    exact OKT_up V.2.2.1.1 hc hq H
  · exact H
theorem OKF_bg {n m : Nat} {s r : Nat → Int32} (hn : n ≤ 8) (H : OKT n m s) (R : OKF n m r) : OKF n m (bg_ s n r) := by
  obtain ⟨hm0, b, d1, ⟨f, hf, ef⟩, ⟨c, hc, ec⟩, hh, hfo⟩ := H
  have lo : ∀ j, j < 41 → bg_ s n r j = bpr_ s n r j := fun j hj => bg_lo hj
  refine ⟨⟨fun h hh2 => ?_, fun z => ?_, fun z => ?_⟩, ?_, ?_, ?_, fun j hj => ?_⟩
  · rw [lo h (by omega), lo (8 + h) (by omega), lo (16 + h) (by omega), lo (24 + h) (by omega), lo (32 + h) (by omega)]
    unfold bpr_
    refine ⟨?_, ?_, ?_, ?_, ?_⟩
    · rw [if_pos hh2]; exact hh h 0 hh2 (by omega)
    · rw [if_neg (by omega), if_neg (by omega), if_neg (by omega), if_neg (by omega)]; unfold zr_; rw [if_pos (by omega)]; decide
    · rw [if_neg (by omega), if_pos (by omega), Nat.add_sub_cancel_left]; exact hh h 1 hh2 (by omega)
    · rw [if_neg (by omega), if_neg (by omega), if_pos (by omega), Nat.add_sub_cancel_left]; exact hh h 2 hh2 (by omega)
    · rw [if_neg (by omega), if_neg (by omega), if_neg (by omega), if_pos (by omega), Nat.add_sub_cancel_left]; exact hh h 3 hh2 (by omega)
  · refine ⟨f, hf, ?_⟩
    unfold bg_
    rw [up_at]; exact ef
  · unfold bg_
    rw [up_ne (by omega), up_at]
    rcases d1 with d1 | ⟨p, hp, d1⟩
    · exact Or.inl (by rw [d1]; rfl)
    · refine Or.inr ⟨p, hp, ?_⟩
      rw [d1]
      exact if_neg (fun q => absurd ((nI_eq (a := p) (b := 8) (by omega) (by omega)).mp q) (by omega))
  · unfold bg_
    rw [up_ne (by omega), up_ne (by omega), up_at]
    exact ⟨c, by omega, ec⟩
  · unfold bg_
    rw [up_ne (by omega), up_ne (by omega), up_ne (by omega), bpr_z hn (by omega) (by omega)]
    exact ⟨0, by omega, rfl⟩
  · unfold bg_
    rw [up_ne (by omega), up_ne (by omega), up_ne (by omega)]
    unfold bpr_ zr_
    rw [if_neg (by omega), if_neg (by omega), if_neg (by omega), if_neg (by omega), if_neg (by omega)]
    exact R.2.2.2.1
  · unfold bg_
    rw [up_ne (by omega), up_ne (by omega), up_ne (by omega)]
    unfold bpr_ zr_
    rw [if_neg (by omega), if_neg (by omega), if_neg (by omega), if_neg (by omega), if_neg (by omega)]
    exact R.2.2.2.2 j hj
theorem wd_ok {A : AS} (V : AV A) (h0 : 0 < a_n A) {g : Nat} (hg : g ≤ 5) (c : Nat) : ∀ k, OKS (a_n A) (a_m A) (wd_ A (nI g) c k) := by
  have T := OKT_x V h0 hg c
  exact dm_ok V.2.2.1.1 (OKF_bg V.2.2.1.1 T V.2.2.2.1.1).1 (fun h hh => T.2.2.2.2.2.1 h 0 hh (by omega)) (fun f hf => by
    obtain ⟨q, hq, e⟩ := (T.2.2.2.2.2.2 f hf).2
    have hm6 := V.2.2.1.2.1
    exact ⟨q, hq, by rw [z_f_n _ (by omega)]; exact e⟩)
/-! the class -/
theorem k_begin {E : sxE} {Q : Option Value → hpW → Prop} {A : AS} {w : hpW} {t : Nat} (V : AV A) (H : CR A w) (ht : hp_r w 16 4 = some t) (h : ∀ w', CR A w' → fR w w' → tb3 w w' → AW A w' (z_m (a_s A)) (bg_ (a_s A) (a_n A) (a_r A)) → Q none w') : sx_C E mX7_begin 3 0 0 [.ref 64, .ref t] w Q := by
  obtain ⟨hst, hn, c3, ht2⟩ := CR_t V H ht
  refine e_begin (ss_64 H.1) hst (by omega) ht2 V.2.2.1.1 c3.2.2.2.2.2.1 c3.2.2.2.2.2.2.1 (fun J f hv hm _ => ?_)
  have fQ : fr_ w J QT := fun b hb => f b (Classical.byContradiction fun z => hb (Or.inl (Or.inl (by omega))))
  refine h _ (CR_q V t fQ H) (fR_q t fQ) (fun b b1 b2 => f b (by omega)) ⟨t, ?_, ra_64 w t _, hv _, hm⟩
  show hp_u (hp_r w) 64 0 (some t) 16 4 = some t
  rw [hp_u_nk _ _ (by omega)]
  exact ht
set_option maxHeartbeats 2000000 in
set_option maxRecDepth 20000 in
theorem k_mindMore {E : sxE} {Q : Option Value → hpW → Prop} {A : AS} {w : hpW} {c : Nat} {g : Int32} {s r : Nat → Int32} (VA : AV A) (H : CR A w) (hc : c < a_n A) (hA : AW A w (z_m s) (bg_ s (a_n A) r)) (h : ∀ w', CR A w' → fR w w' → tb3 w w' → AW A w' (z_m (up_ s (4 + 4 * c) (mn_ 9 (s (4 + 4 * c) + g)))) (bg_ (up_ s (4 + 4 * c) (mn_ 9 (s (4 + 4 * c) + g))) (a_n A) r) → Q none w') : sx_C E mX7_mindMore 2 0 0 [.ref 64, .int (nI c), .int g] w Q := by
  have hB := H.1
  have hn8 := VA.2.2.1.1
  obtain ⟨t, a, b, hv, hm⟩ := id hA
  have em : hp_i w 65 c = s (4 + 4 * c) := hm c hc
  generalize hx : mn_ 9 (s (4 + 4 * c) + g) = x at h
  have fQ : fr_ w (hp_u (hp_u (hp_i w) 65 c x) 66 c x) QT := fun q hq => by
    funext i
    rw [hp_u_nk _ _ (fun z => hq (Or.inl (Or.inl (by omega)))), hp_u_nk _ _ (fun z => hq (Or.inl (Or.inl (by omega))))]
  have hv2 : vw_ (a_n A) (hp_u (hp_i w) 65 c x) 64 (bg_ s (a_n A) r) := by
    obtain ⟨v0, v7, v8, v9, v10, v11⟩ := hv
    refine ⟨fun h hh => ?_, ?_, ?_, ?_, ?_, ?_⟩
    · rw [hp_u_nk _ _ (by omega), hp_u_nk _ _ (by omega), hp_u_nk _ _ (by omega), hp_u_nk _ _ (by omega), hp_u_nk _ _ (by omega)]
      exact v0 h hh
    all_goals (rw [hp_u_nk _ _ (by omega)]; assumption)
  have hv3 := vw_u2 (h := c) hn8 hc x hv2
  rw [Nat.zero_add, bg_up hn8 hc] at hv3
  have hz := h _ (CR_q0 VA fQ H) (fR_q0 fQ) (fun q q1 q2 => by
    rw [hp_i_wi]
    funext i
    rw [hp_u_nk _ _ (by omega), hp_u_nk _ _ (by omega)]) ⟨t, a, b, hv3, fun h hh => by
      rw [hp_i_wi, hp_u_nk _ _ (by omega)]
      show hp_u (hp_i w) 65 c x 65 h = up_ s (4 + 4 * c) x (4 + 4 * h)
      by_cases e : h = c
      · rw [e, hp_u_at, up_at]
      · rw [hp_u_nk _ _ (by omega), up_ne (by omega)]
        exact hm h hh⟩
  refine C_of (by decide +kernel) (Nat.le_of_ble_eq_true rfl) ?_
  refine V_iload_n (i := 1) (sx_di dX7_mindMore 0 rfl) rfl rfl ?_
  refine V_ifN_lt (a := c) (rfl) (by omega) (tgt := 41) (sx_di dX7_mindMore 1 rfl) (by decide) (fun h1 => absurd h1 (by omega)) (fun _ => ?_)
  refine V_iload_n (i := 1) (sx_di dX7_mindMore 2 rfl) rfl rfl ?_
  refine V_bipush (v := 8) (sx_di dX7_mindMore 3 rfl) (by decide) ?_
  refine V_icN_ge (a := c) (b := 8) (rfl) (rfl) (by omega) (by omega) (tgt := 41) (sx_di dX7_mindMore 4 rfl) (by decide) (fun h7 => absurd h7 (by omega)) (fun _ => ?_)
  refine V_aload_n (i := 0) (sx_di dX7_mindMore 5 rfl) rfl rfl ?_
  refine V_getR (sx_di dX7_mindMore 6 rfl) fX7_9 (fun _ => rfl) (hB.k _ rfl) (hB.r _ _ rfl) ?_
  refine V_iload_n (i := 1) (sx_di dX7_mindMore 7 rfl) rfl rfl ?_
  refine V_bipush (v := 9) (sx_di dX7_mindMore 8 rfl) (by decide) ?_
  refine V_aload_n (i := 0) (sx_di dX7_mindMore 9 rfl) rfl rfl ?_
  refine V_getR (sx_di dX7_mindMore 10 rfl) fX7_9 (fun _ => rfl) (hB.k _ rfl) (hB.r _ _ rfl) ?_
  refine V_iload_n (i := 1) (sx_di dX7_mindMore 11 rfl) rfl rfl ?_
  refine V_ialdN (n := 8) (j := c) (sx_di dX7_mindMore 12 rfl) (hB.k _ rfl) (rfl) (by omega) (by omega) ?_
  refine V_iv (y := s (4 + 4 * c)) (em) ?_
  refine V_iload_n (i := 2) (sx_di dX7_mindMore 13 rfl) rfl rfl ?_
  refine V_iadd (sx_di dX7_mindMore 14 rfl) ?_
  refine V_mmin (sx_di dX7_mindMore 15 rfl) (sx_a4 19 rfl rfl) (sx_a3 135 rfl rfl) (sx_a1 22 rfl rfl) (sx_a3 136 rfl rfl) ⟨Nat.le_of_ble_eq_true rfl, Nat.le_of_ble_eq_true rfl, Nat.le_refl _, Nat.le_refl _⟩ ?_
  refine V_iv (y := x) (hx) ?_
  refine V_iastN (n := 8) (j := c) (sx_di dX7_mindMore 16 rfl) (hB.k _ rfl) (rfl) (by omega) (by omega) ?_
  refine V_aload_n (i := 0) (sx_di dX7_mindMore 17 rfl) rfl rfl ?_
  refine V_getR (sx_di dX7_mindMore 18 rfl) fX7_15 (fun _ => rfl) (hB.k _ rfl) (hB.r _ _ rfl) ?_
  refine V_iload_n (i := 1) (sx_di dX7_mindMore 19 rfl) rfl rfl ?_
  refine V_aload_n (i := 0) (sx_di dX7_mindMore 20 rfl) rfl rfl ?_
  refine V_getR (sx_di dX7_mindMore 21 rfl) fX7_9 (fun _ => rfl) (hB.k _ rfl) (hB.r _ _ rfl) ?_
  refine V_iload_n (i := 1) (sx_di dX7_mindMore 22 rfl) rfl rfl ?_
  refine V_ialdN (n := 8) (j := c) (sx_di dX7_mindMore 23 rfl) (hB.k _ rfl) (rfl) (by omega) (by omega) ?_
  refine V_iv (y := x) (hp_u_at (hp_i w) 65 c x) ?_
  refine V_iastN (n := 8) (j := c) (sx_di dX7_mindMore 24 rfl) (hB.k _ rfl) (rfl) (by omega) (by omega) ?_
  refine V_vret (sx_di dX7_mindMore 25 rfl) rfl (Nat.le_refl _) (Nat.le_refl _) ?_
  exact hz
def TK_ (A : AS) (g : Int32) (w : hpW) (z : Nat) : Prop := ∀ c k, c ≤ a_n A → 0 < k → k ≤ 40 → 41 * c + k < z → hp_i w 380 (c * 41 + k) = wd_ A g c k 42
set_option maxHeartbeats 2000000 in
set_option maxRecDepth 20000 in
theorem fw_in {E : sxE} {A : AS} {w : hpW} {Q : Option Value → hpW → Prop} (VA : AV A) (h0 : 0 < a_n A) {g c : Nat} (hg : g ≤ 5) (hc : c ≤ a_n A) (hq : ∀ w1, CR A w1 → fR w w1 → TK_ A (nI g) w1 (41 * c + 41) → V E mX11_fillWalks (sx_rm 7 0 0) 0 0 0 0 90 [(2, .int (nI c)), (1, .int (nI g)), (0, .ref 16)] [] w1 Q) : ∀ d k w1, k + d = 41 → 0 < k → CR A w1 → fR w w1 → AW A w1 (z_m (sx2 (a_s A) (a_n A) c (nI g))) (wd_ A (nI g) c (k - 1)) → TK_ A (nI g) w1 (41 * c + k) → V E mX11_fillWalks (sx_rm 7 0 0) 0 0 0 0 46 [(3, .int (nI k)), (2, .int (nI c)), (1, .int (nI g)), (0, .ref 16)] [] w1 Q := by
  intro d
  have hn8 := VA.2.2.1.1
  induction d with
  | zero =>
    intro k w1 hk k0 H1 f1 hA hT
    have hB := H1.1
    have e : k = 41 := by omega
    subst e
    refine V_iload_n (i := 3) (sx_di dX11_fillWalks 24 rfl) rfl rfl ?_
    refine V_bipush (v := 40) (sx_di dX11_fillWalks 25 rfl) (by decide) ?_
    refine V_icN_gt (a := 41) (b := 40) (rfl) (rfl) (by omega) (by omega) (tgt := 90) (sx_di dX11_fillWalks 26 rfl) (by decide) (fun _ => ?_) (fun h49 => absurd h49 (by omega))
    refine V_sub (ls' := [(2, .int (nI c)), (1, .int (nI g)), (0, .ref 16)]) ⟨rfl, rfl, rfl, trivial⟩ ?_
    exact hq w1 H1 f1 hT
  | succ d ih =>
    intro k w1 hk k0 H1 f1 hA hT
    have hB := H1.1
    have hzz := z_s_x (s := a_s A) (n := a_n A) (c := c) (g := nI g) hn8
    have hz0 : sx2 (a_s A) (a_n A) c (nI g) 0 = a_s A 0 := sx2_hi hn8 (by omega)
    have ew : dv_ (F_ A) (z_s (a_s A)) (z_f (a_s A)) (a_s A 0) (a_n A) (z_m (sx2 (a_s A) (a_n A) c (nI g))) (wd_ A (nI g) c (k - 1)) = wd_ A (nI g) c k := by
      rw [← hzz.1, ← hzz.2, ← hz0]
      obtain ⟨k2, rfl⟩ : ∃ k2, k = k2 + 1 := ⟨k - 1, by omega⟩
      rw [Nat.add_sub_cancel]
      rfl
    refine V_iload_n (i := 3) (sx_di dX11_fillWalks 24 rfl) rfl rfl ?_
    refine V_bipush (v := 40) (sx_di dX11_fillWalks 25 rfl) (by decide) ?_
    refine V_icN_gt (a := k) (b := 40) (rfl) (rfl) (by omega) (by omega) (tgt := 90) (sx_di dX11_fillWalks 26 rfl) (by decide) (fun h49 => absurd h49 (by omega)) (fun _ => ?_)
    refine V_aload_n (i := 0) (sx_di dX11_fillWalks 27 rfl) rfl rfl ?_
    refine V_getR (sx_di dX11_fillWalks 28 rfl) fX11_64 (fun _ => rfl) (by first | exact hB.k _ rfl | exact hB2.k _ rfl) (by first | exact hB.r _ _ rfl | exact hB2.r _ _ rfl) ?_
    refine V_aload_n (i := 0) (sx_di dX11_fillWalks 29 rfl) rfl rfl ?_
    refine V_getR (sx_di dX11_fillWalks 30 rfl) fX11_28 (fun _ => rfl) (by first | exact hB.k _ rfl | exact hB2.k _ rfl) (by first | exact hB.r _ _ rfl | exact hB2.r _ _ rfl) ?_
    refine V_cV0 (mc' := 0) (ms' := 0) (M' := mX2_holding) 1 (sx_di dX11_fillWalks 31 rfl) lX11_195 vX2_holding (by first | exact hB.k _ rfl | exact hB2.k _ rfl) (by decide) rfl (Nat.le_of_ble_eq_true rfl) ⟨Nat.le_of_ble_eq_true rfl, Nat.le_of_ble_eq_true rfl⟩ ⟨Nat.le_refl _, Nat.le_refl _⟩ ?_
    refine e_holding VA H1 (fun lv hl => ?_)
    refine V_cV1 (mc' := 0) (ms' := 0) (M' := mX7_passDay) 6 (sx_di dX11_fillWalks 32 rfl) lX11_262 vX7_passDay (by first | exact hB.k _ rfl | exact hB2.k _ rfl) (by decide) rfl (Nat.le_of_ble_eq_true rfl) ⟨Nat.le_of_ble_eq_true rfl, Nat.le_of_ble_eq_true rfl⟩ ⟨Nat.le_refl _, Nat.le_refl _⟩ ?_
    refine k_passA VA H1 h0 hA (wd_ok VA h0 hg c (k - 1)) hl (fun w2 x2 H2 f2 t2 hA2 => ?_)
    rw [ew] at hA2
    have hB2 := H2.1
    have e42 : hp_i w2 64 9 = wd_ A (nI g) c k 42 := by
      obtain ⟨_, _, _, hv, _⟩ := id hA2
      exact hv.2.2.2.1
    obtain ⟨H3, f3⟩ := CR_380 (b := 380) (k := c * 41 + k) (x := wd_ A (nI g) c k 42) (m0 := fun _ => 0) (r := fun _ => 0) VA (by omega) (by omega) H2
    have hA3 := AW_380 (b := 380) (k := c * 41 + k) (x := wd_ A (nI g) c k 42) (by omega) hA2
    have hT3 : TK_ A (nI g) (hp_si w2 380 (c * 41 + k) (wd_ A (nI g) c k 42)) (41 * c + (k + 1)) := fun c2 k2 hc2 hk2 hk3 hz => by
      rw [hp_i_si]
      by_cases hx : c2 * 41 + k2 = c * 41 + k
      · rw [if_pos ⟨rfl, hx⟩, show c2 = c by omega, show k2 = k by omega]
      · rw [if_neg (fun q => hx q.2), t2 380 (by omega) (by omega)]; exact hT c2 k2 hc2 hk2 hk3 (by omega)
    have q1 := ih (k + 1) _ (by omega) (by omega) H3 (fR_tr f1 (fR_tr f2 f3)) (by rw [Nat.add_sub_cancel]; exact hA3) hT3
    rw [← nI_1] at q1
    refine V_pop (sx_di dX11_fillWalks 33 rfl) rfl ?_
    refine V_aload_n (i := 0) (sx_di dX11_fillWalks 34 rfl) rfl rfl ?_
    refine V_iload_n (i := 2) (sx_di dX11_fillWalks 35 rfl) rfl rfl ?_
    refine V_bipush (v := 41) (sx_di dX11_fillWalks 36 rfl) (by decide) ?_
    refine V_imul (sx_di dX11_fillWalks 37 rfl) ?_
    refine V_iload_n (i := 3) (sx_di dX11_fillWalks 38 rfl) rfl rfl ?_
    refine V_iadd (sx_di dX11_fillWalks 39 rfl) ?_
    refine V_aload_n (i := 0) (sx_di dX11_fillWalks 40 rfl) rfl rfl ?_
    refine V_getR (sx_di dX11_fillWalks 41 rfl) fX11_64 (fun _ => rfl) (by first | exact hB.k _ rfl | exact hB2.k _ rfl) (by first | exact hB.r _ _ rfl | exact hB2.r _ _ rfl) ?_
    refine V_getI (sx_di dX11_fillWalks 42 rfl) fX11_161 (fun _ => rfl) (by first | exact hB.k _ rfl | exact hB2.k _ rfl) ?_
    refine V_iv (y := wd_ A (nI g) c k 42) (e42) ?_
    refine V_cV2 (mc' := 0) (ms' := 0) (M' := mX11_enter) 1 (sx_di dX11_fillWalks 43 rfl) lX11_311 vX11_enter (by first | exact hB.k _ rfl | exact hB2.k _ rfl) (by decide) rfl (Nat.le_of_ble_eq_true rfl) ⟨Nat.le_of_ble_eq_true rfl, Nat.le_of_ble_eq_true rfl⟩ ⟨Nat.le_refl _, Nat.le_refl _⟩ ?_
    refine c_X11_enterN (j := ((c * 41) + k)) (by first | exact hB.k _ rfl | exact hB2.k _ rfl) (by first | exact hB.r _ _ rfl | exact hB2.r _ _ rfl) (by first | exact hB.k _ rfl | exact hB2.k _ rfl) (nx_add (nx_mul (rfl) (rfl)) (rfl)) (by omega) ?_
    refine V_inc (c := 1) (sx_di dX11_fillWalks 44 rfl) (by decide) rfl (by decide) (rfl) ?_
    refine V_goto (tgt := 46) (sx_di dX11_fillWalks 45 rfl) (by decide) ?_
    exact V_subk q1 ⟨rfl, rfl, rfl, rfl, trivial⟩
set_option maxHeartbeats 2000000 in
set_option maxRecDepth 20000 in
theorem fw_out {E : sxE} {A : AS} {w : hpW} {Q : Option Value → hpW → Prop} (VA : AV A) (h0 : 0 < a_n A) {g : Nat} (hg : g ≤ 5) (hq : ∀ w1, CR A w1 → fR w w1 → TK_ A (nI g) w1 (41 * (a_n A + 1)) → Q none w1) : ∀ d c w1, c + d = a_n A + 1 → CR A w1 → fR w w1 → TK_ A (nI g) w1 (41 * c) → V E mX11_fillWalks (sx_rm 7 0 0) 0 0 0 0 2 [(2, .int (nI c)), (1, .int (nI g)), (0, .ref 16)] [] w1 Q := by
  intro d
  have hn8 := VA.2.2.1.1
  induction d with
  | zero =>
    intro c w1 hc H1 f1 hT
    obtain ⟨t, hB, ht, hst, hn, _, _⟩ := CRn VA H1
    have e : c = a_n A + 1 := by omega
    subst e
    refine V_iload_n (i := 2) (sx_di dX11_fillWalks 2 rfl) rfl rfl ?_
    refine V_aload_n (i := 0) (sx_di dX11_fillWalks 3 rfl) rfl rfl ?_
    refine V_getR (sx_di dX11_fillWalks 4 rfl) fX11_48 (fun _ => rfl) (hB.k _ rfl) (ht) ?_
    refine V_cV0 (mc' := 0) (ms' := 0) (M' := mX8_houseCount) 2 (sx_di dX11_fillWalks 5 rfl) lX11_308 vX8_houseCount (hst.1) (by decide) rfl (Nat.le_of_ble_eq_true rfl) ⟨Nat.le_of_ble_eq_true rfl, Nat.le_of_ble_eq_true rfl⟩ ⟨Nat.le_refl _, Nat.le_refl _⟩ ?_
    refine c_X8_houseCount (hst.1) (hc8 hn hn8) ?_
    refine V_iv (y := nI (a_n A)) (hn) ?_
    refine V_icN_gt (a := (a_n A + 1)) (b := (a_n A)) (rfl) (rfl) (by omega) (by omega) (tgt := 96) (sx_di dX11_fillWalks 6 rfl) (by decide) (fun _ => ?_) (fun h10 => absurd h10 (by omega))
    refine V_vret (sx_di dX11_fillWalks 48 rfl) rfl (Nat.le_refl _) (Nat.le_refl _) ?_
    exact hq w1 H1 f1 hT
  | succ d ih =>
    intro c w1 hc H1 f1 hT
    obtain ⟨t, hB, ht, hst, hn, _, _⟩ := CRn VA H1
    have nx : ∀ w2, CR A w2 → fR w1 w2 → TK_ A (nI g) w2 (41 * c + 41) → V E mX11_fillWalks (sx_rm 7 0 0) 0 0 0 0 90 [(2, .int (nI c)), (1, .int (nI g)), (0, .ref 16)] [] w2 Q := fun w2 H2 g2 hT2 => by
      have q1 := ih (c + 1) w2 (by omega) H2 (fR_tr f1 g2) (by rw [show 41 * (c + 1) = 41 * c + 41 by omega]; exact hT2)
      rw [← nI_1] at q1
      refine V_inc (c := 1) (sx_di dX11_fillWalks 46 rfl) (by decide) rfl (by decide) (rfl) ?_
      refine V_goto (tgt := 2) (sx_di dX11_fillWalks 47 rfl) (by decide) ?_
      exact V_subk q1 ⟨rfl, rfl, rfl, trivial⟩
    refine V_iload_n (i := 2) (sx_di dX11_fillWalks 2 rfl) rfl rfl ?_
    refine V_aload_n (i := 0) (sx_di dX11_fillWalks 3 rfl) rfl rfl ?_
    refine V_getR (sx_di dX11_fillWalks 4 rfl) fX11_48 (fun _ => rfl) (hB.k _ rfl) (ht) ?_
    refine V_cV0 (mc' := 0) (ms' := 0) (M' := mX8_houseCount) 2 (sx_di dX11_fillWalks 5 rfl) lX11_308 vX8_houseCount (hst.1) (by decide) rfl (Nat.le_of_ble_eq_true rfl) ⟨Nat.le_of_ble_eq_true rfl, Nat.le_of_ble_eq_true rfl⟩ ⟨Nat.le_refl _, Nat.le_refl _⟩ ?_
    refine c_X8_houseCount (hst.1) (hc8 hn hn8) ?_
    refine V_iv (y := nI (a_n A)) (hn) ?_
    refine V_icN_gt (a := c) (b := (a_n A)) (rfl) (rfl) (by omega) (by omega) (tgt := 96) (sx_di dX11_fillWalks 6 rfl) (by decide) (fun h10 => absurd h10 (by omega)) (fun _ => ?_)
    refine V_aload_n (i := 0) (sx_di dX11_fillWalks 7 rfl) rfl rfl ?_
    refine V_getR (sx_di dX11_fillWalks 8 rfl) fX11_64 (fun _ => rfl) (hB.k _ rfl) (hB.r _ _ rfl) ?_
    refine V_aload_n (i := 0) (sx_di dX11_fillWalks 9 rfl) rfl rfl ?_
    refine V_getR (sx_di dX11_fillWalks 10 rfl) fX11_48 (fun _ => rfl) (hB.k _ rfl) (ht) ?_
    refine V_cV1 (mc' := 0) (ms' := 0) (M' := mX7_begin) 3 (sx_di dX11_fillWalks 11 rfl) lX11_140 vX7_begin (hB.k _ rfl) (by decide) rfl (Nat.le_of_ble_eq_true rfl) ⟨Nat.le_of_ble_eq_true rfl, Nat.le_of_ble_eq_true rfl⟩ ⟨Nat.le_refl _, Nat.le_refl _⟩ ?_
    refine k_begin VA H1 ht (fun w2 H2 f2 t2 hA2 => ?_)
    obtain ⟨tt, hB2, ht2, hst2, hn2, _, _⟩ := CRn VA H2
    refine V_iload_n (i := 2) (sx_di dX11_fillWalks 12 rfl) rfl rfl ?_
    refine V_aload_n (i := 0) (sx_di dX11_fillWalks 13 rfl) rfl rfl ?_
    refine V_getR (sx_di dX11_fillWalks 14 rfl) fX11_48 (fun _ => rfl) (hB2.k _ rfl) (ht2) ?_
    refine V_cV0 (mc' := 0) (ms' := 0) (M' := mX8_houseCount) 2 (sx_di dX11_fillWalks 15 rfl) lX11_308 vX8_houseCount (hst2.1) (by decide) rfl (Nat.le_of_ble_eq_true rfl) ⟨Nat.le_of_ble_eq_true rfl, Nat.le_of_ble_eq_true rfl⟩ ⟨Nat.le_refl _, Nat.le_refl _⟩ ?_
    refine c_X8_houseCount (hst2.1) (hc8 hn2 hn8) ?_
    refine V_iv (y := nI (a_n A)) (hn2) ?_
    refine V_icN_ge (a := c) (b := (a_n A)) (rfl) (rfl) (by omega) (by omega) (tgt := 44) (sx_di dX11_fillWalks 16 rfl) (by decide) (fun h32 => ?_) (fun h32 => ?_)
    · have es : sx2 (a_s A) (a_n A) c (nI g) = a_s A := if_neg (by omega)
      refine V_iconst (v := 1) (sx_di dX11_fillWalks 22 rfl) (by decide) ?_
      refine V_istore_n (i := 3) (sx_di dX11_fillWalks 23 rfl) rfl (by decide) (rfl) ?_
      refine V_sub (ls' := [(3, .int (nI 1)), (2, .int (nI c)), (1, .int (nI g)), (0, .ref 16)]) ⟨rfl, rfl, rfl, rfl, trivial⟩ ?_
      exact fw_in VA h0 hg (by omega) nx 40 1 w2 (by omega) (by omega) H2 f2 (by unfold wd_; rw [es]; exact hA2) (fun c2 k2 a b d e => by rw [t2 380 (by omega) (by omega)]; exact hT c2 k2 a b d (by omega))
    · have es : sx2 (a_s A) (a_n A) c (nI g) = up_ (a_s A) (4 + 4 * c) (mn_ 9 (a_s A (4 + 4 * c) + nI g)) := if_pos (by omega)
      refine V_aload_n (i := 0) (sx_di dX11_fillWalks 17 rfl) rfl rfl ?_
      refine V_getR (sx_di dX11_fillWalks 18 rfl) fX11_64 (fun _ => rfl) (hB2.k _ rfl) (hB2.r _ _ rfl) ?_
      refine V_iload_n (i := 2) (sx_di dX11_fillWalks 19 rfl) rfl rfl ?_
      refine V_iload_n (i := 1) (sx_di dX11_fillWalks 20 rfl) rfl rfl ?_
      refine V_cV2 (mc' := 0) (ms' := 0) (M' := mX7_mindMore) 2 (sx_di dX11_fillWalks 21 rfl) lX11_365 vX7_mindMore (hB2.k _ rfl) (by decide) rfl (Nat.le_of_ble_eq_true rfl) ⟨Nat.le_of_ble_eq_true rfl, Nat.le_of_ble_eq_true rfl⟩ ⟨Nat.le_refl _, Nat.le_refl _⟩ ?_
      refine k_mindMore VA H2 (by omega) hA2 (fun w3 H3 f3 t3 hA3 => ?_)
      refine V_iconst (v := 1) (sx_di dX11_fillWalks 22 rfl) (by decide) ?_
      refine V_istore_n (i := 3) (sx_di dX11_fillWalks 23 rfl) rfl (by decide) (rfl) ?_
      refine V_sub (ls' := [(3, .int (nI 1)), (2, .int (nI c)), (1, .int (nI g)), (0, .ref 16)]) ⟨rfl, rfl, rfl, rfl, trivial⟩ ?_
      exact fw_in VA h0 hg (by omega) nx 40 1 w3 (by omega) (by omega) H3 (fR_tr f2 f3) (by unfold wd_; rw [es]; exact hA3) (fun c2 k2 a b d e => by rw [(tb3_tr t2 t3) 380 (by omega) (by omega)]; exact hT c2 k2 a b d (by omega))
set_option maxHeartbeats 2000000 in
set_option maxRecDepth 20000 in
theorem e_fillWalks {E : sxE} {A : AS} {w : hpW} {Q : Option Value → hpW → Prop} (VA : AV A) (H : CR A w) (h0 : 0 < a_n A) {g : Nat} (hg : g ≤ 5) (hq : ∀ w1, CR A w1 → fR w w1 → TK_ A (nI g) w1 (41 * (a_n A + 1)) → Q none w1) : sx_C E mX11_fillWalks 7 0 0 [.ref 16, .int (nI g)] w Q := by
  refine C_of (by decide +kernel) (Nat.le_of_ble_eq_true rfl) ?_
  refine V_iconst (v := 0) (sx_di dX11_fillWalks 0 rfl) (by decide) ?_
  refine V_istore_n (i := 2) (sx_di dX11_fillWalks 1 rfl) rfl (by decide) (rfl) ?_
  refine V_sub (ls' := [(2, .int (nI 0)), (1, .int (nI g)), (0, .ref 16)]) ⟨rfl, rfl, rfl, trivial⟩ ?_
  exact fw_out VA h0 hg hq (a_n A + 1) 0 w (by omega) H fR_rf (fun c k _ _ _ hz => absurd hz (by omega))

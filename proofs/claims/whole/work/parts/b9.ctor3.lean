/-! constructors: past, image, the class, the reference -/
theorem LB_obj {n c N : Nat} {X : Nat → Prop} {w : hpW} (H : LB n X w) (h : ly_k n = (c, N)) : LB (n + 1) (fun b => X b ∨ b = n) (hp_new w c N) ∧ ge9 n w (hp_new w c N) := by
  have hN := H.1
  have ge : ge9 n w (hp_new w c N) := ge9_nw (by omega)
  refine ⟨LB_ext (LB_more H (fun b z => Or.inl z)) ge (show hp_n w + 1 = n + 1 by omega) (fun b h1 h2 => ?_) (fun b j t h1 h2 h3 => ?_) (fun b j h1 h2 _ => ?_), ge⟩
  · have e : b = n := by omega
    rw [e, nw_k, if_pos hN.symm, h]
  · have e : b = n := by omega
    exact absurd (Or.inr e) h3
  · have e : b = n := by omega
    rw [e, nw_i, if_pos hN.symm]
/-- one row more, of ints -/
theorem LB_row {n c N : Nat} {X : Nat → Prop} {w : hpW} (H : LB n X w) (h : ly_k n = (c, N)) (hr : ly_R.getD (n - 16) [] = []) : LB (n + 1) X (hp_new w c N) := by
  obtain ⟨H1, g1⟩ := LB_obj H h
  refine LB_less H1 (fun b h1 h2 h3 j t hj => ?_)
  have e : b = n := h2.resolve_left h3
  subst e
  unfold ly_r at hj
  rw [hr] at hj
  exact absurd hj (by simp)
set_option maxHeartbeats 2000000 in
set_option maxRecDepth 20000 in
theorem ps_lp {E : sxE} {w0 : hpW} {Q : Option Value → hpW → Prop} {X : Nat → Prop} {t : Nat} (h : ∀ w', LB 357 (fun b => X b ∨ b = 76) w' → (∀ k, k < 40 → hp_r w' 76 k = some (77 + 7 * k)) → ge9 75 w0 w' → Q none w') : ∀ d i w, i + d = 40 → LB (77 + 7 * i) (fun b => X b ∨ b = 76) w → (∀ k, k < i → hp_r w 76 k = some (77 + 7 * k)) → ge9 75 w0 w → hp_r w 75 0 = some 76 → V E mX6_init (sx_rm 3 281 2480) 281 2480 (1 + 7 * i) (40 + 61 * i) 15 [(2, .int (nI i)), (1, .ref t), (0, .ref 75)] [] w Q := by
  intro d
  induction d with
  | zero =>
    intro i w hi H hr hg h0
    have e : i = 40 := by omega
    subst e
    refine V_iload_n (i := 2) (sx_di dX6_init 8 rfl) rfl rfl ?_
    refine V_bipush (v := 40) (sx_di dX6_init 9 rfl) (by decide) ?_
    refine V_icN_ge (a := 40) (b := 40) (rfl) (rfl) (by omega) (by omega) (tgt := 41) (sx_di dX6_init 10 rfl) (by decide) (fun _ => ?_) (fun h18 => absurd h18 (by omega))
    refine V_vret (sx_di dX6_init 21 rfl) rfl (by decide) (by decide) ?_
    exact h w H hr hg
  | succ d ih =>
    intro i w hi H hr hg h0
    have hN := H.1
    have k75 : hp_k w 75 = (6, 3) := H.2.1 75 (by omega) (by omega)
    have k76 : hp_k w 76 = (16, 40) := H.2.1 76 (by omega) (by omega)
    have ly : ∀ i, i < 40 → lyC (77 + 7 * i) 7 13 [(13, 8, 1), (13, 8, 2), (13, 8, 3), (13, 8, 4), (13, 8, 5), (13, 8, 6)] = true := by decide +kernel
    refine V_iload_n (i := 2) (sx_di dX6_init 8 rfl) rfl rfl ?_
    refine V_bipush (v := 40) (sx_di dX6_init 9 rfl) (by decide) ?_
    refine V_icN_ge (a := i) (b := 40) (rfl) (rfl) (by omega) (by omega) (tgt := 41) (sx_di dX6_init 10 rfl) (by decide) (fun h18 => absurd h18 (by omega)) (fun _ => ?_)
    refine V_aload_n (i := 0) (sx_di dX6_init 11 rfl) rfl rfl ?_
    refine V_getR (sx_di dX6_init 12 rfl) fX6_11 (fun _ => rfl) (k75) (h0) ?_
    refine V_iload_n (i := 2) (sx_di dX6_init 13 rfl) rfl rfl ?_
    refine V_new (c := 7) (sx_di dX6_init 14 rfl) (by decide) (sx_a1 239 rfl rfl) (sx_a1 157 rfl rfl) (sx_a1 8 rfl rfl) (by show 1 + 7 * i + 1 ≤ 281; omega) (by show 40 + 61 * i + 13 ≤ 2480; omega) ?_
    refine V_dup (sx_di dX6_init 15 rfl) rfl ?_
    refine V_aload_n (i := 1) (sx_di dX6_init 16 rfl) rfl rfl ?_
    refine V_cI1 (mc' := 6) (ms' := 48) (M' := mX7_init) 2 (sx_di dX6_init 17 rfl) lX6_17 vX7_init (Nat.le_of_ble_eq_true rfl) ⟨Nat.le_of_ble_eq_true rfl, Nat.le_of_ble_eq_true rfl⟩ ⟨by show 1 + 7 * i + 1 + 6 ≤ 281; omega, by show 40 + 61 * i + 13 + 48 ≤ 2480; omega⟩ ?_
    rw [hN]
    refine k_X7_init H (by omega) (ly i (by omega)) (fun w1 H1 g1 k1 _ => ?_)
    refine V_aast (sx_di dX6_init 18 rfl) ((g1 76 (by omega)).1.trans k76) (Or.inr ⟨rfl, rfl⟩) (vp_in_nI (show i < 40 by omega) (by decide)) (k1) ?_
    rw [nI_clamp (by omega)]
    refine V_inc (c := 1) (sx_di dX6_init 19 rfl) (by decide) rfl (by decide) (rfl) ?_
    refine V_goto (tgt := 15) (sx_di dX6_init 20 rfl) (by decide) ?_
    have q1 : _ := ih (i + 1) (hp_sr w1 76 i (some (77 + 7 * i))) (by omega) (LB_set (by rw [show 77 + 7 * (i + 1) = 77 + 7 * i + 1 + 6 by omega]; exact H1) (Or.inr (Or.inr (Or.inr rfl)))) (fun k hk => ?_) (ge9_tr hg (ge9_tr (ge9_le (by omega) g1) (ge9_sr (by omega)))) (by show hp_u (hp_r w1) 76 i (some (77 + 7 * i)) 75 0 = _; rw [hp_u_nk _ _ (by omega), (g1 75 (by omega)).2.1]; exact h0)
    · rw [← nI_1 (a := i)] at q1
      exact V_cs (by omega) (by have z9 : cl_N 7 = 13 := rfl; omega) (V_subk q1 ⟨rfl, rfl, rfl, trivial⟩)
    · show hp_u (hp_r w1) 76 i (some (77 + 7 * i)) 76 k = _
      by_cases e : k = i
      · rw [e, hp_u_at]
      · rw [hp_u_nk _ _ (by omega), (g1 76 (by omega)).2.1]
        exact hr k (by omega)
set_option maxHeartbeats 2000000 in
set_option maxRecDepth 20000 in
theorem k_X6_init {E : sxE} {w : hpW} {Q : Option Value → hpW → Prop} {X : Nat → Prop} {t : Nat} (hA : AO9 E) (H : LB 75 X w) (h : ∀ w', LB 357 X w' → ge9 75 w w' → Q none w') : sx_C E mX6_init 3 281 2480 [.ref 75, .ref t] (hp_new w 6 3) Q := by
  have hN := H.1
  obtain ⟨H1, g1⟩ := LB_obj (c := 6) (N := 3) H (by decide +kernel)
  have n1 := H1.1
  obtain ⟨H2, g2⟩ := LB_obj (c := 16) (N := 40) H1 (by decide +kernel)
  have r76 : ∀ j t, ly_r 76 j = some t → j < 40 ∧ t = 77 + 7 * j := fun j t hj => by
    have e5 : (ly_R.getD (76 - 16) []).length = 40 := by decide +kernel
    have l48 : j < 40 := Classical.byContradiction (fun z => by
      rw [ly_big (show (ly_R.getD (76 - 16) []).length ≤ j by omega)] at hj
      exact absurd hj (by simp))
    have key : ∀ j, j < 40 → ly_r 76 j = some (77 + 7 * j) := by decide +kernel
    rw [key j l48] at hj
    exact ⟨l48, (Option.some.inj hj).symm⟩
  have l75 : (ly_R.getD 59 []) = [some 76, none, none] := by decide +kernel
  have r75 : ∀ j t, ly_r 75 j = some t → j = 0 ∧ t = 76 := fun j t hj => by
    have e : ly_r 75 j = ([some 76, none, none] : List (Option Nat)).getD j none := by unfold ly_r; rw [show 75 - 16 = 59 from rfl, l75]
    rw [e] at hj
    match j, hj with
    | 0, hj => exact ⟨rfl, (Option.some.inj hj).symm⟩
    | 1, hj => exact absurd hj (by simp)
    | 2, hj => exact absurd hj (by simp)
    | j + 3, hj => exact absurd hj (by simp)
  have k75 : hp_k (hp_new (hp_new w 6 3) 16 40) 75 = (6, 3) := H2.2.1 75 (by omega) (by omega)
  have r0 : hp_r (hp_sr (hp_new (hp_new w 6 3) 16 40) 75 0 (some 76)) 75 0 = some 76 := by
    show hp_u (hp_r (hp_new (hp_new w 6 3) 16 40)) 75 0 (some 76) 75 0 = _
    rw [hp_u_at]
  refine C_of (by decide +kernel) (Nat.le_of_ble_eq_true rfl) ?_
  refine V_aload_n (i := 0) (sx_di dX6_init 0 rfl) rfl rfl ?_
  refine V_objInit (sx_di dX6_init 1 rfl) (sx_a1 238 rfl rfl) (sx_a1 31 rfl rfl) (sx_a1 32 rfl rfl) (Nat.le_of_ble_eq_true rfl) ⟨Nat.le_of_ble_eq_true rfl, Nat.le_of_ble_eq_true rfl⟩ ?_
  refine V_aload_n (i := 0) (sx_di dX6_init 2 rfl) rfl rfl ?_
  refine V_bipush (v := 40) (sx_di dX6_init 3 rfl) (by decide) ?_
  refine V_anewX (c := 16) (ci := 7) (sx_di dX6_init 4 rfl) (Or.inr ⟨rfl, rfl⟩) (sx_a1 239 rfl rfl) (fun U H z a => (hA U H z a).2) (by decide) rfl (by decide) (Nat.le_of_ble_eq_true rfl) (Nat.le_of_ble_eq_true rfl) ?_
  rw [n1]
  refine V_putFR (c := 6) (k := 0) (sx_di dX6_init 5 rfl) (by decide) (by decide) (sx_a2 2 rfl rfl) rfl rfl rfl (fun _ => rfl) (k75) (fun _ => rfl) (fun _ => rfl) ?_
  refine V_iconst (v := 0) (sx_di dX6_init 6 rfl) (by decide) ?_
  refine V_istore_n (i := 2) (sx_di dX6_init 7 rfl) rfl (by decide) (rfl) ?_
  refine V_sub (ls' := [(2, .int (nI 0)), (1, .ref t), (0, .ref 75)]) ⟨rfl, rfl, rfl, trivial⟩ ?_
  refine V_cs (ce2 := 1 + 7 * 0) (sl2 := 40 + 61 * 0) rfl rfl ?_
  have g3 : ge9 75 w (hp_sr (hp_new (hp_new w 6 3) 16 40) 75 0 (some 76)) := ge9_tr g1 (ge9_tr (ge9_le (by decide) g2) (ge9_sr (by decide)))
  have H3 : LB 77 (fun b => X b ∨ b = 76) (hp_sr (hp_new (hp_new w 6 3) 16 40) 75 0 (some 76)) := LB_less (LB_set H2 (Or.inr (Or.inr (Or.inl (Or.inr rfl))))) (fun b b1 b2 b3 j u hj => by
    rcases b2 with (z | z) | z
    · exact absurd (Or.inl z) b3
    · subst z
      obtain ⟨rfl, rfl⟩ := r75 j u hj
      exact r0
    · exact absurd (Or.inr z) b3)
  exact ps_lp (w0 := w) (X := X) (fun w3 H4 r3 g4 => h w3 (LB_less H4 (fun b b1 b2 b3 j u hj => by
    rcases b2 with z | z
    · exact absurd z b3
    · subst z
      obtain ⟨q1, q2⟩ := r76 j u hj
      rw [q2]; exact r3 j q1)) g4) 40 0 _ rfl H3 (fun k hk => absurd hk (Nat.not_lt_zero k)) g3 r0
set_option maxHeartbeats 2000000 in
set_option maxRecDepth 20000 in
theorem k_X0_init {E : sxE} {w : hpW} {Q : Option Value → hpW → Prop} {X : Nat → Prop} {t : Nat} (H : LB 357 X w) (h : ∀ w', LB 369 X w' → ge9 357 w w' → Q none w') : sx_C E mX0_init 3 11 448 [.ref 357, .ref t] (hp_new w 0 3) Q := by
  have hN := H.1
  obtain ⟨H1, g1⟩ := LB_obj (c := 0) (N := 3) H (by decide +kernel)
  have n1 := H1.1
  have l357 : (ly_R.getD 341 []) = [some 362, some 358, none] := by decide +kernel
  have r357 : ∀ j t, ly_r 357 j = some t → (j = 0 ∧ t = 362) ∨ (j = 1 ∧ t = 358) := fun j t hj => by
    have e : ly_r 357 j = ([some 362, some 358, none] : List (Option Nat)).getD j none := by unfold ly_r; rw [show 357 - 16 = 341 from rfl, l357]
    rw [e] at hj
    match j, hj with
    | 0, hj => exact Or.inl ⟨rfl, (Option.some.inj hj).symm⟩
    | 1, hj => exact Or.inr ⟨rfl, (Option.some.inj hj).symm⟩
    | 2, hj => exact absurd hj (by simp)
    | j + 3, hj => exact absurd hj (by simp)
  refine C_of (by decide +kernel) (Nat.le_of_ble_eq_true rfl) ?_
  refine V_aload_n (i := 0) (sx_di dX0_init 0 rfl) rfl rfl ?_
  refine V_objInit (sx_di dX0_init 1 rfl) (sx_a2 18 rfl rfl) (sx_a1 31 rfl rfl) (sx_a1 32 rfl rfl) (Nat.le_of_ble_eq_true rfl) ⟨Nat.le_of_ble_eq_true rfl, Nat.le_of_ble_eq_true rfl⟩ ?_
  refine V_aload_n (i := 0) (sx_di dX0_init 2 rfl) rfl rfl ?_
  refine V_new (c := 4) (sx_di dX0_init 3 rfl) (by decide) (sx_a2 19 rfl rfl) (sx_a1 218 rfl rfl) (sx_a1 9 rfl rfl) (Nat.le_of_ble_eq_true rfl) (Nat.le_of_ble_eq_true rfl) ?_
  refine V_dup (sx_di dX0_init 4 rfl) rfl ?_
  refine V_cI0 (mc' := 3) (ms' := 384) (M' := mX4_init) 2 (sx_di dX0_init 5 rfl) lX0_9 vX4_init (Nat.le_of_ble_eq_true rfl) ⟨Nat.le_of_ble_eq_true rfl, Nat.le_of_ble_eq_true rfl⟩ ⟨Nat.le_of_ble_eq_true rfl, Nat.le_of_ble_eq_true rfl⟩ ?_
  rw [n1]
  refine k_X4_init H1 (by decide) (by decide +kernel) (fun w2 H2 g2 k2 => ?_)
  refine V_putFR (c := 0) (k := 1) (sx_di dX0_init 6 rfl) (by decide) (by decide) (sx_a2 24 rfl rfl) rfl rfl rfl (fun _ => rfl) (by first | exact H2.2.1 357 (by decide) (by decide) | exact H4.2.1 357 (by decide) (by decide)) (fun _ => rfl) (fun _ => rfl) ?_
  have H3 := LB_set (a := 357) (k := 1) (t := 358) H2 (Or.inr (Or.inr (Or.inr rfl)))
  have q3 : hp_r (hp_sr w2 357 1 (some 358)) 357 1 = some 358 := by
    show hp_u (hp_r w2) 357 1 (some 358) 357 1 = _
    rw [hp_u_at]
  refine V_aload_n (i := 0) (sx_di dX0_init 7 rfl) rfl rfl ?_
  refine V_new (c := 7) (sx_di dX0_init 8 rfl) (by decide) (sx_a2 21 rfl rfl) (sx_a1 157 rfl rfl) (sx_a1 8 rfl rfl) (Nat.le_of_ble_eq_true rfl) (Nat.le_of_ble_eq_true rfl) ?_
  refine V_dup (sx_di dX0_init 9 rfl) rfl ?_
  refine V_aload_n (i := 1) (sx_di dX0_init 10 rfl) rfl rfl ?_
  refine V_cI1 (mc' := 6) (ms' := 48) (M' := mX7_init) 2 (sx_di dX0_init 11 rfl) lX0_18 vX7_init (Nat.le_of_ble_eq_true rfl) ⟨Nat.le_of_ble_eq_true rfl, Nat.le_of_ble_eq_true rfl⟩ ⟨Nat.le_of_ble_eq_true rfl, Nat.le_of_ble_eq_true rfl⟩ ?_
  have n3 := H3.1
  rw [n3]
  refine k_X7_init H3 (by decide) (by decide +kernel) (fun w4 H4 g4 k4 _ => ?_)
  refine V_putFR (c := 0) (k := 0) (sx_di dX0_init 12 rfl) (by decide) (by decide) (sx_a2 23 rfl rfl) rfl rfl rfl (fun _ => rfl) (by first | exact H2.2.1 357 (by decide) (by decide) | exact H4.2.1 357 (by decide) (by decide)) (fun _ => rfl) (fun _ => rfl) ?_
  have H5 := LB_set (a := 357) (k := 0) (t := 362) H4 (Or.inr (Or.inr (Or.inr rfl)))
  refine V_vret (sx_di dX0_init 13 rfl) rfl (Nat.le_of_ble_eq_true rfl) (Nat.le_of_ble_eq_true rfl) ?_
  refine h _ (LB_less H5 (fun b b1 b2 b3 j u hj => ?_)) (ge9_tr g1 (ge9_tr (ge9_le (by decide) g2) (ge9_tr (ge9_sr (by decide)) (ge9_tr (ge9_le (by decide) g4) (ge9_sr (by decide))))))
  have e := b2.resolve_left b3
  subst e
  rcases r357 j u hj with ⟨rfl, rfl⟩ | ⟨rfl, rfl⟩
  · show hp_u (hp_r w4) 357 0 (some 362) 357 0 = _
    rw [hp_u_at]
  · show hp_u (hp_r w4) 357 0 (some 362) 357 1 = _
    rw [hp_u_nk _ _ (by decide), (g4 357 (by decide)).2.1]
    exact q3
theorem stp_si {w : hpW} {a k : Nat} {v : Int32} {q : Nat × Nat × Nat} (ha : a < hp_n w) : stp (hp_si w a k v) a q = hp_si (stp w a q) a k v := by
  have e : (fun b => if b = hp_n w then (fun _ => (0 : Int32)) else hp_u (hp_i w) a k v b) = hp_u (fun b => if b = hp_n w then (fun _ => 0) else hp_i w b) a k v := by
    funext b j
    unfold hp_u
    by_cases h : b = hp_n w
    · rw [if_pos h, if_neg (by omega)]
      show (0 : Int32) = (if b = hp_n w then (fun _ => (0 : Int32)) else hp_i w b) j
      rw [if_pos h]
    · rw [if_neg h]
      show _ = (if b = a ∧ j = k then v else (if b = hp_n w then (fun _ => (0 : Int32)) else hp_i w b) j)
      rw [if_neg h]
  show (hp_n w + 1, (fun b => if b = hp_n w then (q.1, q.2.1) else hp_k w b), hp_u (fun b => if b = hp_n w then (fun _ => none) else hp_r w b) a q.2.2 (some (hp_n w)), (fun b => if b = hp_n w then (fun _ => 0) else hp_j w b), (fun b => if b = hp_n w then (fun _ => (0 : Int32)) else hp_u (hp_i w) a k v b)) = _
  rw [e]
  rfl
theorem stps_si {a k : Nat} {v : Int32} : ∀ L w, a < hp_n w → stps (hp_si w a k v) a L = hp_si (stps w a L) a k v
  | [], _, _ => rfl
  | q :: L, w, ha => by
    show stps (stp (hp_si w a k v) a q) a L = hp_si (stps (stp w a q) a L) a k v
    rw [stp_si ha]
    exact stps_si L _ (by show a < hp_n w + 1; omega)
theorem stps_ap {a : Nat} : ∀ L M w, stps (stps w a L) a M = stps w a (L ++ M)
  | [], _, _ => rfl
  | q :: L, M, w => stps_ap L M (stp w a q)
theorem stps_n {a : Nat} : ∀ L w, a < hp_n w → a < hp_n (stps w a L)
  | [], _, h => h
  | q :: L, w, h => stps_n L (stp w a q) (by show a < hp_n w + 1; omega)
set_option maxHeartbeats 2000000 in
set_option maxRecDepth 20000 in
theorem c_X12_init {E : sxE} {w : hpW} {Q : Option Value → hpW → Prop} (ha : 381 < hp_n w) (hk : hp_k w 381 = (12, 48)) (h : Q none (hp_si (stps w 381 [(13, 240, 1), (13, 2600, 6), (13, 2600, 7), (13, 5, 8), (13, 5, 9), (13, 700, 10), (13, 700, 11), (13, 700, 12), (13, 6, 15), (13, 80, 16), (13, 4, 17), (13, 32, 18), (13, 12, 19), (13, 4, 22), (13, 32, 23), (13, 12, 24), (13, 226, 27), (13, 5, 28), (13, 9040, 31), (13, 45, 34), (13, 10, 37), (13, 10, 38), (14, 10, 39), (13, 410, 41), (13, 10, 42), (13, 10, 43), (14, 10, 44), (13, 226, 46)]) 381 29 (-1))) : sx_C E mX12_init 2 28 17744 [.ref 381] w Q := by
  have k0 : hp_k (stps w 381 [(13, 240, 1), (13, 2600, 6), (13, 2600, 7), (13, 5, 8), (13, 5, 9), (13, 700, 10), (13, 700, 11), (13, 700, 12), (13, 6, 15), (13, 80, 16), (13, 4, 17), (13, 32, 18), (13, 12, 19), (13, 4, 22), (13, 32, 23), (13, 12, 24), (13, 226, 27), (13, 5, 28)]) 381 = (12, 48) := (k_st0 [(13, 240, 1), (13, 2600, 6), (13, 2600, 7), (13, 5, 8), (13, 5, 9), (13, 700, 10), (13, 700, 11), (13, 700, 12), (13, 6, 15), (13, 80, 16), (13, 4, 17), (13, 32, 18), (13, 12, 19), (13, 4, 22), (13, 32, 23), (13, 12, 24), (13, 226, 27), (13, 5, 28)] ha).trans hk
  have k1 : hp_k (hp_si (stps w 381 [(13, 240, 1), (13, 2600, 6), (13, 2600, 7), (13, 5, 8), (13, 5, 9), (13, 700, 10), (13, 700, 11), (13, 700, 12), (13, 6, 15), (13, 80, 16), (13, 4, 17), (13, 32, 18), (13, 12, 19), (13, 4, 22), (13, 32, 23), (13, 12, 24), (13, 226, 27), (13, 5, 28)]) 381 29 (-1)) 381 = (12, 48) := k0
  have hn1 : 381 < hp_n (hp_si (stps w 381 [(13, 240, 1), (13, 2600, 6), (13, 2600, 7), (13, 5, 8), (13, 5, 9), (13, 700, 10), (13, 700, 11), (13, 700, 12), (13, 6, 15), (13, 80, 16), (13, 4, 17), (13, 32, 18), (13, 12, 19), (13, 4, 22), (13, 32, 23), (13, 12, 24), (13, 226, 27), (13, 5, 28)]) 381 29 (-1)) := stps_n [(13, 240, 1), (13, 2600, 6), (13, 2600, 7), (13, 5, 8), (13, 5, 9), (13, 700, 10), (13, 700, 11), (13, 700, 12), (13, 6, 15), (13, 80, 16), (13, 4, 17), (13, 32, 18), (13, 12, 19), (13, 4, 22), (13, 32, 23), (13, 12, 24), (13, 226, 27), (13, 5, 28)] w ha
  refine C_of (by decide +kernel) (Nat.le_of_ble_eq_true rfl) ?_
  refine V_aload_n (i := 0) (sx_di dX12_init 0 rfl) rfl rfl ?_
  refine V_objInit (sx_di dX12_init 1 rfl) (sx_a5 123 rfl rfl) (sx_a1 31 rfl rfl) (sx_a1 32 rfl rfl) (Nat.le_of_ble_eq_true rfl) ⟨Nat.le_of_ble_eq_true rfl, Nat.le_of_ble_eq_true rfl⟩ ?_
  refine V_aload_n (i := 0) (sx_di dX12_init 2 rfl) rfl rfl ?_
  refine V_sipush (v := 240) (sx_di dX12_init 3 rfl) (by decide) ?_
  refine V_newa (c := 13) (sx_di dX12_init 4 rfl) (Or.inl ⟨rfl, rfl⟩) rfl (sx_a1 57 rfl rfl) (by decide) rfl (by decide) (Nat.le_of_ble_eq_true rfl) (Nat.le_of_ble_eq_true rfl) ?_
  refine V_putFR (c := 12) (k := 1) (sx_di dX12_init 5 rfl) (by decide) (by decide) (sx_a5 125 rfl rfl) rfl rfl rfl (fun _ => rfl) ((k_st [] ha).trans hk) (fun _ => rfl) (fun _ => rfl) ?_
  refine V_aload_n (i := 0) (sx_di dX12_init 6 rfl) rfl rfl ?_
  refine V_sipush (v := 2600) (sx_di dX12_init 7 rfl) (by decide) ?_
  refine V_newa (c := 13) (sx_di dX12_init 8 rfl) (Or.inl ⟨rfl, rfl⟩) rfl (sx_a1 57 rfl rfl) (by decide) rfl (by decide) (Nat.le_of_ble_eq_true rfl) (Nat.le_of_ble_eq_true rfl) ?_
  refine V_putFR (c := 12) (k := 6) (sx_di dX12_init 9 rfl) (by decide) (by decide) (sx_a5 130 rfl rfl) rfl rfl rfl (fun _ => rfl) ((k_st [(13, 240, 1)] ha).trans hk) (fun _ => rfl) (fun _ => rfl) ?_
  refine V_aload_n (i := 0) (sx_di dX12_init 10 rfl) rfl rfl ?_
  refine V_sipush (v := 2600) (sx_di dX12_init 11 rfl) (by decide) ?_
  refine V_newa (c := 13) (sx_di dX12_init 12 rfl) (Or.inl ⟨rfl, rfl⟩) rfl (sx_a1 57 rfl rfl) (by decide) rfl (by decide) (Nat.le_of_ble_eq_true rfl) (Nat.le_of_ble_eq_true rfl) ?_
  refine V_putFR (c := 12) (k := 7) (sx_di dX12_init 13 rfl) (by decide) (by decide) (sx_a5 131 rfl rfl) rfl rfl rfl (fun _ => rfl) ((k_st [(13, 240, 1), (13, 2600, 6)] ha).trans hk) (fun _ => rfl) (fun _ => rfl) ?_
  refine V_aload_n (i := 0) (sx_di dX12_init 14 rfl) rfl rfl ?_
  refine V_iconst (v := 5) (sx_di dX12_init 15 rfl) (by decide) ?_
  refine V_newa (c := 13) (sx_di dX12_init 16 rfl) (Or.inl ⟨rfl, rfl⟩) rfl (sx_a1 57 rfl rfl) (by decide) rfl (by decide) (Nat.le_of_ble_eq_true rfl) (Nat.le_of_ble_eq_true rfl) ?_
  refine V_putFR (c := 12) (k := 8) (sx_di dX12_init 17 rfl) (by decide) (by decide) (sx_a5 132 rfl rfl) rfl rfl rfl (fun _ => rfl) ((k_st [(13, 240, 1), (13, 2600, 6), (13, 2600, 7)] ha).trans hk) (fun _ => rfl) (fun _ => rfl) ?_
  refine V_aload_n (i := 0) (sx_di dX12_init 18 rfl) rfl rfl ?_
  refine V_iconst (v := 5) (sx_di dX12_init 19 rfl) (by decide) ?_
  refine V_newa (c := 13) (sx_di dX12_init 20 rfl) (Or.inl ⟨rfl, rfl⟩) rfl (sx_a1 57 rfl rfl) (by decide) rfl (by decide) (Nat.le_of_ble_eq_true rfl) (Nat.le_of_ble_eq_true rfl) ?_
  refine V_putFR (c := 12) (k := 9) (sx_di dX12_init 21 rfl) (by decide) (by decide) (sx_a5 133 rfl rfl) rfl rfl rfl (fun _ => rfl) ((k_st [(13, 240, 1), (13, 2600, 6), (13, 2600, 7), (13, 5, 8)] ha).trans hk) (fun _ => rfl) (fun _ => rfl) ?_
  refine V_aload_n (i := 0) (sx_di dX12_init 22 rfl) rfl rfl ?_
  refine V_sipush (v := 700) (sx_di dX12_init 23 rfl) (by decide) ?_
  refine V_newa (c := 13) (sx_di dX12_init 24 rfl) (Or.inl ⟨rfl, rfl⟩) rfl (sx_a1 57 rfl rfl) (by decide) rfl (by decide) (Nat.le_of_ble_eq_true rfl) (Nat.le_of_ble_eq_true rfl) ?_
  refine V_putFR (c := 12) (k := 10) (sx_di dX12_init 25 rfl) (by decide) (by decide) (sx_a5 134 rfl rfl) rfl rfl rfl (fun _ => rfl) ((k_st [(13, 240, 1), (13, 2600, 6), (13, 2600, 7), (13, 5, 8), (13, 5, 9)] ha).trans hk) (fun _ => rfl) (fun _ => rfl) ?_
  refine V_aload_n (i := 0) (sx_di dX12_init 26 rfl) rfl rfl ?_
  refine V_sipush (v := 700) (sx_di dX12_init 27 rfl) (by decide) ?_
  refine V_newa (c := 13) (sx_di dX12_init 28 rfl) (Or.inl ⟨rfl, rfl⟩) rfl (sx_a1 57 rfl rfl) (by decide) rfl (by decide) (Nat.le_of_ble_eq_true rfl) (Nat.le_of_ble_eq_true rfl) ?_
  refine V_putFR (c := 12) (k := 11) (sx_di dX12_init 29 rfl) (by decide) (by decide) (sx_a5 135 rfl rfl) rfl rfl rfl (fun _ => rfl) ((k_st [(13, 240, 1), (13, 2600, 6), (13, 2600, 7), (13, 5, 8), (13, 5, 9), (13, 700, 10)] ha).trans hk) (fun _ => rfl) (fun _ => rfl) ?_
  refine V_aload_n (i := 0) (sx_di dX12_init 30 rfl) rfl rfl ?_
  refine V_sipush (v := 700) (sx_di dX12_init 31 rfl) (by decide) ?_
  refine V_newa (c := 13) (sx_di dX12_init 32 rfl) (Or.inl ⟨rfl, rfl⟩) rfl (sx_a1 57 rfl rfl) (by decide) rfl (by decide) (Nat.le_of_ble_eq_true rfl) (Nat.le_of_ble_eq_true rfl) ?_
  refine V_putFR (c := 12) (k := 12) (sx_di dX12_init 33 rfl) (by decide) (by decide) (sx_a5 136 rfl rfl) rfl rfl rfl (fun _ => rfl) ((k_st [(13, 240, 1), (13, 2600, 6), (13, 2600, 7), (13, 5, 8), (13, 5, 9), (13, 700, 10), (13, 700, 11)] ha).trans hk) (fun _ => rfl) (fun _ => rfl) ?_
  refine V_aload_n (i := 0) (sx_di dX12_init 34 rfl) rfl rfl ?_
  refine V_bipush (v := 6) (sx_di dX12_init 35 rfl) (by decide) ?_
  refine V_newa (c := 13) (sx_di dX12_init 36 rfl) (Or.inl ⟨rfl, rfl⟩) rfl (sx_a1 57 rfl rfl) (by decide) rfl (by decide) (Nat.le_of_ble_eq_true rfl) (Nat.le_of_ble_eq_true rfl) ?_
  refine V_putFR (c := 12) (k := 15) (sx_di dX12_init 37 rfl) (by decide) (by decide) (sx_a5 139 rfl rfl) rfl rfl rfl (fun _ => rfl) ((k_st [(13, 240, 1), (13, 2600, 6), (13, 2600, 7), (13, 5, 8), (13, 5, 9), (13, 700, 10), (13, 700, 11), (13, 700, 12)] ha).trans hk) (fun _ => rfl) (fun _ => rfl) ?_
  refine V_aload_n (i := 0) (sx_di dX12_init 38 rfl) rfl rfl ?_
  refine V_bipush (v := 80) (sx_di dX12_init 39 rfl) (by decide) ?_
  refine V_newa (c := 13) (sx_di dX12_init 40 rfl) (Or.inl ⟨rfl, rfl⟩) rfl (sx_a1 57 rfl rfl) (by decide) rfl (by decide) (Nat.le_of_ble_eq_true rfl) (Nat.le_of_ble_eq_true rfl) ?_
  refine V_putFR (c := 12) (k := 16) (sx_di dX12_init 41 rfl) (by decide) (by decide) (sx_a5 140 rfl rfl) rfl rfl rfl (fun _ => rfl) ((k_st [(13, 240, 1), (13, 2600, 6), (13, 2600, 7), (13, 5, 8), (13, 5, 9), (13, 700, 10), (13, 700, 11), (13, 700, 12), (13, 6, 15)] ha).trans hk) (fun _ => rfl) (fun _ => rfl) ?_
  refine V_aload_n (i := 0) (sx_di dX12_init 42 rfl) rfl rfl ?_
  refine V_iconst (v := 4) (sx_di dX12_init 43 rfl) (by decide) ?_
  refine V_newa (c := 13) (sx_di dX12_init 44 rfl) (Or.inl ⟨rfl, rfl⟩) rfl (sx_a1 57 rfl rfl) (by decide) rfl (by decide) (Nat.le_of_ble_eq_true rfl) (Nat.le_of_ble_eq_true rfl) ?_
  refine V_putFR (c := 12) (k := 17) (sx_di dX12_init 45 rfl) (by decide) (by decide) (sx_a5 141 rfl rfl) rfl rfl rfl (fun _ => rfl) ((k_st [(13, 240, 1), (13, 2600, 6), (13, 2600, 7), (13, 5, 8), (13, 5, 9), (13, 700, 10), (13, 700, 11), (13, 700, 12), (13, 6, 15), (13, 80, 16)] ha).trans hk) (fun _ => rfl) (fun _ => rfl) ?_
  refine V_aload_n (i := 0) (sx_di dX12_init 46 rfl) rfl rfl ?_
  refine V_bipush (v := 32) (sx_di dX12_init 47 rfl) (by decide) ?_
  refine V_newa (c := 13) (sx_di dX12_init 48 rfl) (Or.inl ⟨rfl, rfl⟩) rfl (sx_a1 57 rfl rfl) (by decide) rfl (by decide) (Nat.le_of_ble_eq_true rfl) (Nat.le_of_ble_eq_true rfl) ?_
  refine V_putFR (c := 12) (k := 18) (sx_di dX12_init 49 rfl) (by decide) (by decide) (sx_a5 142 rfl rfl) rfl rfl rfl (fun _ => rfl) ((k_st [(13, 240, 1), (13, 2600, 6), (13, 2600, 7), (13, 5, 8), (13, 5, 9), (13, 700, 10), (13, 700, 11), (13, 700, 12), (13, 6, 15), (13, 80, 16), (13, 4, 17)] ha).trans hk) (fun _ => rfl) (fun _ => rfl) ?_
  refine V_aload_n (i := 0) (sx_di dX12_init 50 rfl) rfl rfl ?_
  refine V_bipush (v := 12) (sx_di dX12_init 51 rfl) (by decide) ?_
  refine V_newa (c := 13) (sx_di dX12_init 52 rfl) (Or.inl ⟨rfl, rfl⟩) rfl (sx_a1 57 rfl rfl) (by decide) rfl (by decide) (Nat.le_of_ble_eq_true rfl) (Nat.le_of_ble_eq_true rfl) ?_
  refine V_putFR (c := 12) (k := 19) (sx_di dX12_init 53 rfl) (by decide) (by decide) (sx_a5 143 rfl rfl) rfl rfl rfl (fun _ => rfl) ((k_st [(13, 240, 1), (13, 2600, 6), (13, 2600, 7), (13, 5, 8), (13, 5, 9), (13, 700, 10), (13, 700, 11), (13, 700, 12), (13, 6, 15), (13, 80, 16), (13, 4, 17), (13, 32, 18)] ha).trans hk) (fun _ => rfl) (fun _ => rfl) ?_
  refine V_aload_n (i := 0) (sx_di dX12_init 54 rfl) rfl rfl ?_
  refine V_iconst (v := 4) (sx_di dX12_init 55 rfl) (by decide) ?_
  refine V_newa (c := 13) (sx_di dX12_init 56 rfl) (Or.inl ⟨rfl, rfl⟩) rfl (sx_a1 57 rfl rfl) (by decide) rfl (by decide) (Nat.le_of_ble_eq_true rfl) (Nat.le_of_ble_eq_true rfl) ?_
  refine V_putFR (c := 12) (k := 22) (sx_di dX12_init 57 rfl) (by decide) (by decide) (sx_a5 146 rfl rfl) rfl rfl rfl (fun _ => rfl) ((k_st [(13, 240, 1), (13, 2600, 6), (13, 2600, 7), (13, 5, 8), (13, 5, 9), (13, 700, 10), (13, 700, 11), (13, 700, 12), (13, 6, 15), (13, 80, 16), (13, 4, 17), (13, 32, 18), (13, 12, 19)] ha).trans hk) (fun _ => rfl) (fun _ => rfl) ?_
  refine V_aload_n (i := 0) (sx_di dX12_init 58 rfl) rfl rfl ?_
  refine V_bipush (v := 32) (sx_di dX12_init 59 rfl) (by decide) ?_
  refine V_newa (c := 13) (sx_di dX12_init 60 rfl) (Or.inl ⟨rfl, rfl⟩) rfl (sx_a1 57 rfl rfl) (by decide) rfl (by decide) (Nat.le_of_ble_eq_true rfl) (Nat.le_of_ble_eq_true rfl) ?_
  refine V_putFR (c := 12) (k := 23) (sx_di dX12_init 61 rfl) (by decide) (by decide) (sx_a5 147 rfl rfl) rfl rfl rfl (fun _ => rfl) ((k_st [(13, 240, 1), (13, 2600, 6), (13, 2600, 7), (13, 5, 8), (13, 5, 9), (13, 700, 10), (13, 700, 11), (13, 700, 12), (13, 6, 15), (13, 80, 16), (13, 4, 17), (13, 32, 18), (13, 12, 19), (13, 4, 22)] ha).trans hk) (fun _ => rfl) (fun _ => rfl) ?_
  refine V_aload_n (i := 0) (sx_di dX12_init 62 rfl) rfl rfl ?_
  refine V_bipush (v := 12) (sx_di dX12_init 63 rfl) (by decide) ?_
  refine V_newa (c := 13) (sx_di dX12_init 64 rfl) (Or.inl ⟨rfl, rfl⟩) rfl (sx_a1 57 rfl rfl) (by decide) rfl (by decide) (Nat.le_of_ble_eq_true rfl) (Nat.le_of_ble_eq_true rfl) ?_
  refine V_putFR (c := 12) (k := 24) (sx_di dX12_init 65 rfl) (by decide) (by decide) (sx_a5 148 rfl rfl) rfl rfl rfl (fun _ => rfl) ((k_st [(13, 240, 1), (13, 2600, 6), (13, 2600, 7), (13, 5, 8), (13, 5, 9), (13, 700, 10), (13, 700, 11), (13, 700, 12), (13, 6, 15), (13, 80, 16), (13, 4, 17), (13, 32, 18), (13, 12, 19), (13, 4, 22), (13, 32, 23)] ha).trans hk) (fun _ => rfl) (fun _ => rfl) ?_
  refine V_aload_n (i := 0) (sx_di dX12_init 66 rfl) rfl rfl ?_
  refine V_sipush (v := 226) (sx_di dX12_init 67 rfl) (by decide) ?_
  refine V_newa (c := 13) (sx_di dX12_init 68 rfl) (Or.inl ⟨rfl, rfl⟩) rfl (sx_a1 57 rfl rfl) (by decide) rfl (by decide) (Nat.le_of_ble_eq_true rfl) (Nat.le_of_ble_eq_true rfl) ?_
  refine V_putFR (c := 12) (k := 27) (sx_di dX12_init 69 rfl) (by decide) (by decide) (sx_a5 151 rfl rfl) rfl rfl rfl (fun _ => rfl) ((k_st [(13, 240, 1), (13, 2600, 6), (13, 2600, 7), (13, 5, 8), (13, 5, 9), (13, 700, 10), (13, 700, 11), (13, 700, 12), (13, 6, 15), (13, 80, 16), (13, 4, 17), (13, 32, 18), (13, 12, 19), (13, 4, 22), (13, 32, 23), (13, 12, 24)] ha).trans hk) (fun _ => rfl) (fun _ => rfl) ?_
  refine V_aload_n (i := 0) (sx_di dX12_init 70 rfl) rfl rfl ?_
  refine V_iconst (v := 5) (sx_di dX12_init 71 rfl) (by decide) ?_
  refine V_newa (c := 13) (sx_di dX12_init 72 rfl) (Or.inl ⟨rfl, rfl⟩) rfl (sx_a1 57 rfl rfl) (by decide) rfl (by decide) (Nat.le_of_ble_eq_true rfl) (Nat.le_of_ble_eq_true rfl) ?_
  refine V_putFR (c := 12) (k := 28) (sx_di dX12_init 73 rfl) (by decide) (by decide) (sx_a5 152 rfl rfl) rfl rfl rfl (fun _ => rfl) ((k_st [(13, 240, 1), (13, 2600, 6), (13, 2600, 7), (13, 5, 8), (13, 5, 9), (13, 700, 10), (13, 700, 11), (13, 700, 12), (13, 6, 15), (13, 80, 16), (13, 4, 17), (13, 32, 18), (13, 12, 19), (13, 4, 22), (13, 32, 23), (13, 12, 24), (13, 226, 27)] ha).trans hk) (fun _ => rfl) (fun _ => rfl) ?_
  refine V_aload_n (i := 0) (sx_di dX12_init 74 rfl) rfl rfl ?_
  refine V_iconst (v := -1) (sx_di dX12_init 75 rfl) (by decide) ?_
  refine V_putI (sx_di dX12_init 76 rfl) fX12_64 (fun _ => rfl) rfl (k0) (rfl) (rfl) ?_
  refine V_aload_n (i := 0) (sx_di dX12_init 77 rfl) rfl rfl ?_
  refine V_sipush (v := 9040) (sx_di dX12_init 78 rfl) (by decide) ?_
  refine V_newa (c := 13) (sx_di dX12_init 79 rfl) (Or.inl ⟨rfl, rfl⟩) rfl (sx_a1 57 rfl rfl) (by decide) rfl (by decide) (Nat.le_of_ble_eq_true rfl) (Nat.le_of_ble_eq_true rfl) ?_
  refine V_putFR (c := 12) (k := 31) (sx_di dX12_init 80 rfl) (by decide) (by decide) (sx_a5 155 rfl rfl) rfl rfl rfl (fun _ => rfl) ((k_st [] hn1).trans k1) (fun _ => rfl) (fun _ => rfl) ?_
  refine V_aload_n (i := 0) (sx_di dX12_init 81 rfl) rfl rfl ?_
  refine V_bipush (v := 45) (sx_di dX12_init 82 rfl) (by decide) ?_
  refine V_newa (c := 13) (sx_di dX12_init 83 rfl) (Or.inl ⟨rfl, rfl⟩) rfl (sx_a1 57 rfl rfl) (by decide) rfl (by decide) (Nat.le_of_ble_eq_true rfl) (Nat.le_of_ble_eq_true rfl) ?_
  refine V_putFR (c := 12) (k := 34) (sx_di dX12_init 84 rfl) (by decide) (by decide) (sx_a5 158 rfl rfl) rfl rfl rfl (fun _ => rfl) ((k_st [(13, 9040, 31)] hn1).trans k1) (fun _ => rfl) (fun _ => rfl) ?_
  refine V_aload_n (i := 0) (sx_di dX12_init 85 rfl) rfl rfl ?_
  refine V_bipush (v := 10) (sx_di dX12_init 86 rfl) (by decide) ?_
  refine V_newa (c := 13) (sx_di dX12_init 87 rfl) (Or.inl ⟨rfl, rfl⟩) rfl (sx_a1 57 rfl rfl) (by decide) rfl (by decide) (Nat.le_of_ble_eq_true rfl) (Nat.le_of_ble_eq_true rfl) ?_
  refine V_putFR (c := 12) (k := 37) (sx_di dX12_init 88 rfl) (by decide) (by decide) (sx_a5 161 rfl rfl) rfl rfl rfl (fun _ => rfl) ((k_st [(13, 9040, 31), (13, 45, 34)] hn1).trans k1) (fun _ => rfl) (fun _ => rfl) ?_
  refine V_aload_n (i := 0) (sx_di dX12_init 89 rfl) rfl rfl ?_
  refine V_bipush (v := 10) (sx_di dX12_init 90 rfl) (by decide) ?_
  refine V_newa (c := 13) (sx_di dX12_init 91 rfl) (Or.inl ⟨rfl, rfl⟩) rfl (sx_a1 57 rfl rfl) (by decide) rfl (by decide) (Nat.le_of_ble_eq_true rfl) (Nat.le_of_ble_eq_true rfl) ?_
  refine V_putFR (c := 12) (k := 38) (sx_di dX12_init 92 rfl) (by decide) (by decide) (sx_a5 162 rfl rfl) rfl rfl rfl (fun _ => rfl) ((k_st [(13, 9040, 31), (13, 45, 34), (13, 10, 37)] hn1).trans k1) (fun _ => rfl) (fun _ => rfl) ?_
  refine V_aload_n (i := 0) (sx_di dX12_init 93 rfl) rfl rfl ?_
  refine V_bipush (v := 10) (sx_di dX12_init 94 rfl) (by decide) ?_
  refine V_newa (c := 14) (sx_di dX12_init 95 rfl) (Or.inr (Or.inl ⟨rfl, rfl⟩)) rfl (sx_a2 57 rfl rfl) (by decide) rfl (by decide) (Nat.le_of_ble_eq_true rfl) (Nat.le_of_ble_eq_true rfl) ?_
  refine V_putFR (c := 12) (k := 39) (sx_di dX12_init 96 rfl) (by decide) (by decide) (sx_a5 163 rfl rfl) rfl rfl rfl (fun _ => rfl) ((k_st [(13, 9040, 31), (13, 45, 34), (13, 10, 37), (13, 10, 38)] hn1).trans k1) (fun _ => rfl) (fun _ => rfl) ?_
  refine V_aload_n (i := 0) (sx_di dX12_init 97 rfl) rfl rfl ?_
  refine V_sipush (v := 410) (sx_di dX12_init 98 rfl) (by decide) ?_
  refine V_newa (c := 13) (sx_di dX12_init 99 rfl) (Or.inl ⟨rfl, rfl⟩) rfl (sx_a1 57 rfl rfl) (by decide) rfl (by decide) (Nat.le_of_ble_eq_true rfl) (Nat.le_of_ble_eq_true rfl) ?_
  refine V_putFR (c := 12) (k := 41) (sx_di dX12_init 100 rfl) (by decide) (by decide) (sx_a5 165 rfl rfl) rfl rfl rfl (fun _ => rfl) ((k_st [(13, 9040, 31), (13, 45, 34), (13, 10, 37), (13, 10, 38), (14, 10, 39)] hn1).trans k1) (fun _ => rfl) (fun _ => rfl) ?_
  refine V_aload_n (i := 0) (sx_di dX12_init 101 rfl) rfl rfl ?_
  refine V_bipush (v := 10) (sx_di dX12_init 102 rfl) (by decide) ?_
  refine V_newa (c := 13) (sx_di dX12_init 103 rfl) (Or.inl ⟨rfl, rfl⟩) rfl (sx_a1 57 rfl rfl) (by decide) rfl (by decide) (Nat.le_of_ble_eq_true rfl) (Nat.le_of_ble_eq_true rfl) ?_
  refine V_putFR (c := 12) (k := 42) (sx_di dX12_init 104 rfl) (by decide) (by decide) (sx_a5 166 rfl rfl) rfl rfl rfl (fun _ => rfl) ((k_st [(13, 9040, 31), (13, 45, 34), (13, 10, 37), (13, 10, 38), (14, 10, 39), (13, 410, 41)] hn1).trans k1) (fun _ => rfl) (fun _ => rfl) ?_
  refine V_aload_n (i := 0) (sx_di dX12_init 105 rfl) rfl rfl ?_
  refine V_bipush (v := 10) (sx_di dX12_init 106 rfl) (by decide) ?_
  refine V_newa (c := 13) (sx_di dX12_init 107 rfl) (Or.inl ⟨rfl, rfl⟩) rfl (sx_a1 57 rfl rfl) (by decide) rfl (by decide) (Nat.le_of_ble_eq_true rfl) (Nat.le_of_ble_eq_true rfl) ?_
  refine V_putFR (c := 12) (k := 43) (sx_di dX12_init 108 rfl) (by decide) (by decide) (sx_a5 167 rfl rfl) rfl rfl rfl (fun _ => rfl) ((k_st [(13, 9040, 31), (13, 45, 34), (13, 10, 37), (13, 10, 38), (14, 10, 39), (13, 410, 41), (13, 10, 42)] hn1).trans k1) (fun _ => rfl) (fun _ => rfl) ?_
  refine V_aload_n (i := 0) (sx_di dX12_init 109 rfl) rfl rfl ?_
  refine V_bipush (v := 10) (sx_di dX12_init 110 rfl) (by decide) ?_
  refine V_newa (c := 14) (sx_di dX12_init 111 rfl) (Or.inr (Or.inl ⟨rfl, rfl⟩)) rfl (sx_a2 57 rfl rfl) (by decide) rfl (by decide) (Nat.le_of_ble_eq_true rfl) (Nat.le_of_ble_eq_true rfl) ?_
  refine V_putFR (c := 12) (k := 44) (sx_di dX12_init 112 rfl) (by decide) (by decide) (sx_a5 168 rfl rfl) rfl rfl rfl (fun _ => rfl) ((k_st [(13, 9040, 31), (13, 45, 34), (13, 10, 37), (13, 10, 38), (14, 10, 39), (13, 410, 41), (13, 10, 42), (13, 10, 43)] hn1).trans k1) (fun _ => rfl) (fun _ => rfl) ?_
  refine V_aload_n (i := 0) (sx_di dX12_init 113 rfl) rfl rfl ?_
  refine V_sipush (v := 226) (sx_di dX12_init 114 rfl) (by decide) ?_
  refine V_newa (c := 13) (sx_di dX12_init 115 rfl) (Or.inl ⟨rfl, rfl⟩) rfl (sx_a1 57 rfl rfl) (by decide) rfl (by decide) (Nat.le_of_ble_eq_true rfl) (Nat.le_of_ble_eq_true rfl) ?_
  refine V_putFR (c := 12) (k := 46) (sx_di dX12_init 116 rfl) (by decide) (by decide) (sx_a5 170 rfl rfl) rfl rfl rfl (fun _ => rfl) ((k_st [(13, 9040, 31), (13, 45, 34), (13, 10, 37), (13, 10, 38), (14, 10, 39), (13, 410, 41), (13, 10, 42), (13, 10, 43), (14, 10, 44)] hn1).trans k1) (fun _ => rfl) (fun _ => rfl) ?_
  refine V_vret (sx_di dX12_init 117 rfl) rfl (Nat.le_of_ble_eq_true rfl) (Nat.le_of_ble_eq_true rfl) ?_
  have e : stps (hp_si (stps w 381 [(13, 240, 1), (13, 2600, 6), (13, 2600, 7), (13, 5, 8), (13, 5, 9), (13, 700, 10), (13, 700, 11), (13, 700, 12), (13, 6, 15), (13, 80, 16), (13, 4, 17), (13, 32, 18), (13, 12, 19), (13, 4, 22), (13, 32, 23), (13, 12, 24), (13, 226, 27), (13, 5, 28)]) 381 29 (-1)) 381 [(13, 9040, 31), (13, 45, 34), (13, 10, 37), (13, 10, 38), (14, 10, 39), (13, 410, 41), (13, 10, 42), (13, 10, 43), (14, 10, 44), (13, 226, 46)] = hp_si (stps w 381 [(13, 240, 1), (13, 2600, 6), (13, 2600, 7), (13, 5, 8), (13, 5, 9), (13, 700, 10), (13, 700, 11), (13, 700, 12), (13, 6, 15), (13, 80, 16), (13, 4, 17), (13, 32, 18), (13, 12, 19), (13, 4, 22), (13, 32, 23), (13, 12, 24), (13, 226, 27), (13, 5, 28), (13, 9040, 31), (13, 45, 34), (13, 10, 37), (13, 10, 38), (14, 10, 39), (13, 410, 41), (13, 10, 42), (13, 10, 43), (14, 10, 44), (13, 226, 46)]) 381 29 (-1) := by
    rw [stps_si _ _ (stps_n _ _ ha), stps_ap]
    rfl
  rw [← e] at h
  exact h
theorem k_X12_init {E : sxE} {w : hpW} {Q : Option Value → hpW → Prop} {X : Nat → Prop} (H : LB 381 X w) (h : ∀ w', LB 410 X w' → ge9 381 w w' → hp_i w' 381 29 = -1 → Q none w') : sx_C E mX12_init 2 28 17744 [.ref 381] (hp_new w 12 48) Q := by
  obtain ⟨a1, a2, a3, a4⟩ := LB_leaf (n := 381) (c := 12) (N := 48) (L := [(13, 240, 1), (13, 2600, 6), (13, 2600, 7), (13, 5, 8), (13, 5, 9), (13, 700, 10), (13, 700, 11), (13, 700, 12), (13, 6, 15), (13, 80, 16), (13, 4, 17), (13, 32, 18), (13, 12, 19), (13, 4, 22), (13, 32, 23), (13, 12, 24), (13, 226, 27), (13, 5, 28), (13, 9040, 31), (13, 45, 34), (13, 10, 37), (13, 10, 38), (14, 10, 39), (13, 410, 41), (13, 10, 42), (13, 10, 43), (14, 10, 44), (13, 226, 46)]) H (by decide) (by decide) (by decide +kernel)
  have hN := H.1
  exact c_X12_init (by show 381 < hp_n w + 1; omega) (by rw [nw_k, if_pos hN.symm]) (h _ (LB_int a1 (fun z => z.2.2 ⟨rfl, rfl⟩)) (ge9_tr a2 (ge9_si (Nat.le_refl _))) (by rw [hp_i_si, if_pos ⟨rfl, rfl⟩]))

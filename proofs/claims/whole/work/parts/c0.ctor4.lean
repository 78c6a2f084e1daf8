/-! the class's constructor -/
theorem LB_obj1 {n c N t : Nat} {X : Nat → Prop} {w : hpW} (H : LB n X w) (h : ly_k n = (c, N)) (hr : ∀ j u, ly_r n j = some u → j = 0 ∧ u = t) : LB (n + 1) X (hp_sr (hp_new w c N) n 0 (some t)) ∧ ge9 n w (hp_sr (hp_new w c N) n 0 (some t)) := by
  obtain ⟨H1, g1⟩ := LB_obj H h
  have H2 := LB_set (a := n) (k := 0) (t := t) H1 (Or.inr (Or.inr (Or.inr rfl)))
  refine ⟨LB_less H2 (fun b _ b2 b3 j u hj => ?_), ge9_tr g1 (ge9_sr (Nat.le_refl _))⟩
  have e : b = n := b2.resolve_left b3
  subst e
  obtain ⟨e1, e2⟩ := hr j u hj
  subst e1 e2
  show hp_u _ b 0 (some u) b 0 = _
  rw [hp_u_at]
theorem r_one {n t : Nat} {L : List (Option Nat)} (h : ly_R.getD (n - 16) [] = some t :: L) (hL : L.all (fun x => x.isNone) = true) : ∀ j u, ly_r n j = some u → j = 0 ∧ u = t := fun j u hj => by
  unfold ly_r at hj
  rw [h] at hj
  match j, hj with
  | 0, hj => exact ⟨rfl, (Option.some.inj hj).symm⟩
  | j + 1, hj =>
    refine absurd hj ?_
    show ¬ L.getD j none = some u
    intro hj
    rw [List.getD_eq_getElem?_getD] at hj
    rcases e : L[j]? with _ | x
    · rw [e] at hj; cases hj
    · rw [e] at hj
      have m := List.mem_of_getElem? e
      have q := List.all_eq_true.mp hL x m
      change x = some u at hj
      subst hj
      cases q
/-- the class is under way: all below n but row 16 laid out; the references D set -/
def ST9 (n : Nat) (X : Nat → Prop) (w0 w : hpW) (D : List (Nat × Nat × Nat)) : Prop := LB n (fun b => X b ∨ b = 16) w ∧ ge9 16 w0 w ∧ (∀ q, q ∈ D → hp_r w q.1 q.2.1 = some q.2.2) ∧ (52 ≤ n → hp_i w 20 2 = -1)
theorem ST_up {n n2 : Nat} {X : Nat → Prop} {w0 w w' : hpW} {D : List (Nat × Nat × Nat)} (S : ST9 n X w0 w D) (H : LB n2 (fun b => X b ∨ b = 16) w') (g : ge9 n w w') (h16 : 16 ≤ n) (hD : ∀ q, q ∈ D → q.1 < n) (hi : n < 52 → 52 ≤ n2 → hp_i w' 20 2 = -1) : ST9 n2 X w0 w' D := by
  refine ⟨H, ge9_tr S.2.1 (ge9_le h16 g), fun q hq => ?_, fun h => ?_⟩
  · rw [(g q.1 (hD q hq)).2.1]
    exact S.2.2.1 q hq
  · rcases Nat.lt_or_ge n 52 with z | z
    · exact hi z h
    · rw [(g 20 (by omega)).2.2.1]
      exact S.2.2.2 z
theorem ST_put {n k t : Nat} {X : Nat → Prop} {w0 w : hpW} {D : List (Nat × Nat × Nat)} (S : ST9 n X w0 w D) (hD : ∀ q, q ∈ D → ¬ (q.1 = 16 ∧ q.2.1 = k)) : ST9 n X w0 (hp_sr w 16 k (some t)) ((16, k, t) :: D) := by
  refine ⟨LB_set S.1 (Or.inr (Or.inr (Or.inr rfl))), ge9_tr S.2.1 (ge9_sr (Nat.le_refl _)), fun q hq => ?_, S.2.2.2⟩
  show hp_u (hp_r w) 16 k (some t) q.1 q.2.1 = _
  rcases List.mem_cons.mp hq with e | e
  · rw [e, hp_u_at]
  · have z := hD q e
    unfold hp_u
    rw [if_neg z]
    exact S.2.2.1 q e
theorem ST_add {n : Nat} {X : Nat → Prop} {w0 w : hpW} {D : List (Nat × Nat × Nat)} {q : Nat × Nat × Nat} (S : ST9 n X w0 w D) (h : hp_r w q.1 q.2.1 = some q.2.2) : ST9 n X w0 w (q :: D) := ⟨S.1, S.2.1, fun p hp => by
  rcases List.mem_cons.mp hp with e | e
  · rw [e]; exact h
  · exact S.2.2.1 p e, S.2.2.2⟩
theorem ST_nk {n c N b : Nat} {X : Nat → Prop} {w0 w : hpW} {D : List (Nat × Nat × Nat)} (S : ST9 n X w0 w D) (h : 16 ≤ b) (h2 : b < n) : hp_k (hp_new w c N) b = ly_k b := by
  have e := S.1.1
  rw [nw_k, if_neg (by omega)]
  exact S.1.2.1 b h h2
theorem ST_nr {n c N : Nat} {X : Nat → Prop} {w0 w : hpW} {D : List (Nat × Nat × Nat)} {q : Nat × Nat × Nat} (S : ST9 n X w0 w D) (h : q ∈ D) (h2 : q.1 < n) : hp_r (hp_new w c N) q.1 q.2.1 = some q.2.2 := by
  have e := S.1.1
  rw [nw_r, if_neg (by omega)]
  exact S.2.2.1 q h
theorem ST_row {n c N : Nat} {X : Nat → Prop} {w0 w : hpW} {D : List (Nat × Nat × Nat)} (S : ST9 n X w0 w D) (h52 : 52 ≤ n) (h : ly_k n = (c, N)) (hr : ly_R.getD (n - 16) [] = []) (hD : ∀ q, q ∈ D → q.1 < n) : ST9 (n + 1) X w0 (hp_new w c N) D :=
  ST_up S (LB_row S.1 h hr) (ge9_nw (by have e := S.1.1; omega)) (by omega) hD (fun z => absurd z (by omega))
set_option maxHeartbeats 2000000 in
set_option maxRecDepth 20000 in
theorem c_X2_next0 {E : sxE} {w : hpW} {Q : Option Value → hpW → Prop} (hk : hp_k w 20 = (2, 3)) (hr : hp_r w 20 0 = some 21) (hi : hp_i w 20 1 = 0) (hk2 : hp_k w 21 = (15, 5)) (hr2 : hp_r w 21 0 = some 22) (h : Q (some (.ref 22)) w) : sx_C E mX2_next 1 0 0 [.ref 20] w Q := by
  refine C_of (by decide +kernel) (Nat.le_of_ble_eq_true rfl) ?_
  refine V_aload_n (i := 0) (sx_di dX2_next 0 rfl) rfl rfl ?_
  refine V_getR (sx_di dX2_next 1 rfl) fX2_11 (fun _ => rfl) hk hr ?_
  refine V_aload_n (i := 0) (sx_di dX2_next 2 rfl) rfl rfl ?_
  refine V_getI (sx_di dX2_next 3 rfl) fX2_22 (fun _ => rfl) hk ?_
  refine V_if_lt (tgt := 26) (sx_di dX2_next 4 rfl) (by decide) (fun h8 => ?_) (fun h8 => ?_)
  · rw [hi] at h8
    exact absurd h8 (by decide)
  · refine V_aload_n (i := 0) (sx_di dX2_next 5 rfl) rfl rfl ?_
    refine V_getI (sx_di dX2_next 6 rfl) fX2_22 (fun _ => rfl) hk ?_
    refine V_iconst (v := 4) (sx_di dX2_next 7 rfl) (by decide) ?_
    refine V_icmp_ge (tgt := 26) (sx_di dX2_next 8 rfl) (by decide) (fun h16 => ?_) (fun h16 => ?_)
    · rw [hi] at h16
      exact absurd h16 (by decide)
    · refine V_aload_n (i := 0) (sx_di dX2_next 9 rfl) rfl rfl ?_
      refine V_getI (sx_di dX2_next 10 rfl) fX2_22 (fun _ => rfl) hk ?_
      refine V_goto (tgt := 27) (sx_di dX2_next 11 rfl) (by decide) ?_
      refine V_aald (sx_di dX2_next 13 rfl) hk2 (by decide) (by rw [hi]; unfold vp_in; decide) (by rw [hi]; exact hr2) ?_
      refine V_aret (sx_di dX2_next 14 rfl) rfl (by first | exact Or.inl rfl | exact Or.inr ⟨_, rfl⟩) (Nat.le_refl _) (Nat.le_refl _) ?_
      exact h
set_option maxHeartbeats 2000000 in
set_option maxRecDepth 20000 in
theorem k_X11_init {E : sxE} {w : hpW} {Q : Option Value → hpW → Prop} {X : Nat → Prop} (hx : ∀ b, 16 ≤ b → ¬ X b) (hA : AO9 E) (H : LB 16 X w) (h : ∀ w', LB 381 X w' → ge9 16 w w' → hp_i w' 20 2 = -1 → hp_r w' 16 4 = some 53 → hp_r w' 16 5 = some 55 → hp_r w' 57 0 = some 53 → Q none w') : sx_C E mX11_init 4 364 6436 [.ref 16] (hp_new w 11 19) Q := by
  have S0 : ST9 17 X w (hp_new w 11 19) [] := by
    obtain ⟨H1, g1⟩ := LB_obj (c := 11) (N := 19) H (by decide +kernel)
    exact ⟨H1, g1, fun q hq => absurd hq (by simp), fun z => absurd z (by decide)⟩
  generalize hp_new w 11 19 = u0 at S0 ⊢
  have r16 : ∀ j t, ly_r 16 j = some t → (16, j, t) ∈ ([(16, 18, 380), (16, 17, 379), (16, 16, 378), (16, 13, 377), (16, 12, 373), (16, 11, 369), (16, 10, 357), (16, 9, 75), (16, 8, 71), (16, 7, 64), (16, 6, 57), (57, 0, 53), (16, 5, 55), (16, 4, 53), (16, 3, 52), (16, 2, 20), (16, 1, 19), (16, 0, 17)] : List (Nat × Nat × Nat)) := fun j t hj => by
    rcases Nat.lt_or_ge j 19 with z | z
    · have q : ∀ j, j < 19 → (match ly_r 16 j with | none => true | some t => decide ((16, j, t) ∈ ([(16, 18, 380), (16, 17, 379), (16, 16, 378), (16, 13, 377), (16, 12, 373), (16, 11, 369), (16, 10, 357), (16, 9, 75), (16, 8, 71), (16, 7, 64), (16, 6, 57), (57, 0, 53), (16, 5, 55), (16, 4, 53), (16, 3, 52), (16, 2, 20), (16, 1, 19), (16, 0, 17)] : List (Nat × Nat × Nat)))) = true := by decide +kernel
      have q2 := q j z
      rw [hj] at q2
      exact of_decide_eq_true q2
    · rw [ly_big (by have e : (ly_R.getD (16 - 16) []).length = 19 := by decide +kernel
                     omega)] at hj
      cases hj
  refine C_of (by decide +kernel) (Nat.le_of_ble_eq_true rfl) ?_
  refine V_aload_n (i := 0) (sx_di dX11_init 0 rfl) rfl rfl ?_
  refine V_objInit (sx_di dX11_init 1 rfl) (sx_a1 30 rfl rfl) (sx_a1 31 rfl rfl) (sx_a1 32 rfl rfl) (Nat.le_of_ble_eq_true rfl) ⟨Nat.le_of_ble_eq_true rfl, Nat.le_of_ble_eq_true rfl⟩ ?_
  refine V_aload_n (i := 0) (sx_di dX11_init 2 rfl) rfl rfl ?_
  refine V_new (c := 10) (sx_di dX11_init 3 rfl) (by decide) (sx_a1 33 rfl rfl) (sx_a1 34 rfl rfl) (sx_a1 2 rfl rfl) (Nat.le_of_ble_eq_true rfl) (Nat.le_of_ble_eq_true rfl) ?_
  refine V_dup (sx_di dX11_init 4 rfl) rfl ?_
  refine V_cI0 (mc' := 1) (ms' := 240) (M' := mX10_init) 2 (sx_di dX11_init 5 rfl) lX11_11 vX10_init (Nat.le_of_ble_eq_true rfl) ⟨Nat.le_of_ble_eq_true rfl, Nat.le_of_ble_eq_true rfl⟩ ⟨Nat.le_of_ble_eq_true rfl, Nat.le_of_ble_eq_true rfl⟩ ?_
  rw [S0.1.1]
  refine k_X10_init S0.1 (by decide) (by decide +kernel) (fun w1 H0 g0 k0 => ?_)
  have T0 : ST9 19 X w w1 [] := ST_up S0 H0 g0 (by decide) (by decide) (fun z1 z2 => absurd z2 (by decide))
  refine V_putFR (c := 11) (k := 0) (sx_di dX11_init 6 rfl) (by decide) (by decide) (sx_a2 58 rfl rfl) rfl rfl rfl (fun _ => rfl) (T0.1.2.1 16 (by decide) (by decide)) (fun _ => rfl) (fun _ => rfl) ?_
  have S1 := ST_put (k := 0) (t := 17) T0 (by decide)
  generalize hp_sr w1 16 0 (some 17) = u1 at S1 ⊢
  refine V_aload_n (i := 0) (sx_di dX11_init 7 rfl) rfl rfl ?_
  refine V_new (c := 9) (sx_di dX11_init 8 rfl) (by decide) (sx_a1 58 rfl rfl) (sx_a1 59 rfl rfl) (sx_a1 3 rfl rfl) (Nat.le_of_ble_eq_true rfl) (Nat.le_of_ble_eq_true rfl) ?_
  refine V_dup (sx_di dX11_init 9 rfl) rfl ?_
  refine V_aload_n (i := 0) (sx_di dX11_init 10 rfl) rfl rfl ?_
  refine V_getR (sx_di dX11_init 11 rfl) fX11_12 (fun _ => rfl) (ST_nk S1 (by decide) (by decide)) (show hp_r _ 16 0 = some 17 from ST_nr (q := (16, 0, 17)) S1 (by decide) (by decide)) ?_
  refine V_cI1 (mc' := 0) (ms' := 0) (M' := mX9_init) 2 (sx_di dX11_init 12 rfl) lX11_18 vX9_init (Nat.le_of_ble_eq_true rfl) ⟨Nat.le_of_ble_eq_true rfl, Nat.le_of_ble_eq_true rfl⟩ ⟨Nat.le_of_ble_eq_true rfl, Nat.le_of_ble_eq_true rfl⟩ ?_
  rw [S1.1.1]
  obtain ⟨H1, g1⟩ := LB_obj1 (c := 9) (N := 1) (t := 17) S1.1 (by decide +kernel) (r_one (L := []) (by decide +kernel) rfl)
  refine c_X9_init (by rw [nw_k, if_pos S1.1.1.symm]; rfl) ?_
  have T1 : ST9 20 X w (hp_sr (hp_new u1 9 (cl_N 9)) 19 0 (some 17)) [(16, 0, 17)] := ST_up S1 H1 g1 (by decide) (by decide) (fun z1 z2 => absurd z2 (by decide))
  generalize hp_sr (hp_new u1 9 (cl_N 9)) 19 0 (some 17) = w2 at T1 ⊢
  refine V_putFR (c := 11) (k := 1) (sx_di dX11_init 13 rfl) (by decide) (by decide) (sx_a2 59 rfl rfl) rfl rfl rfl (fun _ => rfl) (T1.1.2.1 16 (by decide) (by decide)) (fun _ => rfl) (fun _ => rfl) ?_
  have S2 := ST_put (k := 1) (t := 19) T1 (by decide)
  generalize hp_sr w2 16 1 (some 19) = u2 at S2 ⊢
  refine V_aload_n (i := 0) (sx_di dX11_init 14 rfl) rfl rfl ?_
  refine V_new (c := 2) (sx_di dX11_init 15 rfl) (by decide) (sx_a1 68 rfl rfl) (sx_a1 69 rfl rfl) (sx_a1 4 rfl rfl) (Nat.le_of_ble_eq_true rfl) (Nat.le_of_ble_eq_true rfl) ?_
  refine V_dup (sx_di dX11_init 16 rfl) rfl ?_
  refine V_cI0 (mc' := 31) (ms' := 2150) (M' := mX2_init) 3 (sx_di dX11_init 17 rfl) lX11_27 vX2_init (Nat.le_of_ble_eq_true rfl) ⟨Nat.le_of_ble_eq_true rfl, Nat.le_of_ble_eq_true rfl⟩ ⟨Nat.le_of_ble_eq_true rfl, Nat.le_of_ble_eq_true rfl⟩ ?_
  rw [S2.1.1]
  refine k_X2_init hA S2.1 (fun w3 H2 g2 i2 => ?_)
  have T2 : ST9 52 X w w3 [(16, 1, 19), (16, 0, 17)] := ST_up S2 H2 g2 (by decide) (by decide) (fun z1 z2 => i2)
  refine V_putFR (c := 11) (k := 2) (sx_di dX11_init 18 rfl) (by decide) (by decide) (sx_a2 60 rfl rfl) rfl rfl rfl (fun _ => rfl) (T2.1.2.1 16 (by decide) (by decide)) (fun _ => rfl) (fun _ => rfl) ?_
  have S3 := ST_put (k := 2) (t := 20) T2 (by decide)
  generalize hp_sr w3 16 2 (some 20) = u3 at S3 ⊢
  refine V_aload_n (i := 0) (sx_di dX11_init 19 rfl) rfl rfl ?_
  refine V_new (c := 3) (sx_di dX11_init 20 rfl) (by decide) (sx_a1 115 rfl rfl) (sx_a1 116 rfl rfl) (sx_a1 6 rfl rfl) (Nat.le_of_ble_eq_true rfl) (Nat.le_of_ble_eq_true rfl) ?_
  refine V_dup (sx_di dX11_init 21 rfl) rfl ?_
  refine V_aload_n (i := 0) (sx_di dX11_init 22 rfl) rfl rfl ?_
  refine V_getR (sx_di dX11_init 23 rfl) fX11_12 (fun _ => rfl) (ST_nk S3 (by decide) (by decide)) (show hp_r _ 16 0 = some 17 from ST_nr (q := (16, 0, 17)) S3 (by decide) (by decide)) ?_
  refine V_aload_n (i := 0) (sx_di dX11_init 24 rfl) rfl rfl ?_
  refine V_getR (sx_di dX11_init 25 rfl) fX11_28 (fun _ => rfl) (ST_nk S3 (by decide) (by decide)) (show hp_r _ 16 2 = some 20 from ST_nr (q := (16, 2, 20)) S3 (by decide) (by decide)) ?_
  refine V_cV0 (mc' := 0) (ms' := 0) (M' := mX2_next) 1 (sx_di dX11_init 26 rfl) lX11_34 vX2_next (ST_nk S3 (by decide) (by decide)) (by decide) rfl (Nat.le_of_ble_eq_true rfl) ⟨Nat.le_of_ble_eq_true rfl, Nat.le_of_ble_eq_true rfl⟩ ⟨Nat.le_of_ble_eq_true rfl, Nat.le_of_ble_eq_true rfl⟩ ?_
  have gN : ge9 52 u3 (hp_new u3 3 (cl_N 3)) := ge9_nw (by have e := S3.1.1; omega)
  refine c_X2_next0 (ST_nk S3 (by decide) (by decide)) (by rw [(gN 20 (by decide)).2.1]; exact S3.1.2.2.1 20 0 21 (by decide) (fun z => z.elim (fun z => hx 20 (by decide) z) (by decide)) (by decide +kernel)) (by rw [(gN 20 (by decide)).2.2.1]; exact S3.1.2.2.2 20 1 (by decide) (by decide) ⟨fun z => absurd z.2 (by decide), fun z => absurd z.2 (by decide), fun z => absurd z.1 (by decide)⟩) (ST_nk S3 (by decide) (by decide)) (by rw [(gN 21 (by decide)).2.1]; exact S3.1.2.2.1 21 0 22 (by decide) (fun z => z.elim (fun z => hx 21 (by decide) z) (by decide)) (by decide +kernel)) ?_
  refine V_cI2 (mc' := 0) (ms' := 0) (M' := mX3_init) 2 (sx_di dX11_init 27 rfl) lX11_38 vX3_init (Nat.le_of_ble_eq_true rfl) ⟨Nat.le_of_ble_eq_true rfl, Nat.le_of_ble_eq_true rfl⟩ ⟨Nat.le_of_ble_eq_true rfl, Nat.le_of_ble_eq_true rfl⟩ ?_
  rw [S3.1.1]
  obtain ⟨H3, g3⟩ := LB_obj1 (c := 3) (N := 2) (t := 17) S3.1 (by decide +kernel) (r_one (L := [none]) (by decide +kernel) rfl)
  have H3b := LB_set (a := 52) (k := 1) (t := 22) H3 (Or.inl (by decide +kernel))
  have g3b := ge9_tr g3 (ge9_sr (k := 1) (x := some 22) (Nat.le_refl 52))
  refine c_X3_init (by rw [nw_k, if_pos S3.1.1.symm]; rfl) ?_
  have T3 : ST9 53 X w (hp_sr (hp_sr (hp_new u3 3 (cl_N 3)) 52 0 (some 17)) 52 1 (some 22)) [(16, 2, 20), (16, 1, 19), (16, 0, 17)] := ST_up S3 H3b g3b (by decide) (by decide) (fun z1 z2 => absurd z1 (by decide))
  generalize hp_sr (hp_sr (hp_new u3 3 (cl_N 3)) 52 0 (some 17)) 52 1 (some 22) = w4 at T3 ⊢
  refine V_putFR (c := 11) (k := 3) (sx_di dX11_init 28 rfl) (by decide) (by decide) (sx_a2 61 rfl rfl) rfl rfl rfl (fun _ => rfl) (T3.1.2.1 16 (by decide) (by decide)) (fun _ => rfl) (fun _ => rfl) ?_
  have S4 := ST_put (k := 3) (t := 52) T3 (by decide)
  generalize hp_sr w4 16 3 (some 52) = u4 at S4 ⊢
  refine V_aload_n (i := 0) (sx_di dX11_init 29 rfl) rfl rfl ?_
  refine V_new (c := 8) (sx_di dX11_init 30 rfl) (by decide) (sx_a1 132 rfl rfl) (sx_a1 133 rfl rfl) (sx_a1 7 rfl rfl) (Nat.le_of_ble_eq_true rfl) (Nat.le_of_ble_eq_true rfl) ?_
  refine V_dup (sx_di dX11_init 31 rfl) rfl ?_
  refine V_cI0 (mc' := 1) (ms' := 48) (M' := mX8_init) 2 (sx_di dX11_init 32 rfl) lX11_47 vX8_init (Nat.le_of_ble_eq_true rfl) ⟨Nat.le_of_ble_eq_true rfl, Nat.le_of_ble_eq_true rfl⟩ ⟨Nat.le_of_ble_eq_true rfl, Nat.le_of_ble_eq_true rfl⟩ ?_
  rw [S4.1.1]
  refine k_X8_init S4.1 (by decide) (by decide +kernel) (fun w5 H4 g4 k4 => ?_)
  have T4 : ST9 55 X w w5 [(16, 3, 52), (16, 2, 20), (16, 1, 19), (16, 0, 17)] := ST_up S4 H4 g4 (by decide) (by decide) (fun z1 z2 => absurd z1 (by decide))
  refine V_putR (sx_di dX11_init 33 rfl) fX11_48 (fun _ => rfl) rfl (T4.1.2.1 16 (by decide) (by decide)) (fun _ => rfl) (fun _ => rfl) ?_
  have S5 := ST_put (k := 4) (t := 53) T4 (by decide)
  generalize hp_sr w5 16 4 (some 53) = u5 at S5 ⊢
  refine V_aload_n (i := 0) (sx_di dX11_init 34 rfl) rfl rfl ?_
  refine V_new (c := 8) (sx_di dX11_init 35 rfl) (by decide) (sx_a1 132 rfl rfl) (sx_a1 133 rfl rfl) (sx_a1 7 rfl rfl) (Nat.le_of_ble_eq_true rfl) (Nat.le_of_ble_eq_true rfl) ?_
  refine V_dup (sx_di dX11_init 36 rfl) rfl ?_
  refine V_cI0 (mc' := 1) (ms' := 48) (M' := mX8_init) 2 (sx_di dX11_init 37 rfl) lX11_47 vX8_init (Nat.le_of_ble_eq_true rfl) ⟨Nat.le_of_ble_eq_true rfl, Nat.le_of_ble_eq_true rfl⟩ ⟨Nat.le_of_ble_eq_true rfl, Nat.le_of_ble_eq_true rfl⟩ ?_
  rw [S5.1.1]
  refine k_X8_init S5.1 (by decide) (by decide +kernel) (fun w6 H5 g5 k5 => ?_)
  have T5 : ST9 57 X w w6 [(16, 4, 53), (16, 3, 52), (16, 2, 20), (16, 1, 19), (16, 0, 17)] := ST_up S5 H5 g5 (by decide) (by decide) (fun z1 z2 => absurd z1 (by decide))
  refine V_putR (sx_di dX11_init 38 rfl) fX11_52 (fun _ => rfl) rfl (T5.1.2.1 16 (by decide) (by decide)) (fun _ => rfl) (fun _ => rfl) ?_
  have S6 := ST_put (k := 5) (t := 55) T5 (by decide)
  generalize hp_sr w6 16 5 (some 55) = u6 at S6 ⊢
  refine V_aload_n (i := 0) (sx_di dX11_init 39 rfl) rfl rfl ?_
  refine V_new (c := 7) (sx_di dX11_init 40 rfl) (by decide) (sx_a1 156 rfl rfl) (sx_a1 157 rfl rfl) (sx_a1 8 rfl rfl) (Nat.le_of_ble_eq_true rfl) (Nat.le_of_ble_eq_true rfl) ?_
  refine V_dup (sx_di dX11_init 41 rfl) rfl ?_
  refine V_aload_n (i := 0) (sx_di dX11_init 42 rfl) rfl rfl ?_
  refine V_getR (sx_di dX11_init 43 rfl) fX11_48 (fun _ => rfl) (ST_nk S6 (by decide) (by decide)) (show hp_r _ 16 4 = some 53 from ST_nr (q := (16, 4, 53)) S6 (by decide) (by decide)) ?_
  refine V_cI1 (mc' := 6) (ms' := 48) (M' := mX7_init) 2 (sx_di dX11_init 44 rfl) lX11_57 vX7_init (Nat.le_of_ble_eq_true rfl) ⟨Nat.le_of_ble_eq_true rfl, Nat.le_of_ble_eq_true rfl⟩ ⟨Nat.le_of_ble_eq_true rfl, Nat.le_of_ble_eq_true rfl⟩ ?_
  rw [S6.1.1]
  refine k_X7_init S6.1 (by decide) (by decide +kernel) (fun w7 H6 g6 k6 r6 => ?_)
  have T6 : ST9 64 X w w7 [(16, 5, 55), (16, 4, 53), (16, 3, 52), (16, 2, 20), (16, 1, 19), (16, 0, 17)] := ST_up S6 H6 g6 (by decide) (by decide) (fun z1 z2 => absurd z1 (by decide))
  have T6b := ST_add (q := (57, 0, 53)) T6 r6
  refine V_putFR (c := 11) (k := 6) (sx_di dX11_init 45 rfl) (by decide) (by decide) (sx_a2 64 rfl rfl) rfl rfl rfl (fun _ => rfl) (T6b.1.2.1 16 (by decide) (by decide)) (fun _ => rfl) (fun _ => rfl) ?_
  have S7 := ST_put (k := 6) (t := 57) T6b (by decide)
  generalize hp_sr w7 16 6 (some 57) = u7 at S7 ⊢
  refine V_aload_n (i := 0) (sx_di dX11_init 46 rfl) rfl rfl ?_
  refine V_new (c := 7) (sx_di dX11_init 47 rfl) (by decide) (sx_a1 156 rfl rfl) (sx_a1 157 rfl rfl) (sx_a1 8 rfl rfl) (Nat.le_of_ble_eq_true rfl) (Nat.le_of_ble_eq_true rfl) ?_
  refine V_dup (sx_di dX11_init 48 rfl) rfl ?_
  refine V_aload_n (i := 0) (sx_di dX11_init 49 rfl) rfl rfl ?_
  refine V_getR (sx_di dX11_init 50 rfl) fX11_48 (fun _ => rfl) (ST_nk S7 (by decide) (by decide)) (show hp_r _ 16 4 = some 53 from ST_nr (q := (16, 4, 53)) S7 (by decide) (by decide)) ?_
  refine V_cI1 (mc' := 6) (ms' := 48) (M' := mX7_init) 2 (sx_di dX11_init 51 rfl) lX11_57 vX7_init (Nat.le_of_ble_eq_true rfl) ⟨Nat.le_of_ble_eq_true rfl, Nat.le_of_ble_eq_true rfl⟩ ⟨Nat.le_of_ble_eq_true rfl, Nat.le_of_ble_eq_true rfl⟩ ?_
  rw [S7.1.1]
  refine k_X7_init S7.1 (by decide) (by decide +kernel) (fun w8 H7 g7 k7 r7 => ?_)
  have T7 : ST9 71 X w w8 [(16, 6, 57), (57, 0, 53), (16, 5, 55), (16, 4, 53), (16, 3, 52), (16, 2, 20), (16, 1, 19), (16, 0, 17)] := ST_up S7 H7 g7 (by decide) (by decide) (fun z1 z2 => absurd z1 (by decide))
  refine V_putFR (c := 11) (k := 7) (sx_di dX11_init 52 rfl) (by decide) (by decide) (sx_a2 65 rfl rfl) rfl rfl rfl (fun _ => rfl) (T7.1.2.1 16 (by decide) (by decide)) (fun _ => rfl) (fun _ => rfl) ?_
  have S8 := ST_put (k := 7) (t := 64) T7 (by decide)
  generalize hp_sr w8 16 7 (some 64) = u8 at S8 ⊢
  refine V_aload_n (i := 0) (sx_di dX11_init 53 rfl) rfl rfl ?_
  refine V_new (c := 4) (sx_di dX11_init 54 rfl) (by decide) (sx_a1 217 rfl rfl) (sx_a1 218 rfl rfl) (sx_a1 9 rfl rfl) (Nat.le_of_ble_eq_true rfl) (Nat.le_of_ble_eq_true rfl) ?_
  refine V_dup (sx_di dX11_init 55 rfl) rfl ?_
  refine V_cI0 (mc' := 3) (ms' := 384) (M' := mX4_init) 2 (sx_di dX11_init 56 rfl) lX11_69 vX4_init (Nat.le_of_ble_eq_true rfl) ⟨Nat.le_of_ble_eq_true rfl, Nat.le_of_ble_eq_true rfl⟩ ⟨Nat.le_of_ble_eq_true rfl, Nat.le_of_ble_eq_true rfl⟩ ?_
  rw [S8.1.1]
  refine k_X4_init S8.1 (by decide) (by decide +kernel) (fun w9 H8 g8 k8 => ?_)
  have T8 : ST9 75 X w w9 [(16, 7, 64), (16, 6, 57), (57, 0, 53), (16, 5, 55), (16, 4, 53), (16, 3, 52), (16, 2, 20), (16, 1, 19), (16, 0, 17)] := ST_up S8 H8 g8 (by decide) (by decide) (fun z1 z2 => absurd z1 (by decide))
  refine V_putFR (c := 11) (k := 8) (sx_di dX11_init 57 rfl) (by decide) (by decide) (sx_a2 66 rfl rfl) rfl rfl rfl (fun _ => rfl) (T8.1.2.1 16 (by decide) (by decide)) (fun _ => rfl) (fun _ => rfl) ?_
  have S9 := ST_put (k := 8) (t := 71) T8 (by decide)
  generalize hp_sr w9 16 8 (some 71) = u9 at S9 ⊢
  refine V_aload_n (i := 0) (sx_di dX11_init 58 rfl) rfl rfl ?_
  refine V_new (c := 6) (sx_di dX11_init 59 rfl) (by decide) (sx_a1 233 rfl rfl) (sx_a1 234 rfl rfl) (sx_a1 10 rfl rfl) (Nat.le_of_ble_eq_true rfl) (Nat.le_of_ble_eq_true rfl) ?_
  refine V_dup (sx_di dX11_init 60 rfl) rfl ?_
  refine V_aload_n (i := 0) (sx_di dX11_init 61 rfl) rfl rfl ?_
  refine V_getR (sx_di dX11_init 62 rfl) fX11_48 (fun _ => rfl) (ST_nk S9 (by decide) (by decide)) (show hp_r _ 16 4 = some 53 from ST_nr (q := (16, 4, 53)) S9 (by decide) (by decide)) ?_
  refine V_cI1 (mc' := 281) (ms' := 2480) (M' := mX6_init) 3 (sx_di dX11_init 63 rfl) lX11_76 vX6_init (Nat.le_of_ble_eq_true rfl) ⟨Nat.le_of_ble_eq_true rfl, Nat.le_of_ble_eq_true rfl⟩ ⟨Nat.le_of_ble_eq_true rfl, Nat.le_of_ble_eq_true rfl⟩ ?_
  rw [S9.1.1]
  refine k_X6_init hA S9.1 (fun w10 H9 g9 => ?_)
  have T9 : ST9 357 X w w10 [(16, 8, 71), (16, 7, 64), (16, 6, 57), (57, 0, 53), (16, 5, 55), (16, 4, 53), (16, 3, 52), (16, 2, 20), (16, 1, 19), (16, 0, 17)] := ST_up S9 H9 g9 (by decide) (by decide) (fun z1 z2 => absurd z1 (by decide))
  refine V_putFR (c := 11) (k := 9) (sx_di dX11_init 64 rfl) (by decide) (by decide) (sx_a2 67 rfl rfl) rfl rfl rfl (fun _ => rfl) (T9.1.2.1 16 (by decide) (by decide)) (fun _ => rfl) (fun _ => rfl) ?_
  have S10 := ST_put (k := 9) (t := 75) T9 (by decide)
  generalize hp_sr w10 16 9 (some 75) = u10 at S10 ⊢
  refine V_aload_n (i := 0) (sx_di dX11_init 65 rfl) rfl rfl ?_
  refine V_new (c := 0) (sx_di dX11_init 66 rfl) (by decide) (sx_a2 13 rfl rfl) (sx_a2 14 rfl rfl) (sx_a1 11 rfl rfl) (Nat.le_of_ble_eq_true rfl) (Nat.le_of_ble_eq_true rfl) ?_
  refine V_dup (sx_di dX11_init 67 rfl) rfl ?_
  refine V_aload_n (i := 0) (sx_di dX11_init 68 rfl) rfl rfl ?_
  refine V_getR (sx_di dX11_init 69 rfl) fX11_48 (fun _ => rfl) (ST_nk S10 (by decide) (by decide)) (show hp_r _ 16 4 = some 53 from ST_nr (q := (16, 4, 53)) S10 (by decide) (by decide)) ?_
  refine V_cI1 (mc' := 11) (ms' := 448) (M' := mX0_init) 3 (sx_di dX11_init 70 rfl) lX11_83 vX0_init (Nat.le_of_ble_eq_true rfl) ⟨Nat.le_of_ble_eq_true rfl, Nat.le_of_ble_eq_true rfl⟩ ⟨Nat.le_of_ble_eq_true rfl, Nat.le_of_ble_eq_true rfl⟩ ?_
  rw [S10.1.1]
  refine k_X0_init S10.1 (fun w11 H10 g10 => ?_)
  have T10 : ST9 369 X w w11 [(16, 9, 75), (16, 8, 71), (16, 7, 64), (16, 6, 57), (57, 0, 53), (16, 5, 55), (16, 4, 53), (16, 3, 52), (16, 2, 20), (16, 1, 19), (16, 0, 17)] := ST_up S10 H10 g10 (by decide) (by decide) (fun z1 z2 => absurd z1 (by decide))
  refine V_putFR (c := 11) (k := 10) (sx_di dX11_init 71 rfl) (by decide) (by decide) (sx_a2 68 rfl rfl) rfl rfl rfl (fun _ => rfl) (T10.1.2.1 16 (by decide) (by decide)) (fun _ => rfl) (fun _ => rfl) ?_
  have S11 := ST_put (k := 10) (t := 357) T10 (by decide)
  generalize hp_sr w11 16 10 (some 357) = u11 at S11 ⊢
  refine V_aload_n (i := 0) (sx_di dX11_init 72 rfl) rfl rfl ?_
  refine V_new (c := 5) (sx_di dX11_init 73 rfl) (by decide) (sx_a2 34 rfl rfl) (sx_a2 35 rfl rfl) (sx_a1 12 rfl rfl) (Nat.le_of_ble_eq_true rfl) (Nat.le_of_ble_eq_true rfl) ?_
  refine V_dup (sx_di dX11_init 74 rfl) rfl ?_
  refine V_cI0 (mc' := 3) (ms' := 30) (M' := mX5_init) 2 (sx_di dX11_init 75 rfl) lX11_90 vX5_init (Nat.le_of_ble_eq_true rfl) ⟨Nat.le_of_ble_eq_true rfl, Nat.le_of_ble_eq_true rfl⟩ ⟨Nat.le_of_ble_eq_true rfl, Nat.le_of_ble_eq_true rfl⟩ ?_
  rw [S11.1.1]
  refine k_X5_init S11.1 (by decide) (by decide +kernel) (fun w12 H11 g11 k11 => ?_)
  have T11 : ST9 373 X w w12 [(16, 10, 357), (16, 9, 75), (16, 8, 71), (16, 7, 64), (16, 6, 57), (57, 0, 53), (16, 5, 55), (16, 4, 53), (16, 3, 52), (16, 2, 20), (16, 1, 19), (16, 0, 17)] := ST_up S11 H11 g11 (by decide) (by decide) (fun z1 z2 => absurd z1 (by decide))
  refine V_putFR (c := 11) (k := 11) (sx_di dX11_init 76 rfl) (by decide) (by decide) (sx_a2 69 rfl rfl) rfl rfl rfl (fun _ => rfl) (T11.1.2.1 16 (by decide) (by decide)) (fun _ => rfl) (fun _ => rfl) ?_
  have S12 := ST_put (k := 11) (t := 369) T11 (by decide)
  generalize hp_sr w12 16 11 (some 369) = u12 at S12 ⊢
  refine V_aload_n (i := 0) (sx_di dX11_init 77 rfl) rfl rfl ?_
  refine V_new (c := 5) (sx_di dX11_init 78 rfl) (by decide) (sx_a2 34 rfl rfl) (sx_a2 35 rfl rfl) (sx_a1 12 rfl rfl) (Nat.le_of_ble_eq_true rfl) (Nat.le_of_ble_eq_true rfl) ?_
  refine V_dup (sx_di dX11_init 79 rfl) rfl ?_
  refine V_cI0 (mc' := 3) (ms' := 30) (M' := mX5_init) 2 (sx_di dX11_init 80 rfl) lX11_90 vX5_init (Nat.le_of_ble_eq_true rfl) ⟨Nat.le_of_ble_eq_true rfl, Nat.le_of_ble_eq_true rfl⟩ ⟨Nat.le_of_ble_eq_true rfl, Nat.le_of_ble_eq_true rfl⟩ ?_
  rw [S12.1.1]
  refine k_X5_init S12.1 (by decide) (by decide +kernel) (fun w13 H12 g12 k12 => ?_)
  have T12 : ST9 377 X w w13 [(16, 11, 369), (16, 10, 357), (16, 9, 75), (16, 8, 71), (16, 7, 64), (16, 6, 57), (57, 0, 53), (16, 5, 55), (16, 4, 53), (16, 3, 52), (16, 2, 20), (16, 1, 19), (16, 0, 17)] := ST_up S12 H12 g12 (by decide) (by decide) (fun z1 z2 => absurd z1 (by decide))
  refine V_putFR (c := 11) (k := 12) (sx_di dX11_init 81 rfl) (by decide) (by decide) (sx_a2 70 rfl rfl) rfl rfl rfl (fun _ => rfl) (T12.1.2.1 16 (by decide) (by decide)) (fun _ => rfl) (fun _ => rfl) ?_
  have S13 := ST_put (k := 12) (t := 373) T12 (by decide)
  generalize hp_sr w13 16 12 (some 373) = u13 at S13 ⊢
  refine V_aload_n (i := 0) (sx_di dX11_init 82 rfl) rfl rfl ?_
  refine V_iconst (v := 5) (sx_di dX11_init 83 rfl) (by decide) ?_
  refine V_newa (c := 13) (sx_di dX11_init 84 rfl) (Or.inl ⟨rfl, rfl⟩) rfl (sx_a1 57 rfl rfl) (by decide) rfl (by decide) (Nat.le_of_ble_eq_true rfl) (Nat.le_of_ble_eq_true rfl) ?_
  rw [S13.1.1, show Int32.toNatClampNeg 5 = 5 by decide]
  have T13 := ST_row (c := 13) (N := 5) S13 (by decide) (by decide +kernel) (by decide +kernel) (by decide)
  generalize hp_new u13 13 5 = w14 at T13 ⊢
  refine V_putFR (c := 11) (k := 13) (sx_di dX11_init 85 rfl) (by decide) (by decide) (sx_a2 71 rfl rfl) rfl rfl rfl (fun _ => rfl) (T13.1.2.1 16 (by decide) (by decide)) (fun _ => rfl) (fun _ => rfl) ?_
  have S14 := ST_put (k := 13) (t := 377) T13 (by decide)
  generalize hp_sr w14 16 13 (some 377) = u14 at S14 ⊢
  refine V_aload_n (i := 0) (sx_di dX11_init 86 rfl) rfl rfl ?_
  refine V_bipush (v := 8) (sx_di dX11_init 87 rfl) (by decide) ?_
  refine V_newa (c := 13) (sx_di dX11_init 88 rfl) (Or.inl ⟨rfl, rfl⟩) rfl (sx_a1 57 rfl rfl) (by decide) rfl (by decide) (Nat.le_of_ble_eq_true rfl) (Nat.le_of_ble_eq_true rfl) ?_
  rw [S14.1.1, show Int32.toNatClampNeg 8 = 8 by decide]
  have T14 := ST_row (c := 13) (N := 8) S14 (by decide) (by decide +kernel) (by decide +kernel) (by decide)
  generalize hp_new u14 13 8 = w15 at T14 ⊢
  refine V_putFR (c := 11) (k := 16) (sx_di dX11_init 89 rfl) (by decide) (by decide) (sx_a2 74 rfl rfl) rfl rfl rfl (fun _ => rfl) (T14.1.2.1 16 (by decide) (by decide)) (fun _ => rfl) (fun _ => rfl) ?_
  have S15 := ST_put (k := 16) (t := 378) T14 (by decide)
  generalize hp_sr w15 16 16 (some 378) = u15 at S15 ⊢
  refine V_aload_n (i := 0) (sx_di dX11_init 90 rfl) rfl rfl ?_
  refine V_bipush (v := 8) (sx_di dX11_init 91 rfl) (by decide) ?_
  refine V_newa (c := 13) (sx_di dX11_init 92 rfl) (Or.inl ⟨rfl, rfl⟩) rfl (sx_a1 57 rfl rfl) (by decide) rfl (by decide) (Nat.le_of_ble_eq_true rfl) (Nat.le_of_ble_eq_true rfl) ?_
  rw [S15.1.1, show Int32.toNatClampNeg 8 = 8 by decide]
  have T15 := ST_row (c := 13) (N := 8) S15 (by decide) (by decide +kernel) (by decide +kernel) (by decide)
  generalize hp_new u15 13 8 = w16 at T15 ⊢
  refine V_putFR (c := 11) (k := 17) (sx_di dX11_init 93 rfl) (by decide) (by decide) (sx_a2 75 rfl rfl) rfl rfl rfl (fun _ => rfl) (T15.1.2.1 16 (by decide) (by decide)) (fun _ => rfl) (fun _ => rfl) ?_
  have S16 := ST_put (k := 17) (t := 379) T15 (by decide)
  generalize hp_sr w16 16 17 (some 379) = u16 at S16 ⊢
  refine V_aload_n (i := 0) (sx_di dX11_init 94 rfl) rfl rfl ?_
  refine V_sipush (v := 400) (sx_di dX11_init 95 rfl) (by decide) ?_
  refine V_newa (c := 13) (sx_di dX11_init 96 rfl) (Or.inl ⟨rfl, rfl⟩) rfl (sx_a1 57 rfl rfl) (by decide) rfl (by decide) (Nat.le_of_ble_eq_true rfl) (Nat.le_of_ble_eq_true rfl) ?_
  rw [S16.1.1, show Int32.toNatClampNeg 400 = 400 by decide]
  have T16 := ST_row (c := 13) (N := 400) S16 (by decide) (by decide +kernel) (by decide +kernel) (by decide)
  generalize hp_new u16 13 400 = w17 at T16 ⊢
  refine V_putFR (c := 11) (k := 18) (sx_di dX11_init 97 rfl) (by decide) (by decide) (sx_a2 76 rfl rfl) rfl rfl rfl (fun _ => rfl) (T16.1.2.1 16 (by decide) (by decide)) (fun _ => rfl) (fun _ => rfl) ?_
  have S17 := ST_put (k := 18) (t := 380) T16 (by decide)
  generalize hp_sr w17 16 18 (some 380) = u17 at S17 ⊢
  refine V_vret (sx_di dX11_init 98 rfl) rfl (Nat.le_of_ble_eq_true rfl) (Nat.le_of_ble_eq_true rfl) ?_
  refine h _ (LB_less S17.1 (fun b _ b2 b3 j u hj => ?_)) S17.2.1 (S17.2.2.2 (by decide)) (S17.2.2.1 (16, 4, 53) (by decide)) (S17.2.2.1 (16, 5, 55) (by decide)) (S17.2.2.1 (57, 0, 53) (by decide))
  have e : b = 16 := b2.resolve_left b3
  subst e
  exact S17.2.2.1 (16, j, u) (r16 j u hj)

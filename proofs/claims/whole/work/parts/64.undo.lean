/-! undo, image, back, log -/
def q_undo (A : AS) : Int32 × AS := match a_K A with
  | [] => (-1, A)
  | r :: K => (nI K.length, pt_rK A r K)
theorem q_undo_n {A : AS} (h : a_K A = []) : q_undo A = (-1, A) := by unfold q_undo; rw [h]
theorem q_undo_c {A : AS} {r : Nat → Int32} {K : List (Nat → Int32)} (h : a_K A = r :: K) : q_undo A = (nI K.length, pt_rK A r K) := by unfold q_undo; rw [h]
theorem AV_undo {A : AS} (V : AV A) : AV (q_undo A).2 := by
  cases hK : a_K A with
  | nil => rw [q_undo_n hK]; exact V
  | cons r K =>
    rw [q_undo_c hK]
    obtain ⟨v1, v2, v3, ⟨v4, v5, v6, v7⟩, v8, v9⟩ := V
    rw [hK] at v5 v6 v9
    refine ⟨v1, v2, v3, ⟨v6 r (List.mem_cons_self ..), by show K.length ≤ 40; simp at v5; omega, fun q hq => v6 q (List.mem_cons_of_mem _ hq), v7⟩, v8, fun z => absurd (v9 z).1 (by simp)⟩
set_option maxHeartbeats 2000000 in
set_option maxRecDepth 20000 in
theorem un_lp {E : sxE} {w : hpW} {Q : Option Value → hpW → Prop} (hB : ly_B w) {L : Nat} (hL : L < 40) (h : Q (some (.int (nI L))) (hp_wi w (cq_ (hp_u (hp_i w) 381 32 (nI L)) 398 0 400 (226 * L) 226))) : ∀ q k, k + q = 226 → V E mX12_undo (sx_rm 1 0 0) 0 0 0 0 21 [(1, .int (nI k)), (0, .ref 381)] [] (hp_wi w (cq_ (hp_u (hp_i w) 381 32 (nI L)) 398 0 400 (226 * L) k)) Q := by
  intro q
  induction q with
  | zero =>
    intro k hk
    have e : k = 226 := by omega
    subst e
    have e32 : cq_ (hp_u (hp_i w) 381 32 (nI L)) 398 0 400 (226 * L) 226 381 32 = nI L := (congrFun (cq_o (by omega)) 32).trans (hp_u_at _ _ _ _)
    refine V_iload_n (i := 1) (sx_di dX12_undo 13 rfl) rfl rfl ?_
    refine V_sipush (v := 226) (sx_di dX12_undo 14 rfl) (by decide) ?_
    refine V_icN_ge (a := 226) (b := 226) (rfl) (rfl) (by omega) (by omega) (tgt := 55) (sx_di dX12_undo 15 rfl) (by decide) (fun _ => ?_) (fun h25 => absurd h25 (by omega))
    refine V_aload_n (i := 0) (sx_di dX12_undo 31 rfl) rfl rfl ?_
    refine V_getI (sx_di dX12_undo 32 rfl) fX12_276 (fun _ => rfl) (hB.k _ rfl) ?_
    refine V_iv (y := nI L) (e32) ?_
    refine V_iret (sx_di dX12_undo 33 rfl) rfl (Nat.le_refl _) (Nat.le_refl _) ?_
    exact h
  | succ q ih =>
    intro k hk
    have q1 := ih (k + 1) (by omega)
    rw [← cq_s _ (by decide), ← nI_1, Nat.zero_add] at q1
    have e32 : cq_ (hp_u (hp_i w) 381 32 (nI L)) 398 0 400 (226 * L) k 381 32 = nI L := (congrFun (cq_o (by omega)) 32).trans (hp_u_at _ _ _ _)
    refine V_iload_n (i := 1) (sx_di dX12_undo 13 rfl) rfl rfl ?_
    refine V_sipush (v := 226) (sx_di dX12_undo 14 rfl) (by decide) ?_
    refine V_icN_ge (a := k) (b := 226) (rfl) (rfl) (by omega) (by omega) (tgt := 55) (sx_di dX12_undo 15 rfl) (by decide) (fun h25 => absurd h25 (by omega)) (fun _ => ?_)
    refine V_aload_n (i := 0) (sx_di dX12_undo 16 rfl) rfl rfl ?_
    refine V_getR (sx_di dX12_undo 17 rfl) fX12_58 (fun _ => rfl) (hB.k _ rfl) (hB.r _ _ rfl) ?_
    refine V_iload_n (i := 1) (sx_di dX12_undo 18 rfl) rfl rfl ?_
    refine V_aload_n (i := 0) (sx_di dX12_undo 19 rfl) rfl rfl ?_
    refine V_getR (sx_di dX12_undo 20 rfl) fX12_68 (fun _ => rfl) (hB.k _ rfl) (hB.r _ _ rfl) ?_
    refine V_sipush (v := 226) (sx_di dX12_undo 21 rfl) (by decide) ?_
    refine V_aload_n (i := 0) (sx_di dX12_undo 22 rfl) rfl rfl ?_
    refine V_getI (sx_di dX12_undo 23 rfl) fX12_276 (fun _ => rfl) (hB.k _ rfl) ?_
    refine V_iv (y := nI L) (e32) ?_
    refine V_imul (sx_di dX12_undo 24 rfl) ?_
    refine V_iload_n (i := 1) (sx_di dX12_undo 25 rfl) rfl rfl ?_
    refine V_iadd (sx_di dX12_undo 26 rfl) ?_
    refine V_ialdN (n := 9040) (j := ((226 * L) + k)) (sx_di dX12_undo 27 rfl) (hB.k _ rfl) (nx_add (nx_mul (rfl) (rfl)) (rfl)) (by omega) (by omega) ?_
    refine V_iastN (n := 226) (j := k) (sx_di dX12_undo 28 rfl) (hB.k _ rfl) (rfl) (by omega) (by omega) ?_
    refine V_inc (c := 1) (sx_di dX12_undo 29 rfl) (by decide) rfl (by decide) (rfl) ?_
    refine V_goto (tgt := 21) (sx_di dX12_undo 30 rfl) (by decide) ?_
    exact V_subk q1 ⟨rfl, rfl, trivial⟩
theorem cq_398 {I : Nat → Nat → Int32} {b ob : Nat} {r : Nat → Int32} (h : ∀ j, j < 226 → I b (ob + j) = r j) (h2 : ∀ j, 226 ≤ j → I 398 j = r j) : cq_ I 398 0 b ob 226 398 = r := by
  funext j
  unfold cq_
  by_cases hj : j < 226
  · rw [if_pos ⟨rfl, by omega, by omega⟩, Nat.sub_zero]; exact h j hj
  · rw [if_neg (by omega)]; exact h2 j (by omega)
set_option maxHeartbeats 2000000 in
set_option maxRecDepth 20000 in
theorem oR_undo {E : sxE} {A : AS} {w : hpW} (VA : AV A) (H : RR A w) : oR E mX12_undo 1 [.ref 381] w A (q_undo A).1 (q_undo A).2 := by
  intro Q h
  obtain ⟨hB, h1, h2, h3, h4, h5, h6, ⟨h7, h8⟩, ⟨h9, h10⟩, h11, h12⟩ := id H
  have e32 : hp_i w 381 32 = nI (a_K A).length := h5.1
  have hK4 := VA.2.2.2.1.2.1
  cases hK : a_K A with
  | nil =>
    rw [q_undo_n hK] at h
    rw [hK] at e32
    refine C_of (by decide +kernel) (Nat.le_of_ble_eq_true rfl) ?_
    refine V_aload_n (i := 0) (sx_di dX12_undo 0 rfl) rfl rfl ?_
    refine V_getI (sx_di dX12_undo 1 rfl) fX12_276 (fun _ => rfl) (hB.k _ rfl) ?_
    refine V_iv (y := nI 0) (e32) ?_
    refine V_ifN_ne (a := 0) (rfl) (by omega) (tgt := 9) (sx_di dX12_undo 2 rfl) (by decide) (fun h4 => absurd h4 (by omega)) (fun _ => ?_)
    refine V_iconst (v := -1) (sx_di dX12_undo 3 rfl) (by decide) ?_
    refine V_iret (sx_di dX12_undo 4 rfl) rfl (Nat.le_refl _) (Nat.le_refl _) ?_
    exact h w H fC_rf
  | cons r K =>
    rw [q_undo_c hK] at h
    rw [hK] at e32 hK4
    have hL : K.length < 40 := by simp at hK4; omega
    have e32 : hp_i w 381 32 = nI (K.length + 1) := e32
    have hOr := VA.2.2.2.1.2.2.1 r (by rw [hK]; exact List.mem_cons_self ..)
    have hOn := VA.2.2.2.1.1
    have hB2 : ly_B (hp_wi w (cq_ (hp_u (hp_i w) 381 32 (nI K.length)) 398 0 400 (226 * K.length) 226)) := ly_wi hB _
    have ex : ∀ b, b ≠ 398 ∧ b ≠ 381 → hp_i (hp_wi w (cq_ (hp_u (hp_i w) 381 32 (nI K.length)) 398 0 400 (226 * K.length) 226)) b = hp_i w b := fun b z => (cq_o z.1).trans (by funext j; exact hp_u_nk _ _ (by omega))
    have g1 : ∀ j, j ≠ 32 → hp_i (hp_wi w (cq_ (hp_u (hp_i w) 381 32 (nI K.length)) 398 0 400 (226 * K.length) 226)) 381 j = hp_i w 381 j := fun j z => by rw [hp_i_wi, cq_o (by omega)]; exact hp_u_nk _ _ (by omega)
    have hrow := h5.2 0 r (by rw [hK]; rfl)
    rw [hK] at hrow
    have hr : hp_i (hp_wi w (cq_ (hp_u (hp_i w) 381 32 (nI K.length)) 398 0 400 (226 * K.length) 226)) 398 = r := cq_398 (fun j hj => (hp_u_nk _ _ (by omega)).trans (hrow j hj)) (fun j hj => (hp_u_nk _ _ (by omega)).trans ((congrFun h4 j).trans ((hOn.2.2.2.2 j hj).trans (hOr.2.2.2.2 j hj).symm)))
    have hk : Rkept (hp_i (hp_wi w (cq_ (hp_u (hp_i w) 381 32 (nI K.length)) 398 0 400 (226 * K.length) 226))) K := by
      refine ⟨by rw [hp_i_wi, cq_o (by omega)]; exact hp_u_at _ _ _ _, fun i q hq j hj => ?_⟩
      have z := h5.2 (i + 1) q (by rw [hK]; exact hq) j hj
      rw [hK] at z
      rw [ex 400 (by omega), ← z]
      exact congrArg _ (by simp; omega)
    have hfin : Q (some (.int (nI K.length))) (hp_wi w (cq_ (hp_u (hp_i w) 381 32 (nI K.length)) 398 0 400 (226 * K.length) 226)) := by
      have e := ex
      exact h _ ⟨hB2, tp_mv (g1 2 (by omega)) (e 382 (by omega)) h1, Rlaws_mv (fun b b1 b2 => e b (by omega)) (g1 13 (by omega)) (g1 29 (by omega)) h2, Rstr_mv (g1 25 (by omega)) (g1 26 (by omega)) (e 395 (by omega)) (e 396 (by omega)) (e 397 (by omega)) h3, hr, hk, Rimg_mv (g1 47 (by omega)) (e 409 (by omega)) h6, ⟨(g1 40 (by omega)).trans h7, nts_mv (e 402 (by omega)) (e 403 (by omega)) (e 404 (by omega)) h8⟩, ⟨(g1 45 (by omega)).trans h9, nts_mv (e 406 (by omega)) (e 407 (by omega)) (e 408 (by omega)) h10⟩, fun j hj => by rw [e 399 (by omega)]; exact h11 j hj, (g1 30 (by omega)).trans h12⟩ (fC_wi (fun b hb => ex b (by omega)))
    refine C_of (by decide +kernel) (Nat.le_of_ble_eq_true rfl) ?_
    refine V_aload_n (i := 0) (sx_di dX12_undo 0 rfl) rfl rfl ?_
    refine V_getI (sx_di dX12_undo 1 rfl) fX12_276 (fun _ => rfl) (hB.k _ rfl) ?_
    refine V_iv (y := nI (K.length + 1)) (e32) ?_
    refine V_ifN_ne (a := (K.length + 1)) (rfl) (by omega) (tgt := 9) (sx_di dX12_undo 2 rfl) (by decide) (fun _ => ?_) (fun h4 => absurd h4 (by omega))
    refine V_aload_n (i := 0) (sx_di dX12_undo 5 rfl) rfl rfl ?_
    refine V_dup (sx_di dX12_undo 6 rfl) rfl ?_
    refine V_getI (sx_di dX12_undo 7 rfl) fX12_276 (fun _ => rfl) (hB.k _ rfl) ?_
    refine V_iv (y := nI (K.length + 1)) (e32) ?_
    refine V_iconst (v := 1) (sx_di dX12_undo 8 rfl) (by decide) ?_
    refine V_isub (sx_di dX12_undo 9 rfl) ?_
    refine V_iv (y := nI K.length) (nI_pred K.length) ?_
    refine V_putI (sx_di dX12_undo 10 rfl) fX12_276 (fun _ => rfl) rfl (hB.k _ rfl) (rfl) (rfl) ?_
    refine V_iconst (v := 0) (sx_di dX12_undo 11 rfl) (by decide) ?_
    refine V_istore_n (i := 1) (sx_di dX12_undo 12 rfl) rfl (by decide) (rfl) ?_
    refine V_eq rfl rfl rfl (show _ = hp_wi w (cq_ (hp_u (hp_i w) 381 32 (nI K.length)) 398 0 400 (226 * K.length) 0) by rw [cq_0]; rfl) ?_
    refine V_sub (ls' := [(1, .int (nI 0)), (0, .ref 381)]) ⟨rfl, rfl, trivial⟩ ?_
    exact un_lp hB hL hfin 226 0 rfl
def q_image (A : AS) : Int32 × AS := if a_n A = 0 then (-1, A) else (a_r A 44, pt_I A (some (a_r A)))
def q_back (A : AS) : Int32 × AS := match a_I A with
  | none => (-1, A)
  | some r => (r 44, pt_rK A r [])
theorem q_back_n {A : AS} (h : a_I A = none) : q_back A = (-1, A) := by unfold q_back; rw [h]
theorem q_back_c {A : AS} {r : Nat → Int32} (h : a_I A = some r) : q_back A = (r 44, pt_rK A r []) := by unfold q_back; rw [h]
theorem AV_image {A : AS} (V : AV A) : AV (q_image A).2 := by
  unfold q_image
  split
  · exact V
  · next hn =>
    obtain ⟨v1, v2, v3, ⟨v4, v5, v6, v7⟩, v8, v9⟩ := V
    exact ⟨v1, v2, v3, ⟨v4, v5, v6, fun r hr => by have e := Option.some.inj hr; rw [← e]; exact v4⟩, v8, fun z => absurd z hn⟩
theorem AV_back {A : AS} (V : AV A) : AV (q_back A).2 := by
  cases hI : a_I A with
  | none => rw [q_back_n hI]; exact V
  | some r =>
    rw [q_back_c hI]
    obtain ⟨v1, v2, v3, ⟨v4, v5, v6, v7⟩, v8, v9⟩ := V
    exact ⟨v1, v2, v3, ⟨v7 r hI, Nat.zero_le _, fun q hq => absurd hq (List.not_mem_nil), v7⟩, v8, fun z => absurd ((v9 z).2.1.symm.trans hI) (by simp)⟩
set_option maxHeartbeats 2000000 in
set_option maxRecDepth 20000 in
theorem ig_lp {E : sxE} {w : hpW} {Q : Option Value → hpW → Prop} (hB : ly_B w) {x : Int32} (hx : cq_ (hp_i w) 409 0 398 0 226 398 44 = x) (h : Q (some (.int x)) (hp_wi w (hp_u (cq_ (hp_i w) 409 0 398 0 226) 381 47 1))) : ∀ q k, k + q = 226 → V E mX12_image (sx_rm 1 0 0) 0 0 0 0 11 [(1, .int (nI k)), (0, .ref 381)] [] (hp_wi w (cq_ (hp_i w) 409 0 398 0 k)) Q := by
  intro q
  induction q with
  | zero =>
    intro k hk
    have e : k = 226 := by omega
    subst e
    refine V_iload_n (i := 1) (sx_di dX12_image 7 rfl) rfl rfl ?_
    refine V_sipush (v := 226) (sx_di dX12_image 8 rfl) (by decide) ?_
    refine V_icN_ge (a := 226) (b := 226) (rfl) (rfl) (by omega) (by omega) (tgt := 36) (sx_di dX12_image 9 rfl) (by decide) (fun _ => ?_) (fun h15 => absurd h15 (by omega))
    refine V_aload_n (i := 0) (sx_di dX12_image 20 rfl) rfl rfl ?_
    refine V_iconst (v := 1) (sx_di dX12_image 21 rfl) (by decide) ?_
    refine V_putI (sx_di dX12_image 22 rfl) fX12_279 (fun _ => rfl) rfl (hB.k _ rfl) (rfl) (rfl) ?_
    refine V_aload_n (i := 0) (sx_di dX12_image 23 rfl) rfl rfl ?_
    refine V_getR (sx_di dX12_image 24 rfl) fX12_58 (fun _ => rfl) (hB.k _ rfl) (hB.r _ _ rfl) ?_
    refine V_bipush (v := 44) (sx_di dX12_image 25 rfl) (by decide) ?_
    refine V_ialdN (n := 226) (j := 44) (sx_di dX12_image 26 rfl) (hB.k _ rfl) (rfl) (by omega) (by omega) ?_
    refine V_iv (y := x) (by rw [hp_i_si, if_neg (by omega)]; exact hx) ?_
    refine V_iret (sx_di dX12_image 27 rfl) rfl (Nat.le_refl _) (Nat.le_refl _) ?_
    exact h
  | succ q ih =>
    intro k hk
    have q1 := ih (k + 1) (by omega)
    rw [← cq_s _ (by decide), ← nI_1, Nat.zero_add] at q1
    refine V_iload_n (i := 1) (sx_di dX12_image 7 rfl) rfl rfl ?_
    refine V_sipush (v := 226) (sx_di dX12_image 8 rfl) (by decide) ?_
    refine V_icN_ge (a := k) (b := 226) (rfl) (rfl) (by omega) (by omega) (tgt := 36) (sx_di dX12_image 9 rfl) (by decide) (fun h15 => absurd h15 (by omega)) (fun _ => ?_)
    refine V_aload_n (i := 0) (sx_di dX12_image 10 rfl) rfl rfl ?_
    refine V_getR (sx_di dX12_image 11 rfl) fX12_96 (fun _ => rfl) (hB.k _ rfl) (hB.r _ _ rfl) ?_
    refine V_iload_n (i := 1) (sx_di dX12_image 12 rfl) rfl rfl ?_
    refine V_aload_n (i := 0) (sx_di dX12_image 13 rfl) rfl rfl ?_
    refine V_getR (sx_di dX12_image 14 rfl) fX12_58 (fun _ => rfl) (hB.k _ rfl) (hB.r _ _ rfl) ?_
    refine V_iload_n (i := 1) (sx_di dX12_image 15 rfl) rfl rfl ?_
    refine V_ialdN (n := 226) (j := k) (sx_di dX12_image 16 rfl) (hB.k _ rfl) (rfl) (by omega) (by omega) ?_
    refine V_iastN (n := 226) (j := k) (sx_di dX12_image 17 rfl) (hB.k _ rfl) (rfl) (by omega) (by omega) ?_
    refine V_inc (c := 1) (sx_di dX12_image 18 rfl) (by decide) rfl (by decide) (rfl) ?_
    refine V_goto (tgt := 11) (sx_di dX12_image 19 rfl) (by decide) ?_
    exact V_subk q1 ⟨rfl, rfl, trivial⟩
set_option maxHeartbeats 2000000 in
set_option maxRecDepth 20000 in
theorem bk_lp {E : sxE} {w : hpW} {Q : Option Value → hpW → Prop} (hB : ly_B w) {x : Int32} (hx : cq_ (hp_i w) 398 0 409 0 226 398 44 = x) (h : Q (some (.int x)) (hp_wi w (hp_u (cq_ (hp_i w) 398 0 409 0 226) 381 32 0))) : ∀ q k, k + q = 226 → V E mX12_back (sx_rm 1 0 0) 0 0 0 0 11 [(1, .int (nI k)), (0, .ref 381)] [] (hp_wi w (cq_ (hp_i w) 398 0 409 0 k)) Q := by
  intro q
  induction q with
  | zero =>
    intro k hk
    have e : k = 226 := by omega
    subst e
    refine V_iload_n (i := 1) (sx_di dX12_back 7 rfl) rfl rfl ?_
    refine V_sipush (v := 226) (sx_di dX12_back 8 rfl) (by decide) ?_
    refine V_icN_ge (a := 226) (b := 226) (rfl) (rfl) (by omega) (by omega) (tgt := 36) (sx_di dX12_back 9 rfl) (by decide) (fun _ => ?_) (fun h15 => absurd h15 (by omega))
    refine V_aload_n (i := 0) (sx_di dX12_back 20 rfl) rfl rfl ?_
    refine V_iconst (v := 0) (sx_di dX12_back 21 rfl) (by decide) ?_
    refine V_putI (sx_di dX12_back 22 rfl) fX12_276 (fun _ => rfl) rfl (hB.k _ rfl) (rfl) (rfl) ?_
    refine V_aload_n (i := 0) (sx_di dX12_back 23 rfl) rfl rfl ?_
    refine V_getR (sx_di dX12_back 24 rfl) fX12_58 (fun _ => rfl) (hB.k _ rfl) (hB.r _ _ rfl) ?_
    refine V_bipush (v := 44) (sx_di dX12_back 25 rfl) (by decide) ?_
    refine V_ialdN (n := 226) (j := 44) (sx_di dX12_back 26 rfl) (hB.k _ rfl) (rfl) (by omega) (by omega) ?_
    refine V_iv (y := x) (by rw [hp_i_si, if_neg (by omega)]; exact hx) ?_
    refine V_iret (sx_di dX12_back 27 rfl) rfl (Nat.le_refl _) (Nat.le_refl _) ?_
    exact h
  | succ q ih =>
    intro k hk
    have q1 := ih (k + 1) (by omega)
    rw [← cq_s _ (by decide), ← nI_1, Nat.zero_add] at q1
    refine V_iload_n (i := 1) (sx_di dX12_back 7 rfl) rfl rfl ?_
    refine V_sipush (v := 226) (sx_di dX12_back 8 rfl) (by decide) ?_
    refine V_icN_ge (a := k) (b := 226) (rfl) (rfl) (by omega) (by omega) (tgt := 36) (sx_di dX12_back 9 rfl) (by decide) (fun h15 => absurd h15 (by omega)) (fun _ => ?_)
    refine V_aload_n (i := 0) (sx_di dX12_back 10 rfl) rfl rfl ?_
    refine V_getR (sx_di dX12_back 11 rfl) fX12_58 (fun _ => rfl) (hB.k _ rfl) (hB.r _ _ rfl) ?_
    refine V_iload_n (i := 1) (sx_di dX12_back 12 rfl) rfl rfl ?_
    refine V_aload_n (i := 0) (sx_di dX12_back 13 rfl) rfl rfl ?_
    refine V_getR (sx_di dX12_back 14 rfl) fX12_96 (fun _ => rfl) (hB.k _ rfl) (hB.r _ _ rfl) ?_
    refine V_iload_n (i := 1) (sx_di dX12_back 15 rfl) rfl rfl ?_
    refine V_ialdN (n := 226) (j := k) (sx_di dX12_back 16 rfl) (hB.k _ rfl) (rfl) (by omega) (by omega) ?_
    refine V_iastN (n := 226) (j := k) (sx_di dX12_back 17 rfl) (hB.k _ rfl) (rfl) (by omega) (by omega) ?_
    refine V_inc (c := 1) (sx_di dX12_back 18 rfl) (by decide) rfl (by decide) (rfl) ?_
    refine V_goto (tgt := 11) (sx_di dX12_back 19 rfl) (by decide) ?_
    exact V_subk q1 ⟨rfl, rfl, trivial⟩
set_option maxHeartbeats 2000000 in
set_option maxRecDepth 20000 in
theorem oR_image {E : sxE} {A : AS} {w : hpW} (VA : AV A) (H : RR A w) : oR E mX12_image 1 [.ref 381] w A (q_image A).1 (q_image A).2 := by
  intro Q h
  obtain ⟨hB, h1, h2, h3, h4, h5, h6, ⟨h7, h8⟩, ⟨h9, h10⟩, h11, h12⟩ := id H
  have hn : hp_i w 381 25 = nI (a_n A) := h3.1
  have hn8 := VA.2.2.1.1
  have hB2 : ly_B (hp_wi w (hp_u (cq_ (hp_i w) 409 0 398 0 226) 381 47 1)) := ly_wi hB _
  have e : ∀ b, b ≠ 409 ∧ b ≠ 381 → hp_i (hp_wi w (hp_u (cq_ (hp_i w) 409 0 398 0 226) 381 47 1)) b = hp_i w b := fun b z => by
    funext j
    show hp_u (cq_ (hp_i w) 409 0 398 0 226) 381 47 1 b j = _
    rw [hp_u_nk _ _ (by omega), cq_o z.1]
  have g1 : ∀ j, j ≠ 47 → hp_i (hp_wi w (hp_u (cq_ (hp_i w) 409 0 398 0 226) 381 47 1)) 381 j = hp_i w 381 j := fun j z => by
    show hp_u (cq_ (hp_i w) 409 0 398 0 226) 381 47 1 381 j = _
    rw [hp_u_nk _ _ (by omega), cq_o (by omega)]
  have himg : Rimg (hp_i (hp_wi w (hp_u (cq_ (hp_i w) 409 0 398 0 226) 381 47 1))) (some (a_r A)) := by
    refine ⟨by rw [hp_i_wi, hp_u_at]; rfl, fun r hr j hj => ?_⟩
    have er := Option.some.inj hr
    show hp_u (cq_ (hp_i w) 409 0 398 0 226) 381 47 1 409 j = r j
    rw [hp_u_nk _ _ (by omega), ← er, ← congrFun h4 j]
    unfold cq_
    rw [if_pos ⟨rfl, by omega, by omega⟩, Nat.sub_zero, Nat.zero_add]
  refine C_of (by decide +kernel) (Nat.le_of_ble_eq_true rfl) ?_
  refine V_aload_n (i := 0) (sx_di dX12_image 0 rfl) rfl rfl ?_
  refine V_getI (sx_di dX12_image 1 rfl) fX12_258 (fun _ => rfl) (hB.k _ rfl) ?_
  refine V_iv (y := nI (a_n A)) (hn) ?_
  refine V_ifN_ne (a := (a_n A)) (rfl) (by omega) (tgt := 9) (sx_di dX12_image 2 rfl) (by decide) (fun h4_ => ?_) (fun h4_ => ?_)
  · rw [q_image, if_neg h4_] at h
    refine V_iconst (v := 0) (sx_di dX12_image 5 rfl) (by decide) ?_
    refine V_istore_n (i := 1) (sx_di dX12_image 6 rfl) rfl (by decide) (rfl) ?_
    refine V_eq rfl rfl rfl (show w = hp_wi w (cq_ (hp_i w) 409 0 398 0 0) by rw [cq_0]; rfl) ?_
    refine V_sub (ls' := [(1, .int (nI 0)), (0, .ref 381)]) ⟨rfl, rfl, trivial⟩ ?_
    exact ig_lp (x := a_r A 44) hB ((congrFun (cq_o (by omega)) 44).trans (congrFun h4 44)) (h _ ⟨hB2, tp_mv (g1 2 (by omega)) (e 382 (by omega)) h1, Rlaws_mv (fun b b1 b2 => e b (by omega)) (g1 13 (by omega)) (g1 29 (by omega)) h2, Rstr_mv (g1 25 (by omega)) (g1 26 (by omega)) (e 395 (by omega)) (e 396 (by omega)) (e 397 (by omega)) h3, (e 398 (by omega)).trans h4, Rkept_mv (g1 32 (by omega)) (e 400 (by omega)) h5, himg, ⟨(g1 40 (by omega)).trans h7, nts_mv (e 402 (by omega)) (e 403 (by omega)) (e 404 (by omega)) h8⟩, ⟨(g1 45 (by omega)).trans h9, nts_mv (e 406 (by omega)) (e 407 (by omega)) (e 408 (by omega)) h10⟩, fun j hj => by rw [e 399 (by omega)]; exact h11 j hj, (g1 30 (by omega)).trans h12⟩ (fC_wi (fun b hb => e b (by omega)))) 226 0 rfl
  · rw [q_image, if_pos h4_] at h
    refine V_iconst (v := -1) (sx_di dX12_image 3 rfl) (by decide) ?_
    refine V_iret (sx_di dX12_image 4 rfl) rfl (Nat.le_refl _) (Nat.le_refl _) ?_
    exact h w H fC_rf
set_option maxHeartbeats 2000000 in
set_option maxRecDepth 20000 in
theorem oR_back {E : sxE} {A : AS} {w : hpW} (VA : AV A) (H : RR A w) : oR E mX12_back 1 [.ref 381] w A (q_back A).1 (q_back A).2 := by
  intro Q h
  obtain ⟨hB, h1, h2, h3, h4, h5, h6, ⟨h7, h8⟩, ⟨h9, h10⟩, h11, h12⟩ := id H
  have e47 := h6.1
  cases hI : a_I A with
  | none =>
    rw [q_back_n hI] at h
    rw [hI] at e47
    have e47 : hp_i w 381 47 = 0 := e47
    refine C_of (by decide +kernel) (Nat.le_of_ble_eq_true rfl) ?_
    refine V_aload_n (i := 0) (sx_di dX12_back 0 rfl) rfl rfl ?_
    refine V_getI (sx_di dX12_back 1 rfl) fX12_279 (fun _ => rfl) (hB.k _ rfl) ?_
    refine V_iv (y := nI 0) (e47) ?_
    refine V_ifN_ne (a := 0) (rfl) (by omega) (tgt := 9) (sx_di dX12_back 2 rfl) (by decide) (fun h4 => absurd h4 (by omega)) (fun _ => ?_)
    refine V_iconst (v := -1) (sx_di dX12_back 3 rfl) (by decide) ?_
    refine V_iret (sx_di dX12_back 4 rfl) rfl (Nat.le_refl _) (Nat.le_refl _) ?_
    exact h w H fC_rf
  | some r =>
    rw [q_back_c hI] at h
    rw [hI] at e47
    have e47 : hp_i w 381 47 = 1 := e47
    have hOr := VA.2.2.2.1.2.2.2 r hI
    have hOn := VA.2.2.2.1.1
    have hB2 : ly_B (hp_wi w (hp_u (cq_ (hp_i w) 398 0 409 0 226) 381 32 0)) := ly_wi hB _
    have e : ∀ b, b ≠ 398 ∧ b ≠ 381 → hp_i (hp_wi w (hp_u (cq_ (hp_i w) 398 0 409 0 226) 381 32 0)) b = hp_i w b := fun b z => by
      funext j
      show hp_u (cq_ (hp_i w) 398 0 409 0 226) 381 32 0 b j = _
      rw [hp_u_nk _ _ (by omega), cq_o z.1]
    have g1 : ∀ j, j ≠ 32 → hp_i (hp_wi w (hp_u (cq_ (hp_i w) 398 0 409 0 226) 381 32 0)) 381 j = hp_i w 381 j := fun j z => by
      show hp_u (cq_ (hp_i w) 398 0 409 0 226) 381 32 0 381 j = _
      rw [hp_u_nk _ _ (by omega), cq_o (by omega)]
    have hr0 : cq_ (hp_i w) 398 0 409 0 226 398 = r := cq_398 (fun j hj => by rw [Nat.zero_add]; exact h6.2 r hI j hj) (fun j hj => (congrFun h4 j).trans ((hOn.2.2.2.2 j hj).trans (hOr.2.2.2.2 j hj).symm))
    have hr : hp_i (hp_wi w (hp_u (cq_ (hp_i w) 398 0 409 0 226) 381 32 0)) 398 = r := by
      rw [← hr0]
      funext j
      rw [hp_i_wi]
      exact hp_u_nk _ _ (by omega)
    have hk : Rkept (hp_i (hp_wi w (hp_u (cq_ (hp_i w) 398 0 409 0 226) 381 32 0))) [] := ⟨by rw [hp_i_wi, hp_u_at]; rfl, fun i q hq => by simp at hq⟩
    refine C_of (by decide +kernel) (Nat.le_of_ble_eq_true rfl) ?_
    refine V_aload_n (i := 0) (sx_di dX12_back 0 rfl) rfl rfl ?_
    refine V_getI (sx_di dX12_back 1 rfl) fX12_279 (fun _ => rfl) (hB.k _ rfl) ?_
    refine V_iv (y := nI 1) (e47) ?_
    refine V_ifN_ne (a := 1) (rfl) (by omega) (tgt := 9) (sx_di dX12_back 2 rfl) (by decide) (fun _ => ?_) (fun h4 => absurd h4 (by omega))
    refine V_iconst (v := 0) (sx_di dX12_back 5 rfl) (by decide) ?_
    refine V_istore_n (i := 1) (sx_di dX12_back 6 rfl) rfl (by decide) (rfl) ?_
    refine V_eq rfl rfl rfl (show w = hp_wi w (cq_ (hp_i w) 398 0 409 0 0) by rw [cq_0]; rfl) ?_
    refine V_sub (ls' := [(1, .int (nI 0)), (0, .ref 381)]) ⟨rfl, rfl, trivial⟩ ?_
    exact bk_lp (x := r 44) hB (congrFun hr0 44) (h _ ⟨hB2, tp_mv (g1 2 (by omega)) (e 382 (by omega)) h1, Rlaws_mv (fun b b1 b2 => e b (by omega)) (g1 13 (by omega)) (g1 29 (by omega)) h2, Rstr_mv (g1 25 (by omega)) (g1 26 (by omega)) (e 395 (by omega)) (e 396 (by omega)) (e 397 (by omega)) h3, hr, hk, Rimg_mv (g1 47 (by omega)) (e 409 (by omega)) h6, ⟨(g1 40 (by omega)).trans h7, nts_mv (e 402 (by omega)) (e 403 (by omega)) (e 404 (by omega)) h8⟩, ⟨(g1 45 (by omega)).trans h9, nts_mv (e 406 (by omega)) (e 407 (by omega)) (e 408 (by omega)) h10⟩, fun j hj => by rw [e 399 (by omega)]; exact h11 j hj, (g1 30 (by omega)).trans h12⟩ (fC_wi (fun b hb => e b (by omega)))) 226 0 rfl

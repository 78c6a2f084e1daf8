/-! the class reads a law: the whole of it -/
def lres (x : plT) : Int32 := if x.1 = true then -1 else nI x.2.2
theorem fx_take {Z : lwT} {c : Nat} {q : List Int32 × List Int32} (h : Z[c]? = some q) : fx_ (Z.take (c + 1)) = fx_ (Z.take c) ++ q.1 ++ q.2 := by
  rw [List.take_add_one, h]
  exact fx_app _ q
theorem fx_all {Z : lwT} {c : Nat} : fx_ Z = fx_ (Z.take c) ++ fx_ (Z.drop c) := by
  conv => lhs; rw [← List.take_append_drop c Z]
  unfold fx_
  rw [List.flatMap_append]
/-- clauses that are told well -/
def lw9 (Z : lwT) : Prop := lwo_ Z ∧ Z.length ≤ 64 ∧ (fx_ Z).length ≤ 240
theorem lwF_ok {T : List Int32} (hT : T.length ≤ 240) : ∀ f Z p, p ≤ T.length → 4 * Z.length ≤ p → (fx_ Z).length ≤ p → lwo_ Z → ((lwF T f Z p).1 = true → lw9 (lwF T f Z p).2.1) ∧ (lwF T f Z p).2.2 ≤ T.length
  | 0, Z, p, hp, h4, hx, ho => ⟨fun z => absurd z Bool.false_ne_true, hp⟩
  | f + 1, Z, p, hp, h4, hx, ho => by
    obtain ⟨⟨a1, a2, a3⟩, a4⟩ := cla_ok (T := T) hp
    have g := skp_ge T (cla_ T p).2.2
    unfold lwF
    by_cases c1 : (cla_ T p).1 = true
    · rw [if_pos c1]
      have b1 := a3 c1
      have b2 := a4 c1
      have o2 : lwo_ (Z ++ [(cla_ T p).2.1]) := by
        intro q hq
        rcases List.mem_append.mp hq with z | z
        · exact ho q z
        · rw [List.mem_singleton.mp z]
          exact b1.2.2
      have l2 : (fx_ (Z ++ [(cla_ T p).2.1])).length ≤ (cla_ T p).2.2 := by
        rw [fx_app, List.length_append, List.length_append]
        omega
      by_cases c2 : cz_ T (cla_ T p).2.2 = -1
      · rw [if_pos c2]
        refine ⟨fun _ => ⟨o2, ?_, ?_⟩, skq_le a2⟩
        · show (Z ++ [(cla_ T p).2.1]).length ≤ 64
          rw [List.length_append, List.length_singleton]
          omega
        · show (fx_ (Z ++ [(cla_ T p).2.1])).length ≤ 240
          omega
      · rw [if_neg c2]
        by_cases c3 : cz_ T (cla_ T p).2.2 = 59
        · rw [if_pos c3]
          have z := cz_p1 c3 (by decide)
          exact lwF_ok hT f _ _ z (by rw [List.length_append, List.length_singleton]; omega) (by omega) o2
        · rw [if_neg c3]
          exact ⟨fun z => absurd z Bool.false_ne_true, skq_le a2⟩
    · rw [if_neg c1]
      exact ⟨fun z => absurd z Bool.false_ne_true, a2⟩
theorem law9_ok {T : List Int32} (hT : T.length ≤ 240) : ((law9 T).1 = true → lw9 (law9 T).2.1) ∧ (law9 T).2.2 ≤ T.length := lwF_ok hT _ [] 0 (Nat.zero_le _) (Nat.le_refl _) (Nat.le_refl _) (fun q h => absurd h List.not_mem_nil)
theorem lwS_cl {a : Nat} {Z : lwT} {w : hpW} (h : lwS a Z w) (h9 : lw9 Z) : cl_ (hp_i w) a Z := by
  have hlt : ∀ c q, Z[c]? = some q → (fx_ (Z.take c)).length + q.1.length + q.2.length = (fx_ (Z.take (c + 1))).length := fun c q hq => by rw [fx_take hq, List.length_append, List.length_append]
  have hle : ∀ c, (fx_ (Z.take c)).length ≤ (fx_ Z).length := fun c => by
    have e := congrArg List.length (fx_all (Z := Z) (c := c))
    rw [List.length_append] at e
    omega
  have nx : ∀ c q, Z[c]? = some q → (if c + 1 < Z.length then (fx_ (Z.take (c + 1))).length else (fx_ Z).length) = (fx_ (Z.take (c + 1))).length := fun c q hq => by
    have hc := (List.getElem?_eq_some_iff.mp hq).1
    by_cases e : c + 1 < Z.length
    · rw [if_pos e]
    · rw [if_neg e, List.take_of_length_le (by omega)]
  have el : ∀ c q, Z[c]? = some q → ∀ j, j < (fx_ (Z.take (c + 1))).length → hp_i w (a + 1) j = (fx_ (Z.take c) ++ q.1 ++ q.2).getD j 0 := fun c q hq j hj => by
    have e := fx_all (Z := Z) (c := c + 1)
    rw [h.2.2.2 j (Nat.lt_of_lt_of_le hj (hle (c + 1))), e, gd_app1 hj, fx_take hq]
  refine ⟨(fx_ Z).length, fun c => (fx_ (Z.take c)).length, fun c => (fx_ (Z.take c)).length + (Z.getD c ([], [])).1.length, ⟨h9.2.1, h9.2.2, h.1, h.2.2.1, fun c hc => ?_⟩, fun c q hq => ?_⟩
  · have hq : Z[c]? = some Z[c] := List.getElem?_eq_getElem hc
    have e : Z.getD c ([], []) = Z[c] := by rw [List.getD_eq_getElem?_getD, hq]; rfl
    have l1 := hlt c _ hq
    have l2 := hle (c + 1)
    have l3 := h9.2.2
    show hp_i w (a + 2) c = nI (fx_ (Z.take c)).length ∧ hp_i w (a + 3) c = nI ((fx_ (Z.take c)).length + (Z.getD c ([], [])).1.length) ∧ (fx_ (Z.take c)).length ≤ (fx_ (Z.take c)).length + (Z.getD c ([], [])).1.length ∧ (fx_ (Z.take c)).length + (Z.getD c ([], [])).1.length ≤ (if c + 1 < Z.length then (fx_ (Z.take (c + 1))).length else (fx_ Z).length) ∧ (if c + 1 < Z.length then (fx_ (Z.take (c + 1))).length else (fx_ Z).length) ≤ 240
    rw [nx c _ hq, e]
    exact ⟨(h.2.1 c _ hq).1, (h.2.1 c _ hq).2, by omega, by omega, by omega⟩
  · have e : Z.getD c ([], []) = q := by rw [List.getD_eq_getElem?_getD, hq]; rfl
    have l1 := hlt c _ hq
    show (fx_ (Z.take c)).length + (Z.getD c ([], [])).1.length = (fx_ (Z.take c)).length + q.1.length ∧ (if c + 1 < Z.length then (fx_ (Z.take (c + 1))).length else (fx_ Z).length) = (fx_ (Z.take c)).length + (Z.getD c ([], [])).1.length + q.2.length ∧ (∀ j x, q.1[j]? = some x → hp_i w (a + 1) ((fx_ (Z.take c)).length + j) = x) ∧ ∀ j x, q.2[j]? = some x → hp_i w (a + 1) ((fx_ (Z.take c)).length + (Z.getD c ([], [])).1.length + j) = x
    rw [nx c _ hq, e]
    refine ⟨rfl, l1.symm, fun j x hj => ?_, fun j x hj => ?_⟩
    · have hl := (List.getElem?_eq_some_iff.mp hj).1
      rw [el c q hq _ (by omega), gd_app1 (by rw [List.length_append]; omega), List.getD_eq_getElem?_getD, List.getElem?_append_right (by omega), Nat.add_sub_cancel_left, hj]
      rfl
    · have hl := (List.getElem?_eq_some_iff.mp hj).1
      rw [el c q hq _ (by omega), List.getD_eq_getElem?_getD, List.getElem?_append_right (by rw [List.length_append]; omega), List.length_append, Nat.add_sub_cancel_left, hj]
      rfl
theorem ly_sr {w : hpW} {b j : Nat} {x : Option Nat} (hB : ly_B w) (h : ly_r b j = none) : ly_B (hp_sr w b j x) := by
  refine ⟨hB.1, fun a i t z => ?_⟩
  show hp_u (hp_r w) b j x a i = _
  by_cases e : a = b ∧ i = j
  · rw [e.1, e.2, h] at z
    exact absurd z (by simp)
  · rw [hp_u_nk _ _ e]
    exact hB.2 a i t z
/-- the reader of laws has been at work -/
def fK (a : Nat) (w w' : hpW) : Prop := (hp_n w' = hp_n w ∧ hp_k w' = hp_k w ∧ hp_j w' = hp_j w ∧ ∀ b j, ¬ (b = 52 ∧ j = 1) → hp_r w' b j = hp_r w b j) ∧ (∀ b, b ≠ 17 → b < a ∨ a + 3 < b → hp_i w' b = hp_i w b) ∧ ∀ j, j ≠ 2 → j ≠ 3 → hp_i w' 17 j = hp_i w 17 j
set_option maxHeartbeats 2000000 in
set_option maxRecDepth 20000 in
theorem rl_lp {E : sxE} {T : List Int32} {k : Nat} {Q : Option Value → hpW → Prop} (hX : XO E) (hk : k < 5) : ∀ f Z p w, lrP T (22 + 6 * k) p w → lwS (22 + 6 * k) Z w → 4 * Z.length ≤ p → (fx_ Z).length ≤ p → p ≤ T.length → T.length + 1 ≤ p + f → (∀ w', ly_B w' → tp_ w' 17 1 18 T → fW (22 + 6 * k) w w' → ((lwF T f Z p).1 = true → lwS (22 + 6 * k) (lwF T f Z p).2.1 w') → Q (some (.int (lres (lwF T f Z p)))) w') → V E mX3_read (sx_rm 40 0 0) 0 0 0 0 22 [(2, .int (nI Z.length)), (0, .ref 52)] [] w Q := by
  intro f
  induction f with
  | zero =>
    intro Z p w H hs h4 hx hp hf
    omega
  | succ f ih =>
    intro Z p w H hs h4 hx hp hf h
    have hT := H.2.1.1
    obtain ⟨⟨a1, a2, a3⟩, a4⟩ := cla_ok (T := T) hp
    have g := skp_ge T (cla_ T p).2.2
    unfold lwF at h
    refine V_iload_n (i := 2) (sx_di dX3_read 12 rfl) rfl rfl ?_
    refine V_sipush (v := 240) (sx_di dX3_read 13 rfl) (by decide) ?_
    refine V_icN_gt (a := Z.length) (b := 240) (rfl) (rfl) (by omega) (by omega) (tgt := 92) (sx_di dX3_read 14 rfl) (by decide) (fun h26 => absurd h26 (by omega)) (fun _ => ?_)
    refine V_aload_n (i := 0) (sx_di dX3_read 15 rfl) rfl rfl ?_
    refine V_cV0 (mc' := 0) (ms' := 0) (M' := mX3_readClause) 39 (sx_di dX3_read 16 rfl) lX3_30 vX3_readClause (by first | exact H.1.k _ rfl | exact H1.1.k _ rfl | exact H2.1.k _ rfl | exact H3.1.k _ rfl | exact H4.1.k _ rfl | exact H5.1.k _ rfl) (by decide) rfl (Nat.le_of_ble_eq_true rfl) ⟨by show 39 + 1 ≤ 40; omega, by show 64 + 64 * (39) ≤ 64 * (40); omega⟩ ⟨Nat.le_refl _, Nat.le_refl _⟩ ?_
    refine c_rdClause hX hk (by omega) H hs hx hp (fun w1 H1 f1 s1 => ?_)
    refine V_if_ne (tgt := 44) (sx_di dX3_read 17 rfl) (by decide) (fun h33 => ?_) (fun h33 => ?_)
    · have b33 := bz9t h33
      rw [if_pos b33] at h
      refine V_aload_n (i := 0) (sx_di dX3_read 22 rfl) rfl rfl ?_
      refine V_getR (sx_di dX3_read 23 rfl) fX3_9 (fun _ => rfl) (by first | exact H.1.k _ rfl | exact H1.1.k _ rfl | exact H2.1.k _ rfl | exact H3.1.k _ rfl | exact H4.1.k _ rfl | exact H5.1.k _ rfl) (by first | exact H.1.r _ _ rfl | exact H1.1.r _ _ rfl | exact H2.1.r _ _ rfl | exact H3.1.r _ _ rfl | exact H4.1.r _ _ rfl | exact H5.1.r _ _ rfl | exact H.2.2.1 | exact H1.2.2.1 | exact H2.2.2.1 | exact H3.2.2.1 | exact H4.2.2.1 | exact H5.2.2.1) ?_
      refine V_cV0 (mc' := 0) (ms' := 0) (M' := mX10_sign) 1 (sx_di dX3_read 24 rfl) lX3_34 vX10_sign (by first | exact H.1.k _ rfl | exact H1.1.k _ rfl | exact H2.1.k _ rfl | exact H3.1.k _ rfl | exact H4.1.k _ rfl | exact H5.1.k _ rfl) (by decide) rfl (Nat.le_of_ble_eq_true rfl) ⟨by show 1 + 1 ≤ 40; omega, by show 64 + 64 * (1) ≤ 64 * (40); omega⟩ ⟨Nat.le_refl _, Nat.le_refl _⟩ ?_
      refine c_sign9 (by omega) H1 a2 (fun w2 H2 f2 x2 => ?_)
      have s2 : lwS (22 + 6 * k) (Z ++ [(cla_ T p).2.1]) w2 := by
        have s9 := s1 b33
        exact ⟨(f2.2.2.2 1 (by decide)).trans s9.1, tb9_mv (by omega) f2 s9.2.1, x2 _ s9.2.2⟩
      refine V_istore_n (i := 3) (sx_di dX3_read 25 rfl) rfl (by decide) (rfl) ?_
      refine V_iload_n (i := 3) (sx_di dX3_read 26 rfl) rfl rfl ?_
      refine V_iconst (v := -1) (sx_di dX3_read 27 rfl) (by decide) ?_
      refine V_icmp_ne (tgt := 59) (sx_di dX3_read 28 rfl) (by decide) (fun h54 => ?_) (fun h54 => ?_)
      · rw [if_neg h54] at h
        refine V_iload_n (i := 3) (sx_di dX3_read 31 rfl) rfl rfl ?_
        refine V_bipush (v := 59) (sx_di dX3_read 32 rfl) (by decide) ?_
        refine V_icmp_eq (tgt := 73) (sx_di dX3_read 33 rfl) (by decide) (fun h62 => ?_) (fun h62 => ?_)
        · rw [if_pos h62] at h
          have z := cz_p1 h62 (by decide)
          refine V_aload_n (i := 0) (sx_di dX3_read 38 rfl) rfl rfl ?_
          refine V_getR (sx_di dX3_read 39 rfl) fX3_9 (fun _ => rfl) (by first | exact H.1.k _ rfl | exact H1.1.k _ rfl | exact H2.1.k _ rfl | exact H3.1.k _ rfl | exact H4.1.k _ rfl | exact H5.1.k _ rfl) (by first | exact H.1.r _ _ rfl | exact H1.1.r _ _ rfl | exact H2.1.r _ _ rfl | exact H3.1.r _ _ rfl | exact H4.1.r _ _ rfl | exact H5.1.r _ _ rfl | exact H.2.2.1 | exact H1.2.2.1 | exact H2.2.2.1 | exact H3.2.2.1 | exact H4.2.2.1 | exact H5.2.2.1) ?_
          refine V_dup (sx_di dX3_read 40 rfl) rfl ?_
          refine V_getI (sx_di dX3_read 41 rfl) fX3_24 (fun _ => rfl) (by first | exact H.1.k _ rfl | exact H1.1.k _ rfl | exact H2.1.k _ rfl | exact H3.1.k _ rfl | exact H4.1.k _ rfl | exact H5.1.k _ rfl) ?_
          refine V_iv (y := nI (skp_ T (cla_ T p).2.2)) (H2.2.2.2) ?_
          refine V_iconst (v := 1) (sx_di dX3_read 42 rfl) (by decide) ?_
          refine V_iadd (sx_di dX3_read 43 rfl) ?_
          refine V_iv (y := nI (skp_ T (cla_ T p).2.2 + 1)) (nI_add _ 1) ?_
          refine V_putI (sx_di dX3_read 44 rfl) fX3_24 (fun _ => rfl) rfl (by first | exact H.1.k _ rfl | exact H1.1.k _ rfl | exact H2.1.k _ rfl | exact H3.1.k _ rfl | exact H4.1.k _ rfl | exact H5.1.k _ rfl) (rfl) (rfl) ?_
          refine V_hd9 (by omega) H2 (fun w3 H3 f3 x3 => ?_)
          refine V_inc (c := 1) (sx_di dX3_read 45 rfl) (by decide) rfl (by decide) (rfl) ?_
          refine V_goto (tgt := 22) (sx_di dX3_read 46 rfl) (by decide) ?_
          have q1 := ih (Z ++ [(cla_ T p).2.1]) (skp_ T (cla_ T p).2.2 + 1) w3 H3 ⟨(f3.2.2.2 1 (by decide)).trans s2.1, tb9_mv (by omega) f3 s2.2.1, x3 _ s2.2.2⟩ (by rw [List.length_append, List.length_singleton]; have := a4 b33; omega) (by rw [fx_app, List.length_append, List.length_append]; have := a3 b33; omega) z (by have := a4 b33; omega) (fun w4 B4 t4 f4 s4 => h w4 B4 t4 (fW_tr f1 (fW_tr (fL_fW f2) (fW_tr (fL_fW f3) f4))) s4)
          rw [List.length_append, List.length_singleton, ← nI_1] at q1
          exact V_subk q1 ⟨rfl, rfl, trivial⟩
        · rw [if_neg h62] at h
          refine V_aload_n (i := 0) (sx_di dX3_read 34 rfl) rfl rfl ?_
          refine V_getR (sx_di dX3_read 35 rfl) fX3_9 (fun _ => rfl) (by first | exact H.1.k _ rfl | exact H1.1.k _ rfl | exact H2.1.k _ rfl | exact H3.1.k _ rfl | exact H4.1.k _ rfl | exact H5.1.k _ rfl) (by first | exact H.1.r _ _ rfl | exact H1.1.r _ _ rfl | exact H2.1.r _ _ rfl | exact H3.1.r _ _ rfl | exact H4.1.r _ _ rfl | exact H5.1.r _ _ rfl | exact H.2.2.1 | exact H1.2.2.1 | exact H2.2.2.1 | exact H3.2.2.1 | exact H4.2.2.1 | exact H5.2.2.1) ?_
          refine V_getI (sx_di dX3_read 36 rfl) fX3_24 (fun _ => rfl) (by first | exact H.1.k _ rfl | exact H1.1.k _ rfl | exact H2.1.k _ rfl | exact H3.1.k _ rfl | exact H4.1.k _ rfl | exact H5.1.k _ rfl) ?_
          refine V_iv (y := nI (skp_ T (cla_ T p).2.2)) (H2.2.2.2) ?_
          refine V_iret (sx_di dX3_read 37 rfl) rfl (Nat.le_refl _) (Nat.le_refl _) ?_
          exact h w2 H2.1 H2.2.1 (fW_tr f1 (fL_fW f2)) (fun z => absurd z Bool.false_ne_true)
      · rw [if_pos h54] at h
        refine V_iconst (v := -1) (sx_di dX3_read 29 rfl) (by decide) ?_
        refine V_iret (sx_di dX3_read 30 rfl) rfl (Nat.le_refl _) (Nat.le_refl _) ?_
        exact h w2 H2.1 H2.2.1 (fW_tr f1 (fL_fW f2)) (fun _ => s2)
    · rw [if_neg (bz9f h33)] at h
      refine V_aload_n (i := 0) (sx_di dX3_read 18 rfl) rfl rfl ?_
      refine V_getR (sx_di dX3_read 19 rfl) fX3_9 (fun _ => rfl) (by first | exact H.1.k _ rfl | exact H1.1.k _ rfl | exact H2.1.k _ rfl | exact H3.1.k _ rfl | exact H4.1.k _ rfl | exact H5.1.k _ rfl) (by first | exact H.1.r _ _ rfl | exact H1.1.r _ _ rfl | exact H2.1.r _ _ rfl | exact H3.1.r _ _ rfl | exact H4.1.r _ _ rfl | exact H5.1.r _ _ rfl | exact H.2.2.1 | exact H1.2.2.1 | exact H2.2.2.1 | exact H3.2.2.1 | exact H4.2.2.1 | exact H5.2.2.1) ?_
      refine V_getI (sx_di dX3_read 20 rfl) fX3_24 (fun _ => rfl) (by first | exact H.1.k _ rfl | exact H1.1.k _ rfl | exact H2.1.k _ rfl | exact H3.1.k _ rfl | exact H4.1.k _ rfl | exact H5.1.k _ rfl) ?_
      refine V_iv (y := nI (cla_ T p).2.2) (H1.2.2.2) ?_
      refine V_iret (sx_di dX3_read 21 rfl) rfl (Nat.le_refl _) (Nat.le_refl _) ?_
      exact h w1 H1.1 H1.2.1 f1 (fun z => absurd z Bool.false_ne_true)
set_option maxHeartbeats 2000000 in
set_option maxRecDepth 20000 in
theorem c_rdLaw {E : sxE} {T : List Int32} {k : Nat} {w : hpW} {Q : Option Value → hpW → Prop} (hX : XO E) (hk : k < 5) (hB : ly_B w) (hT : tp_ w 17 1 18 T) (h : ∀ w', ly_B w' → tp_ w' 17 1 18 T → fK (22 + 6 * k) w w' → ((law9 T).1 = true → cl_ (hp_i w') (22 + 6 * k) (law9 T).2.1) → Q (some (.int (lres (law9 T)))) w') : sx_C E mX3_read 40 0 0 [.ref 52, .ref (22 + 6 * k)] w Q := by
  have hB1 : ly_B (hp_sr w 52 1 (some (22 + 6 * k))) := ly_sr hB rfl
  have hr1 : hp_r (hp_sr w 52 1 (some (22 + 6 * k))) 52 1 = some (22 + 6 * k) := by
    show hp_u (hp_r w) 52 1 (some (22 + 6 * k)) 52 1 = _
    rw [hp_u_at]
  have hs1 := lw_law hB1 hk
  have hB3 : ly_B (hp_si (hp_si (hp_sr w 52 1 (some (22 + 6 * k))) (22 + 6 * k) 0 0) (22 + 6 * k) 1 0) := hB1
  refine C_of (by decide +kernel) (Nat.le_of_ble_eq_true rfl) ?_
  refine V_aload_n (i := 0) (sx_di dX3_read 0 rfl) rfl rfl ?_
  refine V_aload_n (i := 1) (sx_di dX3_read 1 rfl) rfl rfl ?_
  refine V_putR (sx_di dX3_read 2 rfl) fX3_15 (fun _ => rfl) rfl (by first | exact hB.k _ rfl | exact hB1.k _ rfl) (fun _ => rfl) (fun _ => rfl) ?_
  refine V_aload_n (i := 0) (sx_di dX3_read 3 rfl) rfl rfl ?_
  refine V_getR (sx_di dX3_read 4 rfl) fX3_15 (fun _ => rfl) (by first | exact hB.k _ rfl | exact hB1.k _ rfl) (by first | exact hB1.r _ _ rfl | exact hB3.r _ _ rfl | exact hr1) ?_
  refine V_cV0 (mc' := 0) (ms' := 0) (M' := mX1_clear) 1 (sx_di dX3_read 5 rfl) lX3_19 vX1_clear (hs1.1) (by decide) rfl (Nat.le_of_ble_eq_true rfl) ⟨by show 1 + 1 ≤ 40; omega, by show 64 + 64 * (1) ≤ 64 * (40); omega⟩ ⟨Nat.le_refl _, Nat.le_refl _⟩ ?_
  refine c_X1_clear hB1 hk ?_
  refine V_aload_n (i := 0) (sx_di dX3_read 6 rfl) rfl rfl ?_
  refine V_getR (sx_di dX3_read 7 rfl) fX3_9 (fun _ => rfl) (by first | exact hB.k _ rfl | exact hB1.k _ rfl) (by first | exact hB1.r _ _ rfl | exact hB3.r _ _ rfl | exact hr1) ?_
  refine V_iconst (v := 0) (sx_di dX3_read 8 rfl) (by decide) ?_
  refine V_putI (sx_di dX3_read 9 rfl) fX3_24 (fun _ => rfl) rfl (by first | exact hB.k _ rfl | exact hB1.k _ rfl) (rfl) (rfl) ?_
  refine V_iconst (v := 0) (sx_di dX3_read 10 rfl) (by decide) ?_
  refine V_istore_n (i := 2) (sx_di dX3_read 11 rfl) rfl (by decide) (rfl) ?_
  refine V_sub (ls' := [(2, .int (nI ([] : lwT).length)), (0, .ref 52)]) ⟨rfl, rfl, trivial⟩ ?_
  have e9 : ∀ b j, ¬ (b = 17 ∧ j = 2) → ¬ (b = 22 + 6 * k ∧ j = 1) → ¬ (b = 22 + 6 * k ∧ j = 0) → hp_i (hp_si (hp_si (hp_si (hp_sr w 52 1 (some (22 + 6 * k))) (22 + 6 * k) 0 0) (22 + 6 * k) 1 0) 17 2 0) b j = hp_i w b j := fun b j h1 h2 h3 => by
    rw [hp_i_si, if_neg h1, hp_i_si, if_neg h2, hp_i_si, if_neg h3]
    rfl
  refine rl_lp hX hk (T.length + 1) [] 0 _ (⟨hB1, ⟨hT.1, (e9 17 1 (by omega) (by omega) (by omega)).trans hT.2.1, fun j hj => (e9 18 j (by omega) (by omega) (by omega)).trans (hT.2.2 j hj)⟩, hr1, by rw [hp_i_si, if_pos ⟨rfl, rfl⟩]; rfl⟩ : lrP T (22 + 6 * k) 0 (hp_si (hp_si (hp_si (hp_sr w 52 1 (some (22 + 6 * k))) (22 + 6 * k) 0 0) (22 + 6 * k) 1 0) 17 2 0)) ⟨by rw [hp_i_si, if_neg (by omega), hp_i_si, if_pos ⟨rfl, rfl⟩]; rfl, fun c q hq => absurd hq (by simp), by rw [hp_i_si, if_neg (by omega), hp_i_si, if_neg (by omega), hp_i_si, if_pos ⟨rfl, rfl⟩]; rfl, fun j hj => absurd hj (Nat.not_lt_zero j)⟩ (Nat.le_refl _) (Nat.le_refl _) (Nat.zero_le _) (by omega) (fun w1 B1 t1 f1 s1 => ?_)
  refine h w1 B1 t1 ⟨?_, fun b h1 h2 => ?_, fun j h1 h2 => ?_⟩ (fun z => lwS_cl (s1 z) ((law9_ok hT.1).1 z))
  · rw [f1.1]
    refine ⟨rfl, rfl, rfl, fun b j hb => ?_⟩
    show hp_u (hp_r w) 52 1 (some (22 + 6 * k)) b j = _
    rw [hp_u_nk _ _ hb]
  · rw [f1.2.1 b h1 h2]
    funext j
    exact e9 b j (by omega) (by omega) (by omega)
  · rw [f1.2.2 j h1 h2]
    exact e9 17 j (by omega) (by omega) (by omega)

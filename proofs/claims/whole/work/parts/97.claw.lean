/-! the class reads a law: clauses -/
/-- all signs of the clauses, one behind the other -/
def fx_ (Z9 : lwT) : List Int32 := Z9.flatMap (fun q => q.1 ++ q.2)
theorem fx_app (Z9 : lwT) (q : List Int32 × List Int32) : fx_ (Z9 ++ [q]) = fx_ Z9 ++ q.1 ++ q.2 := by
  unfold fx_
  rw [List.flatMap_append, List.append_assoc]
  show _ ++ ((q.1 ++ q.2) ++ []) = _
  rw [List.append_nil]
/-- where clauses begin, and their sums -/
def tb9 (a : Nat) (Z9 : lwT) (w : hpW) : Prop := ∀ c q, Z9[c]? = some q → hp_i w (a + 2) c = nI (fx_ (Z9.take c)).length ∧ hp_i w (a + 3) c = nI ((fx_ (Z9.take c)).length + q.1.length)
/-- Z9 is told, nothing behind it -/
def lwS (a : Nat) (Z9 : lwT) (w : hpW) : Prop := hp_i w a 1 = nI Z9.length ∧ tb9 a Z9 w ∧ lrX a (fx_ Z9) w
/-- a clause behind Z9 has been opened; its sum begins behind y signs -/
def lwO (a : Nat) (Z9 : lwT) (y : Nat) (w : hpW) : Prop := hp_i w a 1 = nI (Z9.length + 1) ∧ tb9 a Z9 w ∧ hp_i w (a + 2) Z9.length = nI (fx_ Z9).length ∧ hp_i w (a + 3) Z9.length = nI ((fx_ Z9).length + y)
def fW (a : Nat) (w w' : hpW) : Prop := w' = hp_wi w (hp_i w') ∧ (∀ b, b ≠ 17 → b < a ∨ a + 3 < b → hp_i w' b = hp_i w b) ∧ ∀ j, j ≠ 2 → j ≠ 3 → hp_i w' 17 j = hp_i w 17 j
theorem fW_rf {a : Nat} {w : hpW} : fW a w w := ⟨rfl, fun _ _ _ => rfl, fun _ _ _ => rfl⟩
theorem fW_tr {a : Nat} {w w2 w3 : hpW} (f : fW a w w2) (g : fW a w2 w3) : fW a w w3 := by
  refine ⟨?_, fun b h1 h2 => (g.2.1 b h1 h2).trans (f.2.1 b h1 h2), fun j h1 h2 => (g.2.2 j h1 h2).trans (f.2.2 j h1 h2)⟩
  have e := g.1
  rw [f.1] at e
  exact e
theorem fL_fW {a : Nat} {w w' : hpW} (f : fL a w w') : fW a w w' := ⟨f.1, fun b h1 h2 => f.2.1 b h1 (by omega) (by omega), f.2.2.1⟩
theorem fW_P {T : List Int32} {a p : Nat} {w w' : hpW} (ha : 22 ≤ a) (f : fW a w w') (H : lrP T a p w) (e : hp_i w' 17 2 = hp_i w 17 2) : lrP T a p w' := by
  have e1 := f.1
  refine ⟨?_, tp_mv (f.2.2 1 (by decide) (by decide)) (f.2.1 18 (by decide) (by omega)) H.2.1, ?_, e.trans H.2.2.2⟩
  · rw [e1]; exact ly_wi H.1 _
  · rw [e1]; exact H.2.2.1
theorem tb9_mv {a : Nat} {Z9 : lwT} {w w' : hpW} (ha : 22 ≤ a) (f : fL a w w') (h : tb9 a Z9 w) : tb9 a Z9 w' := fun c q hq => by rw [f.2.1 (a + 2) (by omega) (by omega) (by omega), f.2.1 (a + 3) (by omega) (by omega) (by omega)]; exact h c q hq
theorem lwO_mv {a : Nat} {Z9 : lwT} {y : Nat} {w w' : hpW} (ha : 22 ≤ a) (f : fL a w w') (h : lwO a Z9 y w) : lwO a Z9 y w' := ⟨(f.2.2.2 1 (by decide)).trans h.1, tb9_mv ha f h.2.1, by rw [f.2.1 (a + 2) (by omega) (by omega) (by omega)]; exact h.2.2.1, by rw [f.2.1 (a + 3) (by omega) (by omega) (by omega)]; exact h.2.2.2⟩
theorem lwO_end {a : Nat} {Z9 : lwT} {q : List Int32 × List Int32} {w : hpW} (h : lwO a Z9 q.1.length w) (hx : lrX a (fx_ Z9 ++ q.1 ++ q.2) w) : lwS a (Z9 ++ [q]) w := by
  refine ⟨by rw [List.length_append]; exact h.1, fun c z hz => ?_, by rw [fx_app]; exact hx⟩
  rcases Nat.lt_or_ge c Z9.length with hc | hc
  · rw [List.getElem?_append_left hc] at hz
    rw [List.take_append_of_le_length (Nat.le_of_lt hc)]
    exact h.2.1 c z hz
  · have e : c = Z9.length := by
      have := (List.getElem?_eq_some_iff.mp hz).1
      rw [List.length_append, List.length_singleton] at this
      omega
    subst e
    rw [List.getElem?_append_right (Nat.le_refl _), Nat.sub_self] at hz
    have e2 : q = z := Option.some.inj hz
    subst e2
    rw [List.take_append_of_le_length (Nat.le_refl _), List.take_length]
    exact h.2.2
set_option maxHeartbeats 2000000 in
set_option maxRecDepth 20000 in
theorem c_X1_clear {E : sxE} {w : hpW} {Q : Option Value → hpW → Prop} {k : Nat} (hB : ly_B w) (hk : k < 5) (h : Q none (hp_si (hp_si w (22 + 6 * k) 0 0) (22 + 6 * k) 1 0)) : sx_C E mX1_clear 1 0 0 [.ref (22 + 6 * k)] w Q := by
  have hs := lw_law hB hk
  refine C_of (by decide +kernel) (Nat.le_of_ble_eq_true rfl) ?_
  refine V_aload_n (i := 0) (sx_di dX1_clear 0 rfl) rfl rfl ?_
  refine V_iconst (v := 0) (sx_di dX1_clear 1 rfl) (by decide) ?_
  refine V_putI (sx_di dX1_clear 2 rfl) fX1_27 (fun _ => rfl) rfl (by first | exact hs.1 | exact hs.2.1 | exact hs.2.2.1 | exact hs.2.2.2.1) (rfl) (rfl) ?_
  refine V_aload_n (i := 0) (sx_di dX1_clear 3 rfl) rfl rfl ?_
  refine V_iconst (v := 0) (sx_di dX1_clear 4 rfl) (by decide) ?_
  refine V_putI (sx_di dX1_clear 5 rfl) fX1_31 (fun _ => rfl) rfl (by first | exact hs.1 | exact hs.2.1 | exact hs.2.2.1 | exact hs.2.2.2.1) (rfl) (rfl) ?_
  refine V_vret (sx_di dX1_clear 6 rfl) rfl (Nat.le_refl _) (Nat.le_refl _) ?_
  exact h
set_option maxHeartbeats 2000000 in
set_option maxRecDepth 20000 in
theorem c_X1_openClause {E : sxE} {w : hpW} {Q : Option Value → hpW → Prop} {k n s : Nat} (hB : ly_B w) (hk : k < 5) (hn : hp_i w (22 + 6 * k) 1 = nI n) (hs0 : hp_i w (22 + 6 * k) 0 = nI s) (hl : n < 64) (h : Q none (hp_si (hp_si (hp_si w (22 + 6 * k + 2) n (nI s)) (22 + 6 * k + 3) n (nI s)) (22 + 6 * k) 1 (nI (n + 1)))) : sx_C E mX1_openClause 1 0 0 [.ref (22 + 6 * k)] w Q := by
  have hs := lw_law hB hk
  refine C_of (by decide +kernel) (Nat.le_of_ble_eq_true rfl) ?_
  refine V_aload_n (i := 0) (sx_di dX1_openClause 0 rfl) rfl rfl ?_
  refine V_getI (sx_di dX1_openClause 1 rfl) fX1_31 (fun _ => rfl) (by first | exact hs.1 | exact hs.2.1 | exact hs.2.2.1 | exact hs.2.2.2.1) ?_
  refine V_iv (y := nI n) (hn) ?_
  refine V_bipush (v := 64) (sx_di dX1_openClause 2 rfl) (by decide) ?_
  refine V_icN_ge (a := n) (b := 64) (rfl) (rfl) (by omega) (by omega) (tgt := 45) (sx_di dX1_openClause 3 rfl) (by decide) (fun h6 => absurd h6 (by omega)) (fun _ => ?_)
  refine V_aload_n (i := 0) (sx_di dX1_openClause 4 rfl) rfl rfl ?_
  refine V_getR (sx_di dX1_openClause 5 rfl) fX1_15 (fun _ => rfl) (by first | exact hs.1 | exact hs.2.1 | exact hs.2.2.1 | exact hs.2.2.2.1) (by first | exact hs.2.2.2.2.2.2.1 | exact hs.2.2.2.2.2.2.2.1 | exact hs.2.2.2.2.2.2.2.2.1) ?_
  refine V_aload_n (i := 0) (sx_di dX1_openClause 6 rfl) rfl rfl ?_
  refine V_getI (sx_di dX1_openClause 7 rfl) fX1_31 (fun _ => rfl) (by first | exact hs.1 | exact hs.2.1 | exact hs.2.2.1 | exact hs.2.2.2.1) ?_
  refine V_iv (y := nI n) (hn) ?_
  refine V_aload_n (i := 0) (sx_di dX1_openClause 8 rfl) rfl rfl ?_
  refine V_getI (sx_di dX1_openClause 9 rfl) fX1_27 (fun _ => rfl) (by first | exact hs.1 | exact hs.2.1 | exact hs.2.2.1 | exact hs.2.2.2.1) ?_
  refine V_iv (y := nI s) (hs0) ?_
  refine V_iastN (n := 64) (j := n) (sx_di dX1_openClause 10 rfl) (by first | exact hs.1 | exact hs.2.1 | exact hs.2.2.1 | exact hs.2.2.2.1) (rfl) (by omega) (by omega) ?_
  refine V_aload_n (i := 0) (sx_di dX1_openClause 11 rfl) rfl rfl ?_
  refine V_getR (sx_di dX1_openClause 12 rfl) fX1_18 (fun _ => rfl) (by first | exact hs.1 | exact hs.2.1 | exact hs.2.2.1 | exact hs.2.2.2.1) (by first | exact hs.2.2.2.2.2.2.1 | exact hs.2.2.2.2.2.2.2.1 | exact hs.2.2.2.2.2.2.2.2.1) ?_
  refine V_aload_n (i := 0) (sx_di dX1_openClause 13 rfl) rfl rfl ?_
  refine V_getI (sx_di dX1_openClause 14 rfl) fX1_31 (fun _ => rfl) (by first | exact hs.1 | exact hs.2.1 | exact hs.2.2.1 | exact hs.2.2.2.1) ?_
  refine V_iv (y := nI n) (by rw [hp_i_si, if_neg (by omega)]; exact hn) ?_
  refine V_aload_n (i := 0) (sx_di dX1_openClause 15 rfl) rfl rfl ?_
  refine V_getI (sx_di dX1_openClause 16 rfl) fX1_27 (fun _ => rfl) (by first | exact hs.1 | exact hs.2.1 | exact hs.2.2.1 | exact hs.2.2.2.1) ?_
  refine V_iv (y := nI s) (by rw [hp_i_si, if_neg (by omega)]; exact hs0) ?_
  refine V_iastN (n := 64) (j := n) (sx_di dX1_openClause 17 rfl) (by first | exact hs.1 | exact hs.2.1 | exact hs.2.2.1 | exact hs.2.2.2.1) (rfl) (by omega) (by omega) ?_
  refine V_aload_n (i := 0) (sx_di dX1_openClause 18 rfl) rfl rfl ?_
  refine V_dup (sx_di dX1_openClause 19 rfl) rfl ?_
  refine V_getI (sx_di dX1_openClause 20 rfl) fX1_31 (fun _ => rfl) (by first | exact hs.1 | exact hs.2.1 | exact hs.2.2.1 | exact hs.2.2.2.1) ?_
  refine V_iv (y := nI n) (by rw [hp_i_si, if_neg (by omega), hp_i_si, if_neg (by omega)]; exact hn) ?_
  refine V_iconst (v := 1) (sx_di dX1_openClause 21 rfl) (by decide) ?_
  refine V_iadd (sx_di dX1_openClause 22 rfl) ?_
  refine V_iv (y := nI (n + 1)) (nI_add n 1) ?_
  refine V_putI (sx_di dX1_openClause 23 rfl) fX1_31 (fun _ => rfl) rfl (by first | exact hs.1 | exact hs.2.1 | exact hs.2.2.1 | exact hs.2.2.2.1) (rfl) (rfl) ?_
  refine V_vret (sx_di dX1_openClause 24 rfl) rfl (Nat.le_refl _) (Nat.le_refl _) ?_
  exact h
set_option maxHeartbeats 2000000 in
set_option maxRecDepth 20000 in
theorem c_X1_closeCondition {E : sxE} {w : hpW} {Q : Option Value → hpW → Prop} {k n s : Nat} (hB : ly_B w) (hk : k < 5) (hn : hp_i w (22 + 6 * k) 1 = nI (n + 1)) (hs0 : hp_i w (22 + 6 * k) 0 = nI s) (hl : n < 64) (h : Q none (hp_si w (22 + 6 * k + 3) n (nI s))) : sx_C E mX1_closeCondition 1 0 0 [.ref (22 + 6 * k)] w Q := by
  have hs := lw_law hB hk
  refine C_of (by decide +kernel) (Nat.le_of_ble_eq_true rfl) ?_
  refine V_aload_n (i := 0) (sx_di dX1_closeCondition 0 rfl) rfl rfl ?_
  refine V_getI (sx_di dX1_closeCondition 1 rfl) fX1_31 (fun _ => rfl) (by first | exact hs.1 | exact hs.2.1 | exact hs.2.2.1 | exact hs.2.2.2.1) ?_
  refine V_iv (y := nI (n + 1)) (hn) ?_
  refine V_ifN_le (a := (n + 1)) (rfl) (by omega) (tgt := 31) (sx_di dX1_closeCondition 2 rfl) (by decide) (fun h4 => absurd h4 (by omega)) (fun _ => ?_)
  refine V_aload_n (i := 0) (sx_di dX1_closeCondition 3 rfl) rfl rfl ?_
  refine V_getI (sx_di dX1_closeCondition 4 rfl) fX1_31 (fun _ => rfl) (by first | exact hs.1 | exact hs.2.1 | exact hs.2.2.1 | exact hs.2.2.2.1) ?_
  refine V_iv (y := nI (n + 1)) (hn) ?_
  refine V_bipush (v := 64) (sx_di dX1_closeCondition 5 rfl) (by decide) ?_
  refine V_icN_gt (a := (n + 1)) (b := 64) (rfl) (rfl) (by omega) (by omega) (tgt := 31) (sx_di dX1_closeCondition 6 rfl) (by decide) (fun h13 => absurd h13 (by omega)) (fun _ => ?_)
  refine V_aload_n (i := 0) (sx_di dX1_closeCondition 7 rfl) rfl rfl ?_
  refine V_getR (sx_di dX1_closeCondition 8 rfl) fX1_18 (fun _ => rfl) (by first | exact hs.1 | exact hs.2.1 | exact hs.2.2.1 | exact hs.2.2.2.1) (by first | exact hs.2.2.2.2.2.2.1 | exact hs.2.2.2.2.2.2.2.1 | exact hs.2.2.2.2.2.2.2.2.1) ?_
  refine V_aload_n (i := 0) (sx_di dX1_closeCondition 9 rfl) rfl rfl ?_
  refine V_getI (sx_di dX1_closeCondition 10 rfl) fX1_31 (fun _ => rfl) (by first | exact hs.1 | exact hs.2.1 | exact hs.2.2.1 | exact hs.2.2.2.1) ?_
  refine V_iv (y := nI (n + 1)) (hn) ?_
  refine V_iconst (v := 1) (sx_di dX1_closeCondition 11 rfl) (by decide) ?_
  refine V_isub (sx_di dX1_closeCondition 12 rfl) ?_
  refine V_iv (y := nI n) (pk_sub (show 1 ≤ n + 1 by omega)) ?_
  refine V_aload_n (i := 0) (sx_di dX1_closeCondition 13 rfl) rfl rfl ?_
  refine V_getI (sx_di dX1_closeCondition 14 rfl) fX1_27 (fun _ => rfl) (by first | exact hs.1 | exact hs.2.1 | exact hs.2.2.1 | exact hs.2.2.2.1) ?_
  refine V_iv (y := nI s) (hs0) ?_
  refine V_iastN (n := 64) (j := n) (sx_di dX1_closeCondition 15 rfl) (by first | exact hs.1 | exact hs.2.1 | exact hs.2.2.1 | exact hs.2.2.2.1) (rfl) (by omega) (by omega) ?_
  refine V_vret (sx_di dX1_closeCondition 16 rfl) rfl (Nat.le_refl _) (Nat.le_refl _) ?_
  exact h
theorem c_open9 {E : sxE} {w : hpW} {Q : Option Value → hpW → Prop} {T : List Int32} {k p : Nat} {Z9 : lwT} (hk : k < 5) (hV : Z9.length < 64) (H : lrP T (22 + 6 * k) p w) (hs : lwS (22 + 6 * k) Z9 w) (h : ∀ w', lrP T (22 + 6 * k) p w' → fW (22 + 6 * k) w w' → lwO (22 + 6 * k) Z9 0 w' → lrX (22 + 6 * k) (fx_ Z9) w' → Q none w') : sx_C E mX1_openClause 1 0 0 [.ref (22 + 6 * k)] w Q := by
  refine c_X1_openClause H.1 hk hs.1 hs.2.2.1 hV ?_
  have f : fW (22 + 6 * k) w (hp_si (hp_si (hp_si w (22 + 6 * k + 2) Z9.length (nI (fx_ Z9).length)) (22 + 6 * k + 3) Z9.length (nI (fx_ Z9).length)) (22 + 6 * k) 1 (nI (Z9.length + 1))) := by
    refine ⟨rfl, fun b h1 h2 => ?_, fun j _ _ => ?_⟩
    · funext j
      rw [hp_i_si, if_neg (by omega), hp_i_si, if_neg (by omega), hp_i_si, if_neg (by omega)]
    · rw [hp_i_si, if_neg (by omega), hp_i_si, if_neg (by omega), hp_i_si, if_neg (by omega)]
  refine h _ (fW_P (by omega) f H (by rw [hp_i_si, if_neg (by omega), hp_i_si, if_neg (by omega), hp_i_si, if_neg (by omega)])) f ⟨by rw [hp_i_si, if_pos ⟨rfl, rfl⟩], fun c q hq => ?_, by rw [hp_i_si, if_neg (by omega), hp_i_si, if_neg (by omega), hp_i_si, if_pos ⟨rfl, rfl⟩], by rw [hp_i_si, if_neg (by omega), hp_i_si, if_pos ⟨rfl, rfl⟩]; rfl⟩ ⟨by rw [hp_i_si, if_neg (by omega), hp_i_si, if_neg (by omega), hp_i_si, if_neg (by omega)]; exact hs.2.2.1, fun j hj => by rw [hp_i_si, if_neg (by omega), hp_i_si, if_neg (by omega), hp_i_si, if_neg (by omega)]; exact hs.2.2.2 j hj⟩
  have hc := (List.getElem?_eq_some_iff.mp hq).1
  rw [hp_i_si, if_neg (by omega), hp_i_si, if_neg (by omega), hp_i_si, if_neg (by omega), hp_i_si, if_neg (by omega), hp_i_si, if_neg (by omega), hp_i_si, if_neg (by omega)]
  exact hs.2.1 c q hq
theorem c_close9 {E : sxE} {w : hpW} {Q : Option Value → hpW → Prop} {T : List Int32} {k p : Nat} {Z9 : lwT} {X : List Int32} (hk : k < 5) (hV : Z9.length < 64) (H : lrP T (22 + 6 * k) p w) (hs : lwO (22 + 6 * k) Z9 0 w) (hx : lrX (22 + 6 * k) (fx_ Z9 ++ X) w) (h : ∀ w', lrP T (22 + 6 * k) p w' → fW (22 + 6 * k) w w' → lwO (22 + 6 * k) Z9 X.length w' → lrX (22 + 6 * k) (fx_ Z9 ++ X) w' → Q none w') : sx_C E mX1_closeCondition 1 0 0 [.ref (22 + 6 * k)] w Q := by
  refine c_X1_closeCondition H.1 hk hs.1 hx.1 hV ?_
  have f : fW (22 + 6 * k) w (hp_si w (22 + 6 * k + 3) Z9.length (nI (fx_ Z9 ++ X).length)) := by
    refine ⟨rfl, fun b h1 h2 => ?_, fun j _ _ => ?_⟩
    · funext j
      rw [hp_i_si, if_neg (by omega)]
    · rw [hp_i_si, if_neg (by omega)]
  refine h _ (fW_P (by omega) f H (by rw [hp_i_si, if_neg (by omega)])) f ⟨by rw [hp_i_si, if_neg (by omega)]; exact hs.1, fun c q hq => ?_, by rw [hp_i_si, if_neg (by omega)]; exact hs.2.2.1, by rw [hp_i_si, if_pos ⟨rfl, rfl⟩, List.length_append]⟩ ⟨by rw [hp_i_si, if_neg (by omega)]; exact hx.1, fun j hj => by rw [hp_i_si, if_neg (by omega)]; exact hx.2 j hj⟩
  have hc := (List.getElem?_eq_some_iff.mp hq).1
  rw [hp_i_si, if_neg (by omega), hp_i_si, if_neg (by omega)]
  exact hs.2.1 c q hq
theorem cb0_pre {T : List Int32} (Z : List Int32) (p : Nat) : (cb9_ T Z p).1 = (cb0_ T (smR T 6) (uR T 6) p).1 ∧ (cb9_ T Z p).2.2 = (cb0_ T (smR T 6) (uR T 6) p).2.2 ∧ ((cb0_ T (smR T 6) (uR T 6) p).1 = true → (cb9_ T Z p).2.1 = Z ++ (cb0_ T (smR T 6) (uR T 6) p).2.1) := by
  obtain ⟨e1, e2, e3⟩ := cm_pre (T := T) (s := smR T 6) Z p
  unfold cb9_ cb0_
  by_cases c : (cm_ T (smR T 6) [] p).1 = true
  · rw [if_pos c, e1, if_pos c, e2, e3 c]
    exact flF_pre Z _ _ _ _
  · rw [if_neg c, e1, if_neg c, e2]
    exact ⟨rfl, rfl, fun z => absurd z Bool.false_ne_true⟩
set_option maxHeartbeats 2000000 in
set_option maxRecDepth 20000 in
theorem rq_130 {E : sxE} {T : List Int32} {k : Nat} {Z9 : lwT} {x : prT} {w : hpW} {Q : Option Value → hpW → Prop} (hX : XO E) (hk : k < 5) (hV : Z9.length < 64) (H : lrP T (22 + 6 * k) x.2.2 w) (hO : lwO (22 + 6 * k) Z9 0 w) (hx : x.1 = true → lrX (22 + 6 * k) (fx_ Z9 ++ x.2.1) w) (hp : x.2.2 ≤ T.length) (hl : x.1 = true → (fx_ Z9).length + x.2.1.length ≤ x.2.2) (h : (∀ w', lrP T (22 + 6 * k) (qs_ T x).2.2 w' → fW (22 + 6 * k) w w' → ((qs_ T x).1 = true → lwS (22 + 6 * k) (Z9 ++ [(qs_ T x).2.1]) w') → Q (some (.int (bz9 (qs_ T x).1))) w')) : V E mX3_readClause (sx_rm 39 0 0) 0 0 0 0 130 [(0, .ref 52)] [.int (bz9 x.1)] w Q := by
  have hT := H.2.1.1
  have g1 := skp_ge T x.2.2
  have g2 := skq_le (T := T) hp
  unfold qs_ at h
  refine V_if_eq (tgt := 145) (sx_di dX3_readClause 68 rfl) (by decide) (fun h130 => ?_) (fun h130 => ?_)
  · rw [if_neg (bz9f h130)] at h
    refine V_iconst (v := 0) (sx_di dX3_readClause 74 rfl) (by decide) ?_
    refine V_zret (sx_di dX3_readClause 75 rfl) rfl (by first | rfl | decide) (Nat.le_refl _) (Nat.le_refl _) ?_
    exact h w H fW_rf (fun z => absurd z Bool.false_ne_true)
  · have b130 := bz9t h130
    rw [if_pos b130] at h
    refine V_aload_n (i := 0) (sx_di dX3_readClause 69 rfl) rfl rfl ?_
    refine V_getR (sx_di dX3_readClause 70 rfl) fX3_9 (fun _ => rfl) (by first | exact H.1.k _ rfl | exact H1.1.k _ rfl | exact H2.1.k _ rfl | exact H3.1.k _ rfl | exact H4.1.k _ rfl | exact H5.1.k _ rfl | exact H6.1.k _ rfl | exact H7.1.k _ rfl | exact H8.1.k _ rfl) (by first | exact H.1.r _ _ rfl | exact H1.1.r _ _ rfl | exact H2.1.r _ _ rfl | exact H3.1.r _ _ rfl | exact H4.1.r _ _ rfl | exact H5.1.r _ _ rfl | exact H6.1.r _ _ rfl | exact H7.1.r _ _ rfl | exact H8.1.r _ _ rfl | exact H.2.2.1 | exact H1.2.2.1 | exact H2.2.2.1 | exact H3.2.2.1 | exact H4.2.2.1 | exact H5.2.2.1 | exact H6.2.2.1 | exact H7.2.2.1 | exact H8.2.2.1) ?_
    refine V_cV0 (mc' := 0) (ms' := 0) (M' := mX10_sign) 1 (sx_di dX3_readClause 71 rfl) lX3_34 vX10_sign (by first | exact H.1.k _ rfl | exact H1.1.k _ rfl | exact H2.1.k _ rfl | exact H3.1.k _ rfl | exact H4.1.k _ rfl | exact H5.1.k _ rfl | exact H6.1.k _ rfl | exact H7.1.k _ rfl | exact H8.1.k _ rfl) (by decide) rfl (Nat.le_of_ble_eq_true rfl) ⟨by show 1 + 1 ≤ 39; omega, by show 64 + 64 * (1) ≤ 64 * (39); omega⟩ ⟨Nat.le_refl _, Nat.le_refl _⟩ ?_
    refine c_sign9 (by omega) H hp (fun w1 H1 f1 x1 => ?_)
    refine V_bipush (v := 63) (sx_di dX3_readClause 72 rfl) (by decide) ?_
    refine V_icmp_eq (tgt := 147) (sx_di dX3_readClause 73 rfl) (by decide) (fun h142 => ?_) (fun h142 => ?_)
    · rw [if_pos h142] at h
      have hq1 := cz_p1 h142 (by decide)
      refine V_aload_n (i := 0) (sx_di dX3_readClause 76 rfl) rfl rfl ?_
      refine V_getR (sx_di dX3_readClause 77 rfl) fX3_9 (fun _ => rfl) (by first | exact H.1.k _ rfl | exact H1.1.k _ rfl | exact H2.1.k _ rfl | exact H3.1.k _ rfl | exact H4.1.k _ rfl | exact H5.1.k _ rfl | exact H6.1.k _ rfl | exact H7.1.k _ rfl | exact H8.1.k _ rfl) (by first | exact H.1.r _ _ rfl | exact H1.1.r _ _ rfl | exact H2.1.r _ _ rfl | exact H3.1.r _ _ rfl | exact H4.1.r _ _ rfl | exact H5.1.r _ _ rfl | exact H6.1.r _ _ rfl | exact H7.1.r _ _ rfl | exact H8.1.r _ _ rfl | exact H.2.2.1 | exact H1.2.2.1 | exact H2.2.2.1 | exact H3.2.2.1 | exact H4.2.2.1 | exact H5.2.2.1 | exact H6.2.2.1 | exact H7.2.2.1 | exact H8.2.2.1) ?_
      refine V_dup (sx_di dX3_readClause 78 rfl) rfl ?_
      refine V_getI (sx_di dX3_readClause 79 rfl) fX3_24 (fun _ => rfl) (by first | exact H.1.k _ rfl | exact H1.1.k _ rfl | exact H2.1.k _ rfl | exact H3.1.k _ rfl | exact H4.1.k _ rfl | exact H5.1.k _ rfl | exact H6.1.k _ rfl | exact H7.1.k _ rfl | exact H8.1.k _ rfl) ?_
      refine V_iv (y := nI (skp_ T x.2.2)) (H1.2.2.2) ?_
      refine V_iconst (v := 1) (sx_di dX3_readClause 80 rfl) (by decide) ?_
      refine V_iadd (sx_di dX3_readClause 81 rfl) ?_
      refine V_iv (y := nI (skp_ T x.2.2 + 1)) (nI_add _ 1) ?_
      refine V_putI (sx_di dX3_readClause 82 rfl) fX3_24 (fun _ => rfl) rfl (by first | exact H.1.k _ rfl | exact H1.1.k _ rfl | exact H2.1.k _ rfl | exact H3.1.k _ rfl | exact H4.1.k _ rfl | exact H5.1.k _ rfl | exact H6.1.k _ rfl | exact H7.1.k _ rfl | exact H8.1.k _ rfl) (rfl) (rfl) ?_
      refine V_hd9 (by omega) H1 (fun w2 H2 f2 x2 => ?_)
      refine V_aload_n (i := 0) (sx_di dX3_readClause 83 rfl) rfl rfl ?_
      refine V_getR (sx_di dX3_readClause 84 rfl) fX3_15 (fun _ => rfl) (by first | exact H.1.k _ rfl | exact H1.1.k _ rfl | exact H2.1.k _ rfl | exact H3.1.k _ rfl | exact H4.1.k _ rfl | exact H5.1.k _ rfl | exact H6.1.k _ rfl | exact H7.1.k _ rfl | exact H8.1.k _ rfl) (by first | exact H.1.r _ _ rfl | exact H1.1.r _ _ rfl | exact H2.1.r _ _ rfl | exact H3.1.r _ _ rfl | exact H4.1.r _ _ rfl | exact H5.1.r _ _ rfl | exact H6.1.r _ _ rfl | exact H7.1.r _ _ rfl | exact H8.1.r _ _ rfl | exact H.2.2.1 | exact H1.2.2.1 | exact H2.2.2.1 | exact H3.2.2.1 | exact H4.2.2.1 | exact H5.2.2.1 | exact H6.2.2.1 | exact H7.2.2.1 | exact H8.2.2.1) ?_
      refine V_cV0 (mc' := 0) (ms' := 0) (M' := mX1_closeCondition) 1 (sx_di dX3_readClause 85 rfl) lX3_52 vX1_closeCondition ((lw_law H2.1 hk).1) (by decide) rfl (Nat.le_of_ble_eq_true rfl) ⟨by show 1 + 1 ≤ 39; omega, by show 64 + 64 * (1) ≤ 64 * (39); omega⟩ ⟨Nat.le_refl _, Nat.le_refl _⟩ ?_
      refine c_close9 hk hV H2 (lwO_mv (by omega) f2 (lwO_mv (by omega) f1 hO)) (x2 _ (x1 _ (hx b130))) (fun w3 H3 f3 o3 x3 => ?_)
      refine V_aload_n (i := 0) (sx_di dX3_readClause 86 rfl) rfl rfl ?_
      refine V_iconst (v := 0) (sx_di dX3_readClause 87 rfl) (by decide) ?_
      refine V_cV1 (mc' := 0) (ms' := 0) (M' := mX3_readSum) 18 (sx_di dX3_readClause 88 rfl) lX3_41 vX3_readSum (by first | exact H.1.k _ rfl | exact H1.1.k _ rfl | exact H2.1.k _ rfl | exact H3.1.k _ rfl | exact H4.1.k _ rfl | exact H5.1.k _ rfl | exact H6.1.k _ rfl | exact H7.1.k _ rfl | exact H8.1.k _ rfl) (by decide) rfl (Nat.le_of_ble_eq_true rfl) ⟨by show 18 + 1 ≤ 39; omega, by show 64 + 64 * (18) ≤ 64 * (39); omega⟩ ⟨Nat.le_refl _, Nat.le_refl _⟩ ?_
      refine k_sum (r := 6) (d := 0) hX hk rfl (fx_ Z9 ++ x.2.1) (skp_ T x.2.2 + 1) w3 _ H3 x3 (by rw [List.length_append]; have := hl b130; omega) hq1 (fun w4 H4 f4 x4 => ?_)
      refine V_zret (sx_di dX3_readClause 89 rfl) rfl (by cases (smR T 6 (skp_ T x.2.2 + 1)).1 <;> decide) (Nat.le_refl _) (Nat.le_refl _) ?_
      have f9 := fW_tr (fL_fW f1) (fW_tr (fL_fW f2) (fW_tr f3 (fL_fW f4)))
      by_cases c9 : (smR T 6 (skp_ T x.2.2 + 1)).1 = true
      · rw [if_pos c9] at h
        rw [c9]
        exact h w4 H4 f9 (fun _ => lwO_end (q := (x.2.1, (smR T 6 (skp_ T x.2.2 + 1)).2.1)) (lwO_mv (by omega) f4 o3) (x4 c9))
      · rw [if_neg c9] at h
        rw [Bool.eq_false_iff.mpr c9]
        exact h w4 H4 f9 (fun z => absurd z Bool.false_ne_true)
    · rw [if_neg h142] at h
      refine V_iconst (v := 0) (sx_di dX3_readClause 74 rfl) (by decide) ?_
      refine V_zret (sx_di dX3_readClause 75 rfl) rfl (by first | rfl | decide) (Nat.le_refl _) (Nat.le_refl _) ?_
      exact h w1 H1 (fL_fW f1) (fun z => absurd z Bool.false_ne_true)
set_option maxHeartbeats 2000000 in
set_option maxRecDepth 20000 in
theorem c_rdClause {E : sxE} {T : List Int32} {k p : Nat} {Z9 : lwT} {w : hpW} {Q : Option Value → hpW → Prop} (hX : XO E) (hk : k < 5) (hV : Z9.length < 64) (H : lrP T (22 + 6 * k) p w) (hs : lwS (22 + 6 * k) Z9 w) (hl : (fx_ Z9).length ≤ p) (hp : p ≤ T.length) (h : (∀ w', lrP T (22 + 6 * k) (cla_ T p).2.2 w' → fW (22 + 6 * k) w w' → ((cla_ T p).1 = true → lwS (22 + 6 * k) (Z9 ++ [(cla_ T p).2.1]) w') → Q (some (.int (bz9 (cla_ T p).1))) w')) : sx_C E mX3_readClause 39 0 0 [.ref 52] w Q := by
  have hT := H.2.1.1
  have g1 := skp_ge T p
  have g2 := skq_le (T := T) hp
  unfold cla_ at h
  refine C_of (by decide +kernel) (Nat.le_of_ble_eq_true rfl) ?_
  refine V_aload_n (i := 0) (sx_di dX3_readClause 0 rfl) rfl rfl ?_
  refine V_getR (sx_di dX3_readClause 1 rfl) fX3_9 (fun _ => rfl) (by first | exact H.1.k _ rfl | exact H1.1.k _ rfl | exact H2.1.k _ rfl | exact H3.1.k _ rfl | exact H4.1.k _ rfl | exact H5.1.k _ rfl | exact H6.1.k _ rfl | exact H7.1.k _ rfl | exact H8.1.k _ rfl) (by first | exact H.1.r _ _ rfl | exact H1.1.r _ _ rfl | exact H2.1.r _ _ rfl | exact H3.1.r _ _ rfl | exact H4.1.r _ _ rfl | exact H5.1.r _ _ rfl | exact H6.1.r _ _ rfl | exact H7.1.r _ _ rfl | exact H8.1.r _ _ rfl | exact H.2.2.1 | exact H1.2.2.1 | exact H2.2.2.1 | exact H3.2.2.1 | exact H4.2.2.1 | exact H5.2.2.1 | exact H6.2.2.1 | exact H7.2.2.1 | exact H8.2.2.1) ?_
  refine V_cV0 (mc' := 0) (ms' := 0) (M' := mX10_sign) 1 (sx_di dX3_readClause 2 rfl) lX3_34 vX10_sign (by first | exact H.1.k _ rfl | exact H1.1.k _ rfl | exact H2.1.k _ rfl | exact H3.1.k _ rfl | exact H4.1.k _ rfl | exact H5.1.k _ rfl | exact H6.1.k _ rfl | exact H7.1.k _ rfl | exact H8.1.k _ rfl) (by decide) rfl (Nat.le_of_ble_eq_true rfl) ⟨by show 1 + 1 ≤ 39; omega, by show 64 + 64 * (1) ≤ 64 * (39); omega⟩ ⟨Nat.le_refl _, Nat.le_refl _⟩ ?_
  refine c_sign9 (by omega) H hp (fun w1 H1 f1 x1 => ?_)
  refine V_bipush (v := 121) (sx_di dX3_readClause 3 rfl) (by decide) ?_
  refine V_icmp_eq (tgt := 14) (sx_di dX3_readClause 4 rfl) (by decide) (fun h9 => ?_) (fun h9 => ?_)
  · rw [if_pos h9] at h
    have hq1 := cz_p1 h9 (by decide)
    have g5 := skp_ge T (skp_ T p + 1)
    refine V_aload_n (i := 0) (sx_di dX3_readClause 7 rfl) rfl rfl ?_
    refine V_getR (sx_di dX3_readClause 8 rfl) fX3_9 (fun _ => rfl) (by first | exact H.1.k _ rfl | exact H1.1.k _ rfl | exact H2.1.k _ rfl | exact H3.1.k _ rfl | exact H4.1.k _ rfl | exact H5.1.k _ rfl | exact H6.1.k _ rfl | exact H7.1.k _ rfl | exact H8.1.k _ rfl) (by first | exact H.1.r _ _ rfl | exact H1.1.r _ _ rfl | exact H2.1.r _ _ rfl | exact H3.1.r _ _ rfl | exact H4.1.r _ _ rfl | exact H5.1.r _ _ rfl | exact H6.1.r _ _ rfl | exact H7.1.r _ _ rfl | exact H8.1.r _ _ rfl | exact H.2.2.1 | exact H1.2.2.1 | exact H2.2.2.1 | exact H3.2.2.1 | exact H4.2.2.1 | exact H5.2.2.1 | exact H6.2.2.1 | exact H7.2.2.1 | exact H8.2.2.1) ?_
    refine V_dup (sx_di dX3_readClause 9 rfl) rfl ?_
    refine V_getI (sx_di dX3_readClause 10 rfl) fX3_24 (fun _ => rfl) (by first | exact H.1.k _ rfl | exact H1.1.k _ rfl | exact H2.1.k _ rfl | exact H3.1.k _ rfl | exact H4.1.k _ rfl | exact H5.1.k _ rfl | exact H6.1.k _ rfl | exact H7.1.k _ rfl | exact H8.1.k _ rfl) ?_
    refine V_iv (y := nI (skp_ T p)) (H1.2.2.2) ?_
    refine V_iconst (v := 1) (sx_di dX3_readClause 11 rfl) (by decide) ?_
    refine V_iadd (sx_di dX3_readClause 12 rfl) ?_
    refine V_iv (y := nI (skp_ T p + 1)) (nI_add _ 1) ?_
    refine V_putI (sx_di dX3_readClause 13 rfl) fX3_24 (fun _ => rfl) rfl (by first | exact H.1.k _ rfl | exact H1.1.k _ rfl | exact H2.1.k _ rfl | exact H3.1.k _ rfl | exact H4.1.k _ rfl | exact H5.1.k _ rfl | exact H6.1.k _ rfl | exact H7.1.k _ rfl | exact H8.1.k _ rfl) (rfl) (rfl) ?_
    refine V_hd9 (by omega) H1 (fun w2 H2 f2 x2 => ?_)
    refine V_aload_n (i := 0) (sx_di dX3_readClause 14 rfl) rfl rfl ?_
    refine V_getR (sx_di dX3_readClause 15 rfl) fX3_9 (fun _ => rfl) (by first | exact H.1.k _ rfl | exact H1.1.k _ rfl | exact H2.1.k _ rfl | exact H3.1.k _ rfl | exact H4.1.k _ rfl | exact H5.1.k _ rfl | exact H6.1.k _ rfl | exact H7.1.k _ rfl | exact H8.1.k _ rfl) (by first | exact H.1.r _ _ rfl | exact H1.1.r _ _ rfl | exact H2.1.r _ _ rfl | exact H3.1.r _ _ rfl | exact H4.1.r _ _ rfl | exact H5.1.r _ _ rfl | exact H6.1.r _ _ rfl | exact H7.1.r _ _ rfl | exact H8.1.r _ _ rfl | exact H.2.2.1 | exact H1.2.2.1 | exact H2.2.2.1 | exact H3.2.2.1 | exact H4.2.2.1 | exact H5.2.2.1 | exact H6.2.2.1 | exact H7.2.2.1 | exact H8.2.2.1) ?_
    refine V_cV0 (mc' := 0) (ms' := 0) (M' := mX10_sign) 1 (sx_di dX3_readClause 16 rfl) lX3_34 vX10_sign (by first | exact H.1.k _ rfl | exact H1.1.k _ rfl | exact H2.1.k _ rfl | exact H3.1.k _ rfl | exact H4.1.k _ rfl | exact H5.1.k _ rfl | exact H6.1.k _ rfl | exact H7.1.k _ rfl | exact H8.1.k _ rfl) (by decide) rfl (Nat.le_of_ble_eq_true rfl) ⟨by show 1 + 1 ≤ 39; omega, by show 64 + 64 * (1) ≤ 64 * (39); omega⟩ ⟨Nat.le_refl _, Nat.le_refl _⟩ ?_
    refine c_sign9 (by omega) H2 hq1 (fun w3 H3 f3 x3 => ?_)
    refine V_bipush (v := 58) (sx_di dX3_readClause 17 rfl) (by decide) ?_
    refine V_icmp_eq (tgt := 41) (sx_di dX3_readClause 18 rfl) (by decide) (fun h36 => ?_) (fun h36 => ?_)
    · rw [if_pos h36] at h
      have hq2 := cz_p1 h36 (by decide)
      refine V_aload_n (i := 0) (sx_di dX3_readClause 21 rfl) rfl rfl ?_
      refine V_getR (sx_di dX3_readClause 22 rfl) fX3_9 (fun _ => rfl) (by first | exact H.1.k _ rfl | exact H1.1.k _ rfl | exact H2.1.k _ rfl | exact H3.1.k _ rfl | exact H4.1.k _ rfl | exact H5.1.k _ rfl | exact H6.1.k _ rfl | exact H7.1.k _ rfl | exact H8.1.k _ rfl) (by first | exact H.1.r _ _ rfl | exact H1.1.r _ _ rfl | exact H2.1.r _ _ rfl | exact H3.1.r _ _ rfl | exact H4.1.r _ _ rfl | exact H5.1.r _ _ rfl | exact H6.1.r _ _ rfl | exact H7.1.r _ _ rfl | exact H8.1.r _ _ rfl | exact H.2.2.1 | exact H1.2.2.1 | exact H2.2.2.1 | exact H3.2.2.1 | exact H4.2.2.1 | exact H5.2.2.1 | exact H6.2.2.1 | exact H7.2.2.1 | exact H8.2.2.1) ?_
      refine V_dup (sx_di dX3_readClause 23 rfl) rfl ?_
      refine V_getI (sx_di dX3_readClause 24 rfl) fX3_24 (fun _ => rfl) (by first | exact H.1.k _ rfl | exact H1.1.k _ rfl | exact H2.1.k _ rfl | exact H3.1.k _ rfl | exact H4.1.k _ rfl | exact H5.1.k _ rfl | exact H6.1.k _ rfl | exact H7.1.k _ rfl | exact H8.1.k _ rfl) ?_
      refine V_iv (y := nI (skp_ T (skp_ T p + 1))) (H3.2.2.2) ?_
      refine V_iconst (v := 1) (sx_di dX3_readClause 25 rfl) (by decide) ?_
      refine V_iadd (sx_di dX3_readClause 26 rfl) ?_
      refine V_iv (y := nI (skp_ T (skp_ T p + 1) + 1)) (nI_add _ 1) ?_
      refine V_putI (sx_di dX3_readClause 27 rfl) fX3_24 (fun _ => rfl) rfl (by first | exact H.1.k _ rfl | exact H1.1.k _ rfl | exact H2.1.k _ rfl | exact H3.1.k _ rfl | exact H4.1.k _ rfl | exact H5.1.k _ rfl | exact H6.1.k _ rfl | exact H7.1.k _ rfl | exact H8.1.k _ rfl) (rfl) (rfl) ?_
      refine V_hd9 (by omega) H3 (fun w4 H4 f4 x4 => ?_)
      refine V_aload_n (i := 0) (sx_di dX3_readClause 28 rfl) rfl rfl ?_
      refine V_getR (sx_di dX3_readClause 29 rfl) fX3_15 (fun _ => rfl) (by first | exact H.1.k _ rfl | exact H1.1.k _ rfl | exact H2.1.k _ rfl | exact H3.1.k _ rfl | exact H4.1.k _ rfl | exact H5.1.k _ rfl | exact H6.1.k _ rfl | exact H7.1.k _ rfl | exact H8.1.k _ rfl) (by first | exact H.1.r _ _ rfl | exact H1.1.r _ _ rfl | exact H2.1.r _ _ rfl | exact H3.1.r _ _ rfl | exact H4.1.r _ _ rfl | exact H5.1.r _ _ rfl | exact H6.1.r _ _ rfl | exact H7.1.r _ _ rfl | exact H8.1.r _ _ rfl | exact H.2.2.1 | exact H1.2.2.1 | exact H2.2.2.1 | exact H3.2.2.1 | exact H4.2.2.1 | exact H5.2.2.1 | exact H6.2.2.1 | exact H7.2.2.1 | exact H8.2.2.1) ?_
      refine V_cV0 (mc' := 0) (ms' := 0) (M' := mX1_openClause) 1 (sx_di dX3_readClause 30 rfl) lX3_38 vX1_openClause ((lw_law H4.1 hk).1) (by decide) rfl (Nat.le_of_ble_eq_true rfl) ⟨by show 1 + 1 ≤ 39; omega, by show 64 + 64 * (1) ≤ 64 * (39); omega⟩ ⟨Nat.le_refl _, Nat.le_refl _⟩ ?_
      have hs4 : lwS (22 + 6 * k) Z9 w4 := by
        have f14 := fL_tr f1 (fL_tr f2 (fL_tr f3 f4))
        exact ⟨(f14.2.2.2 1 (by decide)).trans hs.1, tb9_mv (by omega) f14 hs.2.1, x4 _ (x3 _ (x2 _ (x1 _ hs.2.2)))⟩
      refine c_open9 hk hV H4 hs4 (fun w5 H5 f5 o5 x5 => ?_)
      refine V_aload_n (i := 0) (sx_di dX3_readClause 31 rfl) rfl rfl ?_
      refine V_getR (sx_di dX3_readClause 32 rfl) fX3_9 (fun _ => rfl) (by first | exact H.1.k _ rfl | exact H1.1.k _ rfl | exact H2.1.k _ rfl | exact H3.1.k _ rfl | exact H4.1.k _ rfl | exact H5.1.k _ rfl | exact H6.1.k _ rfl | exact H7.1.k _ rfl | exact H8.1.k _ rfl) (by first | exact H.1.r _ _ rfl | exact H1.1.r _ _ rfl | exact H2.1.r _ _ rfl | exact H3.1.r _ _ rfl | exact H4.1.r _ _ rfl | exact H5.1.r _ _ rfl | exact H6.1.r _ _ rfl | exact H7.1.r _ _ rfl | exact H8.1.r _ _ rfl | exact H.2.2.1 | exact H1.2.2.1 | exact H2.2.2.1 | exact H3.2.2.1 | exact H4.2.2.1 | exact H5.2.2.1 | exact H6.2.2.1 | exact H7.2.2.1 | exact H8.2.2.1) ?_
      refine V_cV0 (mc' := 0) (ms' := 0) (M' := mX10_sign) 1 (sx_di dX3_readClause 33 rfl) lX3_34 vX10_sign (by first | exact H.1.k _ rfl | exact H1.1.k _ rfl | exact H2.1.k _ rfl | exact H3.1.k _ rfl | exact H4.1.k _ rfl | exact H5.1.k _ rfl | exact H6.1.k _ rfl | exact H7.1.k _ rfl | exact H8.1.k _ rfl) (by decide) rfl (Nat.le_of_ble_eq_true rfl) ⟨by show 1 + 1 ≤ 39; omega, by show 64 + 64 * (1) ≤ 64 * (39); omega⟩ ⟨Nat.le_refl _, Nat.le_refl _⟩ ?_
      refine c_sign9 (by omega) H5 hq2 (fun w6 H6 f6 x6b => ?_)
      have x6 := x6b _ x5
      have o6 := lwO_mv (by omega) f6 o5
      have g3 := skp_ge T (skp_ T (skp_ T p + 1) + 1)
      have g4 := skq_le (T := T) hq2
      unfold cl9 at h
      have hCd : (cz_ T (skp_ T (skp_ T p + 1) + 1) = 33 ∨ cz_ T (skp_ T (skp_ T p + 1) + 1) = 40) → V E mX3_readClause (sx_rm 39 0 0) 0 0 0 0 116 [(2, .int 1), (0, .ref 52)] [] w6 Q := by
        intro hc
        rw [if_pos hc] at h
        refine V_aload_n (i := 0) (sx_di dX3_readClause 60 rfl) rfl rfl ?_
        refine V_iconst (v := 0) (sx_di dX3_readClause 61 rfl) (by decide) ?_
        refine V_iload_n (i := 2) (sx_di dX3_readClause 62 rfl) rfl rfl ?_
        refine V_ifN_ne (a := 1) (rfl) (by omega) (tgt := 126) (sx_di dX3_readClause 63 rfl) (by decide) (fun _ => ?_) (fun h119 => absurd h119 (by omega))
        refine V_iconst (v := 0) (sx_di dX3_readClause 66 rfl) (by decide) ?_
        refine V_cV2 (mc' := 0) (ms' := 0) (M' := mX3_readCondition) 38 (sx_di dX3_readClause 67 rfl) lX3_48 vX3_readCondition (by first | exact H.1.k _ rfl | exact H1.1.k _ rfl | exact H2.1.k _ rfl | exact H3.1.k _ rfl | exact H4.1.k _ rfl | exact H5.1.k _ rfl | exact H6.1.k _ rfl | exact H7.1.k _ rfl | exact H8.1.k _ rfl) (by decide) rfl (Nat.le_of_ble_eq_true rfl) ⟨by show 38 + 1 ≤ 39; omega, by show 64 + 64 * (38) ≤ 64 * (39); omega⟩ ⟨Nat.le_refl _, Nat.le_refl _⟩ ?_
        refine k_cond hX hk (fx_ Z9) (skp_ T (skp_ T (skp_ T p + 1) + 1)) w6 _ H6 x6 (by omega) g4 (fun w7 H7 f7 x7 => ?_)
        have hg := cdR_go T 6 (skp_ T (skp_ T (skp_ T p + 1) + 1)) g4
        refine V_sub (ls' := [(0, .ref 52)]) ⟨rfl, trivial⟩ ?_
        exact rq_130 hX hk hV H7 (lwO_mv (by omega) f7 o6) x7 hg.2.1 (fun z => by have := hg.2.2 z; omega) (fun w8 H8 f8 x8 => h w8 H8 (fW_tr (fW_tr (fL_fW f1) (fW_tr (fL_fW f2) (fW_tr (fL_fW f3) (fW_tr (fL_fW f4) (fW_tr f5 (fL_fW f6)))))) (fW_tr (fL_fW f7) f8)) x8)
      have hSm : ¬ (cz_ T (skp_ T (skp_ T p + 1) + 1) = 33 ∨ cz_ T (skp_ T (skp_ T p + 1) + 1) = 40) → V E mX3_readClause (sx_rm 39 0 0) 0 0 0 0 91 [(2, .int 0), (0, .ref 52)] [] w6 Q := by
        intro hc
        rw [if_neg hc] at h
        have hg := smR_go T 6 (skp_ T (skp_ T (skp_ T p + 1) + 1)) g4
        refine V_aload_n (i := 0) (sx_di dX3_readClause 47 rfl) rfl rfl ?_
        refine V_iconst (v := 0) (sx_di dX3_readClause 48 rfl) (by decide) ?_
        refine V_cV1 (mc' := 0) (ms' := 0) (M' := mX3_readSum) 18 (sx_di dX3_readClause 49 rfl) lX3_41 vX3_readSum (by first | exact H.1.k _ rfl | exact H1.1.k _ rfl | exact H2.1.k _ rfl | exact H3.1.k _ rfl | exact H4.1.k _ rfl | exact H5.1.k _ rfl | exact H6.1.k _ rfl | exact H7.1.k _ rfl | exact H8.1.k _ rfl) (by decide) rfl (Nat.le_of_ble_eq_true rfl) ⟨by show 18 + 1 ≤ 39; omega, by show 64 + 64 * (18) ≤ 64 * (39); omega⟩ ⟨Nat.le_refl _, Nat.le_refl _⟩ ?_
        refine k_sum (r := 6) (d := 0) hX hk rfl (fx_ Z9) (skp_ T (skp_ T (skp_ T p + 1) + 1)) w6 _ H6 x6 (by omega) g4 (fun w7 H7 f7 x7 => ?_)
        refine V_if_ne (tgt := 101) (sx_di dX3_readClause 50 rfl) (by decide) (fun h96 => ?_) (fun h96 => ?_)
        · have b96 := bz9t h96
          rw [if_pos b96] at h
          refine V_aload_n (i := 0) (sx_di dX3_readClause 53 rfl) rfl rfl ?_
          refine V_getR (sx_di dX3_readClause 54 rfl) fX3_9 (fun _ => rfl) (by first | exact H.1.k _ rfl | exact H1.1.k _ rfl | exact H2.1.k _ rfl | exact H3.1.k _ rfl | exact H4.1.k _ rfl | exact H5.1.k _ rfl | exact H6.1.k _ rfl | exact H7.1.k _ rfl | exact H8.1.k _ rfl) (by first | exact H.1.r _ _ rfl | exact H1.1.r _ _ rfl | exact H2.1.r _ _ rfl | exact H3.1.r _ _ rfl | exact H4.1.r _ _ rfl | exact H5.1.r _ _ rfl | exact H6.1.r _ _ rfl | exact H7.1.r _ _ rfl | exact H8.1.r _ _ rfl | exact H.2.2.1 | exact H1.2.2.1 | exact H2.2.2.1 | exact H3.2.2.1 | exact H4.2.2.1 | exact H5.2.2.1 | exact H6.2.2.1 | exact H7.2.2.1 | exact H8.2.2.1) ?_
          refine V_cV0 (mc' := 0) (ms' := 0) (M' := mX10_sign) 1 (sx_di dX3_readClause 55 rfl) lX3_34 vX10_sign (by first | exact H.1.k _ rfl | exact H1.1.k _ rfl | exact H2.1.k _ rfl | exact H3.1.k _ rfl | exact H4.1.k _ rfl | exact H5.1.k _ rfl | exact H6.1.k _ rfl | exact H7.1.k _ rfl | exact H8.1.k _ rfl) (by decide) rfl (Nat.le_of_ble_eq_true rfl) ⟨by show 1 + 1 ≤ 39; omega, by show 64 + 64 * (1) ≤ 64 * (39); omega⟩ ⟨Nat.le_refl _, Nat.le_refl _⟩ ?_
          refine c_sign9 (by omega) H7 hg.2.1 (fun w8 H8 f8 x8 => ?_)
          refine V_cS1 (mc' := 0) (ms' := 0) (M' := mX3_isComparing) 1 (sx_di dX3_readClause 56 rfl) lX3_45 vX3_isComparing (Nat.le_of_ble_eq_true rfl) ⟨by show 1 + 1 ≤ 39; omega, by show 64 + 64 * (1) ≤ 64 * (39); omega⟩ ⟨Nat.le_refl _, Nat.le_refl _⟩ ?_
          refine c_X3_isComparing ?_
          refine V_if_ne (tgt := 116) (sx_di dX3_readClause 57 rfl) (by decide) (fun h111 => ?_) (fun h111 => ?_)
          · have b111 := bz9t h111
            rw [if_pos b111] at h
            refine V_aload_n (i := 0) (sx_di dX3_readClause 60 rfl) rfl rfl ?_
            refine V_iconst (v := 0) (sx_di dX3_readClause 61 rfl) (by decide) ?_
            refine V_iload_n (i := 2) (sx_di dX3_readClause 62 rfl) rfl rfl ?_
            refine V_ifN_ne (a := 0) (rfl) (by omega) (tgt := 126) (sx_di dX3_readClause 63 rfl) (by decide) (fun h119 => absurd h119 (by omega)) (fun _ => ?_)
            refine V_iconst (v := 1) (sx_di dX3_readClause 64 rfl) (by decide) ?_
            refine V_goto (tgt := 127) (sx_di dX3_readClause 65 rfl) (by decide) ?_
            refine V_cV2 (mc' := 0) (ms' := 0) (M' := mX3_readCondition) 38 (sx_di dX3_readClause 67 rfl) lX3_48 vX3_readCondition (by first | exact H.1.k _ rfl | exact H1.1.k _ rfl | exact H2.1.k _ rfl | exact H3.1.k _ rfl | exact H4.1.k _ rfl | exact H5.1.k _ rfl | exact H6.1.k _ rfl | exact H7.1.k _ rfl | exact H8.1.k _ rfl) (by decide) rfl (Nat.le_of_ble_eq_true rfl) ⟨by show 38 + 1 ≤ 39; omega, by show 64 + 64 * (38) ≤ 64 * (39); omega⟩ ⟨Nat.le_refl _, Nat.le_refl _⟩ ?_
            have hg8 := skp_ge T (smR T 6 (skp_ T (skp_ T (skp_ T p + 1) + 1))).2.2
            have hz : cb0_ T (smR T 6) (uR T 6) (skp_ T (smR T 6 (skp_ T (skp_ T (skp_ T p + 1) + 1))).2.2) = cb0_ T (smR T 6) (uR T 6) (smR T 6 (skp_ T (skp_ T (skp_ T p + 1) + 1))).2.2 := by unfold cb0_; rw [cm_skp]
            refine k_condB hX hk (fx_ Z9 ++ (smR T 6 (skp_ T (skp_ T (skp_ T p + 1) + 1))).2.1) (skp_ T (smR T 6 (skp_ T (skp_ T (skp_ T p + 1) + 1))).2.2) w8 _ H8 (x8 _ (x7 b96)) (by rw [List.length_append]; have := hg.2.2 b96; omega) (skq_le hg.2.1) (fun w9 H9 f9 x9 => ?_)
            rw [hz] at H9 x9 ⊢
            refine V_sub (ls' := [(0, .ref 52)]) ⟨rfl, trivial⟩ ?_
            obtain ⟨e1, e2, e3⟩ := cb0_pre (T := T) (smR T 6 (skp_ T (skp_ T (skp_ T p + 1) + 1))).2.1 (smR T 6 (skp_ T (skp_ T (skp_ T p + 1) + 1))).2.2
            have hg9 := cb9_go (T := T) (X := (smR T 6 (skp_ T (skp_ T (skp_ T p + 1) + 1))).2.1) hg.2.1
            have zz := @rq_130 E T k Z9 (cb9_ T (smR T 6 (skp_ T (skp_ T (skp_ T p + 1) + 1))).2.1 (smR T 6 (skp_ T (skp_ T (skp_ T p + 1) + 1))).2.2) w9 Q hX hk hV
            rw [e1, e2] at zz
            exact zz H9 (lwO_mv (by omega) f9 (lwO_mv (by omega) f8 (lwO_mv (by omega) f7 o6))) (fun z => by rw [e3 z, ← List.append_assoc]; exact x9 z) (by rw [← e2]; exact hg9.2.1) (fun z => by have a1 := hg9.2.2 (by rw [e1]; exact z); have a2 := hg.2.2 b96; rw [e2] at a1; omega) (fun w10 H10 f10 x10 => h w10 H10 (fW_tr (fW_tr (fL_fW f1) (fW_tr (fL_fW f2) (fW_tr (fL_fW f3) (fW_tr (fL_fW f4) (fW_tr f5 (fL_fW f6)))))) (fW_tr (fL_fW f7) (fW_tr (fL_fW f8) (fW_tr (fL_fW f9) f10)))) x10)
          · rw [if_neg (bz9f h111)] at h
            refine V_iconst (v := 1) (sx_di dX3_readClause 58 rfl) (by decide) ?_
            refine V_zret (sx_di dX3_readClause 59 rfl) rfl (by first | rfl | decide) (Nat.le_refl _) (Nat.le_refl _) ?_
            refine h w8 H8 (fW_tr (fW_tr (fL_fW f1) (fW_tr (fL_fW f2) (fW_tr (fL_fW f3) (fW_tr (fL_fW f4) (fW_tr f5 (fL_fW f6)))))) (fW_tr (fL_fW f7) (fL_fW f8))) (fun _ => lwO_end (q := ([], (smR T 6 (skp_ T (skp_ T (skp_ T p + 1) + 1))).2.1)) (lwO_mv (by omega) f8 (lwO_mv (by omega) f7 o6)) ?_)
            show lrX _ (fx_ Z9 ++ [] ++ (smR T 6 (skp_ T (skp_ T (skp_ T p + 1) + 1))).2.1) w8
            rw [List.append_nil]
            exact x8 _ (x7 b96)
        · rw [if_neg (bz9f h96)] at h
          refine V_iconst (v := 0) (sx_di dX3_readClause 51 rfl) (by decide) ?_
          refine V_zret (sx_di dX3_readClause 52 rfl) rfl (by first | rfl | decide) (Nat.le_refl _) (Nat.le_refl _) ?_
          exact h w7 H7 (fW_tr (fW_tr (fL_fW f1) (fW_tr (fL_fW f2) (fW_tr (fL_fW f3) (fW_tr (fL_fW f4) (fW_tr f5 (fL_fW f6)))))) (fL_fW f7)) (fun z => absurd z Bool.false_ne_true)
      refine V_istore_n (i := 1) (sx_di dX3_readClause 34 rfl) rfl (by decide) (rfl) ?_
      refine V_iload_n (i := 1) (sx_di dX3_readClause 35 rfl) rfl rfl ?_
      refine V_bipush (v := 33) (sx_di dX3_readClause 36 rfl) (by decide) ?_
      refine V_icmp_eq (tgt := 81) (sx_di dX3_readClause 37 rfl) (by decide) (fun h72 => ?_) (fun h72 => ?_)
      · refine V_iconst (v := 1) (sx_di dX3_readClause 41 rfl) (by decide) ?_
        refine V_goto (tgt := 86) (sx_di dX3_readClause 42 rfl) (by decide) ?_
        refine V_istore_n (i := 2) (sx_di dX3_readClause 44 rfl) rfl (by decide) (rfl) ?_
        refine V_iload_n (i := 2) (sx_di dX3_readClause 45 rfl) rfl rfl ?_
        refine V_ifN_ne (a := 1) (rfl) (by omega) (tgt := 116) (sx_di dX3_readClause 46 rfl) (by decide) (fun _ => ?_) (fun h88 => absurd h88 (by omega))
        exact V_subk (hCd (Or.inl h72)) ⟨rfl, rfl, trivial⟩
      · refine V_iload_n (i := 1) (sx_di dX3_readClause 38 rfl) rfl rfl ?_
        refine V_bipush (v := 40) (sx_di dX3_readClause 39 rfl) (by decide) ?_
        refine V_icmp_ne (tgt := 85) (sx_di dX3_readClause 40 rfl) (by decide) (fun h78 => ?_) (fun h78 => ?_)
        · refine V_iconst (v := 0) (sx_di dX3_readClause 43 rfl) (by decide) ?_
          refine V_istore_n (i := 2) (sx_di dX3_readClause 44 rfl) rfl (by decide) (rfl) ?_
          refine V_iload_n (i := 2) (sx_di dX3_readClause 45 rfl) rfl rfl ?_
          refine V_ifN_ne (a := 0) (rfl) (by omega) (tgt := 116) (sx_di dX3_readClause 46 rfl) (by decide) (fun h88 => absurd h88 (by omega)) (fun _ => ?_)
          exact V_subk (hSm (fun z => z.elim h72 h78)) ⟨rfl, rfl, trivial⟩
        · refine V_iconst (v := 1) (sx_di dX3_readClause 41 rfl) (by decide) ?_
          refine V_goto (tgt := 86) (sx_di dX3_readClause 42 rfl) (by decide) ?_
          refine V_istore_n (i := 2) (sx_di dX3_readClause 44 rfl) rfl (by decide) (rfl) ?_
          refine V_iload_n (i := 2) (sx_di dX3_readClause 45 rfl) rfl rfl ?_
          refine V_ifN_ne (a := 1) (rfl) (by omega) (tgt := 116) (sx_di dX3_readClause 46 rfl) (by decide) (fun _ => ?_) (fun h88 => absurd h88 (by omega))
          exact V_subk (hCd (Or.inr h78)) ⟨rfl, rfl, trivial⟩
    · rw [if_neg h36] at h
      refine V_iconst (v := 0) (sx_di dX3_readClause 19 rfl) (by decide) ?_
      refine V_zret (sx_di dX3_readClause 20 rfl) rfl (by first | rfl | decide) (Nat.le_refl _) (Nat.le_refl _) ?_
      exact h w3 H3 (fW_tr (fL_fW f1) (fW_tr (fL_fW f2) (fL_fW f3))) (fun z => absurd z Bool.false_ne_true)
  · rw [if_neg h9] at h
    refine V_iconst (v := 0) (sx_di dX3_readClause 5 rfl) (by decide) ?_
    refine V_zret (sx_di dX3_readClause 6 rfl) rfl (by first | rfl | decide) (Nat.le_refl _) (Nat.le_refl _) ?_
    exact h w1 H1 (fL_fW f1) (fun z => absurd z Bool.false_ne_true)

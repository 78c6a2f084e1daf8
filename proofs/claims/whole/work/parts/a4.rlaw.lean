/-! the reference reads a law: clauses -/
def tb8 (n : Nat) (Z : lwT) (w : hpW) : Prop := ∀ c q, Z[c]? = some q → hp_i w 387 (140 * n + c) = nI (fx_ (Z.take c)).length ∧ hp_i w 388 (140 * n + c) = nI ((fx_ (Z.take c)).length + q.1.length) ∧ hp_i w 389 (140 * n + c) = nI ((fx_ (Z.take c)).length + q.1.length + q.2.length)
def rwS (n : Nat) (Z : lwT) (w : hpW) : Prop := hp_i w 386 n = nI Z.length ∧ tb8 n Z w ∧ rrX n (fx_ Z) w
def fN (n : Nat) (w w' : hpW) : Prop := w' = hp_wi w (hp_i w') ∧ (∀ b, b ≠ 381 → b < 383 ∨ 389 < b → hp_i w' b = hp_i w b) ∧ (∀ j, j ≠ 3 → j ≠ 4 → j ≠ 5 → hp_i w' 381 j = hp_i w 381 j) ∧ (∀ j, j < 520 * n ∨ 520 * n + 520 ≤ j → hp_i w' 383 j = hp_i w 383 j ∧ hp_i w' 384 j = hp_i w 384 j) ∧ (∀ j, j ≠ n → hp_i w' 385 j = hp_i w 385 j ∧ hp_i w' 386 j = hp_i w 386 j) ∧ ∀ j, j < 140 * n ∨ 140 * n + 140 ≤ j → hp_i w' 387 j = hp_i w 387 j ∧ hp_i w' 388 j = hp_i w 388 j ∧ hp_i w' 389 j = hp_i w 389 j
theorem fN_rf {n : Nat} {w : hpW} : fN n w w := ⟨rfl, fun _ _ _ => rfl, fun _ _ _ _ => rfl, fun _ _ => ⟨rfl, rfl⟩, fun _ _ => ⟨rfl, rfl⟩, fun _ _ => ⟨rfl, rfl, rfl⟩⟩
theorem fN_tr {n : Nat} {w w2 w3 : hpW} (f : fN n w w2) (g : fN n w2 w3) : fN n w w3 := by
  refine ⟨?_, fun b h1 h2 => (g.2.1 b h1 h2).trans (f.2.1 b h1 h2), fun j h1 h2 h3 => (g.2.2.1 j h1 h2 h3).trans (f.2.2.1 j h1 h2 h3), fun j h => ⟨(g.2.2.2.1 j h).1.trans (f.2.2.2.1 j h).1, (g.2.2.2.1 j h).2.trans (f.2.2.2.1 j h).2⟩, fun j h => ⟨(g.2.2.2.2.1 j h).1.trans (f.2.2.2.2.1 j h).1, (g.2.2.2.2.1 j h).2.trans (f.2.2.2.2.1 j h).2⟩, fun j h => ⟨(g.2.2.2.2.2 j h).1.trans (f.2.2.2.2.2 j h).1, (g.2.2.2.2.2 j h).2.1.trans (f.2.2.2.2.2 j h).2.1, (g.2.2.2.2.2 j h).2.2.trans (f.2.2.2.2.2 j h).2.2⟩⟩
  have e := g.1
  rw [f.1] at e
  exact e
theorem fM_fN {n : Nat} {w w' : hpW} (f : fM n w w') : fN n w w' := ⟨f.1, fun b h1 h2 => f.2.1 b h1 (by omega) (by omega) (by omega), f.2.2.1, f.2.2.2.1, fun j h => ⟨f.2.2.2.2 j h, by rw [f.2.1 386 (by decide) (by decide) (by decide) (by decide)]⟩, fun j _ => ⟨by rw [f.2.1 387 (by decide) (by decide) (by decide) (by decide)], by rw [f.2.1 388 (by decide) (by decide) (by decide) (by decide)], by rw [f.2.1 389 (by decide) (by decide) (by decide) (by decide)]⟩⟩
theorem fN_sj {n a j : Nat} {x : Int32} {w : hpW} (h : (a = 386 ∧ j = n) ∨ ((a = 387 ∨ a = 388 ∨ a = 389) ∧ 140 * n ≤ j ∧ j < 140 * n + 140)) : fN n w (hp_si w a j x) := by
  refine ⟨rfl, fun b h1 h2 => ?_, fun i _ _ _ => si_p (by omega), fun i _ => ⟨si_p (by omega), si_p (by omega)⟩, fun i hi => ⟨si_p (by omega), si_p (by omega)⟩, fun i hi => ⟨si_p (by omega), si_p (by omega), si_p (by omega)⟩⟩
  funext i
  exact si_p (by omega)
theorem rrX_sj {n a j : Nat} {x : Int32} {w : hpW} {X : List Int32} (ha : 386 ≤ a) (h : rrX n X w) : rrX n X (hp_si w a j x) := ⟨(si_p (by omega)).trans h.1, fun i hi => ⟨(si_p (by omega)).trans (h.2 i hi).1, (si_p (by omega)).trans (h.2 i hi).2⟩⟩
theorem tp_sj {w : hpW} {T : List Int32} {a j : Nat} {x : Int32} (ha : 386 ≤ a) (h : tp_ w 381 2 382 T) : tp_ (hp_si w a j x) 381 2 382 T := ⟨h.1, (si_p (by omega)).trans h.2.1, fun i hi => (si_p (by omega)).trans (h.2.2 i hi)⟩
theorem rrP_sj {T : List Int32} {n d p a j : Nat} {x : Int32} {w : hpW} (ha : 386 ≤ a) (H : rrP T n d p w) : rrP T n d p (hp_si w a j x) := ⟨ly_i H.1, tp_sj ha H.2.1, (si_p (by omega)).trans H.2.2.1, (si_p (by omega)).trans H.2.2.2.1, (si_p (by omega)).trans H.2.2.2.2.1, (si_p (by omega)).trans H.2.2.2.2.2⟩
theorem R9_sj {T : List Int32} {n d B a j : Nat} {x : Int32} {w : hpW} {X : List Int32} {y : prT} (ha : 386 ≤ a) (H : R9 T n d B X y w) : R9 T n d B X y (hp_si w a j x) := ⟨⟨ly_i H.1.1, tp_sj ha H.1.2.1, (si_p (by omega)).trans H.1.2.2⟩, fun z => ⟨(si_p (by omega)).trans (H.2.1 z).1, (si_p (by omega)).trans (H.2.1 z).2.1, (si_p (by omega)).trans (H.2.1 z).2.2.1, rrX_sj ha (H.2.1 z).2.2.2⟩, fun z => by
  obtain ⟨h1, ⟨p, h2, h3⟩, c, h4, h5⟩ := H.2.2 z
  exact ⟨(si_p (by omega)).trans h1, ⟨p, h2, (si_p (by omega)).trans h3⟩, c, h4, (si_p (by omega)).trans h5⟩⟩
theorem tb8_sj {n a j : Nat} {x : Int32} {Z : lwT} {w : hpW} (hj : a = 386 ∨ 140 * n + Z.length ≤ j) (h : tb8 n Z w) : tb8 n Z (hp_si w a j x) := fun c q hq => by
  have hc := (List.getElem?_eq_some_iff.mp hq).1
  rw [si_p (by omega), si_p (by omega), si_p (by omega)]
  exact h c q hq
theorem tb8_fM {n : Nat} {Z : lwT} {w w' : hpW} (f : fM n w w') (h : tb8 n Z w) : tb8 n Z w' := fun c q hq => by
  rw [f.2.1 387 (by decide) (by decide) (by decide) (by decide), f.2.1 388 (by decide) (by decide) (by decide) (by decide), f.2.1 389 (by decide) (by decide) (by decide) (by decide)]
  exact h c q hq
/-- what came of a clause behind Z -/
def C9 (T : List Int32) (n : Nat) (Z : lwT) (x : pcT) (w : hpW) : Prop := (ly_B w ∧ tp_ w 381 2 382 T ∧ hp_i w 381 14 = nI n) ∧ (x.1 = true → hp_i w 381 4 = -1 ∧ hp_i w 381 3 = nI x.2.2 ∧ hp_i w 381 5 = nI 0 ∧ rwS n (Z ++ [x.2.1]) w) ∧ (¬ x.1 = true → hp_i w 381 4 = nI x.2.2)
/-- and where it ends to be written down; k9: where its sum begins -/
def D9 (T : List Int32) (n : Nat) (Z : lwT) (x : pcT) (w : hpW) : Prop := (ly_B w ∧ tp_ w 381 2 382 T ∧ hp_i w 381 14 = nI n) ∧ hp_i w 386 n = nI Z.length ∧ (x.1 = true → (hp_i w 381 4 = -1 ∧ hp_i w 381 3 = nI x.2.2 ∧ hp_i w 381 5 = nI 0) ∧ rrX n (fx_ Z ++ x.2.1.1 ++ x.2.1.2) w ∧ tb8 n Z w ∧ hp_i w 387 (140 * n + Z.length) = nI (fx_ Z).length ∧ hp_i w 388 (140 * n + Z.length) = nI ((fx_ Z).length + x.2.1.1.length)) ∧ (¬ x.1 = true → hp_i w 381 4 = nI x.2.2)
theorem D9_C9 {T : List Int32} {n : Nat} {Z : lwT} {x : pcT} {w : hpW} (hn : n < 5) (H : D9 T n Z x w) : C9 T n Z x (hp_si (hp_si w 389 (140 * n + Z.length) (hp_i w 385 n)) 386 n (nI (Z.length + 1))) := by
  refine ⟨⟨ly_i (ly_i H.1.1), tp_sj (by decide) (tp_sj (by decide) H.1.2.1), ?_⟩, fun z => ?_, fun z => ?_⟩
  · rw [si_p (by omega), si_p (by omega)]; exact H.1.2.2
  · obtain ⟨⟨h1, h2, h3⟩, h4, h5, h6, h7⟩ := H.2.2.1 z
    refine ⟨?_, ?_, ?_, ?_, fun c q hq => ?_, ?_⟩
    · rw [si_p (by omega), si_p (by omega)]; exact h1
    · rw [si_p (by omega), si_p (by omega)]; exact h2
    · rw [si_p (by omega), si_p (by omega)]; exact h3
    · rw [hp_i_si, if_pos ⟨rfl, rfl⟩, List.length_append, List.length_singleton]
    · rw [si_p (by omega), si_p (by omega), si_p (by omega), si_p (by omega), si_p (by omega)]
      rcases Nat.lt_or_ge c Z.length with hc | hc
      · rw [List.getElem?_append_left hc] at hq
        rw [List.take_append_of_le_length (Nat.le_of_lt hc), si_p (by omega)]
        exact h5 c q hq
      · have e : c = Z.length := by
          have := (List.getElem?_eq_some_iff.mp hq).1
          rw [List.length_append, List.length_singleton] at this
          omega
        subst e
        rw [List.getElem?_append_right (Nat.le_refl _), Nat.sub_self] at hq
        have e2 : x.2.1 = q := Option.some.inj hq
        subst e2
        rw [List.take_append_of_le_length (Nat.le_refl _), List.take_length, hp_i_si, if_pos ⟨rfl, rfl⟩]
        refine ⟨h6, h7, ?_⟩
        rw [h4.1, List.length_append, List.length_append]
    · rw [fx_app]
      exact rrX_sj (by decide) (rrX_sj (by decide) h4)
  · rw [si_p (by omega), si_p (by omega)]; exact H.2.2.2 z
set_option maxHeartbeats 2000000 in
set_option maxRecDepth 20000 in
theorem t251 {E : sxE} {T : List Int32} {n : Nat} {Z : lwT} {w : hpW} {Q : Option Value → hpW → Prop} (hn : n < 5) (hZ : Z.length < 64) {x : pcT} (H : D9 T n Z x w) (h : (∀ w', C9 T n Z (x) w' → fN n w w' → Q none w')) : V E mX12_clause (sx_rm 54 0 0) 0 0 0 0 251 [(1, .int (nI (140 * n + Z.length))), (0, .ref 381)] [] w Q := by
  refine V_aload_n (i := 0) (sx_di dX12_clause 134 rfl) rfl rfl ?_
  refine V_getR (sx_di dX12_clause 135 rfl) fX12_31 (fun _ => rfl) (H.1.1.k _ rfl) (H.1.1.r _ _ rfl) ?_
  refine V_iload_n (i := 1) (sx_di dX12_clause 136 rfl) rfl rfl ?_
  refine V_aload_n (i := 0) (sx_di dX12_clause 137 rfl) rfl rfl ?_
  refine V_getR (sx_di dX12_clause 138 rfl) fX12_19 (fun _ => rfl) (H.1.1.k _ rfl) (H.1.1.r _ _ rfl) ?_
  refine V_aload_n (i := 0) (sx_di dX12_clause 139 rfl) rfl rfl ?_
  refine V_getI (sx_di dX12_clause 140 rfl) fX12_119 (fun _ => rfl) (H.1.1.k _ rfl) ?_
  refine V_iv (y := nI n) (H.1.2.2) ?_
  refine V_ialdN (n := 5) (j := n) (sx_di dX12_clause 141 rfl) (H.1.1.k _ rfl) (rfl) (by omega) (by omega) ?_
  refine V_iastN (n := 700) (j := (140 * n + Z.length)) (sx_di dX12_clause 142 rfl) (H.1.1.k _ rfl) (rfl) (by omega) (by omega) ?_
  refine V_aload_n (i := 0) (sx_di dX12_clause 143 rfl) rfl rfl ?_
  refine V_getR (sx_di dX12_clause 144 rfl) fX12_22 (fun _ => rfl) (H.1.1.k _ rfl) (H.1.1.r _ _ rfl) ?_
  refine V_aload_n (i := 0) (sx_di dX12_clause 145 rfl) rfl rfl ?_
  refine V_getI (sx_di dX12_clause 146 rfl) fX12_119 (fun _ => rfl) (H.1.1.k _ rfl) ?_
  refine V_iv (y := nI n) ((si_p (by omega)).trans H.1.2.2) ?_
  refine V_dup2 (sx_di dX12_clause 147 rfl) rfl rfl ?_
  refine V_ialdN (n := 5) (j := n) (sx_di dX12_clause 148 rfl) (H.1.1.k _ rfl) (rfl) (by omega) (by omega) ?_
  refine V_iv (y := nI Z.length) ((si_p (by omega)).trans H.2.1) ?_
  refine V_iconst (v := 1) (sx_di dX12_clause 149 rfl) (by decide) ?_
  refine V_iadd (sx_di dX12_clause 150 rfl) ?_
  refine V_iv (y := nI (Z.length + 1)) (nI_add _ 1) ?_
  refine V_iastN (n := 5) (j := n) (sx_di dX12_clause 151 rfl) (H.1.1.k _ rfl) (rfl) (by omega) (by omega) ?_
  refine V_vret (sx_di dX12_clause 152 rfl) rfl (Nat.le_refl _) (Nat.le_refl _) ?_
  exact h _ (D9_C9 hn H) (fN_tr (fN_sj (Or.inr ⟨Or.inr (Or.inr rfl), by omega, by omega⟩)) (fN_sj (Or.inl ⟨rfl, rfl⟩)))
set_option maxHeartbeats 2000000 in
set_option maxRecDepth 20000 in
theorem t184B {E : sxE} {T : List Int32} {n : Nat} {Z : lwT} {w : hpW} {Q : Option Value → hpW → Prop} (hn : n < 5) (hZ : Z.length < 64) {x : prT} {B : Nat} (h6 : hp_i w 386 n = nI Z.length) (ht : tb8 n Z w) (h7 : hp_i w 387 (140 * n + Z.length) = nI (fx_ Z).length) (H : R9 T n 0 B (fx_ Z) x w) (h : (∀ w', C9 T n Z (if x.1 = true then (true, ([], x.2.1), x.2.2) else pg_ x.2.2) w' → fN n w w' → Q none w')) : V E mX12_clause (sx_rm 54 0 0) 0 0 0 0 184 [(2, .int 0), (1, .int (nI (140 * n + Z.length))), (0, .ref 381)] [] w Q := by
  refine V_aload_n (i := 0) (sx_di dX12_clause 96 rfl) rfl rfl ?_
  refine V_getR (sx_di dX12_clause 97 rfl) fX12_28 (fun _ => rfl) (by first | exact H.1.k _ rfl | exact H.1.1.k _ rfl) (by first | exact H.1.r _ _ rfl | exact H.1.1.r _ _ rfl) ?_
  refine V_iload_n (i := 1) (sx_di dX12_clause 98 rfl) rfl rfl ?_
  refine V_aload_n (i := 0) (sx_di dX12_clause 99 rfl) rfl rfl ?_
  refine V_getR (sx_di dX12_clause 100 rfl) fX12_25 (fun _ => rfl) (by first | exact H.1.k _ rfl | exact H.1.1.k _ rfl) (by first | exact H.1.r _ _ rfl | exact H.1.1.r _ _ rfl) ?_
  refine V_iload_n (i := 1) (sx_di dX12_clause 101 rfl) rfl rfl ?_
  refine V_ialdN (n := 700) (j := (140 * n + Z.length)) (sx_di dX12_clause 102 rfl) (by first | exact H.1.k _ rfl | exact H.1.1.k _ rfl) (rfl) (by omega) (by omega) ?_
  refine V_iv (y := nI (fx_ Z).length) (h7) ?_
  refine V_iastN (n := 700) (j := (140 * n + Z.length)) (sx_di dX12_clause 103 rfl) (by first | exact H.1.k _ rfl | exact H.1.1.k _ rfl) (rfl) (by omega) (by omega) ?_
  refine V_iload_n (i := 2) (sx_di dX12_clause 104 rfl) rfl rfl ?_
  refine V_ifN_eq (a := 0) (rfl) (by omega) (tgt := 251) (sx_di dX12_clause 105 rfl) (by decide) (fun _ => ?_) (fun h197 => absurd h197 (by omega))
  refine V_sub (ls' := [(1, .int (nI (140 * n + Z.length))), (0, .ref 381)]) ⟨rfl, rfl, trivial⟩ ?_
  refine t251 hn hZ (x := if x.1 = true then (true, ([], x.2.1), x.2.2) else pg_ x.2.2) ?_ (fun w1 C1 f1 => h w1 C1 (fN_tr (fN_sj (Or.inr ⟨Or.inr (Or.inl rfl), by omega, by omega⟩)) f1))
  have H1 := R9_sj (a := 388) (j := (140 * n + Z.length)) (x := nI (fx_ Z).length) (by decide) H
  refine ⟨H1.1, (si_p (by omega)).trans h6, fun z => ?_, fun z => ?_⟩
  · by_cases c : x.1 = true
    · rw [if_pos c] at z ⊢
      obtain ⟨a1, a2⟩ := R9_y H1 c
      exact ⟨⟨a1.2.2.2.1, a1.2.2.2.2.1, a1.2.2.2.2.2⟩, by show rrX n (fx_ Z ++ [] ++ x.2.1) _; rw [List.append_nil]; exact a2, tb8_sj (Or.inr (Nat.le_refl _)) ht, (si_p (by omega)).trans h7, by rw [hp_i_si, if_pos ⟨rfl, rfl⟩]; rfl⟩
    · rw [if_neg c] at z; exact absurd z Bool.false_ne_true
  · by_cases c : x.1 = true
    · rw [if_pos c] at z; exact absurd rfl z
    · rw [if_neg c]; exact (H1.2.2 c).1
set_option maxHeartbeats 2000000 in
set_option maxRecDepth 20000 in
theorem t184A {E : sxE} {T : List Int32} {n : Nat} {Z : lwT} {w : hpW} {Q : Option Value → hpW → Prop} (hn : n < 5) (hZ : Z.length < 64) {x : prT} (h6 : hp_i w 386 n = nI Z.length) (ht : tb8 n Z w) (h7 : hp_i w 387 (140 * n + Z.length) = nI (fx_ Z).length) (hp : x.2.2 ≤ T.length) (hl : x.1 = true → (fx_ Z ++ x.2.1).length ≤ x.2.2) (H : R9 T n 0 284 (fx_ Z) x w) (h : (∀ w', C9 T n Z (qs_ T x) w' → fN n w w' → Q none w')) : V E mX12_clause (sx_rm 54 0 0) 0 0 0 0 184 [(2, .int 1), (1, .int (nI (140 * n + Z.length))), (0, .ref 381)] [] w Q := by
  have hT := H.1.2.1.1
  have g1 := skp_ge T x.2.2
  have g2 := skq_le (T := T) hp
  have H0 := R9_sj (a := 388) (j := (140 * n + Z.length)) (x := nI (fx_ Z).length) (by decide) H
  have f0 : fN n w (hp_si w 388 (140 * n + Z.length) (nI (fx_ Z).length)) := (fN_sj (Or.inr ⟨Or.inr (Or.inl rfl), by omega, by omega⟩))
  have ht0 : tb8 n Z (hp_si w 388 (140 * n + Z.length) (nI (fx_ Z).length)) := tb8_sj (Or.inr (Nat.le_refl _)) ht
  have h60 : hp_i (hp_si w 388 (140 * n + Z.length) (nI (fx_ Z).length)) 386 n = nI Z.length := (si_p (by omega)).trans h6
  have h70 : hp_i (hp_si w 388 (140 * n + Z.length) (nI (fx_ Z).length)) 387 (140 * n + Z.length) = nI (fx_ Z).length := (si_p (by omega)).trans h7
  unfold qs_ at h
  refine V_aload_n (i := 0) (sx_di dX12_clause 96 rfl) rfl rfl ?_
  refine V_getR (sx_di dX12_clause 97 rfl) fX12_28 (fun _ => rfl) (by first | exact H.1.k _ rfl | exact H0.1.k _ rfl | exact H1.1.k _ rfl | exact H2.1.k _ rfl | exact H3.1.k _ rfl | exact H4.1.k _ rfl | exact H5.1.k _ rfl | exact H.1.1.k _ rfl | exact H0.1.1.k _ rfl | exact H1.1.1.k _ rfl | exact H2.1.1.k _ rfl | exact H3.1.1.k _ rfl | exact H4.1.1.k _ rfl | exact H5.1.1.k _ rfl | exact B4.k _ rfl) (by first | exact H.1.r _ _ rfl | exact H0.1.r _ _ rfl | exact H1.1.r _ _ rfl | exact H2.1.r _ _ rfl | exact H3.1.r _ _ rfl | exact H4.1.r _ _ rfl | exact H5.1.r _ _ rfl | exact H.1.1.r _ _ rfl | exact H0.1.1.r _ _ rfl | exact H1.1.1.r _ _ rfl | exact H2.1.1.r _ _ rfl | exact H3.1.1.r _ _ rfl | exact H4.1.1.r _ _ rfl | exact H5.1.1.r _ _ rfl | exact B4.r _ _ rfl) ?_
  refine V_iload_n (i := 1) (sx_di dX12_clause 98 rfl) rfl rfl ?_
  refine V_aload_n (i := 0) (sx_di dX12_clause 99 rfl) rfl rfl ?_
  refine V_getR (sx_di dX12_clause 100 rfl) fX12_25 (fun _ => rfl) (by first | exact H.1.k _ rfl | exact H0.1.k _ rfl | exact H1.1.k _ rfl | exact H2.1.k _ rfl | exact H3.1.k _ rfl | exact H4.1.k _ rfl | exact H5.1.k _ rfl | exact H.1.1.k _ rfl | exact H0.1.1.k _ rfl | exact H1.1.1.k _ rfl | exact H2.1.1.k _ rfl | exact H3.1.1.k _ rfl | exact H4.1.1.k _ rfl | exact H5.1.1.k _ rfl | exact B4.k _ rfl) (by first | exact H.1.r _ _ rfl | exact H0.1.r _ _ rfl | exact H1.1.r _ _ rfl | exact H2.1.r _ _ rfl | exact H3.1.r _ _ rfl | exact H4.1.r _ _ rfl | exact H5.1.r _ _ rfl | exact H.1.1.r _ _ rfl | exact H0.1.1.r _ _ rfl | exact H1.1.1.r _ _ rfl | exact H2.1.1.r _ _ rfl | exact H3.1.1.r _ _ rfl | exact H4.1.1.r _ _ rfl | exact H5.1.1.r _ _ rfl | exact B4.r _ _ rfl) ?_
  refine V_iload_n (i := 1) (sx_di dX12_clause 101 rfl) rfl rfl ?_
  refine V_ialdN (n := 700) (j := (140 * n + Z.length)) (sx_di dX12_clause 102 rfl) (by first | exact H.1.k _ rfl | exact H0.1.k _ rfl | exact H1.1.k _ rfl | exact H2.1.k _ rfl | exact H3.1.k _ rfl | exact H4.1.k _ rfl | exact H5.1.k _ rfl | exact H.1.1.k _ rfl | exact H0.1.1.k _ rfl | exact H1.1.1.k _ rfl | exact H2.1.1.k _ rfl | exact H3.1.1.k _ rfl | exact H4.1.1.k _ rfl | exact H5.1.1.k _ rfl | exact B4.k _ rfl) (rfl) (by omega) (by omega) ?_
  refine V_iv (y := nI (fx_ Z).length) (h7) ?_
  refine V_iastN (n := 700) (j := (140 * n + Z.length)) (sx_di dX12_clause 103 rfl) (by first | exact H.1.k _ rfl | exact H0.1.k _ rfl | exact H1.1.k _ rfl | exact H2.1.k _ rfl | exact H3.1.k _ rfl | exact H4.1.k _ rfl | exact H5.1.k _ rfl | exact H.1.1.k _ rfl | exact H0.1.1.k _ rfl | exact H1.1.1.k _ rfl | exact H2.1.1.k _ rfl | exact H3.1.1.k _ rfl | exact H4.1.1.k _ rfl | exact H5.1.1.k _ rfl | exact B4.k _ rfl) (rfl) (by omega) (by omega) ?_
  refine V_iload_n (i := 2) (sx_di dX12_clause 104 rfl) rfl rfl ?_
  refine V_ifN_eq (a := 1) (rfl) (by omega) (tgt := 251) (sx_di dX12_clause 105 rfl) (by decide) (fun h197 => absurd h197 (by omega)) (fun _ => ?_)
  refine V_aload_n (i := 0) (sx_di dX12_clause 106 rfl) rfl rfl ?_
  refine V_getI (sx_di dX12_clause 107 rfl) fX12_116 (fun _ => rfl) (by first | exact H.1.k _ rfl | exact H0.1.k _ rfl | exact H1.1.k _ rfl | exact H2.1.k _ rfl | exact H3.1.k _ rfl | exact H4.1.k _ rfl | exact H5.1.k _ rfl | exact H.1.1.k _ rfl | exact H0.1.1.k _ rfl | exact H1.1.1.k _ rfl | exact H2.1.1.k _ rfl | exact H3.1.1.k _ rfl | exact H4.1.1.k _ rfl | exact H5.1.1.k _ rfl | exact B4.k _ rfl) ?_
  refine V_iv (y := wv_ x) (R9_w H0) ?_
  refine V_iconst (v := -1) (sx_di dX12_clause 108 rfl) (by decide) ?_
  refine V_icmp_ne (tgt := 251) (sx_di dX12_clause 109 rfl) (by decide) (fun h205 => ?_) (fun h205 => ?_)
  · have b205 := wv_n h205
    rw [if_neg b205] at h
    refine V_sub (ls' := [(1, .int (nI (140 * n + Z.length))), (0, .ref 381)]) ⟨rfl, rfl, trivial⟩ ?_
    exact t251 hn hZ (x := pg_ x.2.2) ⟨H0.1, h60, fun z => absurd z Bool.false_ne_true, fun _ => (H0.2.2 b205).1⟩ (fun w1 C1 f1 => h w1 C1 (fN_tr f0 f1))
  · have b205 := wv_y (by omega) h205
    have H1 := R9_y H0 b205
    rw [if_pos b205] at h
    refine V_aload_n (i := 0) (sx_di dX12_clause 110 rfl) rfl rfl ?_
    refine V_cV0 (mc' := 0) (ms' := 0) (M' := mX12_look) 2 (sx_di dX12_clause 111 rfl) lX12_128 vX12_look (by first | exact H.1.k _ rfl | exact H0.1.k _ rfl | exact H1.1.k _ rfl | exact H2.1.k _ rfl | exact H3.1.k _ rfl | exact H4.1.k _ rfl | exact H5.1.k _ rfl | exact H.1.1.k _ rfl | exact H0.1.1.k _ rfl | exact H1.1.1.k _ rfl | exact H2.1.1.k _ rfl | exact H3.1.1.k _ rfl | exact H4.1.1.k _ rfl | exact H5.1.1.k _ rfl | exact B4.k _ rfl) (by decide) rfl (Nat.le_of_ble_eq_true rfl) ⟨by show 2 + 1 ≤ 54; omega, by show 64 + 64 * (2) ≤ 64 * (54); omega⟩ ⟨Nat.le_refl _, Nat.le_refl _⟩ ?_
    refine c_look9 H1.1 hp (fun w2 H2 f2 x2 => ?_)
    refine V_bipush (v := 63) (sx_di dX12_clause 112 rfl) (by decide) ?_
    refine V_icmp_eq (tgt := 222) (sx_di dX12_clause 113 rfl) (by decide) (fun h214 => ?_) (fun h214 => ?_)
    · rw [if_pos h214] at h
      have hq1 := cz_p1 h214 (by decide)
      have hg := smR_go T 6 _ hq1
      refine V_aload_n (i := 0) (sx_di dX12_clause 117 rfl) rfl rfl ?_
      refine V_dup (sx_di dX12_clause 118 rfl) rfl ?_
      refine V_getI (sx_di dX12_clause 119 rfl) fX12_109 (fun _ => rfl) (by first | exact H.1.k _ rfl | exact H0.1.k _ rfl | exact H1.1.k _ rfl | exact H2.1.k _ rfl | exact H3.1.k _ rfl | exact H4.1.k _ rfl | exact H5.1.k _ rfl | exact H.1.1.k _ rfl | exact H0.1.1.k _ rfl | exact H1.1.1.k _ rfl | exact H2.1.1.k _ rfl | exact H3.1.1.k _ rfl | exact H4.1.1.k _ rfl | exact H5.1.1.k _ rfl | exact B4.k _ rfl) ?_
      refine V_iconst (v := 1) (sx_di dX12_clause 120 rfl) (by decide) ?_
      refine V_iadd (sx_di dX12_clause 121 rfl) ?_
      refine V_putI (sx_di dX12_clause 122 rfl) fX12_109 (fun _ => rfl) rfl (by first | exact H.1.k _ rfl | exact H0.1.k _ rfl | exact H1.1.k _ rfl | exact H2.1.k _ rfl | exact H3.1.k _ rfl | exact H4.1.k _ rfl | exact H5.1.k _ rfl | exact H.1.1.k _ rfl | exact H0.1.1.k _ rfl | exact H1.1.1.k _ rfl | exact H2.1.1.k _ rfl | exact H3.1.1.k _ rfl | exact H4.1.1.k _ rfl | exact H5.1.1.k _ rfl | exact B4.k _ rfl) (rfl) (rfl) ?_
      refine V_at9 H2 (fun w3 H3 f3 x3 => ?_)
      have c3 := (x3 _ (x2 _ H1.2)).1
      refine V_aload_n (i := 0) (sx_di dX12_clause 123 rfl) rfl rfl ?_
      refine V_getR (sx_di dX12_clause 124 rfl) fX12_28 (fun _ => rfl) (by first | exact H.1.k _ rfl | exact H0.1.k _ rfl | exact H1.1.k _ rfl | exact H2.1.k _ rfl | exact H3.1.k _ rfl | exact H4.1.k _ rfl | exact H5.1.k _ rfl | exact H.1.1.k _ rfl | exact H0.1.1.k _ rfl | exact H1.1.1.k _ rfl | exact H2.1.1.k _ rfl | exact H3.1.1.k _ rfl | exact H4.1.1.k _ rfl | exact H5.1.1.k _ rfl | exact B4.k _ rfl) (by first | exact H.1.r _ _ rfl | exact H0.1.r _ _ rfl | exact H1.1.r _ _ rfl | exact H2.1.r _ _ rfl | exact H3.1.r _ _ rfl | exact H4.1.r _ _ rfl | exact H5.1.r _ _ rfl | exact H.1.1.r _ _ rfl | exact H0.1.1.r _ _ rfl | exact H1.1.1.r _ _ rfl | exact H2.1.1.r _ _ rfl | exact H3.1.1.r _ _ rfl | exact H4.1.1.r _ _ rfl | exact H5.1.1.r _ _ rfl | exact B4.r _ _ rfl) ?_
      refine V_iload_n (i := 1) (sx_di dX12_clause 125 rfl) rfl rfl ?_
      refine V_aload_n (i := 0) (sx_di dX12_clause 126 rfl) rfl rfl ?_
      refine V_getR (sx_di dX12_clause 127 rfl) fX12_19 (fun _ => rfl) (by first | exact H.1.k _ rfl | exact H0.1.k _ rfl | exact H1.1.k _ rfl | exact H2.1.k _ rfl | exact H3.1.k _ rfl | exact H4.1.k _ rfl | exact H5.1.k _ rfl | exact H.1.1.k _ rfl | exact H0.1.1.k _ rfl | exact H1.1.1.k _ rfl | exact H2.1.1.k _ rfl | exact H3.1.1.k _ rfl | exact H4.1.1.k _ rfl | exact H5.1.1.k _ rfl | exact B4.k _ rfl) (by first | exact H.1.r _ _ rfl | exact H0.1.r _ _ rfl | exact H1.1.r _ _ rfl | exact H2.1.r _ _ rfl | exact H3.1.r _ _ rfl | exact H4.1.r _ _ rfl | exact H5.1.r _ _ rfl | exact H.1.1.r _ _ rfl | exact H0.1.1.r _ _ rfl | exact H1.1.1.r _ _ rfl | exact H2.1.1.r _ _ rfl | exact H3.1.1.r _ _ rfl | exact H4.1.1.r _ _ rfl | exact H5.1.1.r _ _ rfl | exact B4.r _ _ rfl) ?_
      refine V_aload_n (i := 0) (sx_di dX12_clause 128 rfl) rfl rfl ?_
      refine V_getI (sx_di dX12_clause 129 rfl) fX12_119 (fun _ => rfl) (by first | exact H.1.k _ rfl | exact H0.1.k _ rfl | exact H1.1.k _ rfl | exact H2.1.k _ rfl | exact H3.1.k _ rfl | exact H4.1.k _ rfl | exact H5.1.k _ rfl | exact H.1.1.k _ rfl | exact H0.1.1.k _ rfl | exact H1.1.1.k _ rfl | exact H2.1.1.k _ rfl | exact H3.1.1.k _ rfl | exact H4.1.1.k _ rfl | exact H5.1.1.k _ rfl | exact B4.k _ rfl) ?_
      refine V_iv (y := nI n) (H3.2.2.1) ?_
      refine V_ialdN (n := 5) (j := n) (sx_di dX12_clause 130 rfl) (by first | exact H.1.k _ rfl | exact H0.1.k _ rfl | exact H1.1.k _ rfl | exact H2.1.k _ rfl | exact H3.1.k _ rfl | exact H4.1.k _ rfl | exact H5.1.k _ rfl | exact H.1.1.k _ rfl | exact H0.1.1.k _ rfl | exact H1.1.1.k _ rfl | exact H2.1.1.k _ rfl | exact H3.1.1.k _ rfl | exact H4.1.1.k _ rfl | exact H5.1.1.k _ rfl | exact B4.k _ rfl) (rfl) (by omega) (by omega) ?_
      refine V_iv (y := nI (fx_ Z ++ x.2.1).length) (c3) ?_
      refine V_iastN (n := 700) (j := (140 * n + Z.length)) (sx_di dX12_clause 131 rfl) (by first | exact H.1.k _ rfl | exact H0.1.k _ rfl | exact H1.1.k _ rfl | exact H2.1.k _ rfl | exact H3.1.k _ rfl | exact H4.1.k _ rfl | exact H5.1.k _ rfl | exact H.1.1.k _ rfl | exact H0.1.1.k _ rfl | exact H1.1.1.k _ rfl | exact H2.1.1.k _ rfl | exact H3.1.1.k _ rfl | exact H4.1.1.k _ rfl | exact H5.1.1.k _ rfl | exact B4.k _ rfl) (rfl) (by omega) (by omega) ?_
      refine V_aload_n (i := 0) (sx_di dX12_clause 132 rfl) rfl rfl ?_
      refine V_cV0 (mc' := 0) (ms' := 0) (M' := mX12_sum) 24 (sx_di dX12_clause 133 rfl) lX12_149 vX12_sum (by first | exact H.1.k _ rfl | exact H0.1.k _ rfl | exact H1.1.k _ rfl | exact H2.1.k _ rfl | exact H3.1.k _ rfl | exact H4.1.k _ rfl | exact H5.1.k _ rfl | exact H.1.1.k _ rfl | exact H0.1.1.k _ rfl | exact H1.1.1.k _ rfl | exact H2.1.1.k _ rfl | exact H3.1.1.k _ rfl | exact H4.1.1.k _ rfl | exact H5.1.1.k _ rfl | exact B4.k _ rfl) (by decide) rfl (Nat.le_of_ble_eq_true rfl) ⟨by show 24 + 1 ≤ 54; omega, by show 64 + 64 * (24) ≤ 64 * (54); omega⟩ ⟨Nat.le_refl _, Nat.le_refl _⟩ ?_
      refine r_sum (r := 6) (d := 0) hn rfl (fx_ Z ++ x.2.1) (skp_ T x.2.2 + 1) _ _ (rrP_sj (by decide) H3) (rrX_sj (by decide) (x3 _ (x2 _ H1.2))) (by have := hl b205; omega) hq1 (fun w5 H5 f5 => ?_)
      refine V_sub (ls' := [(1, .int (nI (140 * n + Z.length))), (0, .ref 381)]) ⟨rfl, rfl, trivial⟩ ?_
      have h65 : hp_i w5 386 n = nI Z.length := by rw [f5.2.1 386 (by decide) (by decide) (by decide) (by decide), si_p (by omega), f3.2.1 386 (by decide) (by decide) (by decide) (by decide), f2.2.1 386 (by decide) (by decide) (by decide) (by decide)]; exact h60
      have f9 := fN_tr f0 (fN_tr (fM_fN f2) (fN_tr (fM_fN f3) (fN_tr (fN_sj (a := 388) (j := (140 * n + Z.length)) (x := nI (fx_ Z ++ x.2.1).length) (Or.inr ⟨Or.inr (Or.inl rfl), by omega, by omega⟩)) (fM_fN f5))))
      by_cases c : (smR T 6 (skp_ T x.2.2 + 1)).1 = true
      · rw [if_pos c] at h
        obtain ⟨a1, a2⟩ := R9_y H5 c
        refine t251 hn hZ (x := (true, (x.2.1, (smR T 6 (skp_ T x.2.2 + 1)).2.1), (smR T 6 (skp_ T x.2.2 + 1)).2.2)) ⟨H5.1, h65, fun _ => ⟨⟨a1.2.2.2.1, a1.2.2.2.2.1, a1.2.2.2.2.2⟩, a2, tb8_fM f5 (tb8_sj (Or.inr (Nat.le_refl _)) (tb8_fM f3 (tb8_fM f2 ht0))), ?_, ?_⟩, fun z => absurd rfl z⟩ (fun w6 C6 f6 => h w6 C6 (fN_tr f9 f6))
        · rw [f5.2.1 387 (by decide) (by decide) (by decide) (by decide), si_p (by omega), f3.2.1 387 (by decide) (by decide) (by decide) (by decide), f2.2.1 387 (by decide) (by decide) (by decide) (by decide)]; exact h70
        · rw [f5.2.1 388 (by decide) (by decide) (by decide) (by decide), hp_i_si, if_pos ⟨rfl, rfl⟩, List.length_append]
      · rw [if_neg c] at h
        exact t251 hn hZ (x := pg_ (smR T 6 (skp_ T x.2.2 + 1)).2.2) ⟨H5.1, h65, fun z => absurd z Bool.false_ne_true, fun _ => (H5.2.2 c).1⟩ (fun w6 C6 f6 => h w6 C6 (fN_tr f9 f6))
    · rw [if_neg h214] at h
      refine V_aload_n (i := 0) (sx_di dX12_clause 114 rfl) rfl rfl ?_
      refine V_cV0 (mc' := 0) (ms' := 0) (M' := mX12_bad) 1 (sx_di dX12_clause 115 rfl) lX12_125 vX12_bad (by first | exact H.1.k _ rfl | exact H0.1.k _ rfl | exact H1.1.k _ rfl | exact H2.1.k _ rfl | exact H3.1.k _ rfl | exact H4.1.k _ rfl | exact H5.1.k _ rfl | exact H.1.1.k _ rfl | exact H0.1.1.k _ rfl | exact H1.1.1.k _ rfl | exact H2.1.1.k _ rfl | exact H3.1.1.k _ rfl | exact H4.1.1.k _ rfl | exact H5.1.1.k _ rfl | exact B4.k _ rfl) (by decide) rfl (Nat.le_of_ble_eq_true rfl) ⟨by show 1 + 1 ≤ 54; omega, by show 64 + 64 * (1) ≤ 64 * (54); omega⟩ ⟨Nat.le_refl _, Nat.le_refl _⟩ ?_
      refine c_bad9 (X2 := fx_ Z) (B := 240) H2 (x2 _ H1.2) (by omega) (by have := hl b205; omega) (fun d2 w3 H3 f3 => ?_)
      refine V_vret (sx_di dX12_clause 116 rfl) rfl (Nat.le_refl _) (Nat.le_refl _) ?_
      exact h w3 ⟨H3.1, fun z => absurd z Bool.false_ne_true, fun _ => (H3.2.2 Bool.false_ne_true).1⟩ (fN_tr f0 (fN_tr (fM_fN f2) (fM_fN f3)))

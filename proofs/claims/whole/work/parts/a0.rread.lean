/-! the reference reads a law -/
/-- it is at p, in the text n, d deep, nothing is wrong -/
def rrP (T : List Int32) (n d p : Nat) (w : hpW) : Prop := ly_B w ∧ tp_ w 381 2 382 T ∧ hp_i w 381 14 = nI n ∧ hp_i w 381 4 = -1 ∧ hp_i w 381 3 = nI p ∧ hp_i w 381 5 = nI d
def rrX (n : Nat) (X : List Int32) (w : hpW) : Prop := hp_i w 385 n = nI X.length ∧ ∀ j, j < X.length → hp_i w 383 (520 * n + j) = ec_ (X.getD j 0) ∧ hp_i w 384 (520 * n + j) = ev_ (X.getD j 0)
/-- what came of it: x -/
def R9 (T : List Int32) (n d B : Nat) (X : List Int32) (x : prT) (w : hpW) : Prop := (ly_B w ∧ tp_ w 381 2 382 T ∧ hp_i w 381 14 = nI n) ∧ (x.1 = true → hp_i w 381 4 = -1 ∧ hp_i w 381 3 = nI x.2.2 ∧ hp_i w 381 5 = nI d ∧ rrX n (X ++ x.2.1) w) ∧ (¬ x.1 = true → hp_i w 381 4 = nI x.2.2 ∧ (∃ p, p ≤ B ∧ hp_i w 381 3 = nI p) ∧ ∃ c, c ≤ B ∧ hp_i w 385 n = nI c)
def fM (n : Nat) (w w' : hpW) : Prop := w' = hp_wi w (hp_i w') ∧ (∀ b, b ≠ 381 → b ≠ 383 → b ≠ 384 → b ≠ 385 → hp_i w' b = hp_i w b) ∧ (∀ j, j ≠ 3 → j ≠ 4 → j ≠ 5 → hp_i w' 381 j = hp_i w 381 j) ∧ (∀ j, j < 520 * n ∨ 520 * n + 520 ≤ j → hp_i w' 383 j = hp_i w 383 j ∧ hp_i w' 384 j = hp_i w 384 j) ∧ ∀ j, j ≠ n → hp_i w' 385 j = hp_i w 385 j
theorem fM_rf {n : Nat} {w : hpW} : fM n w w := ⟨rfl, fun _ _ _ _ _ => rfl, fun _ _ _ _ => rfl, fun _ _ => ⟨rfl, rfl⟩, fun _ _ => rfl⟩
theorem fM_tr {n : Nat} {w w2 w3 : hpW} (f : fM n w w2) (g : fM n w2 w3) : fM n w w3 := by
  refine ⟨?_, fun b h1 h2 h3 h4 => (g.2.1 b h1 h2 h3 h4).trans (f.2.1 b h1 h2 h3 h4), fun j h1 h2 h3 => (g.2.2.1 j h1 h2 h3).trans (f.2.2.1 j h1 h2 h3), fun j h => ⟨(g.2.2.2.1 j h).1.trans (f.2.2.2.1 j h).1, (g.2.2.2.1 j h).2.trans (f.2.2.2.1 j h).2⟩, fun j h => (g.2.2.2.2 j h).trans (f.2.2.2.2 j h)⟩
  have e := g.1
  rw [f.1] at e
  exact e
/-- one of 381's places 3, 4, 5 has changed -/
theorem fM_si {n k : Nat} {x : Int32} {w : hpW} (h : k = 3 ∨ k = 4 ∨ k = 5) : fM n w (hp_si w 381 k x) := by
  refine ⟨rfl, fun b h1 _ _ _ => ?_, fun j h1 h2 h3 => ?_, fun j _ => ⟨?_, ?_⟩, fun j _ => ?_⟩
  · funext j; rw [hp_i_si, if_neg (fun z => h1 z.1)]
  · rw [hp_i_si, if_neg (fun z => by omega)]
  · rw [hp_i_si, if_neg (by omega)]
  · rw [hp_i_si, if_neg (by omega)]
  · rw [hp_i_si, if_neg (by omega)]
theorem si_o {w : hpW} {k b j : Nat} {x : Int32} (h : ¬ (b = 381 ∧ j = k)) : hp_i (hp_si w 381 k x) b j = hp_i w b j := by rw [hp_i_si, if_neg h]
theorem si_a {w : hpW} {k : Nat} {x : Int32} : hp_i (hp_si w 381 k x) 381 k = x := by rw [hp_i_si, if_pos ⟨rfl, rfl⟩]
theorem tp_si {w : hpW} {T : List Int32} {k : Nat} {x : Int32} (hk : ¬ k = 2) (h : tp_ w 381 2 382 T) : tp_ (hp_si w 381 k x) 381 2 382 T := ⟨h.1, (si_o (by omega)).trans h.2.1, fun j hj => (si_o (by omega)).trans (h.2.2 j hj)⟩
theorem rrX_si {n k : Nat} {x : Int32} {w : hpW} {X : List Int32} (h : rrX n X w) : rrX n X (hp_si w 381 k x) := ⟨(si_o (by omega)).trans h.1, fun j hj => ⟨(si_o (by omega)).trans (h.2 j hj).1, (si_o (by omega)).trans (h.2 j hj).2⟩⟩
theorem ly_i {w : hpW} {a k : Nat} {x : Int32} (h : ly_B w) : ly_B (hp_si w a k x) := h
theorem rrP_at {T : List Int32} {n d p q : Nat} {w : hpW} (H : rrP T n d p w) : rrP T n d q (hp_si w 381 3 (nI q)) := ⟨ly_i H.1, tp_si (by decide) H.2.1, (si_o (by omega)).trans H.2.2.1, (si_o (by omega)).trans H.2.2.2.1, si_a, (si_o (by omega)).trans H.2.2.2.2.2⟩
theorem R9_y {T : List Int32} {n d B : Nat} {X : List Int32} {x : prT} {w : hpW} (H : R9 T n d B X x w) (h : x.1 = true) : rrP T n d x.2.2 w ∧ rrX n (X ++ x.2.1) w := ⟨⟨H.1.1, H.1.2.1, H.1.2.2, (H.2.1 h).1, (H.2.1 h).2.1, (H.2.1 h).2.2.1⟩, (H.2.1 h).2.2.2⟩
theorem R9_of {T : List Int32} {n d B p : Nat} {X L : List Int32} {w : hpW} (H : rrP T n d p w) (hx : rrX n (X ++ L) w) : R9 T n d B X (true, L, p) w := ⟨⟨H.1, H.2.1, H.2.2.1⟩, fun _ => ⟨H.2.2.2.1, H.2.2.2.2.1, H.2.2.2.2.2, hx⟩, fun z => absurd rfl z⟩
theorem R9_up {T : List Int32} {n d B B2 : Nat} {X : List Int32} {x : prT} {w : hpW} (h : B ≤ B2) (H : R9 T n d B X x w) : R9 T n d B2 X x w := ⟨H.1, H.2.1, fun z => by
  obtain ⟨h1, ⟨p, h2, h3⟩, c, h4, h5⟩ := H.2.2 z
  exact ⟨h1, ⟨p, by omega, h3⟩, c, by omega, h5⟩⟩
def wv_ (x : prT) : Int32 := if x.1 = true then -1 else nI x.2.2
theorem wv_y {x : prT} (hx : x.2.2 < 2 ^ 31) (h : wv_ x = -1) : x.1 = true := Classical.byContradiction (fun z => by unfold wv_ at h; rw [if_neg z] at h; exact nI_nm1 hx h)
theorem wv_n {x : prT} (h : ¬ wv_ x = -1) : ¬ x.1 = true := fun z => h (if_pos z)
theorem R9_w {T : List Int32} {n d B : Nat} {X : List Int32} {x : prT} {w : hpW} (H : R9 T n d B X x w) : hp_i w 381 4 = wv_ x := by
  unfold wv_
  by_cases h : x.1 = true
  · rw [if_pos h]; exact (H.2.1 h).1
  · rw [if_neg h]; exact (H.2.2 h).1
/-- where it failed, whatever is deeper -/
theorem R9_f {T : List Int32} {n d d2 B : Nat} {X X2 : List Int32} {x y : prT} {w : hpW} (H : R9 T n d B X x w) (h : ¬ x.1 = true) (hy : ¬ y.1 = true) (e : y.2.2 = x.2.2) : R9 T n d2 B X2 y w := ⟨H.1, fun z => absurd z hy, fun _ => by rw [e]; exact H.2.2 h⟩
theorem c_look9 {E : sxE} {w : hpW} {Q : Option Value → hpW → Prop} {T : List Int32} {n d p : Nat} (H : rrP T n d p w) (hp : p ≤ T.length) (h : ∀ w', rrP T n d (skp_ T p) w' → fM n w w' → (∀ X, rrX n X w → rrX n X w') → Q (some (.int (cz_ T p))) w') : sx_C E mX12_look 2 0 0 [.ref 381] w Q := by
  have hl := H.2.1.1
  exact c_X12_look H.1 H.2.1 (p := p) (by omega) H.2.2.2.2.1 (h (hp_si w 381 3 (nI (skp_ T p))) (rrP_at H) (fM_si (Or.inl rfl)) (fun X hx => rrX_si hx))
theorem c_bad9 {E : sxE} {w : hpW} {Q : Option Value → hpW → Prop} {T : List Int32} {n d p B : Nat} {X X2 : List Int32} (H : rrP T n d p w) (hx : rrX n X w) (hp : p ≤ B) (hl : X.length ≤ B) (h : ∀ d2 w', R9 T n d2 B X2 (pf_ p) w' → fM n w w' → Q none w') : sx_C E mX12_bad 1 0 0 [.ref 381] w Q := by
  refine c_X12_bad H.1 (fun _ => ?_) (fun z => absurd H.2.2.2.1 z)
  refine h d _ ⟨⟨ly_i H.1, tp_si (by decide) H.2.1, (si_o (by omega)).trans H.2.2.1⟩, fun z => absurd z Bool.false_ne_true, fun _ => ⟨si_a.trans H.2.2.2.2.1, ⟨p, hp, (si_o (by omega)).trans H.2.2.2.2.1⟩, X.length, hl, (rrX_si hx).1⟩⟩ (fM_si (Or.inr (Or.inl rfl)))
/-- one further -/
def up9 (x : prT) : prT := if x.1 = true then (true, x.2.1, x.2.2 + 1) else pf_ x.2.2
section RRV
variable {E : sxE} {M : sxM} {R : Room} {mc ms ce sl pc : Nat} {ls : List (Nat × Value)} {st : List Value} {w : hpW} {Q : Option Value → hpW → Prop}
theorem V_at9 {T : List Int32} {n d p : Nat} (H : rrP T n d p w) (k : ∀ w', rrP T n d (p + 1) w' → fM n w w' → (∀ X, rrX n X w → rrX n X w') → V E M R mc ms ce sl pc ls st w' Q) : V E M R mc ms ce sl pc ls st (hp_si w 381 3 (hp_i w 381 3 + 1)) Q := by
  rw [H.2.2.2.2.1, nI_1]
  exact k _ (rrP_at H) (fM_si (Or.inl rfl)) (fun X hx => rrX_si hx)
theorem V_atR {T : List Int32} {n d B : Nat} {X : List Int32} {x : prT} (H : R9 T n d B X x w) (k : ∀ w', R9 T n d (B + 1) X (up9 x) w' → fM n w w' → V E M R mc ms ce sl pc ls st w' Q) : V E M R mc ms ce sl pc ls st (hp_si w 381 3 (hp_i w 381 3 + 1)) Q := by
  refine k _ ?_ (fM_si (Or.inl rfl))
  unfold up9
  by_cases h : x.1 = true
  · rw [if_pos h]
    obtain ⟨H1, H2⟩ := R9_y H h
    rw [H1.2.2.2.2.1, nI_1]
    exact R9_of (rrP_at H1) (rrX_si H2)
  · rw [if_neg h]
    obtain ⟨h1, ⟨p, h2, h3⟩, c, h4, h5⟩ := H.2.2 h
    exact ⟨⟨ly_i H.1.1, tp_si (by decide) H.1.2.1, (si_o (by omega)).trans H.1.2.2⟩, fun z => absurd z Bool.false_ne_true, fun _ => ⟨(si_o (by omega)).trans h1, ⟨p + 1, by omega, si_a.trans (by rw [h3, nI_1])⟩, c, by omega, (si_o (by omega)).trans h5⟩⟩
theorem V_dpR {T : List Int32} {n d B : Nat} {X : List Int32} {x : prT} (H : R9 T n (d + 1) B X x w) (k : ∀ w', R9 T n d B X x w' → fM n w w' → V E M R mc ms ce sl pc ls st w' Q) : V E M R mc ms ce sl pc ls st (hp_si w 381 5 (hp_i w 381 5 - 1)) Q := by
  refine k _ ⟨⟨ly_i H.1.1, tp_si (by decide) H.1.2.1, (si_o (by omega)).trans H.1.2.2⟩, fun z => ?_, fun z => ?_⟩ (fM_si (Or.inr (Or.inr rfl)))
  · obtain ⟨h1, h2, h3, h4⟩ := H.2.1 z
    refine ⟨(si_o (by omega)).trans h1, (si_o (by omega)).trans h2, ?_, rrX_si h4⟩
    rw [si_a, h3]
    exact pk_sub (show 1 ≤ d + 1 by omega)
  · obtain ⟨h1, ⟨p, h2, h3⟩, c, h4, h5⟩ := H.2.2 z
    exact ⟨(si_o (by omega)).trans h1, ⟨p, h2, (si_o (by omega)).trans h3⟩, c, h4, (si_o (by omega)).trans h5⟩
end RRV
theorem si_p {w : hpW} {a k b j : Nat} {x : Int32} (h : ¬ (b = a ∧ j = k)) : hp_i (hp_si w a k x) b j = hp_i w b j := by rw [hp_i_si, if_neg h]
set_option maxHeartbeats 2000000 in
set_option maxRecDepth 20000 in
theorem c_X12_put {E : sxE} {w : hpW} {Q : Option Value → hpW → Prop} {n m : Nat} {c v : Int32} (hB : ly_B w) (hn : n < 5) (ht : hp_i w 381 14 = nI n) (hc : hp_i w 385 n = nI m) (hm : m < 520) (h : Q none (hp_si (hp_si (hp_si w 383 (520 * n + m) c) 384 (520 * n + m) v) 385 n (nI (m + 1)))) : sx_C E mX12_put 1 0 0 [.ref 381, .int c, .int v] w Q := by
  refine C_of (by decide +kernel) (Nat.le_of_ble_eq_true rfl) ?_
  refine V_aload_n (i := 0) (sx_di dX12_put 0 rfl) rfl rfl ?_
  refine V_getR (sx_di dX12_put 1 rfl) fX12_13 (fun _ => rfl) (hB.k _ rfl) (hB.r _ _ rfl) ?_
  refine V_sipush (v := 520) (sx_di dX12_put 2 rfl) (by decide) ?_
  refine V_aload_n (i := 0) (sx_di dX12_put 3 rfl) rfl rfl ?_
  refine V_getI (sx_di dX12_put 4 rfl) fX12_119 (fun _ => rfl) (hB.k _ rfl) ?_
  refine V_iv (y := nI n) (ht) ?_
  refine V_imul (sx_di dX12_put 5 rfl) ?_
  refine V_aload_n (i := 0) (sx_di dX12_put 6 rfl) rfl rfl ?_
  refine V_getR (sx_di dX12_put 7 rfl) fX12_19 (fun _ => rfl) (hB.k _ rfl) (hB.r _ _ rfl) ?_
  refine V_aload_n (i := 0) (sx_di dX12_put 8 rfl) rfl rfl ?_
  refine V_getI (sx_di dX12_put 9 rfl) fX12_119 (fun _ => rfl) (hB.k _ rfl) ?_
  refine V_iv (y := nI n) (ht) ?_
  refine V_ialdN (n := 5) (j := n) (sx_di dX12_put 10 rfl) (hB.k _ rfl) (rfl) (by omega) (by omega) ?_
  refine V_iv (y := nI m) (hc) ?_
  refine V_iadd (sx_di dX12_put 11 rfl) ?_
  refine V_iload_n (i := 1) (sx_di dX12_put 12 rfl) rfl rfl ?_
  refine V_iastN (n := 2600) (j := ((520 * n) + m)) (sx_di dX12_put 13 rfl) (hB.k _ rfl) (nx_add (nx_mul (rfl) (rfl)) (rfl)) (by omega) (by omega) ?_
  refine V_aload_n (i := 0) (sx_di dX12_put 14 rfl) rfl rfl ?_
  refine V_getR (sx_di dX12_put 15 rfl) fX12_16 (fun _ => rfl) (hB.k _ rfl) (hB.r _ _ rfl) ?_
  refine V_sipush (v := 520) (sx_di dX12_put 16 rfl) (by decide) ?_
  refine V_aload_n (i := 0) (sx_di dX12_put 17 rfl) rfl rfl ?_
  refine V_getI (sx_di dX12_put 18 rfl) fX12_119 (fun _ => rfl) (hB.k _ rfl) ?_
  refine V_iv (y := nI n) ((si_p (by omega)).trans ht) ?_
  refine V_imul (sx_di dX12_put 19 rfl) ?_
  refine V_aload_n (i := 0) (sx_di dX12_put 20 rfl) rfl rfl ?_
  refine V_getR (sx_di dX12_put 21 rfl) fX12_19 (fun _ => rfl) (hB.k _ rfl) (hB.r _ _ rfl) ?_
  refine V_aload_n (i := 0) (sx_di dX12_put 22 rfl) rfl rfl ?_
  refine V_getI (sx_di dX12_put 23 rfl) fX12_119 (fun _ => rfl) (hB.k _ rfl) ?_
  refine V_iv (y := nI n) ((si_p (by omega)).trans ht) ?_
  refine V_ialdN (n := 5) (j := n) (sx_di dX12_put 24 rfl) (hB.k _ rfl) (rfl) (by omega) (by omega) ?_
  refine V_iv (y := nI m) ((si_p (by omega)).trans hc) ?_
  refine V_iadd (sx_di dX12_put 25 rfl) ?_
  refine V_iload_n (i := 2) (sx_di dX12_put 26 rfl) rfl rfl ?_
  refine V_iastN (n := 2600) (j := ((520 * n) + m)) (sx_di dX12_put 27 rfl) (hB.k _ rfl) (nx_add (nx_mul (rfl) (rfl)) (rfl)) (by omega) (by omega) ?_
  refine V_aload_n (i := 0) (sx_di dX12_put 28 rfl) rfl rfl ?_
  refine V_getR (sx_di dX12_put 29 rfl) fX12_19 (fun _ => rfl) (hB.k _ rfl) (hB.r _ _ rfl) ?_
  refine V_aload_n (i := 0) (sx_di dX12_put 30 rfl) rfl rfl ?_
  refine V_getI (sx_di dX12_put 31 rfl) fX12_119 (fun _ => rfl) (hB.k _ rfl) ?_
  refine V_iv (y := nI n) ((si_p (by omega)).trans ((si_p (by omega)).trans ht)) ?_
  refine V_dup2 (sx_di dX12_put 32 rfl) rfl rfl ?_
  refine V_ialdN (n := 5) (j := n) (sx_di dX12_put 33 rfl) (hB.k _ rfl) (rfl) (by omega) (by omega) ?_
  refine V_iv (y := nI m) ((si_p (by omega)).trans ((si_p (by omega)).trans hc)) ?_
  refine V_iconst (v := 1) (sx_di dX12_put 34 rfl) (by decide) ?_
  refine V_iadd (sx_di dX12_put 35 rfl) ?_
  refine V_iv (y := nI (m + 1)) (nI_add m 1) ?_
  refine V_iastN (n := 5) (j := n) (sx_di dX12_put 36 rfl) (hB.k _ rfl) (rfl) (by omega) (by omega) ?_
  refine V_vret (sx_di dX12_put 37 rfl) rfl (Nat.le_refl _) (Nat.le_refl _) ?_
  exact h
theorem fM_put {n m : Nat} {c v x : Int32} {w : hpW} (hm : m < 520) : fM n w (hp_si (hp_si (hp_si w 383 (520 * n + m) c) 384 (520 * n + m) v) 385 n x) := by
  refine ⟨rfl, fun b h1 h2 h3 h4 => ?_, fun j _ _ _ => ?_, fun j hj => ⟨?_, ?_⟩, fun j hj => ?_⟩
  · funext j; rw [si_p (by omega), si_p (by omega), si_p (by omega)]
  · rw [si_p (by omega), si_p (by omega), si_p (by omega)]
  · rw [si_p (by omega), si_p (by omega), si_p (by omega)]
  · rw [si_p (by omega), si_p (by omega), si_p (by omega)]
  · rw [si_p (by omega), si_p (by omega), si_p (by omega)]
/-- what came of it, and c9 put behind it -/
def pt9 (x : prT) (c9 : Int32) : prT := if x.1 = true then (true, x.2.1 ++ [c9], x.2.2) else pf_ x.2.2
theorem c_putR {E : sxE} {w : hpW} {Q : Option Value → hpW → Prop} {T : List Int32} {n d B : Nat} {X : List Int32} {x : prT} {c v c9 : Int32} (hn : n < 5) (H : R9 T n d B X x w) (hB : B < 520) (hl : x.1 = true → (X ++ x.2.1).length < 520) (e1 : x.1 = true → ec_ c9 = c) (e2 : x.1 = true → ev_ c9 = v) (h : ∀ w', R9 T n d (B + 1) X (pt9 x c9) w' → fM n w w' → Q none w') : sx_C E mX12_put 1 0 0 [.ref 381, .int c, .int v] w Q := by
  unfold pt9 at h
  by_cases hx : x.1 = true
  · obtain ⟨H1, H2⟩ := R9_y H hx
    rw [if_pos hx] at h
    refine c_X12_put H.1.1 hn H.1.2.2 H2.1 (hl hx) (h _ (R9_of ⟨ly_i (ly_i (ly_i H1.1)), ⟨H1.2.1.1, ?_, fun j hj => ?_⟩, ?_, ?_, ?_, ?_⟩ ?_) (fM_put (hl hx)))
    · rw [si_p (by omega), si_p (by omega), si_p (by omega)]; exact H1.2.1.2.1
    · rw [si_p (by omega), si_p (by omega), si_p (by omega)]; exact H1.2.1.2.2 j hj
    · rw [si_p (by omega), si_p (by omega), si_p (by omega)]; exact H1.2.2.1
    · rw [si_p (by omega), si_p (by omega), si_p (by omega)]; exact H1.2.2.2.1
    · rw [si_p (by omega), si_p (by omega), si_p (by omega)]; exact H1.2.2.2.2.1
    · rw [si_p (by omega), si_p (by omega), si_p (by omega)]; exact H1.2.2.2.2.2
    · rw [← List.append_assoc]
      refine ⟨by rw [hp_i_si, if_pos ⟨rfl, rfl⟩]; exact congrArg nI (by simp; omega), fun j hj => ?_⟩
      rw [List.length_append, List.length_singleton] at hj
      by_cases e : j = (X ++ x.2.1).length
      · subst e
        rw [gd_app2, e1 hx, e2 hx]
        refine ⟨?_, ?_⟩
        · rw [si_p (by omega), si_p (by omega), hp_i_si, if_pos ⟨rfl, rfl⟩]
        · rw [si_p (by omega), hp_i_si, if_pos ⟨rfl, rfl⟩]
      · rw [gd_app1 (by omega)]
        refine ⟨?_, ?_⟩
        · rw [si_p (by omega), si_p (by omega), si_p (by omega)]; exact (H2.2 j (by omega)).1
        · rw [si_p (by omega), si_p (by omega), si_p (by omega)]; exact (H2.2 j (by omega)).2
  · rw [if_neg hx] at h
    obtain ⟨h1, ⟨p, h2, h3⟩, m, h4, h5⟩ := H.2.2 hx
    refine c_X12_put H.1.1 hn H.1.2.2 h5 (by omega) (h _ ⟨⟨ly_i (ly_i (ly_i H.1.1)), ⟨H.1.2.1.1, ?_, fun j hj => ?_⟩, ?_⟩, fun z => absurd z Bool.false_ne_true, fun _ => ⟨?_, ⟨p, by omega, ?_⟩, m + 1, by omega, ?_⟩⟩ (fM_put (by omega)))
    · rw [si_p (by omega), si_p (by omega), si_p (by omega)]; exact H.1.2.1.2.1
    · rw [si_p (by omega), si_p (by omega), si_p (by omega)]; exact H.1.2.1.2.2 j hj
    · rw [si_p (by omega), si_p (by omega), si_p (by omega)]; exact H.1.2.2
    · rw [si_p (by omega), si_p (by omega), si_p (by omega)]; exact h1
    · rw [si_p (by omega), si_p (by omega), si_p (by omega)]; exact h3
    · rw [hp_i_si, if_pos ⟨rfl, rfl⟩]
/-- what a reader of the reference does: u, at depth d -/
def kR (E : sxE) (T : List Int32) (n d D B : Nat) (M : sxM) (u : Nat → prT) : Prop := ∀ (X : List Int32) (p : Nat) (w : hpW) (Q : Option Value → hpW → Prop), rrP T n d p w → rrX n X w → X.length ≤ p → p ≤ T.length → (∀ w', R9 T n d B X (u p) w' → fM n w w' → Q none w') → sx_C E M D 0 0 [.ref 381] w Q

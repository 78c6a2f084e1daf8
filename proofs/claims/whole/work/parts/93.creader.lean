/-! the class reads a law: atoms and sums -/
def bz9 (b : Bool) : Int32 := if b = true then 1 else 0
theorem bz9t {b : Bool} (h : ¬ bz9 b = 0) : b = true := by cases b <;> first | rfl | exact absurd rfl h
theorem bz9f {b : Bool} (h : bz9 b = 0) : ¬ b = true := by cases b <;> first | exact Bool.false_ne_true | exact absurd h (by decide)
/-- the reader is at p, it writes into the law at a -/
def lrP (T : List Int32) (a p : Nat) (w : hpW) : Prop := ly_B w ∧ tp_ w 17 1 18 T ∧ hp_r w 52 1 = some a ∧ hp_i w 17 2 = nI p
/-- the law at a has the signs X so far -/
def lrX (a : Nat) (X : List Int32) (w : hpW) : Prop := hp_i w a 0 = nI X.length ∧ ∀ j, j < X.length → hp_i w (a + 1) j = X.getD j 0
/-- the reader has been at work -/
def fL (a : Nat) (w w' : hpW) : Prop := w' = hp_wi w (hp_i w') ∧ (∀ b, b ≠ 17 → b ≠ a → b ≠ a + 1 → hp_i w' b = hp_i w b) ∧ (∀ j, j ≠ 2 → j ≠ 3 → hp_i w' 17 j = hp_i w 17 j) ∧ ∀ j, j ≠ 0 → hp_i w' a j = hp_i w a j
theorem fL_rf {a : Nat} {w : hpW} : fL a w w := ⟨rfl, fun _ _ _ _ => rfl, fun _ _ _ => rfl, fun _ _ => rfl⟩
theorem fL_tr {a : Nat} {w w2 w3 : hpW} (f : fL a w w2) (g : fL a w2 w3) : fL a w w3 := by
  refine ⟨?_, fun b h1 h2 h3 => (g.2.1 b h1 h2 h3).trans (f.2.1 b h1 h2 h3), fun j h1 h2 => (g.2.2.1 j h1 h2).trans (f.2.2.1 j h1 h2), fun j h1 => (g.2.2.2 j h1).trans (f.2.2.2 j h1)⟩
  have e := g.1
  rw [f.1] at e
  exact e
/-- only 17's places 2 and 3 have changed -/
def fH (w w' : hpW) : Prop := w' = hp_wi w (hp_i w') ∧ (∀ b, b ≠ 17 → hp_i w' b = hp_i w b) ∧ ∀ j, j ≠ 2 → j ≠ 3 → hp_i w' 17 j = hp_i w 17 j
theorem fH_fL {a : Nat} {w w' : hpW} (ha : 22 ≤ a) (f : fH w w') : fL a w w' := ⟨f.1, fun b h1 _ _ => f.2.1 b h1, f.2.2, fun j _ => congrFun (f.2.1 a (by omega)) j⟩
theorem fH_P {T : List Int32} {a p q : Nat} {w w' : hpW} (f : fH w w') (H : lrP T a p w) (e : hp_i w' 17 2 = nI q) : lrP T a q w' := by
  have e1 := f.1
  refine ⟨?_, tp_mv (f.2.2 1 (by decide) (by decide)) (f.2.1 18 (by decide)) H.2.1, ?_, e⟩
  · rw [e1]; exact ly_wi H.1 _
  · rw [e1]; exact H.2.2.1
theorem fH_X {a : Nat} {w w' : hpW} (ha : 22 ≤ a) (f : fH w w') (X : List Int32) (h : lrX a X w) : lrX a X w' := ⟨by rw [f.2.1 a (by omega)]; exact h.1, fun j hj => by rw [f.2.1 (a + 1) (by omega)]; exact h.2 j hj⟩
theorem fH_hd {w : hpW} {q : Nat} : fH w (hd9 w q) := ⟨rfl, fun b hb => by funext j; exact hd9_o (fun z => hb z.1), fun j h1 _ => hd9_o (fun z => h1 z.2)⟩
theorem fH_nw {w : hpW} {q : Nat} {v : Int32} : fH w (nw9 w q v) := ⟨rfl, fun b hb => by funext j; exact nw9_o (fun z => hb z.1) (fun z => hb z.1), fun j h1 h2 => nw9_o (fun z => h1 z.2) (fun z => h2 z.2)⟩
theorem hd9_2 (w : hpW) (q : Nat) : hp_i (hd9 w q) 17 2 = nI q := by
  show hp_u (hp_i w) 17 2 (nI q) 17 2 = _
  rw [hp_u_at]
theorem c_sign9 {E : sxE} {w : hpW} {Q : Option Value → hpW → Prop} {T : List Int32} {a p : Nat} (ha : 22 ≤ a) (H : lrP T a p w) (hp : p ≤ T.length) (h : ∀ w', lrP T a (skp_ T p) w' → fL a w w' → (∀ X, lrX a X w → lrX a X w') → Q (some (.int (cz_ T p))) w') : sx_C E mX10_sign 1 0 0 [.ref 17] w Q := by
  have hl := H.2.1.1
  exact c_X10_sign H.1 H.2.1 (p := p) (by omega) H.2.2.2 (h _ (fH_P fH_hd H (hd9_2 w _)) (fH_fL ha fH_hd) (fun X => fH_X ha fH_hd X))
theorem c_num9 {E : sxE} {w : hpW} {Q : Option Value → hpW → Prop} {T : List Int32} {a p mx : Nat} (ha : 22 ≤ a) (H : lrP T a p w) (hp : p ≤ T.length) (hm : mx ≤ 4) (h : ∀ w', lrP T a (rn_ T mx p).2.1 w' → fL a w w' → (∀ X, lrX a X w → lrX a X w') → hp_i w' 17 3 = (rn_ T mx p).2.2 → Q (some (.int (bz9 (rn_ T mx p).1))) w') : sx_C E mX10_readNumber 1 0 0 [.ref 17, .int (nI mx)] w Q := by
  have hl := H.2.1.1
  exact c_X10_readNumber H.1 H.2.1 hm (by omega) H.2.2.2 (h _ (fH_P fH_nw H (nw9_2 w _ _)) (fH_fL ha fH_nw) (fun X => fH_X ha fH_nw X) (nw9_3 w _ _))
section LRV
variable {E : sxE} {M : sxM} {R : Room} {mc ms ce sl pc : Nat} {ls : List (Nat × Value)} {st : List Value} {w : hpW} {Q : Option Value → hpW → Prop}
theorem V_hd9 {T : List Int32} {a p q : Nat} (ha : 22 ≤ a) (H : lrP T a p w) (k : ∀ w', lrP T a q w' → fL a w w' → (∀ X, lrX a X w → lrX a X w') → V E M R mc ms ce sl pc ls st w' Q) : V E M R mc ms ce sl pc ls st (hp_si w 17 2 (nI q)) Q := k (hd9 w q) (fH_P fH_hd H (hd9_2 w _)) (fH_fL ha fH_hd) (fun X => fH_X ha fH_hd X)
end LRV
theorem gd_app1 {l r : List Int32} {j : Nat} (h : j < l.length) : (l ++ r).getD j 0 = l.getD j 0 := by rw [List.getD_eq_getElem?_getD, List.getD_eq_getElem?_getD, List.getElem?_append_left h]
theorem gd_app2 {l : List Int32} {c : Int32} : (l ++ [c]).getD l.length 0 = c := by rw [List.getD_eq_getElem?_getD, List.getElem?_append_right (Nat.le_refl _), Nat.sub_self]; rfl
theorem lrX_add {a n : Nat} {w : hpW} {X : List Int32} {c : Int32} (h : lrX a X w) : lrX a (X ++ [c]) (hp_si (hp_si w (a + 1) X.length c) a 0 (nI (X.length + 1))) := by
  refine ⟨by rw [hp_i_si, if_pos ⟨rfl, rfl⟩, List.length_append, List.length_singleton], fun j hj => ?_⟩
  rw [List.length_append, List.length_singleton] at hj
  rw [hp_i_si, if_neg (by omega), hp_i_si]
  by_cases e : j = X.length
  · rw [if_pos ⟨rfl, e⟩, e, gd_app2]
  · rw [if_neg (fun z => e z.2), gd_app1 (by omega)]
    exact h.2 j (by omega)
theorem fL_add {a : Nat} {w : hpW} {n : Nat} {c x : Int32} (ha : 22 ≤ a) : fL a w (hp_si (hp_si w (a + 1) n c) a 0 x) := by
  refine ⟨rfl, fun b h1 h2 h3 => ?_, fun j _ _ => ?_, fun j hj => ?_⟩
  · funext j
    rw [hp_i_si, if_neg (fun z => h2 z.1), hp_i_si, if_neg (fun z => h3 z.1)]
  · rw [hp_i_si, if_neg (by omega), hp_i_si, if_neg (by omega)]
  · rw [hp_i_si, if_neg (fun z => hj z.2), hp_i_si, if_neg (by omega)]
theorem fL_P {T : List Int32} {a p : Nat} {w w' : hpW} (ha : 22 ≤ a) (f : fL a w w') (H : lrP T a p w) (e : hp_i w' 17 2 = hp_i w 17 2) : lrP T a p w' := by
  have e1 := f.1
  refine ⟨?_, tp_mv (f.2.2.1 1 (by decide) (by decide)) (f.2.1 18 (by decide) (by omega) (by omega)) H.2.1, ?_, e.trans H.2.2.2⟩
  · rw [e1]; exact ly_wi H.1 _
  · rw [e1]; exact H.2.2.1
set_option maxHeartbeats 2000000 in
set_option maxRecDepth 20000 in
theorem c_X1_add {E : sxE} {w : hpW} {Q : Option Value → hpW → Prop} {k n : Nat} {c : Int32} (hB : ly_B w) (hk : k < 5) (hn : hp_i w (22 + 6 * k) 0 = nI n) (hl : n < 240) (h : Q none (hp_si (hp_si w (22 + 6 * k + 1) n c) (22 + 6 * k) 0 (nI (n + 1)))) : sx_C E mX1_add 1 0 0 [.ref (22 + 6 * k), .int c] w Q := by
  have hs := lw_law hB hk
  refine C_of (by decide +kernel) (Nat.le_of_ble_eq_true rfl) ?_
  refine V_aload_n (i := 0) (sx_di dX1_add 0 rfl) rfl rfl ?_
  refine V_getI (sx_di dX1_add 1 rfl) fX1_27 (fun _ => rfl) (by first | exact hs.1 | exact hs.2.1) ?_
  refine V_iv (y := nI n) (hn) ?_
  refine V_sipush (v := 240) (sx_di dX1_add 2 rfl) (by decide) ?_
  refine V_icN_ge (a := n) (b := 240) (rfl) (rfl) (by omega) (by omega) (tgt := 30) (sx_di dX1_add 3 rfl) (by decide) (fun h7 => absurd h7 (by omega)) (fun _ => ?_)
  refine V_aload_n (i := 0) (sx_di dX1_add 4 rfl) rfl rfl ?_
  refine V_getR (sx_di dX1_add 5 rfl) fX1_9 (fun _ => rfl) (by first | exact hs.1 | exact hs.2.1) (hs.2.2.2.2.2.2.1) ?_
  refine V_aload_n (i := 0) (sx_di dX1_add 6 rfl) rfl rfl ?_
  refine V_getI (sx_di dX1_add 7 rfl) fX1_27 (fun _ => rfl) (by first | exact hs.1 | exact hs.2.1) ?_
  refine V_iv (y := nI n) (hn) ?_
  refine V_iload_n (i := 1) (sx_di dX1_add 8 rfl) rfl rfl ?_
  refine V_iastN (n := 240) (j := n) (sx_di dX1_add 9 rfl) (by first | exact hs.1 | exact hs.2.1) (rfl) (by omega) (by omega) ?_
  refine V_aload_n (i := 0) (sx_di dX1_add 10 rfl) rfl rfl ?_
  refine V_dup (sx_di dX1_add 11 rfl) rfl ?_
  refine V_getI (sx_di dX1_add 12 rfl) fX1_27 (fun _ => rfl) (by first | exact hs.1 | exact hs.2.1) ?_
  refine V_iv (y := nI n) (by rw [hp_i_si, if_neg (by omega)]; exact hn) ?_
  refine V_iconst (v := 1) (sx_di dX1_add 13 rfl) (by decide) ?_
  refine V_iadd (sx_di dX1_add 14 rfl) ?_
  refine V_iv (y := nI (n + 1)) (nI_add n 1) ?_
  refine V_putI (sx_di dX1_add 15 rfl) fX1_27 (fun _ => rfl) rfl (by first | exact hs.1 | exact hs.2.1) (rfl) (rfl) ?_
  refine V_vret (sx_di dX1_add 16 rfl) rfl (Nat.le_refl _) (Nat.le_refl _) ?_
  exact h
theorem c_add9 {E : sxE} {w : hpW} {Q : Option Value → hpW → Prop} {T : List Int32} {k p : Nat} {c : Int32} {X : List Int32} (hk : k < 5) (H : lrP T (22 + 6 * k) p w) (hX : lrX (22 + 6 * k) X w) (hl : X.length < 240) (h : ∀ w', lrP T (22 + 6 * k) p w' → fL (22 + 6 * k) w w' → lrX (22 + 6 * k) (X ++ [c]) w' → Q none w') : sx_C E mX1_add 1 0 0 [.ref (22 + 6 * k), .int c] w Q :=
  c_X1_add H.1 hk hX.1 hl (h _ (fL_P (by omega) (fL_add (by omega)) H (by rw [hp_i_si, if_neg (by omega), hp_i_si, if_neg (by omega)])) (fL_add (by omega)) (lrX_add (n := 0) hX))
/-- what a reader of the class does: u, at depth d -/
def kA (E : sxE) (T : List Int32) (k d D : Nat) (M : sxM) (u : Nat → prT) : Prop := ∀ (X : List Int32) (p : Nat) (w : hpW) (Q : Option Value → hpW → Prop), lrP T (22 + 6 * k) p w → lrX (22 + 6 * k) X w → X.length ≤ p → p ≤ T.length → (∀ w', lrP T (22 + 6 * k) (u p).2.2 w' → fL (22 + 6 * k) w w' → ((u p).1 = true → lrX (22 + 6 * k) (X ++ (u p).2.1) w') → Q (some (.int (bz9 (u p).1))) w') → sx_C E M D 0 0 [.ref 52, .int (nI d)] w Q
theorem nI_nm1 {n : Nat} (h : n < 2 ^ 31) : ¬ nI n = -1 := fun z => by
  rw [fa_eq, nI_toInt h, ti_m1] at z
  omega
theorem lt9_at : ∀ i, i < 6 → lt9 (ltrs1.getD i 0) = nI i := by decide
theorem ltr_255 : ∀ i, i < 6 → ltrs1.getD i 0 &&& 255 = ltrs1.getD i 0 := by decide
theorem lt9_no {c : Int32} (h : ∀ j, j < 6 → ¬ ltrs1.getD j 0 = c) : lt9 c = -1 := by
  unfold lt9
  rw [if_neg (fun z => h 0 (by decide) z.symm), if_neg (fun z => h 1 (by decide) z.symm), if_neg (fun z => h 2 (by decide) z.symm), if_neg (fun z => h 3 (by decide) z.symm), if_neg (fun z => h 4 (by decide) z.symm), if_neg (fun z => h 5 (by decide) z.symm)]
set_option maxHeartbeats 2000000 in
set_option maxRecDepth 20000 in
theorem ra_lp {E : sxE} {T : List Int32} {k D p : Nat} {c : Int32} {X : List Int32} {w : hpW} {Q : Option Value → hpW → Prop} (hX : XO E) (hk : k < 5) (hD : 4 ≤ D) (H : lrP T (22 + 6 * k) p w) (hx : lrX (22 + 6 * k) X w) (hl : ¬ lt9 c = -1 → X.length < 240)
    (hy : ¬ lt9 c = -1 → ∀ w', lrP T (22 + 6 * k) (p + 1) w' → fL (22 + 6 * k) w w' → lrX (22 + 6 * k) (X ++ [-1 - lt9 c]) w' → Q (some (.int 1)) w')
    (hn : lt9 c = -1 → V E mX3_readAtom (sx_rm (D + 1) 0 0) 0 0 0 0 126 [(0, .ref 52)] [] w Q) : ∀ n i, i + n = 6 → (∀ j, j < i → ¬ ltrs1.getD j 0 = c) → V E mX3_readAtom (sx_rm (D + 1) 0 0) 0 0 0 0 76 [(3, .int (nI i)), (2, .int c), (0, .ref 52)] [] w Q := by
  intro n
  induction n with
  | zero =>
    intro i hi hc
    have e : i = 6 := by omega
    subst e
    refine V_iload_n (i := 3) (sx_di dX3_readAtom 43 rfl) rfl rfl ?_
    refine V_ldcS (a := 1) (sx_di dX3_readAtom 44 rfl) (fun U H z => (hX.1 U H z).1.1) ?_
    refine V_co0 (M' := mJ0_length_8abf5) 2 (sx_di dX3_readAtom 45 rfl) (sx_a3 29 rfl rfl) vJ0_length_8abf5 (fun U H z => (hX.1 U H z).1.2.1) (Nat.le_of_ble_eq_true rfl) ⟨by show 2 + 1 ≤ D + 1; omega, by show 64 + 64 * (2) ≤ 64 * (D + 1); omega⟩ ⟨Nat.le_refl _, Nat.le_refl _⟩ ?_
    refine c_strlen hX (fun U H z => (hX.1 U H z).1.2) ?_ (by decide)
    refine V_icN_ge (a := 6) (b := 6) (rfl) (rfl) (by omega) (by omega) (tgt := 126) (sx_di dX3_readAtom 46 rfl) (by decide) (fun _ => ?_) (fun h82 => absurd h82 (by omega))
    exact V_subk (hn (lt9_no hc)) ⟨rfl, trivial⟩
  | succ n ih =>
    intro i hi hc
    have q1 := fun z => ih (i + 1) (by omega) z
    rw [← nI_1 (a := i)] at q1
    refine V_iload_n (i := 3) (sx_di dX3_readAtom 43 rfl) rfl rfl ?_
    refine V_ldcS (a := 1) (sx_di dX3_readAtom 44 rfl) (fun U H z => (hX.1 U H z).1.1) ?_
    refine V_co0 (M' := mJ0_length_8abf5) 2 (sx_di dX3_readAtom 45 rfl) (sx_a3 29 rfl rfl) vJ0_length_8abf5 (fun U H z => (hX.1 U H z).1.2.1) (Nat.le_of_ble_eq_true rfl) ⟨by show 2 + 1 ≤ D + 1; omega, by show 64 + 64 * (2) ≤ 64 * (D + 1); omega⟩ ⟨Nat.le_refl _, Nat.le_refl _⟩ ?_
    refine c_strlen hX (fun U H z => (hX.1 U H z).1.2) ?_ (by decide)
    refine V_icN_ge (a := i) (b := 6) (rfl) (rfl) (by omega) (by omega) (tgt := 126) (sx_di dX3_readAtom 46 rfl) (by decide) (fun h82 => absurd h82 (by omega)) (fun _ => ?_)
    refine V_ldcS (a := 1) (sx_di dX3_readAtom 47 rfl) (fun U H z => (hX.1 U H z).1.1) ?_
    refine V_iload_n (i := 3) (sx_di dX3_readAtom 48 rfl) rfl rfl ?_
    refine V_co1 (M' := mJ0_charAt_5068e) 4 (sx_di dX3_readAtom 49 rfl) (sx_a3 37 rfl rfl) vJ0_charAt_5068e (fun U H z => (hX.1 U H z).1.2.1) (Nat.le_of_ble_eq_true rfl) ⟨by show 4 + 1 ≤ D + 1; omega, by show 64 + 64 * (4) ≤ 64 * (D + 1); omega⟩ ⟨Nat.le_refl _, Nat.le_refl _⟩ ?_
    refine c_str_at hX (fun U H z => (hX.1 U H z).1.2) (show i < 6 by omega) (by decide) ?_
    refine V_iv (y := ltrs1.getD i 0) (ltr_255 i (by omega)) ?_
    refine V_iload_n (i := 2) (sx_di dX3_readAtom 50 rfl) rfl rfl ?_
    refine V_icmp_ne (tgt := 120) (sx_di dX3_readAtom 51 rfl) (by decide) (fun h92 => ?_) (fun h92 => ?_)
    · have q2 := q1 (fun j hj => by
        rcases Nat.lt_or_ge j i with z | z
        · exact hc j z
        · have e : j = i := by omega
          rw [e]; exact h92)
      refine V_inc (c := 1) (sx_di dX3_readAtom 67 rfl) (by decide) rfl (by decide) (rfl) ?_
      refine V_goto (tgt := 76) (sx_di dX3_readAtom 68 rfl) (by decide) ?_
      exact V_subk q2 ⟨rfl, rfl, rfl, trivial⟩
    · have e9 : lt9 c = nI i := by rw [← h92]; exact lt9_at i (by omega)
      have e8 : ¬ lt9 c = -1 := by rw [e9]; exact nI_nm1 (by omega)
      refine V_aload_n (i := 0) (sx_di dX3_readAtom 52 rfl) rfl rfl ?_
      refine V_getR (sx_di dX3_readAtom 53 rfl) fX3_9 (fun _ => rfl) (by first | exact H.1.k _ rfl | exact H2.1.k _ rfl) (by first | exact H.1.r _ _ rfl | exact H2.1.r _ _ rfl | exact H.2.2.1 | exact H2.2.2.1) ?_
      refine V_dup (sx_di dX3_readAtom 54 rfl) rfl ?_
      refine V_getI (sx_di dX3_readAtom 55 rfl) fX3_24 (fun _ => rfl) (by first | exact H.1.k _ rfl | exact H2.1.k _ rfl) ?_
      refine V_iv (y := nI p) (H.2.2.2) ?_
      refine V_iconst (v := 1) (sx_di dX3_readAtom 56 rfl) (by decide) ?_
      refine V_iadd (sx_di dX3_readAtom 57 rfl) ?_
      refine V_iv (y := nI (p + 1)) (nI_add p 1) ?_
      refine V_putI (sx_di dX3_readAtom 58 rfl) fX3_24 (fun _ => rfl) rfl (by first | exact H.1.k _ rfl | exact H2.1.k _ rfl) (rfl) (rfl) ?_
      refine V_hd9 (by omega) H (fun w2 H2 f2 x2 => ?_)
      refine V_aload_n (i := 0) (sx_di dX3_readAtom 59 rfl) rfl rfl ?_
      refine V_getR (sx_di dX3_readAtom 60 rfl) fX3_15 (fun _ => rfl) (by first | exact H.1.k _ rfl | exact H2.1.k _ rfl) (by first | exact H.1.r _ _ rfl | exact H2.1.r _ _ rfl | exact H.2.2.1 | exact H2.2.2.1) ?_
      refine V_iconst (v := -1) (sx_di dX3_readAtom 61 rfl) (by decide) ?_
      refine V_iload_n (i := 3) (sx_di dX3_readAtom 62 rfl) rfl rfl ?_
      refine V_isub (sx_di dX3_readAtom 63 rfl) ?_
      refine V_iv (y := -1 - lt9 c) (by rw [e9]) ?_
      refine V_cV1 (mc' := 0) (ms' := 0) (M' := mX1_add) 1 (sx_di dX3_readAtom 64 rfl) lX3_58 vX1_add ((lw_law H2.1 hk).1) (by decide) rfl (Nat.le_of_ble_eq_true rfl) ⟨by show 1 + 1 ≤ D + 1; omega, by show 64 + 64 * (1) ≤ 64 * (D + 1); omega⟩ ⟨Nat.le_refl _, Nat.le_refl _⟩ ?_
      refine c_add9 hk H2 (x2 X hx) (hl e8) (fun w3 H3 f3 x3 => ?_)
      refine V_iconst (v := 1) (sx_di dX3_readAtom 65 rfl) (by decide) ?_
      refine V_zret (sx_di dX3_readAtom 66 rfl) rfl (by first | rfl | decide) (Nat.le_refl _) (Nat.le_refl _) ?_
      exact hy e8 w3 H3 (fL_tr f2 f3) x3
set_option maxHeartbeats 2000000 in
set_option maxRecDepth 20000 in
theorem c_rdAtom {E : sxE} {T : List Int32} {k d r D : Nat} {f : Nat → prT} (hX : XO E) (hk : k < 5) (hd : d + r = 6) (hD : 4 ≤ D) (hg : r = 0 ∨ goS T f) (hin : r = 0 ∨ kA E T k (d + 1) D mX3_readSum f) : kA E T k d (D + 1) mX3_readAtom (atm_ T r f) := by
  intro X p w Q H hx hXl hp h
  have hT := H.2.1.1
  have g1 := skp_ge T p
  have g2 := skq_le (T := T) hp
  unfold atm_ at h
  refine C_of (by decide +kernel) (Nat.le_of_ble_eq_true rfl) ?_
  refine V_aload_n (i := 0) (sx_di dX3_readAtom 0 rfl) rfl rfl ?_
  refine V_getR (sx_di dX3_readAtom 1 rfl) fX3_9 (fun _ => rfl) (by first | exact H.1.k _ rfl | exact H1.1.k _ rfl | exact H2.1.k _ rfl | exact H3.1.k _ rfl | exact H4.1.k _ rfl | exact H5.1.k _ rfl) (by first | exact H.1.r _ _ rfl | exact H1.1.r _ _ rfl | exact H2.1.r _ _ rfl | exact H3.1.r _ _ rfl | exact H4.1.r _ _ rfl | exact H5.1.r _ _ rfl | exact H.2.2.1 | exact H1.2.2.1 | exact H2.2.2.1 | exact H3.2.2.1 | exact H4.2.2.1 | exact H5.2.2.1) ?_
  refine V_cV0 (mc' := 0) (ms' := 0) (M' := mX10_sign) 1 (sx_di dX3_readAtom 2 rfl) lX3_34 vX10_sign (by first | exact H.1.k _ rfl | exact H1.1.k _ rfl | exact H2.1.k _ rfl | exact H3.1.k _ rfl | exact H4.1.k _ rfl | exact H5.1.k _ rfl) (by decide) rfl (Nat.le_of_ble_eq_true rfl) ⟨by show 1 + 1 ≤ D + 1; omega, by show 64 + 64 * (1) ≤ 64 * (D + 1); omega⟩ ⟨Nat.le_refl _, Nat.le_refl _⟩ ?_
  refine c_sign9 (by omega) H hp (fun w1 H1 f1 x1 => ?_)
  refine V_istore_n (i := 2) (sx_di dX3_readAtom 3 rfl) rfl (by decide) (rfl) ?_
  refine V_sub (ls' := [(2, .int (cz_ T p)), (1, .int (nI d)), (0, .ref 52)]) ⟨rfl, rfl, rfl, trivial⟩ ?_
  refine V_iload_n (i := 2) (sx_di dX3_readAtom 4 rfl) rfl rfl ?_
  refine V_bipush (v := 91) (sx_di dX3_readAtom 5 rfl) (by decide) ?_
  refine V_icmp_ne (tgt := 74) (sx_di dX3_readAtom 6 rfl) (by decide) (fun h11 => ?_) (fun h11 => ?_)
  · rw [if_neg h11] at h
    refine V_iconst (v := 0) (sx_di dX3_readAtom 41 rfl) (by decide) ?_
    refine V_istore_n (i := 3) (sx_di dX3_readAtom 42 rfl) rfl (by decide) (rfl) ?_
    refine V_sub (ls' := [(3, .int (nI 0)), (2, .int (cz_ T p)), (0, .ref 52)]) ⟨rfl, rfl, rfl, trivial⟩ ?_
    refine ra_lp hX hk hD H1 (x1 X hx) ?_ ?_ ?_ 6 0 (by omega) (fun j hj => absurd hj (by omega))
    · intro z
      have := cz_lt (T := T) (p := p) (fun q => z (by rw [q]; exact lt9_m1))
      omega
    · intro z w2 H2 f2 x2
      rw [if_neg z] at h
      exact h w2 H2 (fL_tr f1 f2) (fun _ => x2)
    · intro z
      rw [if_pos z] at h
      have n3 := rn_go (mx := 4) g2
      refine V_aload_n (i := 0) (sx_di dX3_readAtom 69 rfl) rfl rfl ?_
      refine V_getR (sx_di dX3_readAtom 70 rfl) fX3_9 (fun _ => rfl) (by first | exact H.1.k _ rfl | exact H1.1.k _ rfl | exact H2.1.k _ rfl | exact H3.1.k _ rfl | exact H4.1.k _ rfl | exact H5.1.k _ rfl) (by first | exact H1.1.r _ _ rfl | exact H2.1.r _ _ rfl | exact H3.1.r _ _ rfl | exact H1.2.2.1 | exact H2.2.2.1 | exact H3.2.2.1) ?_
      refine V_iconst (v := 4) (sx_di dX3_readAtom 71 rfl) (by decide) ?_
      refine V_cV1 (mc' := 0) (ms' := 0) (M' := mX10_readNumber) 1 (sx_di dX3_readAtom 72 rfl) lX3_80 vX10_readNumber (by first | exact H.1.k _ rfl | exact H1.1.k _ rfl | exact H2.1.k _ rfl | exact H3.1.k _ rfl | exact H4.1.k _ rfl | exact H5.1.k _ rfl) (by decide) rfl (Nat.le_of_ble_eq_true rfl) ⟨by show 1 + 1 ≤ D + 1; omega, by show 64 + 64 * (1) ≤ 64 * (D + 1); omega⟩ ⟨Nat.le_refl _, Nat.le_refl _⟩ ?_
      refine c_num9 (mx := 4) (by omega) H1 g2 (by decide) (fun w2 H2 f2 x2 n2 => ?_)
      refine V_if_ne (tgt := 139) (sx_di dX3_readAtom 73 rfl) (by decide) (fun h134 => ?_) (fun h134 => ?_)
      · have b134 := bz9t h134
        rw [if_pos b134] at h
        refine V_aload_n (i := 0) (sx_di dX3_readAtom 76 rfl) rfl rfl ?_
        refine V_getR (sx_di dX3_readAtom 77 rfl) fX3_15 (fun _ => rfl) (by first | exact H.1.k _ rfl | exact H1.1.k _ rfl | exact H2.1.k _ rfl | exact H3.1.k _ rfl | exact H4.1.k _ rfl | exact H5.1.k _ rfl) (by first | exact H1.1.r _ _ rfl | exact H2.1.r _ _ rfl | exact H3.1.r _ _ rfl | exact H1.2.2.1 | exact H2.2.2.1 | exact H3.2.2.1) ?_
        refine V_aload_n (i := 0) (sx_di dX3_readAtom 78 rfl) rfl rfl ?_
        refine V_getR (sx_di dX3_readAtom 79 rfl) fX3_9 (fun _ => rfl) (by first | exact H.1.k _ rfl | exact H1.1.k _ rfl | exact H2.1.k _ rfl | exact H3.1.k _ rfl | exact H4.1.k _ rfl | exact H5.1.k _ rfl) (by first | exact H1.1.r _ _ rfl | exact H2.1.r _ _ rfl | exact H3.1.r _ _ rfl | exact H1.2.2.1 | exact H2.2.2.1 | exact H3.2.2.1) ?_
        refine V_getI (sx_di dX3_readAtom 80 rfl) fX3_83 (fun _ => rfl) (by first | exact H.1.k _ rfl | exact H1.1.k _ rfl | exact H2.1.k _ rfl | exact H3.1.k _ rfl | exact H4.1.k _ rfl | exact H5.1.k _ rfl) ?_
        refine V_iv (y := (rn_ T 4 (skp_ T p)).2.2) (n2) ?_
        refine V_cV1 (mc' := 0) (ms' := 0) (M' := mX1_add) 1 (sx_di dX3_readAtom 81 rfl) lX3_58 vX1_add ((lw_law H2.1 hk).1) (by decide) rfl (Nat.le_of_ble_eq_true rfl) ⟨by show 1 + 1 ≤ D + 1; omega, by show 64 + 64 * (1) ≤ 64 * (D + 1); omega⟩ ⟨Nat.le_refl _, Nat.le_refl _⟩ ?_
        refine c_add9 hk H2 (x2 X (x1 X hx)) (by have := n3.2.2 b134; omega) (fun w3 H3 f3 x3 => ?_)
        refine V_iconst (v := 1) (sx_di dX3_readAtom 82 rfl) (by decide) ?_
        refine V_zret (sx_di dX3_readAtom 83 rfl) rfl (by first | rfl | decide) (Nat.le_refl _) (Nat.le_refl _) ?_
        exact h w3 H3 (fL_tr f1 (fL_tr f2 f3)) (fun _ => x3)
      · rw [if_neg (bz9f h134)] at h
        refine V_iconst (v := 0) (sx_di dX3_readAtom 74 rfl) (by decide) ?_
        refine V_zret (sx_di dX3_readAtom 75 rfl) rfl (by first | rfl | decide) (Nat.le_refl _) (Nat.le_refl _) ?_
        exact h w2 H2 (fL_tr f1 f2) (fun z => absurd z Bool.false_ne_true)
  · rw [if_pos h11] at h
    have hq1 := cz_p1 h11 (by decide)
    refine V_iload_n (i := 1) (sx_di dX3_readAtom 7 rfl) rfl rfl ?_
    refine V_bipush (v := 6) (sx_di dX3_readAtom 8 rfl) (by decide) ?_
    refine V_icN_lt (a := d) (b := 6) (rfl) (rfl) (by omega) (by omega) (tgt := 22) (sx_di dX3_readAtom 9 rfl) (by decide) (fun h17 => ?_) (fun h17 => ?_)
    · rw [if_neg (show ¬ r = 0 by omega)] at h
      have hin2 := hin.resolve_left (by omega)
      have hg2 := (hg.resolve_left (by omega)) _ hq1
      unfold clo_ at h
      refine V_aload_n (i := 0) (sx_di dX3_readAtom 12 rfl) rfl rfl ?_
      refine V_getR (sx_di dX3_readAtom 13 rfl) fX3_9 (fun _ => rfl) (by first | exact H.1.k _ rfl | exact H1.1.k _ rfl | exact H2.1.k _ rfl | exact H3.1.k _ rfl | exact H4.1.k _ rfl | exact H5.1.k _ rfl) (by first | exact H.1.r _ _ rfl | exact H1.1.r _ _ rfl | exact H2.1.r _ _ rfl | exact H3.1.r _ _ rfl | exact H4.1.r _ _ rfl | exact H5.1.r _ _ rfl | exact H.2.2.1 | exact H1.2.2.1 | exact H2.2.2.1 | exact H3.2.2.1 | exact H4.2.2.1 | exact H5.2.2.1) ?_
      refine V_dup (sx_di dX3_readAtom 14 rfl) rfl ?_
      refine V_getI (sx_di dX3_readAtom 15 rfl) fX3_24 (fun _ => rfl) (by first | exact H.1.k _ rfl | exact H1.1.k _ rfl | exact H2.1.k _ rfl | exact H3.1.k _ rfl | exact H4.1.k _ rfl | exact H5.1.k _ rfl) ?_
      refine V_iv (y := nI (skp_ T p)) (H1.2.2.2) ?_
      refine V_iconst (v := 1) (sx_di dX3_readAtom 16 rfl) (by decide) ?_
      refine V_iadd (sx_di dX3_readAtom 17 rfl) ?_
      refine V_iv (y := nI (skp_ T p + 1)) (nI_add _ 1) ?_
      refine V_putI (sx_di dX3_readAtom 18 rfl) fX3_24 (fun _ => rfl) rfl (by first | exact H.1.k _ rfl | exact H1.1.k _ rfl | exact H2.1.k _ rfl | exact H3.1.k _ rfl | exact H4.1.k _ rfl | exact H5.1.k _ rfl) (rfl) (rfl) ?_
      refine V_hd9 (by omega) H1 (fun w2 H2 f2 x2 => ?_)
      refine V_aload_n (i := 0) (sx_di dX3_readAtom 19 rfl) rfl rfl ?_
      refine V_iload_n (i := 1) (sx_di dX3_readAtom 20 rfl) rfl rfl ?_
      refine V_iconst (v := 1) (sx_di dX3_readAtom 21 rfl) (by decide) ?_
      refine V_iadd (sx_di dX3_readAtom 22 rfl) ?_
      refine V_iv (y := nI (d + 1)) (nI_add d 1) ?_
      refine V_cV1 (mc' := 0) (ms' := 0) (M' := mX3_readSum) D (sx_di dX3_readAtom 23 rfl) lX3_41 vX3_readSum (by first | exact H.1.k _ rfl | exact H1.1.k _ rfl | exact H2.1.k _ rfl | exact H3.1.k _ rfl | exact H4.1.k _ rfl | exact H5.1.k _ rfl) (by decide) rfl (Nat.le_of_ble_eq_true rfl) ⟨by show D + 1 ≤ D + 1; omega, by show 64 + 64 * (D) ≤ 64 * (D + 1); omega⟩ ⟨Nat.le_refl _, Nat.le_refl _⟩ ?_
      refine hin2 X (skp_ T p + 1) w2 _ H2 (x2 X (x1 X hx)) (by omega) hq1 (fun w3 H3 f3 x3 => ?_)
      refine V_if_eq (tgt := 57) (sx_di dX3_readAtom 24 rfl) (by decide) (fun h42 => ?_) (fun h42 => ?_)
      · rw [if_neg (bz9f h42)] at h
        refine V_iconst (v := 0) (sx_di dX3_readAtom 30 rfl) (by decide) ?_
        refine V_zret (sx_di dX3_readAtom 31 rfl) rfl (by first | rfl | decide) (Nat.le_refl _) (Nat.le_refl _) ?_
        exact h w3 H3 (fL_tr f1 (fL_tr f2 f3)) (fun z => absurd z Bool.false_ne_true)
      · have b42 := bz9t h42
        rw [if_pos b42] at h
        have g3 := skp_ge T (f (skp_ T p + 1)).2.2
        refine V_aload_n (i := 0) (sx_di dX3_readAtom 25 rfl) rfl rfl ?_
        refine V_getR (sx_di dX3_readAtom 26 rfl) fX3_9 (fun _ => rfl) (by first | exact H.1.k _ rfl | exact H1.1.k _ rfl | exact H2.1.k _ rfl | exact H3.1.k _ rfl | exact H4.1.k _ rfl | exact H5.1.k _ rfl) (by first | exact H.1.r _ _ rfl | exact H1.1.r _ _ rfl | exact H2.1.r _ _ rfl | exact H3.1.r _ _ rfl | exact H4.1.r _ _ rfl | exact H5.1.r _ _ rfl | exact H.2.2.1 | exact H1.2.2.1 | exact H2.2.2.1 | exact H3.2.2.1 | exact H4.2.2.1 | exact H5.2.2.1) ?_
        refine V_cV0 (mc' := 0) (ms' := 0) (M' := mX10_sign) 1 (sx_di dX3_readAtom 27 rfl) lX3_34 vX10_sign (by first | exact H.1.k _ rfl | exact H1.1.k _ rfl | exact H2.1.k _ rfl | exact H3.1.k _ rfl | exact H4.1.k _ rfl | exact H5.1.k _ rfl) (by decide) rfl (Nat.le_of_ble_eq_true rfl) ⟨by show 1 + 1 ≤ D + 1; omega, by show 64 + 64 * (1) ≤ 64 * (D + 1); omega⟩ ⟨Nat.le_refl _, Nat.le_refl _⟩ ?_
        refine c_sign9 (by omega) H3 (by omega) (fun w4 H4 f4 x4 => ?_)
        refine V_bipush (v := 93) (sx_di dX3_readAtom 28 rfl) (by decide) ?_
        refine V_icmp_eq (tgt := 59) (sx_di dX3_readAtom 29 rfl) (by decide) (fun h54 => ?_) (fun h54 => ?_)
        · rw [if_pos h54] at h
          refine V_aload_n (i := 0) (sx_di dX3_readAtom 32 rfl) rfl rfl ?_
          refine V_getR (sx_di dX3_readAtom 33 rfl) fX3_9 (fun _ => rfl) (by first | exact H.1.k _ rfl | exact H1.1.k _ rfl | exact H2.1.k _ rfl | exact H3.1.k _ rfl | exact H4.1.k _ rfl | exact H5.1.k _ rfl) (by first | exact H.1.r _ _ rfl | exact H1.1.r _ _ rfl | exact H2.1.r _ _ rfl | exact H3.1.r _ _ rfl | exact H4.1.r _ _ rfl | exact H5.1.r _ _ rfl | exact H.2.2.1 | exact H1.2.2.1 | exact H2.2.2.1 | exact H3.2.2.1 | exact H4.2.2.1 | exact H5.2.2.1) ?_
          refine V_dup (sx_di dX3_readAtom 34 rfl) rfl ?_
          refine V_getI (sx_di dX3_readAtom 35 rfl) fX3_24 (fun _ => rfl) (by first | exact H.1.k _ rfl | exact H1.1.k _ rfl | exact H2.1.k _ rfl | exact H3.1.k _ rfl | exact H4.1.k _ rfl | exact H5.1.k _ rfl) ?_
          refine V_iv (y := nI (skp_ T (f (skp_ T p + 1)).2.2)) (H4.2.2.2) ?_
          refine V_iconst (v := 1) (sx_di dX3_readAtom 36 rfl) (by decide) ?_
          refine V_iadd (sx_di dX3_readAtom 37 rfl) ?_
          refine V_iv (y := nI (skp_ T (f (skp_ T p + 1)).2.2 + 1)) (nI_add _ 1) ?_
          refine V_putI (sx_di dX3_readAtom 38 rfl) fX3_24 (fun _ => rfl) rfl (by first | exact H.1.k _ rfl | exact H1.1.k _ rfl | exact H2.1.k _ rfl | exact H3.1.k _ rfl | exact H4.1.k _ rfl | exact H5.1.k _ rfl) (rfl) (rfl) ?_
          refine V_hd9 (by omega) H4 (fun w5 H5 f5 x5 => ?_)
          refine V_iconst (v := 1) (sx_di dX3_readAtom 39 rfl) (by decide) ?_
          refine V_zret (sx_di dX3_readAtom 40 rfl) rfl (by first | rfl | decide) (Nat.le_refl _) (Nat.le_refl _) ?_
          exact h w5 H5 (fL_tr f1 (fL_tr f2 (fL_tr f3 (fL_tr f4 f5)))) (fun _ => x5 _ (x4 _ (x3 b42)))
        · rw [if_neg h54] at h
          refine V_iconst (v := 0) (sx_di dX3_readAtom 30 rfl) (by decide) ?_
          refine V_zret (sx_di dX3_readAtom 31 rfl) rfl (by first | rfl | decide) (Nat.le_refl _) (Nat.le_refl _) ?_
          exact h w4 H4 (fL_tr f1 (fL_tr f2 (fL_tr f3 f4))) (fun z => absurd z Bool.false_ne_true)
    · rw [if_pos (show r = 0 by omega)] at h
      refine V_iconst (v := 0) (sx_di dX3_readAtom 10 rfl) (by decide) ?_
      refine V_zret (sx_di dX3_readAtom 11 rfl) rfl (by first | rfl | decide) (Nat.le_refl _) (Nat.le_refl _) ?_
      exact h w1 H1 f1 (fun z => absurd z Bool.false_ne_true)

/-! rests of a game -/
def rp_ (A : AS) (i j x y : Nat) : Prop := (∀ u, u < 7 → ¬ gv_ A i j x y < gv_ A i j u y) ∧ ∀ u, u < 7 → ¬ gv_ A j i y x < gv_ A j i u x
noncomputable def rl7 (p : Nat → Nat → Prop) (i : Int32) : Nat → Nat → Nat → Int32
  | 0, _, c => if i = -1 then nI c else -1
  | d + 1, z, c => @ite _ (p (z / 7) (z % 7)) (Classical.propDecidable _) (if nI c = i then nI (10 * (z / 7) + z % 7) else rl7 p i d (z + 1) (c + 1)) (rl7 p i d (z + 1) c)
noncomputable def q_rests (A : AS) (x y v : Int32) : Int32 := if (ih_ (a_n A) x = 0 ∨ ih_ (a_n A) y = 0 ∨ x = y) ∨ v < -1 then -1 else rl7 (rp_ A x.toNatClampNeg y.toNatClampNeg) v 49 0 0
def TB7 (A : AS) (i j : Nat) (w : hpW) (z : Nat) : Prop := ∀ x y, x < 7 → y < 7 → 7 * x + y < z → hp_i w 380 (x * 7 + y) = gg_ A i j x y
theorem CR_380 {A : AS} {w : hpW} {b k : Nat} {x : Int32} {m0 r : Nat → Int32} (V : AV A) (hb : 378 ≤ b) (hb2 : b ≤ 380) (H : CR A w) : CR A (hp_si w b k x) ∧ fR w (hp_si w b k x) := by
  have fQ : fr_ w (hp_u (hp_i w) b k x) QT := fun q hq => by
    funext i
    exact hp_u_nk _ _ (fun z => hq (Or.inr (by omega)))
  exact ⟨CR_q0 V fQ H, fR_q0 fQ⟩
theorem AW_380 {A : AS} {w : hpW} {b k : Nat} {x : Int32} {m0 r : Nat → Int32} (hb : 378 ≤ b) (H : AW A w m0 r) : AW A (hp_si w b k x) m0 r := AW_mv (w := w) rfl (fun q q1 q2 => by funext i; exact hp_u_nk _ _ (by omega)) H
set_option maxHeartbeats 2000000 in
set_option maxRecDepth 20000 in
theorem ft_x {E : sxE} {w : hpW} {Q : Option Value → hpW → Prop} {i j x : Nat} (hx : x < 7) (h1 : x + 1 < 7 → V E mX11_fillGameTable (sx_rm 7 0 0) 0 0 0 0 22 [(4, .int (nI 0)), (3, .int (nI (x + 1))), (2, .int (nI j)), (1, .int (nI i)), (0, .ref 16)] [] w Q) (h2 : x + 1 = 7 → Q none w) : V E mX11_fillGameTable (sx_rm 7 0 0) 0 0 0 0 22 [(4, .int (nI 7)), (3, .int (nI x)), (2, .int (nI j)), (1, .int (nI i)), (0, .ref 16)] [] w Q := by
  rw [← nI_1] at h1
  refine V_iload (sx_di dX11_fillGameTable 12 rfl) rfl ?_
  refine V_bipush (v := 7) (sx_di dX11_fillGameTable 13 rfl) (by decide) ?_
  refine V_icN_ge (a := 7) (b := 7) (rfl) (rfl) (by omega) (by omega) (tgt := 55) (sx_di dX11_fillGameTable 14 rfl) (by decide) (fun _ => ?_) (fun h26 => absurd h26 (by omega))
  refine V_inc (c := 1) (sx_di dX11_fillGameTable 30 rfl) (by decide) rfl (by decide) (rfl) ?_
  refine V_goto (tgt := 13) (sx_di dX11_fillGameTable 31 rfl) (by decide) ?_
  refine V_iload_n (i := 3) (sx_di dX11_fillGameTable 7 rfl) rfl rfl ?_
  refine V_bipush (v := 7) (sx_di dX11_fillGameTable 8 rfl) (by decide) ?_
  refine V_icN_ge (a := (x + 1)) (b := 7) (nx_add (rfl) rfl) (rfl) (by omega) (by omega) (tgt := 61) (sx_di dX11_fillGameTable 9 rfl) (by decide) (fun h16 => ?_) (fun h16 => ?_)
  · refine V_vret (sx_di dX11_fillGameTable 32 rfl) rfl (Nat.le_refl _) (Nat.le_refl _) ?_
    exact h2 (by omega)
  · refine V_iconst (v := 0) (sx_di dX11_fillGameTable 10 rfl) (by decide) ?_
    refine V_istore (sx_di dX11_fillGameTable 11 rfl) (by decide) (rfl) ?_
    exact V_subk (h1 (by omega)) ⟨rfl, rfl, rfl, rfl, rfl, trivial⟩
set_option maxHeartbeats 2000000 in
set_option maxRecDepth 20000 in
theorem ft_lp {E : sxE} {A : AS} {w : hpW} {Q : Option Value → hpW → Prop} (VA : AV A) {i j : Nat} (hi : i < a_n A) (hj : j < a_n A) (hij : i ≠ j) {m0 : Nat → Int32} (h : ∀ w', CR A w' → fR w w' → TB7 A i j w' 49 → Q none w') : ∀ d x y w1 p q, 7 * x + y + d = 49 → x < 7 → y < 7 → CR A w1 → fR w w1 → AW A w1 m0 (up_ (up_ (a_r A) (8 + i) p) (8 + j) q) → OKF (a_n A) (a_m A) (up_ (up_ (a_r A) (8 + i) p) (8 + j) q) → TB7 A i j w1 (7 * x + y) → V E mX11_fillGameTable (sx_rm 7 0 0) 0 0 0 0 22 [(4, .int (nI y)), (3, .int (nI x)), (2, .int (nI j)), (1, .int (nI i)), (0, .ref 16)] [] w1 Q := by
  intro d
  have hn8 := VA.2.2.1.1
  induction d with
  | zero =>
    intro x y w1 p q e hx hy
    omega
  | succ d ih =>
    intro x y w1 p q e hx hy H1 f1 hA hO hT
    have hB := H1.1
    refine V_iload (sx_di dX11_fillGameTable 12 rfl) rfl ?_
    refine V_bipush (v := 7) (sx_di dX11_fillGameTable 13 rfl) (by decide) ?_
    refine V_icN_ge (a := y) (b := 7) (rfl) (rfl) (by omega) (by omega) (tgt := 55) (sx_di dX11_fillGameTable 14 rfl) (by decide) (fun h26 => absurd h26 (by omega)) (fun _ => ?_)
    refine V_aload_n (i := 0) (sx_di dX11_fillGameTable 15 rfl) rfl rfl ?_
    refine V_iload_n (i := 3) (sx_di dX11_fillGameTable 16 rfl) rfl rfl ?_
    refine V_bipush (v := 7) (sx_di dX11_fillGameTable 17 rfl) (by decide) ?_
    refine V_imul (sx_di dX11_fillGameTable 18 rfl) ?_
    refine V_iload (sx_di dX11_fillGameTable 19 rfl) rfl ?_
    refine V_iadd (sx_di dX11_fillGameTable 20 rfl) ?_
    refine V_aload_n (i := 0) (sx_di dX11_fillGameTable 21 rfl) rfl rfl ?_
    refine V_iload_n (i := 1) (sx_di dX11_fillGameTable 22 rfl) rfl rfl ?_
    refine V_iload_n (i := 2) (sx_di dX11_fillGameTable 23 rfl) rfl rfl ?_
    refine V_iload_n (i := 3) (sx_di dX11_fillGameTable 24 rfl) rfl rfl ?_
    refine V_iload (sx_di dX11_fillGameTable 25 rfl) rfl ?_
    refine V_cV4 (mc' := 0) (ms' := 0) (M' := mX11_goalOfGame) 6 (sx_di dX11_fillGameTable 26 rfl) lX11_335 vX11_goalOfGame (hB.k _ rfl) (by decide) rfl (Nat.le_of_ble_eq_true rfl) ⟨Nat.le_of_ble_eq_true rfl, Nat.le_of_ble_eq_true rfl⟩ ⟨Nat.le_refl _, Nat.le_refl _⟩ ?_
    refine e_goalOfGame VA H1 hi hj (show x ≤ 6 by omega) (show y ≤ 6 by omega) hA hO (fun w2 H2 f2 t2 hA2 => ?_)
    rw [gu_gu _ hij] at hA2 ⊢
    have hB2 := H2.1
    obtain ⟨H3, f3⟩ := CR_380 (k := x * 7 + y) (x := gg_ A i j x y) (m0 := m0) (r := m0) VA (by omega) (by omega) H2 (b := 380)
    have hA3 := AW_380 (b := 380) (k := x * 7 + y) (x := gg_ A i j x y) (by omega) hA2
    have hT3 : TB7 A i j (hp_si w2 380 (x * 7 + y) (gg_ A i j x y)) (7 * x + y + 1) := fun x2 y2 hx2 hy2 hz => by
      rw [hp_i_si]
      by_cases hc : x2 * 7 + y2 = x * 7 + y
      · rw [if_pos ⟨rfl, hc⟩, show x2 = x by omega, show y2 = y by omega]
      · rw [if_neg (fun q => hc q.2), t2 380 (by omega) (by omega)]; exact hT x2 y2 hx2 hy2 (by omega)
    have hO3 := OKF_gu (i := i) (j := j) (a := x) (b := y) hn8 hi hj (by omega) (by omega) VA.2.2.2.1.1
    have q1 : V E mX11_fillGameTable (sx_rm 7 0 0) 0 0 0 0 22 [(4, .int (nI (y + 1))), (3, .int (nI x)), (2, .int (nI j)), (1, .int (nI i)), (0, .ref 16)] [] (hp_si w2 380 (x * 7 + y) (gg_ A i j x y)) Q := by
      rcases Nat.lt_or_ge (y + 1) 7 with hy7 | hy7
      · exact ih x (y + 1) _ _ _ (by omega) hx hy7 H3 (fR_tr f1 (fR_tr f2 f3)) hA3 hO3 hT3
      · rw [show y + 1 = 7 by omega]
        refine ft_x hx (fun hx7 => ?_) (fun hx7 => ?_)
        · exact ih (x + 1) 0 _ _ _ (by omega) hx7 (by omega) H3 (fR_tr f1 (fR_tr f2 f3)) hA3 hO3 (by rw [show 7 * (x + 1) + 0 = 7 * x + y + 1 by omega]; exact hT3)
        · exact h _ H3 (fR_tr f1 (fR_tr f2 f3)) (by rw [show 49 = 7 * x + y + 1 by omega]; exact hT3)
    rw [← nI_1] at q1
    refine V_cV2 (mc' := 0) (ms' := 0) (M' := mX11_enter) 1 (sx_di dX11_fillGameTable 27 rfl) lX11_311 vX11_enter (hB2.k _ rfl) (by decide) rfl (Nat.le_of_ble_eq_true rfl) ⟨Nat.le_of_ble_eq_true rfl, Nat.le_of_ble_eq_true rfl⟩ ⟨Nat.le_refl _, Nat.le_refl _⟩ ?_
    refine c_X11_enterN (j := ((x * 7) + y)) (hB2.k _ rfl) (hB2.r _ _ rfl) (hB2.k _ rfl) (nx_add (nx_mul (rfl) (rfl)) (rfl)) (by omega) ?_
    refine V_inc (c := 1) (sx_di dX11_fillGameTable 28 rfl) (by decide) rfl (by decide) (rfl) ?_
    refine V_goto (tgt := 22) (sx_di dX11_fillGameTable 29 rfl) (by decide) ?_
    exact V_subk q1 ⟨rfl, rfl, rfl, rfl, rfl, trivial⟩
set_option maxHeartbeats 2000000 in
set_option maxRecDepth 20000 in
theorem e_fillGame {E : sxE} {A : AS} {w : hpW} {Q : Option Value → hpW → Prop} (VA : AV A) (H : CR A w) {i j : Nat} (hi : i < a_n A) (hj : j < a_n A) (hij : i ≠ j) (h : ∀ w', CR A w' → fR w w' → TB7 A i j w' 49 → Q none w') : sx_C E mX11_fillGameTable 7 0 0 [.ref 16, .int (nI i), .int (nI j)] w Q := by
  have hB := H.1
  refine C_of (by decide +kernel) (Nat.le_of_ble_eq_true rfl) ?_
  refine V_aload_n (i := 0) (sx_di dX11_fillGameTable 0 rfl) rfl rfl ?_
  refine V_getR (sx_di dX11_fillGameTable 1 rfl) fX11_64 (fun _ => rfl) (hB.k _ rfl) (hB.r _ _ rfl) ?_
  refine V_aload_n (i := 0) (sx_di dX11_fillGameTable 2 rfl) rfl rfl ?_
  refine V_getR (sx_di dX11_fillGameTable 3 rfl) fX11_60 (fun _ => rfl) (hB.k _ rfl) (hB.r _ _ rfl) ?_
  refine V_cV1 (mc' := 0) (ms' := 0) (M' := mX7_copyFrom) 2 (sx_di dX11_fillGameTable 4 rfl) lX11_293 vX7_copyFrom (hB.k _ rfl) (by decide) rfl (Nat.le_of_ble_eq_true rfl) ⟨Nat.le_of_ble_eq_true rfl, Nat.le_of_ble_eq_true rfl⟩ ⟨Nat.le_refl _, Nat.le_refl _⟩ ?_
  refine k_copyFrom VA H (by omega) (fun w2 H2 f2 _ hA2 => ?_)
  refine V_iconst (v := 0) (sx_di dX11_fillGameTable 5 rfl) (by decide) ?_
  refine V_istore_n (i := 3) (sx_di dX11_fillGameTable 6 rfl) rfl (by decide) (rfl) ?_
  refine V_iload_n (i := 3) (sx_di dX11_fillGameTable 7 rfl) rfl rfl ?_
  refine V_bipush (v := 7) (sx_di dX11_fillGameTable 8 rfl) (by decide) ?_
  refine V_icN_ge (a := 0) (b := 7) (rfl) (rfl) (by omega) (by omega) (tgt := 61) (sx_di dX11_fillGameTable 9 rfl) (by decide) (fun h16 => absurd h16 (by omega)) (fun _ => ?_)
  refine V_iconst (v := 0) (sx_di dX11_fillGameTable 10 rfl) (by decide) ?_
  refine V_istore (sx_di dX11_fillGameTable 11 rfl) (by decide) (rfl) ?_
  refine V_sub (ls' := [(4, .int (nI 0)), (3, .int (nI 0)), (2, .int (nI j)), (1, .int (nI i)), (0, .ref 16)]) ⟨rfl, rfl, rfl, rfl, rfl, trivial⟩ ?_
  exact ft_lp VA hi hj hij h 49 0 0 w2 (a_r A (8 + i)) (a_r A (8 + j)) (by omega) (by omega) (by omega) H2 f2 (by rw [up_id, up_id]; exact hA2) (by rw [up_id, up_id]; exact VA.2.2.2.1.1) (fun x y _ _ hz => absurd hz (by omega))
set_option maxHeartbeats 2000000 in
set_option maxRecDepth 20000 in
theorem b_isBestForOne {E : sxE} {A : AS} {w : hpW} {Q : Option Value → hpW → Prop} (hB : ly_B w) {i j x y : Nat} (hi : i < 8) (hj : j < 8) (hij : i ≠ j) (hx : x < 7) (hy : y < 7) (hT : TB7 A i j w 49) (h1 : (∀ u, u < 7 → ¬ gv_ A i j x y < gv_ A i j u y) → Q (some (.int 1)) w) (h0 : ¬ (∀ u, u < 7 → ¬ gv_ A i j x y < gv_ A i j u y) → Q (some (.int 0)) w) : ∀ d u, u + d = 7 → (∀ v, v < u → ¬ gv_ A i j x y < gv_ A i j v y) → V E mX11_isBestForOne (sx_rm 3 0 0) 0 0 0 0 28 [(5, .int (nI u)), (4, .int (gv_ A i j x y)), (3, .int (nI y)), (2, .int (nI x)), (1, .int (nI i)), (0, .ref 16)] [] w Q := by
  intro d
  induction d with
  | zero =>
    intro u hu hv
    have e : u = 7 := by omega
    subst e
    refine V_iload (sx_di dX11_isBestForOne 17 rfl) rfl ?_
    refine V_bipush (v := 7) (sx_di dX11_isBestForOne 18 rfl) (by decide) ?_
    refine V_icN_ge (a := 7) (b := 7) (rfl) (rfl) (by omega) (by omega) (tgt := 73) (sx_di dX11_isBestForOne 19 rfl) (by decide) (fun _ => ?_) (fun h32 => absurd h32 (by omega))
    refine V_iconst (v := 1) (sx_di dX11_isBestForOne 40 rfl) (by decide) ?_
    refine V_zret (sx_di dX11_isBestForOne 41 rfl) rfl (by first | rfl | decide) (Nat.le_refl _) (Nat.le_refl _) ?_
    exact h1 hv
  | succ d ih =>
    intro u hu hv
    have et : hp_i w 380 (u * 7 + y) = gg_ A i j u y := hT u y (by omega) hy (by omega)
    refine V_iload (sx_di dX11_isBestForOne 17 rfl) rfl ?_
    refine V_bipush (v := 7) (sx_di dX11_isBestForOne 18 rfl) (by decide) ?_
    refine V_icN_ge (a := u) (b := 7) (rfl) (rfl) (by omega) (by omega) (tgt := 73) (sx_di dX11_isBestForOne 19 rfl) (by decide) (fun h32 => absurd h32 (by omega)) (fun _ => ?_)
    refine V_aload_n (i := 0) (sx_di dX11_isBestForOne 20 rfl) rfl rfl ?_
    refine V_iload (sx_di dX11_isBestForOne 21 rfl) rfl ?_
    refine V_bipush (v := 7) (sx_di dX11_isBestForOne 22 rfl) (by decide) ?_
    refine V_imul (sx_di dX11_isBestForOne 23 rfl) ?_
    refine V_iload_n (i := 3) (sx_di dX11_isBestForOne 24 rfl) rfl rfl ?_
    refine V_iadd (sx_di dX11_isBestForOne 25 rfl) ?_
    refine V_cV1 (mc' := 0) (ms' := 0) (M' := mX11_entry) 1 (sx_di dX11_isBestForOne 26 rfl) lX11_315 vX11_entry (hB.k _ rfl) (by decide) rfl (Nat.le_of_ble_eq_true rfl) ⟨Nat.le_of_ble_eq_true rfl, Nat.le_of_ble_eq_true rfl⟩ ⟨Nat.le_refl _, Nat.le_refl _⟩ ?_
    refine c_X11_entryN (j := ((u * 7) + y)) (hB.k _ rfl) (hB.r _ _ rfl) (hB.k _ rfl) (nx_add (nx_mul (rfl) (rfl)) (rfl)) (by omega) ?_
    refine V_iv (y := gg_ A i j u y) (et) ?_
    refine V_iload_n (i := 1) (sx_di dX11_isBestForOne 27 rfl) rfl rfl ?_
    refine V_icmp_ne (tgt := 54) (sx_di dX11_isBestForOne 28 rfl) (by decide) (fun h47 => ?_) (fun h47 => ?_)
    · refine V_iconst (v := 0) (sx_di dX11_isBestForOne 31 rfl) (by decide) ?_
      refine V_iload (sx_di dX11_isBestForOne 32 rfl) rfl ?_
      refine V_cS2 (mc' := 0) (ms' := 0) (M' := mX11_gain) 2 (sx_di dX11_isBestForOne 33 rfl) lX11_339 vX11_gain (Nat.le_of_ble_eq_true rfl) ⟨Nat.le_of_ble_eq_true rfl, Nat.le_of_ble_eq_true rfl⟩ ⟨Nat.le_refl _, Nat.le_refl _⟩ ?_
      refine c_X11_gain (c := 0) (Or.inl rfl) ?_
      refine V_iv (y := gv_ A i j u y) (by rw [gv_, gn_, if_neg h47]; rfl) ?_
      refine V_iload (sx_di dX11_isBestForOne 34 rfl) rfl ?_
      refine V_icmp_le (tgt := 67) (sx_di dX11_isBestForOne 35 rfl) (by decide) (fun h62 => ?_) (fun h62 => ?_)
      · have q1 := ih (u + 1) (by omega) (fun v hv2 => by
            rcases Nat.lt_or_ge v u with z | z
            · exact hv v z
            · rw [show v = u by omega]; exact Int32.not_lt.mpr h62)
        rw [← nI_1] at q1
        refine V_inc (c := 1) (sx_di dX11_isBestForOne 38 rfl) (by decide) rfl (by decide) (rfl) ?_
        refine V_goto (tgt := 28) (sx_di dX11_isBestForOne 39 rfl) (by decide) ?_
        exact V_subk q1 ⟨rfl, rfl, rfl, rfl, rfl, rfl, trivial⟩
      · refine V_iconst (v := 0) (sx_di dX11_isBestForOne 36 rfl) (by decide) ?_
        refine V_zret (sx_di dX11_isBestForOne 37 rfl) rfl (by first | rfl | decide) (Nat.le_refl _) (Nat.le_refl _) ?_
        exact h0 (fun z => z u (by omega) (Int32.not_le.mp h62))
    · refine V_iconst (v := 1) (sx_di dX11_isBestForOne 29 rfl) (by decide) ?_
      refine V_goto (tgt := 55) (sx_di dX11_isBestForOne 30 rfl) (by decide) ?_
      refine V_iload (sx_di dX11_isBestForOne 32 rfl) rfl ?_
      refine V_cS2 (mc' := 0) (ms' := 0) (M' := mX11_gain) 2 (sx_di dX11_isBestForOne 33 rfl) lX11_339 vX11_gain (Nat.le_of_ble_eq_true rfl) ⟨Nat.le_of_ble_eq_true rfl, Nat.le_of_ble_eq_true rfl⟩ ⟨Nat.le_refl _, Nat.le_refl _⟩ ?_
      refine c_X11_gain (c := 1) (Or.inr rfl) ?_
      refine V_iv (y := gv_ A i j u y) (by rw [gv_, gn_, if_pos h47]; rfl) ?_
      refine V_iload (sx_di dX11_isBestForOne 34 rfl) rfl ?_
      refine V_icmp_le (tgt := 67) (sx_di dX11_isBestForOne 35 rfl) (by decide) (fun h62 => ?_) (fun h62 => ?_)
      · have q1 := ih (u + 1) (by omega) (fun v hv2 => by
            rcases Nat.lt_or_ge v u with z | z
            · exact hv v z
            · rw [show v = u by omega]; exact Int32.not_lt.mpr h62)
        rw [← nI_1] at q1
        refine V_inc (c := 1) (sx_di dX11_isBestForOne 38 rfl) (by decide) rfl (by decide) (rfl) ?_
        refine V_goto (tgt := 28) (sx_di dX11_isBestForOne 39 rfl) (by decide) ?_
        exact V_subk q1 ⟨rfl, rfl, rfl, rfl, rfl, rfl, trivial⟩
      · refine V_iconst (v := 0) (sx_di dX11_isBestForOne 36 rfl) (by decide) ?_
        refine V_zret (sx_di dX11_isBestForOne 37 rfl) rfl (by first | rfl | decide) (Nat.le_refl _) (Nat.le_refl _) ?_
        exact h0 (fun z => z u (by omega) (Int32.not_le.mp h62))
set_option maxHeartbeats 2000000 in
set_option maxRecDepth 20000 in
theorem e_isBestForOne {E : sxE} {A : AS} {w : hpW} {Q : Option Value → hpW → Prop} (hB : ly_B w) {i j x y : Nat} (hi : i < 8) (hj : j < 8) (hij : i ≠ j) (hx : x < 7) (hy : y < 7) (hT : TB7 A i j w 49) (h1 : (∀ u, u < 7 → ¬ gv_ A i j x y < gv_ A i j u y) → Q (some (.int 1)) w) (h0 : ¬ (∀ u, u < 7 → ¬ gv_ A i j x y < gv_ A i j u y) → Q (some (.int 0)) w) : sx_C E mX11_isBestForOne 3 0 0 [.ref 16, .int (nI i), .int (nI x), .int (nI y)] w Q := by
  have et : hp_i w 380 (x * 7 + y) = gg_ A i j x y := hT x y hx hy (by omega)
  refine C_of (by decide +kernel) (Nat.le_of_ble_eq_true rfl) ?_
  refine V_aload_n (i := 0) (sx_di dX11_isBestForOne 0 rfl) rfl rfl ?_
  refine V_iload_n (i := 2) (sx_di dX11_isBestForOne 1 rfl) rfl rfl ?_
  refine V_bipush (v := 7) (sx_di dX11_isBestForOne 2 rfl) (by decide) ?_
  refine V_imul (sx_di dX11_isBestForOne 3 rfl) ?_
  refine V_iload_n (i := 3) (sx_di dX11_isBestForOne 4 rfl) rfl rfl ?_
  refine V_iadd (sx_di dX11_isBestForOne 5 rfl) ?_
  refine V_cV1 (mc' := 0) (ms' := 0) (M' := mX11_entry) 1 (sx_di dX11_isBestForOne 6 rfl) lX11_315 vX11_entry (hB.k _ rfl) (by decide) rfl (Nat.le_of_ble_eq_true rfl) ⟨Nat.le_of_ble_eq_true rfl, Nat.le_of_ble_eq_true rfl⟩ ⟨Nat.le_refl _, Nat.le_refl _⟩ ?_
  refine c_X11_entryN (j := ((x * 7) + y)) (hB.k _ rfl) (hB.r _ _ rfl) (hB.k _ rfl) (nx_add (nx_mul (rfl) (rfl)) (rfl)) (by omega) ?_
  refine V_iv (y := gg_ A i j x y) (et) ?_
  refine V_iload_n (i := 1) (sx_di dX11_isBestForOne 7 rfl) rfl rfl ?_
  refine V_icmp_ne (tgt := 18) (sx_di dX11_isBestForOne 8 rfl) (by decide) (fun h11 => ?_) (fun h11 => ?_)
  · refine V_iconst (v := 0) (sx_di dX11_isBestForOne 11 rfl) (by decide) ?_
    refine V_iload_n (i := 2) (sx_di dX11_isBestForOne 12 rfl) rfl rfl ?_
    refine V_cS2 (mc' := 0) (ms' := 0) (M' := mX11_gain) 2 (sx_di dX11_isBestForOne 13 rfl) lX11_339 vX11_gain (Nat.le_of_ble_eq_true rfl) ⟨Nat.le_of_ble_eq_true rfl, Nat.le_of_ble_eq_true rfl⟩ ⟨Nat.le_refl _, Nat.le_refl _⟩ ?_
    refine c_X11_gain (c := 0) (Or.inl rfl) ?_
    refine V_iv (y := gv_ A i j x y) (by rw [gv_, gn_, if_neg h11]; rfl) ?_
    refine V_istore (sx_di dX11_isBestForOne 14 rfl) (by decide) (rfl) ?_
    refine V_iconst (v := 0) (sx_di dX11_isBestForOne 15 rfl) (by decide) ?_
    refine V_istore (sx_di dX11_isBestForOne 16 rfl) (by decide) (rfl) ?_
    refine V_sub (ls' := [(5, .int (nI 0)), (4, .int (gv_ A i j x y)), (3, .int (nI y)), (2, .int (nI x)), (1, .int (nI i)), (0, .ref 16)]) ⟨rfl, rfl, rfl, rfl, rfl, rfl, trivial⟩ ?_
    exact b_isBestForOne hB hi hj hij hx hy hT h1 h0 7 0 (by omega) (fun v hv => absurd hv (by omega))
  · refine V_iconst (v := 1) (sx_di dX11_isBestForOne 9 rfl) (by decide) ?_
    refine V_goto (tgt := 19) (sx_di dX11_isBestForOne 10 rfl) (by decide) ?_
    refine V_iload_n (i := 2) (sx_di dX11_isBestForOne 12 rfl) rfl rfl ?_
    refine V_cS2 (mc' := 0) (ms' := 0) (M' := mX11_gain) 2 (sx_di dX11_isBestForOne 13 rfl) lX11_339 vX11_gain (Nat.le_of_ble_eq_true rfl) ⟨Nat.le_of_ble_eq_true rfl, Nat.le_of_ble_eq_true rfl⟩ ⟨Nat.le_refl _, Nat.le_refl _⟩ ?_
    refine c_X11_gain (c := 1) (Or.inr rfl) ?_
    refine V_iv (y := gv_ A i j x y) (by rw [gv_, gn_, if_pos h11]; rfl) ?_
    refine V_istore (sx_di dX11_isBestForOne 14 rfl) (by decide) (rfl) ?_
    refine V_iconst (v := 0) (sx_di dX11_isBestForOne 15 rfl) (by decide) ?_
    refine V_istore (sx_di dX11_isBestForOne 16 rfl) (by decide) (rfl) ?_
    refine V_sub (ls' := [(5, .int (nI 0)), (4, .int (gv_ A i j x y)), (3, .int (nI y)), (2, .int (nI x)), (1, .int (nI i)), (0, .ref 16)]) ⟨rfl, rfl, rfl, rfl, rfl, rfl, trivial⟩ ?_
    exact b_isBestForOne hB hi hj hij hx hy hT h1 h0 7 0 (by omega) (fun v hv => absurd hv (by omega))
set_option maxHeartbeats 2000000 in
set_option maxRecDepth 20000 in
theorem b_isBestForOther {E : sxE} {A : AS} {w : hpW} {Q : Option Value → hpW → Prop} (hB : ly_B w) {i j x y : Nat} (hi : i < 8) (hj : j < 8) (hij : i ≠ j) (hx : x < 7) (hy : y < 7) (hT : TB7 A i j w 49) (h1 : (∀ u, u < 7 → ¬ gv_ A j i y x < gv_ A j i u x) → Q (some (.int 1)) w) (h0 : ¬ (∀ u, u < 7 → ¬ gv_ A j i y x < gv_ A j i u x) → Q (some (.int 0)) w) : ∀ d u, u + d = 7 → (∀ v, v < u → ¬ gv_ A j i y x < gv_ A j i v x) → V E mX11_isBestForOther (sx_rm 3 0 0) 0 0 0 0 28 [(5, .int (nI u)), (4, .int (gv_ A j i y x)), (3, .int (nI y)), (2, .int (nI x)), (1, .int (nI j)), (0, .ref 16)] [] w Q := by
  intro d
  induction d with
  | zero =>
    intro u hu hv
    have e : u = 7 := by omega
    subst e
    refine V_iload (sx_di dX11_isBestForOther 17 rfl) rfl ?_
    refine V_bipush (v := 7) (sx_di dX11_isBestForOther 18 rfl) (by decide) ?_
    refine V_icN_ge (a := 7) (b := 7) (rfl) (rfl) (by omega) (by omega) (tgt := 73) (sx_di dX11_isBestForOther 19 rfl) (by decide) (fun _ => ?_) (fun h32 => absurd h32 (by omega))
    refine V_iconst (v := 1) (sx_di dX11_isBestForOther 40 rfl) (by decide) ?_
    refine V_zret (sx_di dX11_isBestForOther 41 rfl) rfl (by first | rfl | decide) (Nat.le_refl _) (Nat.le_refl _) ?_
    exact h1 hv
  | succ d ih =>
    intro u hu hv
    have et : hp_i w 380 (x * 7 + u) = gg_ A i j x u := hT x u hx (by omega) (by omega)
    refine V_iload (sx_di dX11_isBestForOther 17 rfl) rfl ?_
    refine V_bipush (v := 7) (sx_di dX11_isBestForOther 18 rfl) (by decide) ?_
    refine V_icN_ge (a := u) (b := 7) (rfl) (rfl) (by omega) (by omega) (tgt := 73) (sx_di dX11_isBestForOther 19 rfl) (by decide) (fun h32 => absurd h32 (by omega)) (fun _ => ?_)
    refine V_aload_n (i := 0) (sx_di dX11_isBestForOther 20 rfl) rfl rfl ?_
    refine V_iload_n (i := 2) (sx_di dX11_isBestForOther 21 rfl) rfl rfl ?_
    refine V_bipush (v := 7) (sx_di dX11_isBestForOther 22 rfl) (by decide) ?_
    refine V_imul (sx_di dX11_isBestForOther 23 rfl) ?_
    refine V_iload (sx_di dX11_isBestForOther 24 rfl) rfl ?_
    refine V_iadd (sx_di dX11_isBestForOther 25 rfl) ?_
    refine V_cV1 (mc' := 0) (ms' := 0) (M' := mX11_entry) 1 (sx_di dX11_isBestForOther 26 rfl) lX11_315 vX11_entry (hB.k _ rfl) (by decide) rfl (Nat.le_of_ble_eq_true rfl) ⟨Nat.le_of_ble_eq_true rfl, Nat.le_of_ble_eq_true rfl⟩ ⟨Nat.le_refl _, Nat.le_refl _⟩ ?_
    refine c_X11_entryN (j := ((x * 7) + u)) (hB.k _ rfl) (hB.r _ _ rfl) (hB.k _ rfl) (nx_add (nx_mul (rfl) (rfl)) (rfl)) (by omega) ?_
    refine V_iv (y := gg_ A i j x u) (et) ?_
    refine V_iload_n (i := 1) (sx_di dX11_isBestForOther 27 rfl) rfl rfl ?_
    refine V_icmp_ne (tgt := 54) (sx_di dX11_isBestForOther 28 rfl) (by decide) (fun h47 => ?_) (fun h47 => ?_)
    · refine V_iconst (v := 0) (sx_di dX11_isBestForOther 31 rfl) (by decide) ?_
      refine V_iload (sx_di dX11_isBestForOther 32 rfl) rfl ?_
      refine V_cS2 (mc' := 0) (ms' := 0) (M' := mX11_gain) 2 (sx_di dX11_isBestForOther 33 rfl) lX11_339 vX11_gain (Nat.le_of_ble_eq_true rfl) ⟨Nat.le_of_ble_eq_true rfl, Nat.le_of_ble_eq_true rfl⟩ ⟨Nat.le_refl _, Nat.le_refl _⟩ ?_
      refine c_X11_gain (c := 0) (Or.inl rfl) ?_
      refine V_iv (y := gv_ A j i u x) (by rw [gv_, gn_, ← gg_sw A hij, if_neg h47]; rfl) ?_
      refine V_iload (sx_di dX11_isBestForOther 34 rfl) rfl ?_
      refine V_icmp_le (tgt := 67) (sx_di dX11_isBestForOther 35 rfl) (by decide) (fun h62 => ?_) (fun h62 => ?_)
      · have q1 := ih (u + 1) (by omega) (fun v hv2 => by
            rcases Nat.lt_or_ge v u with z | z
            · exact hv v z
            · rw [show v = u by omega]; exact Int32.not_lt.mpr h62)
        rw [← nI_1] at q1
        refine V_inc (c := 1) (sx_di dX11_isBestForOther 38 rfl) (by decide) rfl (by decide) (rfl) ?_
        refine V_goto (tgt := 28) (sx_di dX11_isBestForOther 39 rfl) (by decide) ?_
        exact V_subk q1 ⟨rfl, rfl, rfl, rfl, rfl, rfl, trivial⟩
      · refine V_iconst (v := 0) (sx_di dX11_isBestForOther 36 rfl) (by decide) ?_
        refine V_zret (sx_di dX11_isBestForOther 37 rfl) rfl (by first | rfl | decide) (Nat.le_refl _) (Nat.le_refl _) ?_
        exact h0 (fun z => z u (by omega) (Int32.not_le.mp h62))
    · refine V_iconst (v := 1) (sx_di dX11_isBestForOther 29 rfl) (by decide) ?_
      refine V_goto (tgt := 55) (sx_di dX11_isBestForOther 30 rfl) (by decide) ?_
      refine V_iload (sx_di dX11_isBestForOther 32 rfl) rfl ?_
      refine V_cS2 (mc' := 0) (ms' := 0) (M' := mX11_gain) 2 (sx_di dX11_isBestForOther 33 rfl) lX11_339 vX11_gain (Nat.le_of_ble_eq_true rfl) ⟨Nat.le_of_ble_eq_true rfl, Nat.le_of_ble_eq_true rfl⟩ ⟨Nat.le_refl _, Nat.le_refl _⟩ ?_
      refine c_X11_gain (c := 1) (Or.inr rfl) ?_
      refine V_iv (y := gv_ A j i u x) (by rw [gv_, gn_, ← gg_sw A hij, if_pos h47]; rfl) ?_
      refine V_iload (sx_di dX11_isBestForOther 34 rfl) rfl ?_
      refine V_icmp_le (tgt := 67) (sx_di dX11_isBestForOther 35 rfl) (by decide) (fun h62 => ?_) (fun h62 => ?_)
      · have q1 := ih (u + 1) (by omega) (fun v hv2 => by
            rcases Nat.lt_or_ge v u with z | z
            · exact hv v z
            · rw [show v = u by omega]; exact Int32.not_lt.mpr h62)
        rw [← nI_1] at q1
        refine V_inc (c := 1) (sx_di dX11_isBestForOther 38 rfl) (by decide) rfl (by decide) (rfl) ?_
        refine V_goto (tgt := 28) (sx_di dX11_isBestForOther 39 rfl) (by decide) ?_
        exact V_subk q1 ⟨rfl, rfl, rfl, rfl, rfl, rfl, trivial⟩
      · refine V_iconst (v := 0) (sx_di dX11_isBestForOther 36 rfl) (by decide) ?_
        refine V_zret (sx_di dX11_isBestForOther 37 rfl) rfl (by first | rfl | decide) (Nat.le_refl _) (Nat.le_refl _) ?_
        exact h0 (fun z => z u (by omega) (Int32.not_le.mp h62))
set_option maxHeartbeats 2000000 in
set_option maxRecDepth 20000 in
theorem e_isBestForOther {E : sxE} {A : AS} {w : hpW} {Q : Option Value → hpW → Prop} (hB : ly_B w) {i j x y : Nat} (hi : i < 8) (hj : j < 8) (hij : i ≠ j) (hx : x < 7) (hy : y < 7) (hT : TB7 A i j w 49) (h1 : (∀ u, u < 7 → ¬ gv_ A j i y x < gv_ A j i u x) → Q (some (.int 1)) w) (h0 : ¬ (∀ u, u < 7 → ¬ gv_ A j i y x < gv_ A j i u x) → Q (some (.int 0)) w) : sx_C E mX11_isBestForOther 3 0 0 [.ref 16, .int (nI j), .int (nI x), .int (nI y)] w Q := by
  have et : hp_i w 380 (x * 7 + y) = gg_ A i j x y := hT x y hx hy (by omega)
  refine C_of (by decide +kernel) (Nat.le_of_ble_eq_true rfl) ?_
  refine V_aload_n (i := 0) (sx_di dX11_isBestForOther 0 rfl) rfl rfl ?_
  refine V_iload_n (i := 2) (sx_di dX11_isBestForOther 1 rfl) rfl rfl ?_
  refine V_bipush (v := 7) (sx_di dX11_isBestForOther 2 rfl) (by decide) ?_
  refine V_imul (sx_di dX11_isBestForOther 3 rfl) ?_
  refine V_iload_n (i := 3) (sx_di dX11_isBestForOther 4 rfl) rfl rfl ?_
  refine V_iadd (sx_di dX11_isBestForOther 5 rfl) ?_
  refine V_cV1 (mc' := 0) (ms' := 0) (M' := mX11_entry) 1 (sx_di dX11_isBestForOther 6 rfl) lX11_315 vX11_entry (hB.k _ rfl) (by decide) rfl (Nat.le_of_ble_eq_true rfl) ⟨Nat.le_of_ble_eq_true rfl, Nat.le_of_ble_eq_true rfl⟩ ⟨Nat.le_refl _, Nat.le_refl _⟩ ?_
  refine c_X11_entryN (j := ((x * 7) + y)) (hB.k _ rfl) (hB.r _ _ rfl) (hB.k _ rfl) (nx_add (nx_mul (rfl) (rfl)) (rfl)) (by omega) ?_
  refine V_iv (y := gg_ A i j x y) (et) ?_
  refine V_iload_n (i := 1) (sx_di dX11_isBestForOther 7 rfl) rfl rfl ?_
  refine V_icmp_ne (tgt := 18) (sx_di dX11_isBestForOther 8 rfl) (by decide) (fun h11 => ?_) (fun h11 => ?_)
  · refine V_iconst (v := 0) (sx_di dX11_isBestForOther 11 rfl) (by decide) ?_
    refine V_iload_n (i := 3) (sx_di dX11_isBestForOther 12 rfl) rfl rfl ?_
    refine V_cS2 (mc' := 0) (ms' := 0) (M' := mX11_gain) 2 (sx_di dX11_isBestForOther 13 rfl) lX11_339 vX11_gain (Nat.le_of_ble_eq_true rfl) ⟨Nat.le_of_ble_eq_true rfl, Nat.le_of_ble_eq_true rfl⟩ ⟨Nat.le_refl _, Nat.le_refl _⟩ ?_
    refine c_X11_gain (c := 0) (Or.inl rfl) ?_
    refine V_iv (y := gv_ A j i y x) (by rw [gv_, gn_, ← gg_sw A hij, if_neg h11]; rfl) ?_
    refine V_istore (sx_di dX11_isBestForOther 14 rfl) (by decide) (rfl) ?_
    refine V_iconst (v := 0) (sx_di dX11_isBestForOther 15 rfl) (by decide) ?_
    refine V_istore (sx_di dX11_isBestForOther 16 rfl) (by decide) (rfl) ?_
    refine V_sub (ls' := [(5, .int (nI 0)), (4, .int (gv_ A j i y x)), (3, .int (nI y)), (2, .int (nI x)), (1, .int (nI j)), (0, .ref 16)]) ⟨rfl, rfl, rfl, rfl, rfl, rfl, trivial⟩ ?_
    exact b_isBestForOther hB hi hj hij hx hy hT h1 h0 7 0 (by omega) (fun v hv => absurd hv (by omega))
  · refine V_iconst (v := 1) (sx_di dX11_isBestForOther 9 rfl) (by decide) ?_
    refine V_goto (tgt := 19) (sx_di dX11_isBestForOther 10 rfl) (by decide) ?_
    refine V_iload_n (i := 3) (sx_di dX11_isBestForOther 12 rfl) rfl rfl ?_
    refine V_cS2 (mc' := 0) (ms' := 0) (M' := mX11_gain) 2 (sx_di dX11_isBestForOther 13 rfl) lX11_339 vX11_gain (Nat.le_of_ble_eq_true rfl) ⟨Nat.le_of_ble_eq_true rfl, Nat.le_of_ble_eq_true rfl⟩ ⟨Nat.le_refl _, Nat.le_refl _⟩ ?_
    refine c_X11_gain (c := 1) (Or.inr rfl) ?_
    refine V_iv (y := gv_ A j i y x) (by rw [gv_, gn_, ← gg_sw A hij, if_pos h11]; rfl) ?_
    refine V_istore (sx_di dX11_isBestForOther 14 rfl) (by decide) (rfl) ?_
    refine V_iconst (v := 0) (sx_di dX11_isBestForOther 15 rfl) (by decide) ?_
    refine V_istore (sx_di dX11_isBestForOther 16 rfl) (by decide) (rfl) ?_
    refine V_sub (ls' := [(5, .int (nI 0)), (4, .int (gv_ A j i y x)), (3, .int (nI y)), (2, .int (nI x)), (1, .int (nI j)), (0, .ref 16)]) ⟨rfl, rfl, rfl, rfl, rfl, rfl, trivial⟩ ?_
    exact b_isBestForOther hB hi hj hij hx hy hT h1 h0 7 0 (by omega) (fun v hv => absurd hv (by omega))
set_option maxHeartbeats 2000000 in
set_option maxRecDepth 20000 in
theorem rx_C {E : sxE} {w : hpW} {Q : Option Value → hpW → Prop} {i j x c : Nat} {v : Int32} (hx : x < 7) (h1 : x + 1 < 7 → V E mX11_rests (sx_rm 8 0 0) 0 0 0 0 45 [(6, .int (nI 0)), (5, .int (nI (x + 1))), (4, .int (nI c)), (3, .int v), (2, .int (nI j)), (1, .int (nI i)), (0, .ref 16)] [] w Q) (h2 : x + 1 = 7 → Q (some (.int (if v = -1 then nI c else -1))) w) : V E mX11_rests (sx_rm 8 0 0) 0 0 0 0 45 [(6, .int (nI 7)), (5, .int (nI x)), (4, .int (nI c)), (3, .int v), (2, .int (nI j)), (1, .int (nI i)), (0, .ref 16)] [] w Q := by
  rw [← nI_1] at h1
  refine V_iload (sx_di dX11_rests 26 rfl) rfl ?_
  refine V_bipush (v := 7) (sx_di dX11_rests 27 rfl) (by decide) ?_
  refine V_icN_ge (a := 7) (b := 7) (rfl) (rfl) (by omega) (by omega) (tgt := 100) (sx_di dX11_rests 28 rfl) (by decide) (fun _ => ?_) (fun h49 => absurd h49 (by omega))
  refine V_inc (c := 1) (sx_di dX11_rests 53 rfl) (by decide) rfl (by decide) (rfl) ?_
  refine V_goto (tgt := 35) (sx_di dX11_rests 54 rfl) (by decide) ?_
  refine V_iload (sx_di dX11_rests 21 rfl) rfl ?_
  refine V_bipush (v := 7) (sx_di dX11_rests 22 rfl) (by decide) ?_
  refine V_icN_ge (a := (x + 1)) (b := 7) (nx_add (rfl) rfl) (rfl) (by omega) (by omega) (tgt := 106) (sx_di dX11_rests 23 rfl) (by decide) (fun h39 => ?_) (fun h39 => ?_)
  · refine V_iload_n (i := 3) (sx_di dX11_rests 55 rfl) rfl rfl ?_
    refine V_iconst (v := -1) (sx_di dX11_rests 56 rfl) (by decide) ?_
    refine V_icmp_ne (tgt := 116) (sx_di dX11_rests 57 rfl) (by decide) (fun h108 => ?_) (fun h108 => ?_)
    · have z := h2 (by omega)
      rw [if_neg h108] at z
      refine V_iconst (v := -1) (sx_di dX11_rests 60 rfl) (by decide) ?_
      refine V_iret (sx_di dX11_rests 61 rfl) rfl (Nat.le_refl _) (Nat.le_refl _) ?_
      exact z
    · have z := h2 (by omega)
      rw [if_pos h108] at z
      refine V_iload (sx_di dX11_rests 58 rfl) rfl ?_
      refine V_goto (tgt := 117) (sx_di dX11_rests 59 rfl) (by decide) ?_
      refine V_iret (sx_di dX11_rests 61 rfl) rfl (Nat.le_refl _) (Nat.le_refl _) ?_
      exact z
  · refine V_iconst (v := 0) (sx_di dX11_rests 24 rfl) (by decide) ?_
    refine V_istore (sx_di dX11_rests 25 rfl) (by decide) (rfl) ?_
    exact V_subk (h1 (by omega)) ⟨rfl, rfl, rfl, rfl, rfl, rfl, rfl, trivial⟩
set_option maxHeartbeats 2000000 in
set_option maxRecDepth 20000 in
theorem rx_R {E : sxE} {w : hpW} {Q : Option Value → hpW → Prop} {i j x c : Nat} {v : Int32} (hx : x < 7) (h1 : x + 1 < 7 → V E mX12_rests (sx_rm 10 0 0) 0 0 0 0 32 [(6, .int (nI 0)), (5, .int (nI (x + 1))), (4, .int (nI c)), (3, .int v), (2, .int (nI j)), (1, .int (nI i)), (0, .ref 381)] [] w Q) (h2 : x + 1 = 7 → Q (some (.int (if v = -1 then nI c else -1))) w) : V E mX12_rests (sx_rm 10 0 0) 0 0 0 0 32 [(6, .int (nI 7)), (5, .int (nI x)), (4, .int (nI c)), (3, .int v), (2, .int (nI j)), (1, .int (nI i)), (0, .ref 381)] [] w Q := by
  rw [← nI_1] at h1
  refine V_iload (sx_di dX12_rests 19 rfl) rfl ?_
  refine V_bipush (v := 6) (sx_di dX12_rests 20 rfl) (by decide) ?_
  refine V_icN_gt (a := 7) (b := 6) (rfl) (rfl) (by omega) (by omega) (tgt := 76) (sx_di dX12_rests 21 rfl) (by decide) (fun _ => ?_) (fun h36 => absurd h36 (by omega))
  refine V_inc (c := 1) (sx_di dX12_rests 41 rfl) (by decide) rfl (by decide) (rfl) ?_
  refine V_goto (tgt := 22) (sx_di dX12_rests 42 rfl) (by decide) ?_
  refine V_iload (sx_di dX12_rests 14 rfl) rfl ?_
  refine V_bipush (v := 6) (sx_di dX12_rests 15 rfl) (by decide) ?_
  refine V_icN_gt (a := (x + 1)) (b := 6) (nx_add (rfl) rfl) (rfl) (by omega) (by omega) (tgt := 82) (sx_di dX12_rests 16 rfl) (by decide) (fun h26 => ?_) (fun h26 => ?_)
  · refine V_iload_n (i := 3) (sx_di dX12_rests 43 rfl) rfl rfl ?_
    refine V_iconst (v := -1) (sx_di dX12_rests 44 rfl) (by decide) ?_
    refine V_icmp_ne (tgt := 92) (sx_di dX12_rests 45 rfl) (by decide) (fun h84 => ?_) (fun h84 => ?_)
    · have z := h2 (by omega)
      rw [if_neg h84] at z
      refine V_iconst (v := -1) (sx_di dX12_rests 48 rfl) (by decide) ?_
      refine V_iret (sx_di dX12_rests 49 rfl) rfl (Nat.le_refl _) (Nat.le_refl _) ?_
      exact z
    · have z := h2 (by omega)
      rw [if_pos h84] at z
      refine V_iload (sx_di dX12_rests 46 rfl) rfl ?_
      refine V_goto (tgt := 93) (sx_di dX12_rests 47 rfl) (by decide) ?_
      refine V_iret (sx_di dX12_rests 49 rfl) rfl (Nat.le_refl _) (Nat.le_refl _) ?_
      exact z
  · refine V_iconst (v := 0) (sx_di dX12_rests 17 rfl) (by decide) ?_
    refine V_istore (sx_di dX12_rests 18 rfl) (by decide) (rfl) ?_
    exact V_subk (h1 (by omega)) ⟨rfl, rfl, rfl, rfl, rfl, rfl, rfl, trivial⟩
set_option maxHeartbeats 2000000 in
set_option maxRecDepth 20000 in
theorem rsC_lp {E : sxE} {A : AS} {w : hpW} {Q : Option Value → hpW → Prop} (VA : AV A) (hB : ly_B w) {i j : Nat} {v : Int32} (hi : i < a_n A) (hj : j < a_n A) (hij : i ≠ j) (hT : TB7 A i j w 49) : ∀ d x y c, 7 * x + y + d = 49 → x < 7 → y < 7 → Q (some (.int (rl7 (rp_ A i j) v d (7 * x + y) c))) w → V E mX11_rests (sx_rm 8 0 0) 0 0 0 0 45 [(6, .int (nI y)), (5, .int (nI x)), (4, .int (nI c)), (3, .int v), (2, .int (nI j)), (1, .int (nI i)), (0, .ref 16)] [] w Q := by
  intro d
  have hn8 := VA.2.2.1.1
  induction d with
  | zero =>
    intro x y c e hx hy
    omega
  | succ d ih =>
    intro x y c e hx hy h
    unfold rl7 at h
    rw [show (7 * x + y) / 7 = x by omega, show (7 * x + y) % 7 = y by omega] at h
    have nx : ∀ c2, Q (some (.int (rl7 (rp_ A i j) v d (7 * x + y + 1) c2))) w → V E mX11_rests (sx_rm 8 0 0) 0 0 0 0 45 [(6, .int (nI (y + 1))), (5, .int (nI x)), (4, .int (nI c2)), (3, .int v), (2, .int (nI j)), (1, .int (nI i)), (0, .ref 16)] [] w Q := fun c2 h2 => by
      rcases Nat.lt_or_ge (y + 1) 7 with hy7 | hy7
      · exact ih x (y + 1) c2 (by omega) hx hy7 h2
      · rw [show y + 1 = 7 by omega]
        refine rx_C hx (fun hx7 => ?_) (fun hx7 => ?_)
        · exact ih (x + 1) 0 c2 (by omega) hx7 (by omega) (by rw [show 7 * (x + 1) + 0 = 7 * x + y + 1 by omega]; exact h2)
        · have e0 : d = 0 := by omega
          subst e0
          exact h2
    refine V_iload (sx_di dX11_rests 26 rfl) rfl ?_
    refine V_bipush (v := 7) (sx_di dX11_rests 27 rfl) (by decide) ?_
    refine V_icN_ge (a := y) (b := 7) (rfl) (rfl) (by omega) (by omega) (tgt := 100) (sx_di dX11_rests 28 rfl) (by decide) (fun h49 => absurd h49 (by omega)) (fun _ => ?_)
    refine V_aload_n (i := 0) (sx_di dX11_rests 29 rfl) rfl rfl ?_
    refine V_iload_n (i := 1) (sx_di dX11_rests 30 rfl) rfl rfl ?_
    refine V_iload (sx_di dX11_rests 31 rfl) rfl ?_
    refine V_iload (sx_di dX11_rests 32 rfl) rfl ?_
    refine V_cV3 (mc' := 0) (ms' := 0) (M' := mX11_isBestForOne) 3 (sx_di dX11_rests 33 rfl) lX11_346 vX11_isBestForOne (hB.k _ rfl) (by decide) rfl (Nat.le_of_ble_eq_true rfl) ⟨Nat.le_of_ble_eq_true rfl, Nat.le_of_ble_eq_true rfl⟩ ⟨Nat.le_refl _, Nat.le_refl _⟩ ?_
    refine e_isBestForOne hB (by omega) (by omega) hij hx hy hT (fun b1 => ?_) (fun b1 => ?_)
    · have hx1 : True := trivial
      refine V_ifN_eq (a := 1) (rfl) (by omega) (tgt := 94) (sx_di dX11_rests 34 rfl) (by decide) (fun h61 => absurd h61 (by omega)) (fun _ => ?_)
      refine V_aload_n (i := 0) (sx_di dX11_rests 35 rfl) rfl rfl ?_
      refine V_iload_n (i := 2) (sx_di dX11_rests 36 rfl) rfl rfl ?_
      refine V_iload (sx_di dX11_rests 37 rfl) rfl ?_
      refine V_iload (sx_di dX11_rests 38 rfl) rfl ?_
      refine V_cV3 (mc' := 0) (ms' := 0) (M' := mX11_isBestForOther) 3 (sx_di dX11_rests 39 rfl) lX11_350 vX11_isBestForOther (hB.k _ rfl) (by decide) rfl (Nat.le_of_ble_eq_true rfl) ⟨Nat.le_of_ble_eq_true rfl, Nat.le_of_ble_eq_true rfl⟩ ⟨Nat.le_refl _, Nat.le_refl _⟩ ?_
      refine e_isBestForOther hB (by omega) (by omega) hij hx hy hT (fun b2 => ?_) (fun b2 => ?_)
      · have hp : rp_ A i j x y := ⟨b1, b2⟩
        rw [if_pos hp] at h
        refine V_ifN_eq (a := 1) (rfl) (by omega) (tgt := 94) (sx_di dX11_rests 40 rfl) (by decide) (fun h73 => absurd h73 (by omega)) (fun _ => ?_)
        refine V_iload (sx_di dX11_rests 41 rfl) rfl ?_
        refine V_iload_n (i := 3) (sx_di dX11_rests 42 rfl) rfl rfl ?_
        refine V_icmp_ne (tgt := 91) (sx_di dX11_rests 43 rfl) (by decide) (fun h79 => ?_) (fun h79 => ?_)
        · rw [if_neg h79] at h
          have q1 := nx (c + 1) h
          rw [← nI_1, ← nI_1] at q1
          refine V_inc (c := 1) (sx_di dX11_rests 50 rfl) (by decide) rfl (by decide) (rfl) ?_
          refine V_inc (c := 1) (sx_di dX11_rests 51 rfl) (by decide) rfl (by decide) (rfl) ?_
          refine V_goto (tgt := 45) (sx_di dX11_rests 52 rfl) (by decide) ?_
          exact V_subk q1 ⟨rfl, rfl, rfl, rfl, rfl, rfl, rfl, trivial⟩
        · rw [if_pos h79] at h
          refine V_bipush (v := 10) (sx_di dX11_rests 44 rfl) (by decide) ?_
          refine V_iload (sx_di dX11_rests 45 rfl) rfl ?_
          refine V_imul (sx_di dX11_rests 46 rfl) ?_
          refine V_iload (sx_di dX11_rests 47 rfl) rfl ?_
          refine V_iadd (sx_di dX11_rests 48 rfl) ?_
          refine V_iv (y := nI (10 * x + y)) (by rw [← nI_add, ← pk_mul]; rfl) ?_
          refine V_iret (sx_di dX11_rests 49 rfl) rfl (Nat.le_refl _) (Nat.le_refl _) ?_
          exact h
      · have hp : ¬ rp_ A i j x y := fun z => b2 z.2
        rw [if_neg hp] at h
        have q1 := nx c h
        rw [← nI_1] at q1
        refine V_ifN_eq (a := 0) (rfl) (by omega) (tgt := 94) (sx_di dX11_rests 40 rfl) (by decide) (fun _ => ?_) (fun h73 => absurd h73 (by omega))
        refine V_inc (c := 1) (sx_di dX11_rests 51 rfl) (by decide) rfl (by decide) (rfl) ?_
        refine V_goto (tgt := 45) (sx_di dX11_rests 52 rfl) (by decide) ?_
        exact V_subk q1 ⟨rfl, rfl, rfl, rfl, rfl, rfl, rfl, trivial⟩
    · have hp : ¬ rp_ A i j x y := fun z => b1 z.1
      rw [if_neg hp] at h
      have q1 := nx c h
      rw [← nI_1] at q1
      refine V_ifN_eq (a := 0) (rfl) (by omega) (tgt := 94) (sx_di dX11_rests 34 rfl) (by decide) (fun _ => ?_) (fun h61 => absurd h61 (by omega))
      refine V_inc (c := 1) (sx_di dX11_rests 51 rfl) (by decide) rfl (by decide) (rfl) ?_
      refine V_goto (tgt := 45) (sx_di dX11_rests 52 rfl) (by decide) ?_
      exact V_subk q1 ⟨rfl, rfl, rfl, rfl, rfl, rfl, rfl, trivial⟩
theorem rl7_neg (p : Nat → Nat → Prop) {v : Int32} (hv : v < -1) : ∀ d z c, c + d ≤ 100 → rl7 p v d z c = -1 := by
  intro d
  induction d with
  | zero =>
    intro z c _
    show (if v = -1 then nI c else -1) = -1
    rw [if_neg (fun q => by rw [q] at hv; exact absurd hv (by decide))]
  | succ d ih =>
    intro z c e
    unfold rl7
    have hne : ¬ nI c = v := fun q => by
      rw [← q, fa_lt, nI_toInt (by omega), ti_m1] at hv
      omega
    rw [if_neg hne, ih (z + 1) (c + 1) (by omega), ih (z + 1) c (by omega)]
    split <;> rfl
set_option maxHeartbeats 2000000 in
set_option maxRecDepth 20000 in
theorem oC_rests {E : sxE} {A : AS} {w : hpW} (VA : AV A) (H : CR A w) (x y v : Int32) : oC E mX11_rests 8 [.ref 16, .int x, .int y, .int v] w A (q_rests A x y v) A := by
  intro Q h
  obtain ⟨t, hB, ht, hst, hn, _, _⟩ := CRn VA H
  have hn8 := VA.2.2.1.1
  have hno : (ih_ (a_n A) x = 0 ∨ ih_ (a_n A) y = 0 ∨ x = y) → Q (some (.int (-1))) w := fun e => by
    rw [q_rests, if_pos (Or.inl e)] at h
    exact h w H fR_rf
  refine C_of (by decide +kernel) (Nat.le_of_ble_eq_true rfl) ?_
  refine V_aload_n (i := 0) (sx_di dX11_rests 0 rfl) rfl rfl ?_
  refine V_iload_n (i := 1) (sx_di dX11_rests 1 rfl) rfl rfl ?_
  refine V_cV1 (mc' := 0) (ms' := 0) (M' := mX11_isHouse) 1 (sx_di dX11_rests 2 rfl) lX11_170 vX11_isHouse (hB.k _ rfl) (by decide) rfl (Nat.le_of_ble_eq_true rfl) ⟨Nat.le_of_ble_eq_true rfl, Nat.le_of_ble_eq_true rfl⟩ ⟨Nat.le_refl _, Nat.le_refl _⟩ ?_
  refine c_X11_isHouse hB ht hst hn hn8 ?_
  refine V_if_eq (tgt := 21) (sx_di dX11_rests 3 rfl) (by decide) (fun h5 => ?_) (fun h5 => ?_)
  · refine V_iconst (v := -1) (sx_di dX11_rests 11 rfl) (by decide) ?_
    refine V_iret (sx_di dX11_rests 12 rfl) rfl (Nat.le_refl _) (Nat.le_refl _) ?_
    exact hno (Or.inl h5)
  · refine V_aload_n (i := 0) (sx_di dX11_rests 4 rfl) rfl rfl ?_
    refine V_iload_n (i := 2) (sx_di dX11_rests 5 rfl) rfl rfl ?_
    refine V_cV1 (mc' := 0) (ms' := 0) (M' := mX11_isHouse) 1 (sx_di dX11_rests 6 rfl) lX11_170 vX11_isHouse (hB.k _ rfl) (by decide) rfl (Nat.le_of_ble_eq_true rfl) ⟨Nat.le_of_ble_eq_true rfl, Nat.le_of_ble_eq_true rfl⟩ ⟨Nat.le_refl _, Nat.le_refl _⟩ ?_
    refine c_X11_isHouse hB ht hst hn hn8 ?_
    refine V_if_eq (tgt := 21) (sx_di dX11_rests 7 rfl) (by decide) (fun h13 => ?_) (fun h13 => ?_)
    · refine V_iconst (v := -1) (sx_di dX11_rests 11 rfl) (by decide) ?_
      refine V_iret (sx_di dX11_rests 12 rfl) rfl (Nat.le_refl _) (Nat.le_refl _) ?_
      exact hno (Or.inr (Or.inl h13))
    · refine V_iload_n (i := 1) (sx_di dX11_rests 8 rfl) rfl rfl ?_
      refine V_iload_n (i := 2) (sx_di dX11_rests 9 rfl) rfl rfl ?_
      refine V_icmp_ne (tgt := 23) (sx_di dX11_rests 10 rfl) (by decide) (fun h18 => ?_) (fun h18 => ?_)
      · have hg : ¬ (ih_ (a_n A) x = 0 ∨ ih_ (a_n A) y = 0 ∨ x = y) := fun z => z.elim h5 (fun z => z.elim h13 h18)
        obtain ⟨i, j, hi, hj, hij, rfl, rfl⟩ := ar_two VA hg
        have eq : q_rests A (nI i) (nI j) v = rl7 (rp_ A i j) v 49 0 0 := by
          unfold q_rests
          rw [nI_clamp (by omega), nI_clamp (by omega)]
          by_cases hv : v < -1
          · rw [if_pos (Or.inr hv), rl7_neg _ hv _ _ _ (by omega)]
          · rw [if_neg (fun z => z.elim hg hv)]
        rw [eq] at h
        refine V_aload_n (i := 0) (sx_di dX11_rests 13 rfl) rfl rfl ?_
        refine V_iload_n (i := 1) (sx_di dX11_rests 14 rfl) rfl rfl ?_
        refine V_iload_n (i := 2) (sx_di dX11_rests 15 rfl) rfl rfl ?_
        refine V_cV2 (mc' := 0) (ms' := 0) (M' := mX11_fillGameTable) 7 (sx_di dX11_rests 16 rfl) lX11_343 vX11_fillGameTable (hB.k _ rfl) (by decide) rfl (Nat.le_of_ble_eq_true rfl) ⟨Nat.le_of_ble_eq_true rfl, Nat.le_of_ble_eq_true rfl⟩ ⟨Nat.le_refl _, Nat.le_refl _⟩ ?_
        refine e_fillGame VA H hi hj hij (fun w2 H2 f2 hT => ?_)
        refine V_iconst (v := 0) (sx_di dX11_rests 17 rfl) (by decide) ?_
        refine V_istore (sx_di dX11_rests 18 rfl) (by decide) (rfl) ?_
        refine V_iconst (v := 0) (sx_di dX11_rests 19 rfl) (by decide) ?_
        refine V_istore (sx_di dX11_rests 20 rfl) (by decide) (rfl) ?_
        refine V_iload (sx_di dX11_rests 21 rfl) rfl ?_
        refine V_bipush (v := 7) (sx_di dX11_rests 22 rfl) (by decide) ?_
        refine V_icN_ge (a := 0) (b := 7) (rfl) (rfl) (by omega) (by omega) (tgt := 106) (sx_di dX11_rests 23 rfl) (by decide) (fun h39 => absurd h39 (by omega)) (fun _ => ?_)
        refine V_iconst (v := 0) (sx_di dX11_rests 24 rfl) (by decide) ?_
        refine V_istore (sx_di dX11_rests 25 rfl) (by decide) (rfl) ?_
        refine V_sub (ls' := [(6, .int (nI 0)), (5, .int (nI 0)), (4, .int (nI 0)), (3, .int v), (2, .int (nI j)), (1, .int (nI i)), (0, .ref 16)]) ⟨rfl, rfl, rfl, rfl, rfl, rfl, rfl, trivial⟩ ?_
        exact rsC_lp VA H2.1 hi hj hij hT 49 0 0 0 (by omega) (by omega) (by omega) (h w2 H2 f2)
      · refine V_iconst (v := -1) (sx_di dX11_rests 11 rfl) (by decide) ?_
        refine V_iret (sx_di dX11_rests 12 rfl) rfl (Nat.le_refl _) (Nat.le_refl _) ?_
        exact hno (Or.inr (Or.inr h18))
set_option maxHeartbeats 2000000 in
set_option maxRecDepth 20000 in
theorem ir_lp {E : sxE} {A : AS} {w : hpW} {Q : Option Value → hpW → Prop} (VA : AV A) {i j x y : Nat} (hi : i < a_n A) (hj : j < a_n A) (hij : i ≠ j) (hx : x < 7) (hy : y < 7) (h1 : rp_ A i j x y → ∀ w', RR A w' → fC w w' → Q (some (.int 1)) w') (h0 : ¬ rp_ A i j x y → ∀ w', RR A w' → fC w w' → Q (some (.int 0)) w') : ∀ d u w1, u + d = 7 → RR A w1 → fC w w1 → (∀ q, q < u → ¬ gv_ A i j x y < gv_ A i j q y ∧ ¬ gv_ A j i y x < gv_ A j i q x) → V E mX12_isRest (sx_rm 9 0 0) 0 0 0 0 3 [(5, .int (nI u)), (4, .int (nI y)), (3, .int (nI x)), (2, .int (nI j)), (1, .int (nI i)), (0, .ref 381)] [] w1 Q := by
  intro d
  induction d with
  | zero =>
    intro u w1 hu H1 f1 hv
    have hB := H1.1
    have e : u = 7 := by omega
    subst e
    refine V_iload (sx_di dX12_isRest 2 rfl) rfl ?_
    refine V_bipush (v := 6) (sx_di dX12_isRest 3 rfl) (by decide) ?_
    refine V_icN_gt (a := 7) (b := 6) (rfl) (rfl) (by omega) (by omega) (tgt := 61) (sx_di dX12_isRest 4 rfl) (by decide) (fun _ => ?_) (fun h7 => absurd h7 (by omega))
    refine V_iconst (v := 1) (sx_di dX12_isRest 35 rfl) (by decide) ?_
    refine V_zret (sx_di dX12_isRest 36 rfl) rfl (by first | rfl | decide) (Nat.le_refl _) (Nat.le_refl _) ?_
    exact h1 ⟨fun q hq => (hv q hq).1, fun q hq => (hv q hq).2⟩ w1 H1 f1
  | succ d ih =>
    intro u w1 hu H1 f1 hv
    have hB := H1.1
    refine V_iload (sx_di dX12_isRest 2 rfl) rfl ?_
    refine V_bipush (v := 6) (sx_di dX12_isRest 3 rfl) (by decide) ?_
    refine V_icN_gt (a := u) (b := 6) (rfl) (rfl) (by omega) (by omega) (tgt := 61) (sx_di dX12_isRest 4 rfl) (by decide) (fun h7 => absurd h7 (by omega)) (fun _ => ?_)
    refine V_aload_n (i := 0) (sx_di dX12_isRest 5 rfl) rfl rfl ?_
    refine V_iload_n (i := 1) (sx_di dX12_isRest 6 rfl) rfl rfl ?_
    refine V_iload_n (i := 2) (sx_di dX12_isRest 7 rfl) rfl rfl ?_
    refine V_iload (sx_di dX12_isRest 8 rfl) rfl ?_
    refine V_iload (sx_di dX12_isRest 9 rfl) rfl ?_
    refine V_cV4 (mc' := 0) (ms' := 0) (M' := mX12_gameOf) 8 (sx_di dX12_isRest 10 rfl) lX12_394 vX12_gameOf (hB.k _ rfl) (by decide) rfl (Nat.le_of_ble_eq_true rfl) ⟨Nat.le_of_ble_eq_true rfl, Nat.le_of_ble_eq_true rfl⟩ ⟨Nat.le_refl _, Nat.le_refl _⟩ ?_
    refine e_gameOf VA H1 hi hj hij (show u ≤ 6 by omega) (show y ≤ 6 by omega) (fun w2 H2 f2 => ?_)
    have hB2 := H2.1
    refine V_aload_n (i := 0) (sx_di dX12_isRest 11 rfl) rfl rfl ?_
    refine V_iload_n (i := 1) (sx_di dX12_isRest 12 rfl) rfl rfl ?_
    refine V_iload_n (i := 2) (sx_di dX12_isRest 13 rfl) rfl rfl ?_
    refine V_iload_n (i := 3) (sx_di dX12_isRest 14 rfl) rfl rfl ?_
    refine V_iload (sx_di dX12_isRest 15 rfl) rfl ?_
    refine V_cV4 (mc' := 0) (ms' := 0) (M' := mX12_gameOf) 8 (sx_di dX12_isRest 16 rfl) lX12_394 vX12_gameOf (hB2.k _ rfl) (by decide) rfl (Nat.le_of_ble_eq_true rfl) ⟨Nat.le_of_ble_eq_true rfl, Nat.le_of_ble_eq_true rfl⟩ ⟨Nat.le_refl _, Nat.le_refl _⟩ ?_
    refine e_gameOf VA H2 hi hj hij (show x ≤ 6 by omega) (show y ≤ 6 by omega) (fun w3 H3 f3 => ?_)
    have hB3 := H3.1
    refine V_icmp_gt (tgt := 53) (sx_di dX12_isRest 17 rfl) (by decide) (fun h29 => ?_) (fun h29 => ?_)
    · refine V_iconst (v := 0) (sx_di dX12_isRest 31 rfl) (by decide) ?_
      refine V_zret (sx_di dX12_isRest 32 rfl) rfl (by first | rfl | decide) (Nat.le_refl _) (Nat.le_refl _) ?_
      exact h0 (fun z => z.1 u (by omega) h29) w3 H3 (fC_tr f1 (fC_tr f2 f3))
    · refine V_aload_n (i := 0) (sx_di dX12_isRest 18 rfl) rfl rfl ?_
      refine V_iload_n (i := 2) (sx_di dX12_isRest 19 rfl) rfl rfl ?_
      refine V_iload_n (i := 1) (sx_di dX12_isRest 20 rfl) rfl rfl ?_
      refine V_iload (sx_di dX12_isRest 21 rfl) rfl ?_
      refine V_iload_n (i := 3) (sx_di dX12_isRest 22 rfl) rfl rfl ?_
      refine V_cV4 (mc' := 0) (ms' := 0) (M' := mX12_gameOf) 8 (sx_di dX12_isRest 23 rfl) lX12_394 vX12_gameOf (hB3.k _ rfl) (by decide) rfl (Nat.le_of_ble_eq_true rfl) ⟨Nat.le_of_ble_eq_true rfl, Nat.le_of_ble_eq_true rfl⟩ ⟨Nat.le_refl _, Nat.le_refl _⟩ ?_
      refine e_gameOf VA H3 hj hi (Ne.symm hij) (show u ≤ 6 by omega) (show x ≤ 6 by omega) (fun w4 H4 f4 => ?_)
      have hB4 := H4.1
      refine V_aload_n (i := 0) (sx_di dX12_isRest 24 rfl) rfl rfl ?_
      refine V_iload_n (i := 2) (sx_di dX12_isRest 25 rfl) rfl rfl ?_
      refine V_iload_n (i := 1) (sx_di dX12_isRest 26 rfl) rfl rfl ?_
      refine V_iload (sx_di dX12_isRest 27 rfl) rfl ?_
      refine V_iload_n (i := 3) (sx_di dX12_isRest 28 rfl) rfl rfl ?_
      refine V_cV4 (mc' := 0) (ms' := 0) (M' := mX12_gameOf) 8 (sx_di dX12_isRest 29 rfl) lX12_394 vX12_gameOf (hB4.k _ rfl) (by decide) rfl (Nat.le_of_ble_eq_true rfl) ⟨Nat.le_of_ble_eq_true rfl, Nat.le_of_ble_eq_true rfl⟩ ⟨Nat.le_refl _, Nat.le_refl _⟩ ?_
      refine e_gameOf VA H4 hj hi (Ne.symm hij) (show y ≤ 6 by omega) (show x ≤ 6 by omega) (fun w5 H5 f5 => ?_)
      have hB5 := H5.1
      refine V_icmp_le (tgt := 55) (sx_di dX12_isRest 30 rfl) (by decide) (fun h50 => ?_) (fun h50 => ?_)
      · have q1 := ih (u + 1) w5 (by omega) H5 (fC_tr f1 (fC_tr f2 (fC_tr f3 (fC_tr f4 f5)))) (fun q hq => by
            rcases Nat.lt_or_ge q u with z | z
            · exact hv q z
            · rw [show q = u by omega]; exact ⟨h29, Int32.not_lt.mpr h50⟩)
        rw [← nI_1] at q1
        refine V_inc (c := 1) (sx_di dX12_isRest 33 rfl) (by decide) rfl (by decide) (rfl) ?_
        refine V_goto (tgt := 3) (sx_di dX12_isRest 34 rfl) (by decide) ?_
        exact V_subk q1 ⟨rfl, rfl, rfl, rfl, rfl, rfl, trivial⟩
      · refine V_iconst (v := 0) (sx_di dX12_isRest 31 rfl) (by decide) ?_
        refine V_zret (sx_di dX12_isRest 32 rfl) rfl (by first | rfl | decide) (Nat.le_refl _) (Nat.le_refl _) ?_
        exact h0 (fun z => z.2 u (by omega) (Int32.not_le.mp h50)) w5 H5 (fC_tr f1 (fC_tr f2 (fC_tr f3 (fC_tr f4 f5))))
set_option maxHeartbeats 2000000 in
set_option maxRecDepth 20000 in
theorem e_isRest {E : sxE} {A : AS} {w : hpW} {Q : Option Value → hpW → Prop} (VA : AV A) (H : RR A w) {i j x y : Nat} (hi : i < a_n A) (hj : j < a_n A) (hij : i ≠ j) (hx : x < 7) (hy : y < 7) (h1 : rp_ A i j x y → ∀ w', RR A w' → fC w w' → Q (some (.int 1)) w') (h0 : ¬ rp_ A i j x y → ∀ w', RR A w' → fC w w' → Q (some (.int 0)) w') : sx_C E mX12_isRest 9 0 0 [.ref 381, .int (nI i), .int (nI j), .int (nI x), .int (nI y)] w Q := by
  refine C_of (by decide +kernel) (Nat.le_of_ble_eq_true rfl) ?_
  refine V_iconst (v := 0) (sx_di dX12_isRest 0 rfl) (by decide) ?_
  refine V_istore (sx_di dX12_isRest 1 rfl) (by decide) (rfl) ?_
  refine V_sub (ls' := [(5, .int (nI 0)), (4, .int (nI y)), (3, .int (nI x)), (2, .int (nI j)), (1, .int (nI i)), (0, .ref 381)]) ⟨rfl, rfl, rfl, rfl, rfl, rfl, trivial⟩ ?_
  exact ir_lp VA hi hj hij hx hy h1 h0 7 0 w (by omega) H fC_rf (fun q hq => absurd hq (by omega))
set_option maxHeartbeats 2000000 in
set_option maxRecDepth 20000 in
theorem rsR_lp {E : sxE} {A : AS} {w : hpW} {Q : Option Value → hpW → Prop} (VA : AV A) {i j : Nat} {v : Int32} (hi : i < a_n A) (hj : j < a_n A) (hij : i ≠ j) : ∀ d x y c w1, 7 * x + y + d = 49 → x < 7 → y < 7 → RR A w1 → fC w w1 → (∀ w', RR A w' → fC w w' → Q (some (.int (rl7 (rp_ A i j) v d (7 * x + y) c))) w') → V E mX12_rests (sx_rm 10 0 0) 0 0 0 0 32 [(6, .int (nI y)), (5, .int (nI x)), (4, .int (nI c)), (3, .int v), (2, .int (nI j)), (1, .int (nI i)), (0, .ref 381)] [] w1 Q := by
  intro d
  induction d with
  | zero =>
    intro x y c w1 e hx hy
    omega
  | succ d ih =>
    intro x y c w1 e hx hy H1 f1 h
    have hB := H1.1
    unfold rl7 at h
    rw [show (7 * x + y) / 7 = x by omega, show (7 * x + y) % 7 = y by omega] at h
    have nx : ∀ c2 w2, RR A w2 → fC w w2 → (∀ w', RR A w' → fC w w' → Q (some (.int (rl7 (rp_ A i j) v d (7 * x + y + 1) c2))) w') → V E mX12_rests (sx_rm 10 0 0) 0 0 0 0 32 [(6, .int (nI (y + 1))), (5, .int (nI x)), (4, .int (nI c2)), (3, .int v), (2, .int (nI j)), (1, .int (nI i)), (0, .ref 381)] [] w2 Q := fun c2 w2 H2 f2 h2 => by
      rcases Nat.lt_or_ge (y + 1) 7 with hy7 | hy7
      · exact ih x (y + 1) c2 w2 (by omega) hx hy7 H2 f2 h2
      · rw [show y + 1 = 7 by omega]
        refine rx_R hx (fun hx7 => ?_) (fun hx7 => ?_)
        · exact ih (x + 1) 0 c2 w2 (by omega) hx7 (by omega) H2 f2 (by rw [show 7 * (x + 1) + 0 = 7 * x + y + 1 by omega]; exact h2)
        · have e0 : d = 0 := by omega
          subst e0
          exact h2 w2 H2 f2
    refine V_iload (sx_di dX12_rests 19 rfl) rfl ?_
    refine V_bipush (v := 6) (sx_di dX12_rests 20 rfl) (by decide) ?_
    refine V_icN_gt (a := y) (b := 6) (rfl) (rfl) (by omega) (by omega) (tgt := 76) (sx_di dX12_rests 21 rfl) (by decide) (fun h36 => absurd h36 (by omega)) (fun _ => ?_)
    refine V_aload_n (i := 0) (sx_di dX12_rests 22 rfl) rfl rfl ?_
    refine V_iload_n (i := 1) (sx_di dX12_rests 23 rfl) rfl rfl ?_
    refine V_iload_n (i := 2) (sx_di dX12_rests 24 rfl) rfl rfl ?_
    refine V_iload (sx_di dX12_rests 25 rfl) rfl ?_
    refine V_iload (sx_di dX12_rests 26 rfl) rfl ?_
    refine V_cV4 (mc' := 0) (ms' := 0) (M' := mX12_isRest) 9 (sx_di dX12_rests 27 rfl) lX12_398 vX12_isRest (hB.k _ rfl) (by decide) rfl (Nat.le_of_ble_eq_true rfl) ⟨Nat.le_of_ble_eq_true rfl, Nat.le_of_ble_eq_true rfl⟩ ⟨Nat.le_refl _, Nat.le_refl _⟩ ?_
    refine e_isRest VA H1 hi hj hij hx hy (fun hp w2 H2 f2 => ?_) (fun hp w2 H2 f2 => ?_)
    · rw [if_pos hp] at h
      refine V_ifN_eq (a := 1) (rfl) (by omega) (tgt := 70) (sx_di dX12_rests 28 rfl) (by decide) (fun h49 => absurd h49 (by omega)) (fun _ => ?_)
      refine V_iload (sx_di dX12_rests 29 rfl) rfl ?_
      refine V_iload_n (i := 3) (sx_di dX12_rests 30 rfl) rfl rfl ?_
      refine V_icmp_ne (tgt := 67) (sx_di dX12_rests 31 rfl) (by decide) (fun h55 => ?_) (fun h55 => ?_)
      · rw [if_neg h55] at h
        have q1 := nx (c + 1) w2 H2 (fC_tr f1 f2) h
        rw [← nI_1, ← nI_1] at q1
        refine V_inc (c := 1) (sx_di dX12_rests 38 rfl) (by decide) rfl (by decide) (rfl) ?_
        refine V_inc (c := 1) (sx_di dX12_rests 39 rfl) (by decide) rfl (by decide) (rfl) ?_
        refine V_goto (tgt := 32) (sx_di dX12_rests 40 rfl) (by decide) ?_
        exact V_subk q1 ⟨rfl, rfl, rfl, rfl, rfl, rfl, rfl, trivial⟩
      · rw [if_pos h55] at h
        refine V_bipush (v := 10) (sx_di dX12_rests 32 rfl) (by decide) ?_
        refine V_iload (sx_di dX12_rests 33 rfl) rfl ?_
        refine V_imul (sx_di dX12_rests 34 rfl) ?_
        refine V_iload (sx_di dX12_rests 35 rfl) rfl ?_
        refine V_iadd (sx_di dX12_rests 36 rfl) ?_
        refine V_iv (y := nI (10 * x + y)) (by rw [← nI_add, ← pk_mul]; rfl) ?_
        refine V_iret (sx_di dX12_rests 37 rfl) rfl (Nat.le_refl _) (Nat.le_refl _) ?_
        exact h w2 H2 (fC_tr f1 f2)
    · rw [if_neg hp] at h
      have q1 := nx c w2 H2 (fC_tr f1 f2) h
      rw [← nI_1] at q1
      refine V_ifN_eq (a := 0) (rfl) (by omega) (tgt := 70) (sx_di dX12_rests 28 rfl) (by decide) (fun _ => ?_) (fun h49 => absurd h49 (by omega))
      refine V_inc (c := 1) (sx_di dX12_rests 39 rfl) (by decide) rfl (by decide) (rfl) ?_
      refine V_goto (tgt := 32) (sx_di dX12_rests 40 rfl) (by decide) ?_
      exact V_subk q1 ⟨rfl, rfl, rfl, rfl, rfl, rfl, rfl, trivial⟩
set_option maxHeartbeats 2000000 in
set_option maxRecDepth 20000 in
theorem oR_rests {E : sxE} {A : AS} {w : hpW} (VA : AV A) (H : RR A w) (x y v : Int32) : oR E mX12_rests 10 [.ref 381, .int x, .int y, .int v] w A (q_rests A x y v) A := by
  intro Q h
  have hB := H.1
  have hn := H.2.2.2.1.1
  have hn8 := VA.2.2.1.1
  unfold q_rests at h
  refine C_of (by decide +kernel) (Nat.le_of_ble_eq_true rfl) ?_
  refine V_aload_n (i := 0) (sx_di dX12_rests 0 rfl) rfl rfl ?_
  refine V_iload_n (i := 1) (sx_di dX12_rests 1 rfl) rfl rfl ?_
  refine V_iload_n (i := 2) (sx_di dX12_rests 2 rfl) rfl rfl ?_
  refine V_cV2 (mc' := 0) (ms' := 0) (M' := mX12_areTwo) 3 (sx_di dX12_rests 3 rfl) lX12_391 vX12_areTwo (hB.k _ rfl) (by decide) rfl (Nat.le_of_ble_eq_true rfl) ⟨Nat.le_of_ble_eq_true rfl, Nat.le_of_ble_eq_true rfl⟩ ⟨Nat.le_refl _, Nat.le_refl _⟩ ?_
  refine c_X12_areTwo hB hn hn8 ?_
  refine V_if_eq (tgt := 14) (sx_di dX12_rests 4 rfl) (by decide) (fun h6 => ?_) (fun h6 => ?_)
  · have h7 : (ih_ (a_n A) x = 0 ∨ ih_ (a_n A) y = 0 ∨ x = y) := Classical.byContradiction (fun z => by rw [if_neg z] at h6; exact absurd h6 (by decide))
    rw [if_pos (Or.inl h7)] at h
    refine V_iconst (v := -1) (sx_di dX12_rests 8 rfl) (by decide) ?_
    refine V_iret (sx_di dX12_rests 9 rfl) rfl (Nat.le_refl _) (Nat.le_refl _) ?_
    exact h w H fC_rf
  · have h7 : ¬ (ih_ (a_n A) x = 0 ∨ ih_ (a_n A) y = 0 ∨ x = y) := fun z => h6 (if_pos z)
    refine V_iload_n (i := 3) (sx_di dX12_rests 5 rfl) rfl rfl ?_
    refine V_iconst (v := -1) (sx_di dX12_rests 6 rfl) (by decide) ?_
    refine V_icmp_ge (tgt := 16) (sx_di dX12_rests 7 rfl) (by decide) (fun h11 => ?_) (fun h11 => ?_)
    · rw [if_neg (fun z => z.elim h7 (Int32.not_lt.mpr h11))] at h
      obtain ⟨i, j, hi, hj, hij, rfl, rfl⟩ := ar_two VA h7
      rw [nI_clamp (by omega), nI_clamp (by omega)] at h
      refine V_iconst (v := 0) (sx_di dX12_rests 10 rfl) (by decide) ?_
      refine V_istore (sx_di dX12_rests 11 rfl) (by decide) (rfl) ?_
      refine V_iconst (v := 0) (sx_di dX12_rests 12 rfl) (by decide) ?_
      refine V_istore (sx_di dX12_rests 13 rfl) (by decide) (rfl) ?_
      refine V_iload (sx_di dX12_rests 14 rfl) rfl ?_
      refine V_bipush (v := 6) (sx_di dX12_rests 15 rfl) (by decide) ?_
      refine V_icN_gt (a := 0) (b := 6) (rfl) (rfl) (by omega) (by omega) (tgt := 82) (sx_di dX12_rests 16 rfl) (by decide) (fun h26 => absurd h26 (by omega)) (fun _ => ?_)
      refine V_iconst (v := 0) (sx_di dX12_rests 17 rfl) (by decide) ?_
      refine V_istore (sx_di dX12_rests 18 rfl) (by decide) (rfl) ?_
      refine V_sub (ls' := [(6, .int (nI 0)), (5, .int (nI 0)), (4, .int (nI 0)), (3, .int v), (2, .int (nI j)), (1, .int (nI i)), (0, .ref 381)]) ⟨rfl, rfl, rfl, rfl, rfl, rfl, rfl, trivial⟩ ?_
      exact rsR_lp VA hi hj hij 49 0 0 0 w (by omega) (by omega) (by omega) H fC_rf h
    · rw [if_pos (Or.inr (Int32.not_le.mp h11))] at h
      refine V_iconst (v := -1) (sx_di dX12_rests 8 rfl) (by decide) ?_
      refine V_iret (sx_di dX12_rests 9 rfl) rfl (Nat.le_refl _) (Nat.le_refl _) ?_
      exact h w H fC_rf

/-! the reference reads a street: the whole of it -/
theorem RS_r {w : hpW} {j : Nat} (h : j < 4) : hp_i w 392 j = RS9 w j := (if_pos h).symm
theorem RS_h {w : hpW} {j : Nat} (h : j < 32) : hp_i w 393 j = RS9 w (4 + j) := by
  unfold RS9
  show _ = (if 4 + j < 4 then hp_i w 392 (4 + j) else if 4 + j < 36 then hp_i w 393 (4 + j - 4) else hp_i w 394 (4 + j - 36))
  rw [if_neg (by omega), if_pos (by omega), Nat.add_sub_cancel_left]
theorem RS_f {w : hpW} {j : Nat} : hp_i w 394 j = RS9 w (36 + j) := by
  unfold RS9
  show _ = (if 36 + j < 4 then hp_i w 392 (36 + j) else if 36 + j < 36 then hp_i w 393 (36 + j - 4) else hp_i w 394 (36 + j - 36))
  rw [if_neg (by omega), if_neg (by omega), Nat.add_sub_cancel_left]
theorem bz_iff {b : Bool} {P : Prop} (h : b = true ↔ P) (hP : ¬ P) : b = false := by
  cases b
  · rfl
  · exact absurd (h.mp rfl) hP
set_option maxHeartbeats 2000000 in
set_option maxRecDepth 20000 in
theorem iw_lp {E : sxE} {w : hpW} {Q : Option Value → hpW → Prop} {n m : Nat} {s : Nat → Int32} {C : Prop} (hB : ly_B w) (hm : hp_i w 381 21 = nI m) (hm6 : m ≤ 6) (hg : sg9 n m (RS9 w) s) (h : ∀ b : Bool, (b = true ↔ (C ∧ ∀ f, f < m → s (36 + 2 * f + 1) < nI m)) → Q (some (.int (bz9 b))) w) : ∀ d k (b : Bool), k + d = m → (b = true ↔ (C ∧ ∀ f, f < k → s (36 + 2 * f + 1) < nI m)) → V E mX12_isWhole (sx_rm 1 0 0) 0 0 0 0 70 [(2, .int (nI k)), (1, .int (bz9 b)), (0, .ref 381)] [] w Q := by
  intro d
  induction d with
  | zero =>
    intro k b hk hb
    have e : k = m := by omega
    subst e
    refine V_iload_n (i := 2) (sx_di dX12_isWhole 39 rfl) rfl rfl ?_
    refine V_aload_n (i := 0) (sx_di dX12_isWhole 40 rfl) rfl rfl ?_
    refine V_getI (sx_di dX12_isWhole 41 rfl) fX12_241 (fun _ => rfl) (hB.k _ rfl) ?_
    refine V_iv (y := nI k) (hm) ?_
    refine V_icN_ge (a := k) (b := k) (rfl) (rfl) (by omega) (by omega) (tgt := 111) (sx_di dX12_isWhole 42 rfl) (by decide) (fun _ => ?_) (fun h75 => absurd h75 (by omega))
    refine V_iload_n (i := 1) (sx_di dX12_isWhole 62 rfl) rfl rfl ?_
    refine V_zret (sx_di dX12_isWhole 63 rfl) rfl (nar_bz _) (Nat.le_refl _) (Nat.le_refl _) ?_
    exact h b hb
  | succ d ih =>
    intro k b hk hb
    have ev : hp_i w 394 (2 * k + 1) = s (36 + 2 * k + 1) := RS_f.trans (hg.2.2 (2 * k + 1) (by omega))
    have st : ∀ c : Bool, (c = true ↔ (b = true ∧ s (36 + 2 * k + 1) < nI m)) → V E mX12_isWhole (sx_rm 1 0 0) 0 0 0 0 70 [(2, .int (nI k + 1)), (1, .int (bz9 c)), (0, .ref 381)] [] w Q := by
      intro c hc
      rw [nI_1]
      refine ih (k + 1) c (by omega) ⟨fun z => ?_, fun z => ?_⟩
      · obtain ⟨z1, z2⟩ := hc.mp z
        obtain ⟨y1, y2⟩ := hb.mp z1
        refine ⟨y1, fun f hf => ?_⟩
        rcases Nat.lt_or_ge f k with q | q
        · exact y2 f q
        · have e : f = k := by omega
          rw [e]; exact z2
      · exact hc.mpr ⟨hb.mpr ⟨z.1, fun f hf => z.2 f (by omega)⟩, z.2 k (by omega)⟩
    refine V_iload_n (i := 2) (sx_di dX12_isWhole 39 rfl) rfl rfl ?_
    refine V_aload_n (i := 0) (sx_di dX12_isWhole 40 rfl) rfl rfl ?_
    refine V_getI (sx_di dX12_isWhole 41 rfl) fX12_241 (fun _ => rfl) (hB.k _ rfl) ?_
    refine V_iv (y := nI m) (hm) ?_
    refine V_icN_ge (a := k) (b := m) (rfl) (rfl) (by omega) (by omega) (tgt := 111) (sx_di dX12_isWhole 42 rfl) (by decide) (fun h75 => absurd h75 (by omega)) (fun _ => ?_)
    refine V_iload_n (i := 1) (sx_di dX12_isWhole 43 rfl) rfl rfl ?_
    refine V_if_eq (tgt := 103) (sx_di dX12_isWhole 44 rfl) (by decide) (fun h79 => ?_) (fun h79 => ?_)
    · refine V_iconst (v := 0) (sx_di dX12_isWhole 58 rfl) (by decide) ?_
      refine V_istore_n (i := 1) (sx_di dX12_isWhole 59 rfl) rfl (by decide) (rfl) ?_
      refine V_inc (c := 1) (sx_di dX12_isWhole 60 rfl) (by decide) rfl (by decide) (rfl) ?_
      refine V_goto (tgt := 70) (sx_di dX12_isWhole 61 rfl) (by decide) ?_
      exact V_subk (st false ⟨fun z => absurd z Bool.false_ne_true, fun z => absurd z.1 (bz9f h79)⟩) ⟨rfl, rfl, rfl, trivial⟩
    · have b79 := bz9t h79
      refine V_aload_n (i := 0) (sx_di dX12_isWhole 45 rfl) rfl rfl ?_
      refine V_getR (sx_di dX12_isWhole 46 rfl) fX12_46 (fun _ => rfl) (hB.k _ rfl) (hB.r _ _ rfl) ?_
      refine V_iconst (v := 2) (sx_di dX12_isWhole 47 rfl) (by decide) ?_
      refine V_iload_n (i := 2) (sx_di dX12_isWhole 48 rfl) rfl rfl ?_
      refine V_imul (sx_di dX12_isWhole 49 rfl) ?_
      refine V_iconst (v := 1) (sx_di dX12_isWhole 50 rfl) (by decide) ?_
      refine V_iadd (sx_di dX12_isWhole 51 rfl) ?_
      refine V_ialdN (n := 12) (j := ((2 * k) + 1)) (sx_di dX12_isWhole 52 rfl) (hB.k _ rfl) (nx_add (nx_mul (rfl) (rfl)) (rfl)) (by omega) (by omega) ?_
      refine V_iv (y := s (36 + 2 * k + 1)) (ev) ?_
      refine V_aload_n (i := 0) (sx_di dX12_isWhole 53 rfl) rfl rfl ?_
      refine V_getI (sx_di dX12_isWhole 54 rfl) fX12_241 (fun _ => rfl) (hB.k _ rfl) ?_
      refine V_iv (y := nI m) (hm) ?_
      refine V_icmp_ge (tgt := 103) (sx_di dX12_isWhole 55 rfl) (by decide) (fun h96 => ?_) (fun h96 => ?_)
      · refine V_iconst (v := 0) (sx_di dX12_isWhole 58 rfl) (by decide) ?_
        refine V_istore_n (i := 1) (sx_di dX12_isWhole 59 rfl) rfl (by decide) (rfl) ?_
        refine V_inc (c := 1) (sx_di dX12_isWhole 60 rfl) (by decide) rfl (by decide) (rfl) ?_
        refine V_goto (tgt := 70) (sx_di dX12_isWhole 61 rfl) (by decide) ?_
        exact V_subk (st false ⟨fun z => absurd z Bool.false_ne_true, fun z => absurd z.2 (Int32.not_lt.mpr h96)⟩) ⟨rfl, rfl, rfl, trivial⟩
      · refine V_iconst (v := 1) (sx_di dX12_isWhole 56 rfl) (by decide) ?_
        refine V_goto (tgt := 104) (sx_di dX12_isWhole 57 rfl) (by decide) ?_
        refine V_istore_n (i := 1) (sx_di dX12_isWhole 59 rfl) rfl (by decide) (rfl) ?_
        refine V_inc (c := 1) (sx_di dX12_isWhole 60 rfl) (by decide) rfl (by decide) (rfl) ?_
        refine V_goto (tgt := 70) (sx_di dX12_isWhole 61 rfl) (by decide) ?_
        exact V_subk (st true ⟨fun _ => ⟨b79, Int32.not_le.mp h96⟩, fun _ => rfl⟩) ⟨rfl, rfl, rfl, trivial⟩
set_option maxHeartbeats 2000000 in
set_option maxRecDepth 20000 in
theorem c_wholeR {E : sxE} {w : hpW} {Q : Option Value → hpW → Prop} {n m : Nat} {s : Nat → Int32} (hB : ly_B w) (hn : hp_i w 381 20 = nI n) (hn8 : n ≤ 8) (hm : hp_i w 381 21 = nI m) (hm6 : m ≤ 6) (hg : sg9 n m (RS9 w) s) (h : ∀ b : Bool, (b = true ↔ whl n m s) → Q (some (.int (bz9 b))) w) : sx_C E mX12_isWhole 1 0 0 [.ref 381] w Q := by
  have e1 : hp_i w 392 1 = s 1 := (RS_r (by decide)).trans (hg.1 1 (by decide))
  have e2 : hp_i w 392 2 = s 2 := (RS_r (by decide)).trans (hg.1 2 (by decide))
  have go : ∀ b : Bool, (b = true ↔ (1 < n ∧ 0 < m ∧ s 2 < nI m ∧ (s 1 = 8 ∨ s 1 < nI n))) → V E mX12_isWhole (sx_rm 1 0 0) 0 0 0 0 70 [(2, .int (nI 0)), (1, .int (bz9 b)), (0, .ref 381)] [] w Q := by
    intro b hb
    refine iw_lp hB hm hm6 hg (fun c hc => h c ⟨fun z => ?_, fun z => ?_⟩) m 0 b (by omega) ⟨fun z => ⟨hb.mp z, fun f hf => absurd hf (Nat.not_lt_zero f)⟩, fun z => hb.mpr z.1⟩
    · obtain ⟨⟨a1, a2, a3, a4⟩, a5⟩ := hc.mp z
      exact ⟨a1, a2, a3, a4, a5⟩
    · exact hc.mpr ⟨⟨z.1, z.2.1, z.2.2.1, z.2.2.2.1⟩, z.2.2.2.2⟩
  have nogo : ¬ (1 < n ∧ 0 < m ∧ s 2 < nI m) → V E mX12_isWhole (sx_rm 1 0 0) 0 0 0 0 70 [(2, .int (nI 0)), (1, .int (bz9 false)), (0, .ref 381)] [] w Q := fun z => go false ⟨fun q => absurd q Bool.false_ne_true, fun q => absurd ⟨q.1, q.2.1, q.2.2.1⟩ z⟩
  refine C_of (by decide +kernel) (Nat.le_of_ble_eq_true rfl) ?_
  refine V_aload_n (i := 0) (sx_di dX12_isWhole 0 rfl) rfl rfl ?_
  refine V_getI (sx_di dX12_isWhole 1 rfl) fX12_238 (fun _ => rfl) (hB.k _ rfl) ?_
  refine V_iv (y := nI n) (hn) ?_
  refine V_iconst (v := 1) (sx_di dX12_isWhole 2 rfl) (by decide) ?_
  refine V_icN_le (a := n) (b := 1) (rfl) (rfl) (by omega) (by omega) (tgt := 32) (sx_di dX12_isWhole 3 rfl) (by decide) (fun h5 => ?_) (fun h5 => ?_)
  · refine V_iconst (v := 0) (sx_di dX12_isWhole 16 rfl) (by decide) ?_
    refine V_istore_n (i := 1) (sx_di dX12_isWhole 17 rfl) rfl (by decide) (rfl) ?_
    refine V_iload_n (i := 1) (sx_di dX12_isWhole 18 rfl) rfl rfl ?_
    refine V_ifN_eq (a := 0) (rfl) (by omega) (tgt := 66) (sx_di dX12_isWhole 19 rfl) (by decide) (fun _ => ?_) (fun h35 => absurd h35 (by omega))
    refine V_iconst (v := 0) (sx_di dX12_isWhole 35 rfl) (by decide) ?_
    refine V_istore_n (i := 1) (sx_di dX12_isWhole 36 rfl) rfl (by decide) (rfl) ?_
    refine V_iconst (v := 0) (sx_di dX12_isWhole 37 rfl) (by decide) ?_
    refine V_istore_n (i := 2) (sx_di dX12_isWhole 38 rfl) rfl (by decide) (rfl) ?_
    exact V_subk (nogo (fun z => by have := z.1; omega)) ⟨rfl, rfl, rfl, trivial⟩
  · refine V_aload_n (i := 0) (sx_di dX12_isWhole 4 rfl) rfl rfl ?_
    refine V_getI (sx_di dX12_isWhole 5 rfl) fX12_241 (fun _ => rfl) (hB.k _ rfl) ?_
    refine V_iv (y := nI m) (hm) ?_
    refine V_ifN_le (a := m) (rfl) (by omega) (tgt := 32) (sx_di dX12_isWhole 6 rfl) (by decide) (fun h12 => ?_) (fun h12 => ?_)
    · refine V_iconst (v := 0) (sx_di dX12_isWhole 16 rfl) (by decide) ?_
      refine V_istore_n (i := 1) (sx_di dX12_isWhole 17 rfl) rfl (by decide) (rfl) ?_
      refine V_iload_n (i := 1) (sx_di dX12_isWhole 18 rfl) rfl rfl ?_
      refine V_ifN_eq (a := 0) (rfl) (by omega) (tgt := 66) (sx_di dX12_isWhole 19 rfl) (by decide) (fun _ => ?_) (fun h35 => absurd h35 (by omega))
      refine V_iconst (v := 0) (sx_di dX12_isWhole 35 rfl) (by decide) ?_
      refine V_istore_n (i := 1) (sx_di dX12_isWhole 36 rfl) rfl (by decide) (rfl) ?_
      refine V_iconst (v := 0) (sx_di dX12_isWhole 37 rfl) (by decide) ?_
      refine V_istore_n (i := 2) (sx_di dX12_isWhole 38 rfl) rfl (by decide) (rfl) ?_
      exact V_subk (nogo (fun z => by have := z.2.1; omega)) ⟨rfl, rfl, rfl, trivial⟩
    · refine V_aload_n (i := 0) (sx_di dX12_isWhole 7 rfl) rfl rfl ?_
      refine V_getR (sx_di dX12_isWhole 8 rfl) fX12_40 (fun _ => rfl) (hB.k _ rfl) (hB.r _ _ rfl) ?_
      refine V_iconst (v := 2) (sx_di dX12_isWhole 9 rfl) (by decide) ?_
      refine V_ialdN (n := 4) (j := 2) (sx_di dX12_isWhole 10 rfl) (hB.k _ rfl) (rfl) (by omega) (by omega) ?_
      refine V_iv (y := s 2) (e2) ?_
      refine V_aload_n (i := 0) (sx_di dX12_isWhole 11 rfl) rfl rfl ?_
      refine V_getI (sx_di dX12_isWhole 12 rfl) fX12_241 (fun _ => rfl) (hB.k _ rfl) ?_
      refine V_iv (y := nI m) (hm) ?_
      refine V_icmp_ge (tgt := 32) (sx_di dX12_isWhole 13 rfl) (by decide) (fun h25 => ?_) (fun h25 => ?_)
      · refine V_iconst (v := 0) (sx_di dX12_isWhole 16 rfl) (by decide) ?_
        refine V_istore_n (i := 1) (sx_di dX12_isWhole 17 rfl) rfl (by decide) (rfl) ?_
        refine V_iload_n (i := 1) (sx_di dX12_isWhole 18 rfl) rfl rfl ?_
        refine V_ifN_eq (a := 0) (rfl) (by omega) (tgt := 66) (sx_di dX12_isWhole 19 rfl) (by decide) (fun _ => ?_) (fun h35 => absurd h35 (by omega))
        refine V_iconst (v := 0) (sx_di dX12_isWhole 35 rfl) (by decide) ?_
        refine V_istore_n (i := 1) (sx_di dX12_isWhole 36 rfl) rfl (by decide) (rfl) ?_
        refine V_iconst (v := 0) (sx_di dX12_isWhole 37 rfl) (by decide) ?_
        refine V_istore_n (i := 2) (sx_di dX12_isWhole 38 rfl) rfl (by decide) (rfl) ?_
        exact V_subk (nogo (fun z => absurd z.2.2 (Int32.not_lt.mpr h25))) ⟨rfl, rfl, rfl, trivial⟩
      · have c25 := Int32.not_le.mp h25
        refine V_iconst (v := 1) (sx_di dX12_isWhole 14 rfl) (by decide) ?_
        refine V_goto (tgt := 33) (sx_di dX12_isWhole 15 rfl) (by decide) ?_
        refine V_istore_n (i := 1) (sx_di dX12_isWhole 17 rfl) rfl (by decide) (rfl) ?_
        refine V_iload_n (i := 1) (sx_di dX12_isWhole 18 rfl) rfl rfl ?_
        refine V_ifN_eq (a := 1) (rfl) (by omega) (tgt := 66) (sx_di dX12_isWhole 19 rfl) (by decide) (fun h35 => absurd h35 (by omega)) (fun _ => ?_)
        refine V_aload_n (i := 0) (sx_di dX12_isWhole 20 rfl) rfl rfl ?_
        refine V_getR (sx_di dX12_isWhole 21 rfl) fX12_40 (fun _ => rfl) (hB.k _ rfl) (hB.r _ _ rfl) ?_
        refine V_iconst (v := 1) (sx_di dX12_isWhole 22 rfl) (by decide) ?_
        refine V_ialdN (n := 4) (j := 1) (sx_di dX12_isWhole 23 rfl) (hB.k _ rfl) (rfl) (by omega) (by omega) ?_
        refine V_iv (y := s 1) (e1) ?_
        refine V_bipush (v := 8) (sx_di dX12_isWhole 24 rfl) (by decide) ?_
        refine V_icmp_eq (tgt := 62) (sx_di dX12_isWhole 25 rfl) (by decide) (fun h46 => ?_) (fun h46 => ?_)
        · refine V_iconst (v := 1) (sx_di dX12_isWhole 33 rfl) (by decide) ?_
          refine V_goto (tgt := 67) (sx_di dX12_isWhole 34 rfl) (by decide) ?_
          refine V_istore_n (i := 1) (sx_di dX12_isWhole 36 rfl) rfl (by decide) (rfl) ?_
          refine V_iconst (v := 0) (sx_di dX12_isWhole 37 rfl) (by decide) ?_
          refine V_istore_n (i := 2) (sx_di dX12_isWhole 38 rfl) rfl (by decide) (rfl) ?_
          exact V_subk (go true ⟨fun _ => ⟨by omega, by omega, c25, Or.inl h46⟩, fun _ => rfl⟩) ⟨rfl, rfl, rfl, trivial⟩
        · refine V_aload_n (i := 0) (sx_di dX12_isWhole 26 rfl) rfl rfl ?_
          refine V_getR (sx_di dX12_isWhole 27 rfl) fX12_40 (fun _ => rfl) (hB.k _ rfl) (hB.r _ _ rfl) ?_
          refine V_iconst (v := 1) (sx_di dX12_isWhole 28 rfl) (by decide) ?_
          refine V_ialdN (n := 4) (j := 1) (sx_di dX12_isWhole 29 rfl) (hB.k _ rfl) (rfl) (by omega) (by omega) ?_
          refine V_iv (y := s 1) (e1) ?_
          refine V_aload_n (i := 0) (sx_di dX12_isWhole 30 rfl) rfl rfl ?_
          refine V_getI (sx_di dX12_isWhole 31 rfl) fX12_238 (fun _ => rfl) (hB.k _ rfl) ?_
          refine V_iv (y := nI n) (hn) ?_
          refine V_icmp_ge (tgt := 66) (sx_di dX12_isWhole 32 rfl) (by decide) (fun h59 => ?_) (fun h59 => ?_)
          · refine V_iconst (v := 0) (sx_di dX12_isWhole 35 rfl) (by decide) ?_
            refine V_istore_n (i := 1) (sx_di dX12_isWhole 36 rfl) rfl (by decide) (rfl) ?_
            refine V_iconst (v := 0) (sx_di dX12_isWhole 37 rfl) (by decide) ?_
            refine V_istore_n (i := 2) (sx_di dX12_isWhole 38 rfl) rfl (by decide) (rfl) ?_
            exact V_subk (go false ⟨fun q => absurd q Bool.false_ne_true, fun q => q.2.2.2.elim (fun z => absurd z h46) (fun z => absurd z (Int32.not_lt.mpr h59))⟩) ⟨rfl, rfl, rfl, trivial⟩
          · refine V_iconst (v := 1) (sx_di dX12_isWhole 33 rfl) (by decide) ?_
            refine V_goto (tgt := 67) (sx_di dX12_isWhole 34 rfl) (by decide) ?_
            refine V_istore_n (i := 1) (sx_di dX12_isWhole 36 rfl) rfl (by decide) (rfl) ?_
            refine V_iconst (v := 0) (sx_di dX12_isWhole 37 rfl) (by decide) ?_
            refine V_istore_n (i := 2) (sx_di dX12_isWhole 38 rfl) rfl (by decide) (rfl) ?_
            exact V_subk (go true ⟨fun _ => ⟨by omega, by omega, c25, Or.inr (Int32.not_le.mp h59)⟩, fun _ => rfl⟩) ⟨rfl, rfl, rfl, trivial⟩
/-- what came of a clause -/
def S9 (T : List Int32) (y : scT) (w : hpW) : Prop := (y.1 = true → qP T y.2.2 y.2.1.2.1 y.2.1.2.2.1 w ∧ sg9 y.2.1.2.1 y.2.1.2.2.1 (RS9 w) y.2.1.2.2.2) ∧ (¬ y.1 = true → ∃ n m, qF T y.2.2 n m w)
theorem S9_B {T : List Int32} {y : scT} {w : hpW} (h : S9 T y w) : ly_B w ∧ tp_ w 381 2 382 T := by
  by_cases c : y.1 = true
  · exact ⟨(h.1 c).1.1, (h.1 c).1.2.1⟩
  · obtain ⟨n, m, q⟩ := h.2 c
    exact ⟨q.1, q.2.1⟩
theorem S9_w {T : List Int32} {y : scT} {w : hpW} (h : S9 T y w) : hp_i w 381 4 = (if y.1 = true then -1 else nI y.2.2) := by
  by_cases c : y.1 = true
  · rw [if_pos c]; exact (h.1 c).1.2.2.1
  · obtain ⟨n, m, q⟩ := h.2 c
    rw [if_neg c]; exact q.2.2.1
/-- the street read is x -/
def sR9 (x : srT) (w : hpW) : Prop := hp_i w 381 20 = nI x.2.1 ∧ hp_i w 381 21 = nI x.2.2.1 ∧ sg9 x.2.1 x.2.2.1 (RS9 w) x.2.2.2
theorem qF_at {T : List Int32} {e n m : Nat} {v : Int32} {w : hpW} (H : qF T e n m w) : qF T e n m (hp_si w 381 3 v) := ⟨ly_i H.1, tp_si (by decide) H.2.1, (si_o (by omega)).trans H.2.2.1, (si_o (by omega)).trans H.2.2.2.1, (si_o (by omega)).trans H.2.2.2.2⟩
set_option maxHeartbeats 2000000 in
set_option maxRecDepth 20000 in
theorem rs_lpR {E : sxE} {T : List Int32} {Q : Option Value → hpW → Prop} : ∀ f x p w, qP T p x.2.1 x.2.2.1 w → sg9 x.2.1 x.2.2.1 (RS9 w) x.2.2.2 → sok x → p ≤ T.length → T.length + 1 ≤ p + f → (∀ w', ly_B w' → tp_ w' 381 2 382 T → fT9 w w' → ((stF T f x p).1 = true → sR9 (stF T f x p).2.1 w') → Q (some (.int (sres (stF T f x p)))) w') → V E mX12_readStreet (sx_rm 5 0 0) 0 0 0 0 49 [(2, .int 1), (1, .int (bz9 x.1)), (0, .ref 381)] [] w Q := by
  intro f
  induction f with
  | zero =>
    intro x p w H hs hx hp hf
    omega
  | succ f ih =>
    intro x p w H hs hx hp hf h
    have hT := H.2.1.1
    have g2 := skq_le (T := T) hp
    have x1 := hx.1
    have x2 := hx.2.1
    obtain ⟨a1, a2, a3⟩ := scl_go hx hp
    unfold stF at h
    have t214 : ∀ hr9 w1, ((scl_ T x p).1 = true → hr9 = (scl_ T x p).2.1.1) → S9 T (scl_ T x p) w1 → fT9 w w1 → V E mX12_readStreet (sx_rm 5 0 0) 0 0 0 0 214 [(1, .int (bz9 hr9)), (0, .ref 381)] [] w1 Q := by
      intro hr9 w1 ehr H1 f1
      have B1 := S9_B H1
      refine V_aload_n (i := 0) (sx_di dX12_readStreet 122 rfl) rfl rfl ?_
      refine V_getI (sx_di dX12_readStreet 123 rfl) fX12_116 (fun _ => rfl) (by first | exact B1.1.k _ rfl | exact (ly_i B1.1).k _ rfl | exact H2.1.k _ rfl | exact H3.1.k _ rfl | exact (ly_i H3.1).k _ rfl | exact H5.1.k _ rfl | exact H6.1.k _ rfl) ?_
      refine V_iv (y := if (scl_ T x p).1 = true then -1 else nI (scl_ T x p).2.2) (S9_w H1) ?_
      refine V_iconst (v := -1) (sx_di dX12_readStreet 124 rfl) (by decide) ?_
      refine V_icmp_ne (tgt := 235) (sx_di dX12_readStreet 125 rfl) (by decide) (fun h219 => ?_) (fun h219 => ?_)
      · have b9 : ¬ (scl_ T x p).1 = true := fun z => h219 (if_pos z)
        rw [if_neg b9] at h
        obtain ⟨n9, m9, F1⟩ := H1.2 b9
        refine V_iconst (v := 0) (sx_di dX12_readStreet 132 rfl) (by decide) ?_
        refine V_istore_n (i := 2) (sx_di dX12_readStreet 133 rfl) rfl (by decide) (rfl) ?_
        refine V_aload_n (i := 0) (sx_di dX12_readStreet 134 rfl) rfl rfl ?_
        refine V_dup (sx_di dX12_readStreet 135 rfl) rfl ?_
        refine V_getI (sx_di dX12_readStreet 136 rfl) fX12_109 (fun _ => rfl) (by first | exact B1.1.k _ rfl | exact (ly_i B1.1).k _ rfl | exact H2.1.k _ rfl | exact H3.1.k _ rfl | exact (ly_i H3.1).k _ rfl | exact H5.1.k _ rfl | exact H6.1.k _ rfl) ?_
        refine V_iload_n (i := 2) (sx_di dX12_readStreet 137 rfl) rfl rfl ?_
        refine V_ifN_eq (a := 0) (rfl) (by omega) (tgt := 250) (sx_di dX12_readStreet 138 rfl) (by decide) (fun _ => ?_) (fun h243 => absurd h243 (by omega))
        refine V_iconst (v := 0) (sx_di dX12_readStreet 141 rfl) (by decide) ?_
        refine V_iadd (sx_di dX12_readStreet 142 rfl) ?_
        refine V_putI (sx_di dX12_readStreet 143 rfl) fX12_109 (fun _ => rfl) rfl (by first | exact B1.1.k _ rfl | exact (ly_i B1.1).k _ rfl | exact H2.1.k _ rfl | exact H3.1.k _ rfl | exact (ly_i H3.1).k _ rfl | exact H5.1.k _ rfl | exact H6.1.k _ rfl) (rfl) (rfl) ?_
        refine V_goto (tgt := 49) (sx_di dX12_readStreet 144 rfl) (by decide) ?_
        refine V_iload_n (i := 2) (sx_di dX12_readStreet 30 rfl) rfl rfl ?_
        refine V_ifN_eq (a := 0) (rfl) (by omega) (tgt := 258) (sx_di dX12_readStreet 31 rfl) (by decide) (fun _ => ?_) (fun h50 => absurd h50 (by omega))
        refine V_aload_n (i := 0) (sx_di dX12_readStreet 145 rfl) rfl rfl ?_
        refine V_getI (sx_di dX12_readStreet 146 rfl) fX12_116 (fun _ => rfl) (by first | exact B1.1.k _ rfl | exact (ly_i B1.1).k _ rfl | exact H2.1.k _ rfl | exact H3.1.k _ rfl | exact (ly_i H3.1).k _ rfl | exact H5.1.k _ rfl | exact H6.1.k _ rfl) ?_
        refine V_iv (y := nI (scl_ T x p).2.2) ((qF_at F1).2.2.1) ?_
        refine V_iconst (v := -1) (sx_di dX12_readStreet 147 rfl) (by decide) ?_
        refine V_icmp_ne (tgt := 285) (sx_di dX12_readStreet 148 rfl) (by decide) (fun _ => ?_) (fun h263 => absurd h263 (nI_nm1 (by omega)))
        refine V_aload_n (i := 0) (sx_di dX12_readStreet 158 rfl) rfl rfl ?_
        refine V_getI (sx_di dX12_readStreet 159 rfl) fX12_116 (fun _ => rfl) (by first | exact B1.1.k _ rfl | exact (ly_i B1.1).k _ rfl | exact H2.1.k _ rfl | exact H3.1.k _ rfl | exact (ly_i H3.1).k _ rfl | exact H5.1.k _ rfl | exact H6.1.k _ rfl) ?_
        refine V_iv (y := nI (scl_ T x p).2.2) ((qF_at F1).2.2.1) ?_
        refine V_iret (sx_di dX12_readStreet 160 rfl) rfl (Nat.le_refl _) (Nat.le_refl _) ?_
        exact h _ (qF_at F1).1 (qF_at F1).2.1 (fT9_tr f1 (fT9_si (Or.inl rfl))) (fun z => absurd z Bool.false_ne_true)
      · have b9 : (scl_ T x p).1 = true := Classical.byContradiction (fun z => by rw [if_neg z] at h219; exact nI_nm1 (by omega) h219)
        rw [if_pos b9] at h
        obtain ⟨H2, g2s⟩ := H1.1 b9
        have b2 := a3 b9
        have eh := ehr b9
        refine V_aload_n (i := 0) (sx_di dX12_readStreet 126 rfl) rfl rfl ?_
        refine V_cV0 (mc' := 0) (ms' := 0) (M' := mX12_look) 2 (sx_di dX12_readStreet 127 rfl) lX12_128 vX12_look (by first | exact B1.1.k _ rfl | exact (ly_i B1.1).k _ rfl | exact H2.1.k _ rfl | exact H3.1.k _ rfl | exact (ly_i H3.1).k _ rfl | exact H5.1.k _ rfl | exact H6.1.k _ rfl) (by decide) rfl (Nat.le_of_ble_eq_true rfl) ⟨by show 2 + 1 ≤ 5; omega, by show 64 + 64 * (2) ≤ 64 * (5); omega⟩ ⟨Nat.le_refl _, Nat.le_refl _⟩ ?_
        refine c_lookS H2 a2 (fun w3 H3 f3 s3 => ?_)
        rw [b2.2.2] at H3
        refine V_bipush (v := 59) (sx_di dX12_readStreet 128 rfl) (by decide) ?_
        refine V_icmp_ne (tgt := 235) (sx_di dX12_readStreet 129 rfl) (by decide) (fun h228 => ?_) (fun h228 => ?_)
        · rw [if_neg h228] at h
          refine V_iconst (v := 0) (sx_di dX12_readStreet 132 rfl) (by decide) ?_
          refine V_istore_n (i := 2) (sx_di dX12_readStreet 133 rfl) rfl (by decide) (rfl) ?_
          refine V_aload_n (i := 0) (sx_di dX12_readStreet 134 rfl) rfl rfl ?_
          refine V_dup (sx_di dX12_readStreet 135 rfl) rfl ?_
          refine V_getI (sx_di dX12_readStreet 136 rfl) fX12_109 (fun _ => rfl) (by first | exact B1.1.k _ rfl | exact (ly_i B1.1).k _ rfl | exact H2.1.k _ rfl | exact H3.1.k _ rfl | exact (ly_i H3.1).k _ rfl | exact H5.1.k _ rfl | exact H6.1.k _ rfl) ?_
          refine V_iv (y := nI (scl_ T x p).2.2) (H3.2.2.2.1) ?_
          refine V_iload_n (i := 2) (sx_di dX12_readStreet 137 rfl) rfl rfl ?_
          refine V_ifN_eq (a := 0) (rfl) (by omega) (tgt := 250) (sx_di dX12_readStreet 138 rfl) (by decide) (fun _ => ?_) (fun h243 => absurd h243 (by omega))
          refine V_iconst (v := 0) (sx_di dX12_readStreet 141 rfl) (by decide) ?_
          refine V_iadd (sx_di dX12_readStreet 142 rfl) ?_
          refine V_iv (y := nI (scl_ T x p).2.2) (nI_add _ 0) ?_
          refine V_putI (sx_di dX12_readStreet 143 rfl) fX12_109 (fun _ => rfl) rfl (by first | exact B1.1.k _ rfl | exact (ly_i B1.1).k _ rfl | exact H2.1.k _ rfl | exact H3.1.k _ rfl | exact (ly_i H3.1).k _ rfl | exact H5.1.k _ rfl | exact H6.1.k _ rfl) (rfl) (rfl) ?_
          have H4 := qP_at (q := (scl_ T x p).2.2) H3
          refine V_goto (tgt := 49) (sx_di dX12_readStreet 144 rfl) (by decide) ?_
          refine V_iload_n (i := 2) (sx_di dX12_readStreet 30 rfl) rfl rfl ?_
          refine V_ifN_eq (a := 0) (rfl) (by omega) (tgt := 258) (sx_di dX12_readStreet 31 rfl) (by decide) (fun _ => ?_) (fun h50 => absurd h50 (by omega))
          refine V_aload_n (i := 0) (sx_di dX12_readStreet 145 rfl) rfl rfl ?_
          refine V_getI (sx_di dX12_readStreet 146 rfl) fX12_116 (fun _ => rfl) (by first | exact B1.1.k _ rfl | exact (ly_i B1.1).k _ rfl | exact H2.1.k _ rfl | exact H3.1.k _ rfl | exact (ly_i H3.1).k _ rfl | exact H5.1.k _ rfl | exact H6.1.k _ rfl) ?_
          refine V_iv (y := -1) ((qP_at (q := (scl_ T x p).2.2) H3).2.2.1) ?_
          refine V_iconst (v := -1) (sx_di dX12_readStreet 147 rfl) (by decide) ?_
          refine V_icmp_ne (tgt := 285) (sx_di dX12_readStreet 148 rfl) (by decide) (fun h263 => absurd rfl h263) (fun _ => ?_)
          refine V_aload_n (i := 0) (sx_di dX12_readStreet 149 rfl) rfl rfl ?_
          refine V_cV0 (mc' := 0) (ms' := 0) (M' := mX12_look) 2 (sx_di dX12_readStreet 150 rfl) lX12_128 vX12_look (by first | exact B1.1.k _ rfl | exact (ly_i B1.1).k _ rfl | exact H2.1.k _ rfl | exact H3.1.k _ rfl | exact (ly_i H3.1).k _ rfl | exact H5.1.k _ rfl | exact H6.1.k _ rfl) (by decide) rfl (Nat.le_of_ble_eq_true rfl) ⟨by show 2 + 1 ≤ 5; omega, by show 64 + 64 * (2) ≤ 64 * (5); omega⟩ ⟨Nat.le_refl _, Nat.le_refl _⟩ ?_
          refine c_lookS H4 a2 (fun w5 H5 f5 s5 => ?_)
          rw [b2.2.2] at H5
          have g5 : sg9 (scl_ T x p).2.1.2.1 (scl_ T x p).2.1.2.2.1 (RS9 w5) (scl_ T x p).2.1.2.2.2 := by rw [s5, RS_s1, s3]; exact g2s
          have f15 := fT9_tr f1 (fT9_tr f3 (fT9_tr (fT9_si (Or.inl rfl)) f5))
          refine V_iconst (v := -1) (sx_di dX12_readStreet 151 rfl) (by decide) ?_
          refine V_icmp_ne (tgt := 281) (sx_di dX12_readStreet 152 rfl) (by decide) (fun h271 => ?_) (fun h271 => ?_)
          · rw [if_neg (fun z => h271 z.1), b2.2.2] at h
            refine V_aload_n (i := 0) (sx_di dX12_readStreet 156 rfl) rfl rfl ?_
            refine V_cV0 (mc' := 0) (ms' := 0) (M' := mX12_bad) 1 (sx_di dX12_readStreet 157 rfl) lX12_125 vX12_bad (by first | exact B1.1.k _ rfl | exact (ly_i B1.1).k _ rfl | exact H2.1.k _ rfl | exact H3.1.k _ rfl | exact (ly_i H3.1).k _ rfl | exact H5.1.k _ rfl | exact H6.1.k _ rfl) (by decide) rfl (Nat.le_of_ble_eq_true rfl) ⟨by show 1 + 1 ≤ 5; omega, by show 64 + 64 * (1) ≤ 64 * (5); omega⟩ ⟨Nat.le_refl _, Nat.le_refl _⟩ ?_
            refine c_badS H5 (fun w6 H6 f6 s6 => ?_)
            refine V_aload_n (i := 0) (sx_di dX12_readStreet 158 rfl) rfl rfl ?_
            refine V_getI (sx_di dX12_readStreet 159 rfl) fX12_116 (fun _ => rfl) (by first | exact B1.1.k _ rfl | exact (ly_i B1.1).k _ rfl | exact H2.1.k _ rfl | exact H3.1.k _ rfl | exact (ly_i H3.1).k _ rfl | exact H5.1.k _ rfl | exact H6.1.k _ rfl) ?_
            refine V_iv (y := nI (scl_ T x p).2.2) (H6.2.2.1) ?_
            refine V_iret (sx_di dX12_readStreet 160 rfl) rfl (Nat.le_refl _) (Nat.le_refl _) ?_
            exact h w6 H6.1 H6.2.1 (fT9_tr f15 f6) (fun z => absurd z Bool.false_ne_true)
          · refine V_aload_n (i := 0) (sx_di dX12_readStreet 153 rfl) rfl rfl ?_
            refine V_cV0 (mc' := 0) (ms' := 0) (M' := mX12_isWhole) 1 (sx_di dX12_readStreet 154 rfl) lX12_248 vX12_isWhole (by first | exact B1.1.k _ rfl | exact (ly_i B1.1).k _ rfl | exact H2.1.k _ rfl | exact H3.1.k _ rfl | exact (ly_i H3.1).k _ rfl | exact H5.1.k _ rfl | exact H6.1.k _ rfl) (by decide) rfl (Nat.le_of_ble_eq_true rfl) ⟨by show 1 + 1 ≤ 5; omega, by show 64 + 64 * (1) ≤ 64 * (5); omega⟩ ⟨Nat.le_refl _, Nat.le_refl _⟩ ?_
            refine c_wholeR H5.1 H5.2.2.2.2.1 b2.1.1 H5.2.2.2.2.2 b2.1.2.1 g5 (fun wb hwb => ?_)
            refine V_if_ne (tgt := 285) (sx_di dX12_readStreet 155 rfl) (by decide) (fun h278 => ?_) (fun h278 => ?_)
            · rw [if_pos ⟨h271, hwb.mp (bz9t h278)⟩] at h
              refine V_aload_n (i := 0) (sx_di dX12_readStreet 158 rfl) rfl rfl ?_
              refine V_getI (sx_di dX12_readStreet 159 rfl) fX12_116 (fun _ => rfl) (by first | exact B1.1.k _ rfl | exact (ly_i B1.1).k _ rfl | exact H2.1.k _ rfl | exact H3.1.k _ rfl | exact (ly_i H3.1).k _ rfl | exact H5.1.k _ rfl | exact H6.1.k _ rfl) ?_
              refine V_iv (y := -1) (H5.2.2.1) ?_
              refine V_iret (sx_di dX12_readStreet 160 rfl) rfl (Nat.le_refl _) (Nat.le_refl _) ?_
              exact h w5 H5.1 H5.2.1 f15 (fun _ => ⟨H5.2.2.2.2.1, H5.2.2.2.2.2, g5⟩)
            · rw [if_neg (fun z => bz9f h278 (hwb.mpr z.2)), b2.2.2] at h
              refine V_aload_n (i := 0) (sx_di dX12_readStreet 156 rfl) rfl rfl ?_
              refine V_cV0 (mc' := 0) (ms' := 0) (M' := mX12_bad) 1 (sx_di dX12_readStreet 157 rfl) lX12_125 vX12_bad (by first | exact B1.1.k _ rfl | exact (ly_i B1.1).k _ rfl | exact H2.1.k _ rfl | exact H3.1.k _ rfl | exact (ly_i H3.1).k _ rfl | exact H5.1.k _ rfl | exact H6.1.k _ rfl) (by decide) rfl (Nat.le_of_ble_eq_true rfl) ⟨by show 1 + 1 ≤ 5; omega, by show 64 + 64 * (1) ≤ 64 * (5); omega⟩ ⟨Nat.le_refl _, Nat.le_refl _⟩ ?_
              refine c_badS H5 (fun w6 H6 f6 s6 => ?_)
              refine V_aload_n (i := 0) (sx_di dX12_readStreet 158 rfl) rfl rfl ?_
              refine V_getI (sx_di dX12_readStreet 159 rfl) fX12_116 (fun _ => rfl) (by first | exact B1.1.k _ rfl | exact (ly_i B1.1).k _ rfl | exact H2.1.k _ rfl | exact H3.1.k _ rfl | exact (ly_i H3.1).k _ rfl | exact H5.1.k _ rfl | exact H6.1.k _ rfl) ?_
              refine V_iv (y := nI (scl_ T x p).2.2) (H6.2.2.1) ?_
              refine V_iret (sx_di dX12_readStreet 160 rfl) rfl (Nat.le_refl _) (Nat.le_refl _) ?_
              exact h w6 H6.1 H6.2.1 (fT9_tr f15 f6) (fun z => absurd z Bool.false_ne_true)
        · rw [if_pos h228] at h
          have z1 := cz_p1 h228 (by decide)
          rw [b2.2.2] at h z1
          refine V_iconst (v := 1) (sx_di dX12_readStreet 130 rfl) (by decide) ?_
          refine V_goto (tgt := 236) (sx_di dX12_readStreet 131 rfl) (by decide) ?_
          refine V_istore_n (i := 2) (sx_di dX12_readStreet 133 rfl) rfl (by decide) (rfl) ?_
          refine V_aload_n (i := 0) (sx_di dX12_readStreet 134 rfl) rfl rfl ?_
          refine V_dup (sx_di dX12_readStreet 135 rfl) rfl ?_
          refine V_getI (sx_di dX12_readStreet 136 rfl) fX12_109 (fun _ => rfl) (by first | exact B1.1.k _ rfl | exact (ly_i B1.1).k _ rfl | exact H2.1.k _ rfl | exact H3.1.k _ rfl | exact (ly_i H3.1).k _ rfl | exact H5.1.k _ rfl | exact H6.1.k _ rfl) ?_
          refine V_iv (y := nI (scl_ T x p).2.2) (H3.2.2.2.1) ?_
          refine V_iload_n (i := 2) (sx_di dX12_readStreet 137 rfl) rfl rfl ?_
          refine V_ifN_eq (a := 1) (rfl) (by omega) (tgt := 250) (sx_di dX12_readStreet 138 rfl) (by decide) (fun h243 => absurd h243 (by omega)) (fun _ => ?_)
          refine V_iconst (v := 1) (sx_di dX12_readStreet 139 rfl) (by decide) ?_
          refine V_goto (tgt := 251) (sx_di dX12_readStreet 140 rfl) (by decide) ?_
          refine V_iadd (sx_di dX12_readStreet 142 rfl) ?_
          refine V_iv (y := nI ((scl_ T x p).2.2 + 1)) (nI_add _ 1) ?_
          refine V_putI (sx_di dX12_readStreet 143 rfl) fX12_109 (fun _ => rfl) rfl (by first | exact B1.1.k _ rfl | exact (ly_i B1.1).k _ rfl | exact H2.1.k _ rfl | exact H3.1.k _ rfl | exact (ly_i H3.1).k _ rfl | exact H5.1.k _ rfl | exact H6.1.k _ rfl) (rfl) (rfl) ?_
          refine V_goto (tgt := 49) (sx_di dX12_readStreet 144 rfl) (by decide) ?_
          have q1 := ih (scl_ T x p).2.1 ((scl_ T x p).2.2 + 1) _ (qP_at (q := (scl_ T x p).2.2 + 1) H3) (by rw [RS_s1, s3]; exact g2s) b2.1 z1 (by omega) (fun w4 B4 t4 f4 s4 => h w4 B4 t4 (fT9_tr f1 (fT9_tr f3 (fT9_tr (fT9_si (Or.inl rfl)) f4))) s4)
          rw [eh]
          exact V_subk q1 ⟨rfl, rfl, rfl, trivial⟩
    refine V_iload_n (i := 2) (sx_di dX12_readStreet 30 rfl) rfl rfl ?_
    refine V_ifN_eq (a := 1) (rfl) (by omega) (tgt := 258) (sx_di dX12_readStreet 31 rfl) (by decide) (fun h50 => absurd h50 (by omega)) (fun _ => ?_)
    refine V_aload_n (i := 0) (sx_di dX12_readStreet 32 rfl) rfl rfl ?_
    refine V_getI (sx_di dX12_readStreet 33 rfl) fX12_116 (fun _ => rfl) (by first | exact H1.1.k _ rfl | exact H2.1.k _ rfl | exact B3.k _ rfl | exact H.1.k _ rfl) ?_
    refine V_iv (y := -1) (H.2.2.1) ?_
    refine V_iconst (v := -1) (sx_di dX12_readStreet 34 rfl) (by decide) ?_
    refine V_icmp_ne (tgt := 258) (sx_di dX12_readStreet 35 rfl) (by decide) (fun h58 => absurd rfl h58) (fun _ => ?_)
    refine V_aload_n (i := 0) (sx_di dX12_readStreet 36 rfl) rfl rfl ?_
    refine V_cV0 (mc' := 0) (ms' := 0) (M' := mX12_look) 2 (sx_di dX12_readStreet 37 rfl) lX12_128 vX12_look (by first | exact H1.1.k _ rfl | exact H2.1.k _ rfl | exact B3.k _ rfl | exact H.1.k _ rfl) (by decide) rfl (Nat.le_of_ble_eq_true rfl) ⟨by show 2 + 1 ≤ 5; omega, by show 64 + 64 * (2) ≤ 64 * (5); omega⟩ ⟨Nat.le_refl _, Nat.le_refl _⟩ ?_
    refine c_lookS H hp (fun w1 H1 f1 s1 => ?_)
    have h156 : ¬ (cz_ T p = 115 ∧ x.1 = false) → ¬ (cz_ T p = 104 ∧ x.2.1 < 8) → V E mX12_readStreet (sx_rm 5 0 0) 0 0 0 0 156 [(3, .int (cz_ T p)), (1, .int (bz9 x.1)), (0, .ref 381)] [] w1 Q := by
      intro n1 n2
      refine V_iload_n (i := 3) (sx_di dX12_readStreet 90 rfl) rfl rfl ?_
      refine V_bipush (v := 102) (sx_di dX12_readStreet 91 rfl) (by decide) ?_
      refine V_icmp_ne (tgt := 210) (sx_di dX12_readStreet 92 rfl) (by decide) (fun h159 => ?_) (fun h159 => ?_)
      · refine V_aload_n (i := 0) (sx_di dX12_readStreet 120 rfl) rfl rfl ?_
        refine V_cV0 (mc' := 0) (ms' := 0) (M' := mX12_bad) 1 (sx_di dX12_readStreet 121 rfl) lX12_125 vX12_bad (by first | exact H1.1.k _ rfl | exact H2.1.k _ rfl | exact B3.1.k _ rfl | exact H.1.k _ rfl) (by decide) rfl (Nat.le_of_ble_eq_true rfl) ⟨by show 1 + 1 ≤ 5; omega, by show 64 + 64 * (1) ≤ 64 * (5); omega⟩ ⟨Nat.le_refl _, Nat.le_refl _⟩ ?_
        refine c_badS H1 (fun w2 H2 f2 s2 => ?_)
        refine V_sub (ls' := [(1, .int (bz9 x.1)), (0, .ref 381)]) ⟨rfl, rfl, trivial⟩ ?_
        have ey : (scl_ T x p) = (false, x, skp_ T p) := by unfold scl_; rw [if_neg n1, if_neg n2, if_neg (fun z => h159 z.1)]
        exact t214 x.1 w2 (fun z => by rw [ey] at z; exact absurd z Bool.false_ne_true) (by rw [ey]; exact ⟨fun z => absurd z Bool.false_ne_true, fun _ => ⟨_, _, H2⟩⟩) (fT9_tr f1 f2)
      · refine V_aload_n (i := 0) (sx_di dX12_readStreet 93 rfl) rfl rfl ?_
        refine V_getI (sx_di dX12_readStreet 94 rfl) fX12_241 (fun _ => rfl) (by first | exact H1.1.k _ rfl | exact H2.1.k _ rfl | exact B3.1.k _ rfl | exact H.1.k _ rfl) ?_
        refine V_iv (y := nI x.2.2.1) (H1.2.2.2.2.2) ?_
        refine V_bipush (v := 6) (sx_di dX12_readStreet 95 rfl) (by decide) ?_
        refine V_icN_ge (a := x.2.2.1) (b := 6) (rfl) (rfl) (by omega) (by omega) (tgt := 210) (sx_di dX12_readStreet 96 rfl) (by decide) (fun h168 => ?_) (fun h168 => ?_)
        · refine V_aload_n (i := 0) (sx_di dX12_readStreet 120 rfl) rfl rfl ?_
          refine V_cV0 (mc' := 0) (ms' := 0) (M' := mX12_bad) 1 (sx_di dX12_readStreet 121 rfl) lX12_125 vX12_bad (by first | exact H1.1.k _ rfl | exact H2.1.k _ rfl | exact B3.1.k _ rfl | exact H.1.k _ rfl) (by decide) rfl (Nat.le_of_ble_eq_true rfl) ⟨by show 1 + 1 ≤ 5; omega, by show 64 + 64 * (1) ≤ 64 * (5); omega⟩ ⟨Nat.le_refl _, Nat.le_refl _⟩ ?_
          refine c_badS H1 (fun w2 H2 f2 s2 => ?_)
          refine V_sub (ls' := [(1, .int (bz9 x.1)), (0, .ref 381)]) ⟨rfl, rfl, trivial⟩ ?_
          have ey : (scl_ T x p) = (false, x, skp_ T p) := by unfold scl_; rw [if_neg n1, if_neg n2, if_neg (fun z => by have := z.2; omega)]
          exact t214 x.1 w2 (fun z => by rw [ey] at z; exact absurd z Bool.false_ne_true) (by rw [ey]; exact ⟨fun z => absurd z Bool.false_ne_true, fun _ => ⟨_, _, H2⟩⟩) (fT9_tr f1 f2)
        · have hq1 := cz_p1 h159 (by decide)
          have c9 : cz_ T p = 102 ∧ x.2.2.1 < 6 := ⟨h159, by omega⟩
          refine V_aload_n (i := 0) (sx_di dX12_readStreet 97 rfl) rfl rfl ?_
          refine V_dup (sx_di dX12_readStreet 98 rfl) rfl ?_
          refine V_getI (sx_di dX12_readStreet 99 rfl) fX12_109 (fun _ => rfl) (by first | exact H1.1.k _ rfl | exact H2.1.k _ rfl | exact B3.1.k _ rfl | exact H.1.k _ rfl) ?_
          refine V_iconst (v := 1) (sx_di dX12_readStreet 100 rfl) (by decide) ?_
          refine V_iadd (sx_di dX12_readStreet 101 rfl) ?_
          refine V_putI (sx_di dX12_readStreet 102 rfl) fX12_109 (fun _ => rfl) rfl (by first | exact H1.1.k _ rfl | exact H2.1.k _ rfl | exact B3.1.k _ rfl | exact H.1.k _ rfl) (rfl) (rfl) ?_
          refine V_atS H1 (fun w2 H2 f2 s2 => ?_)
          refine V_aload_n (i := 0) (sx_di dX12_readStreet 103 rfl) rfl rfl ?_
          refine V_iload_n (i := 3) (sx_di dX12_readStreet 104 rfl) rfl rfl ?_
          refine V_aload_n (i := 0) (sx_di dX12_readStreet 105 rfl) rfl rfl ?_
          refine V_getR (sx_di dX12_readStreet 106 rfl) fX12_46 (fun _ => rfl) (by first | exact H1.1.k _ rfl | exact H2.1.k _ rfl | exact B3.1.k _ rfl | exact H.1.k _ rfl) (by first | exact H1.1.r _ _ rfl | exact H2.1.r _ _ rfl | exact H.1.r _ _ rfl) ?_
          refine V_iconst (v := 2) (sx_di dX12_readStreet 107 rfl) (by decide) ?_
          refine V_aload_n (i := 0) (sx_di dX12_readStreet 108 rfl) rfl rfl ?_
          refine V_getI (sx_di dX12_readStreet 109 rfl) fX12_241 (fun _ => rfl) (by first | exact H1.1.k _ rfl | exact H2.1.k _ rfl | exact B3.1.k _ rfl | exact H.1.k _ rfl) ?_
          refine V_iv (y := nI x.2.2.1) (H2.2.2.2.2.2) ?_
          refine V_imul (sx_di dX12_readStreet 110 rfl) ?_
          refine V_iv (y := nI (2 * x.2.2.1)) (nx_mul (a := 2) rfl rfl) ?_
          refine V_iconst (v := 2) (sx_di dX12_readStreet 111 rfl) (by decide) ?_
          refine V_iv (y := nI 2) (rfl) ?_
          refine V_cV4 (mc' := 0) (ms' := 0) (M' := mX12_items) 4 (sx_di dX12_readStreet 112 rfl) lX12_244 vX12_items (by first | exact H1.1.k _ rfl | exact H2.1.k _ rfl | exact B3.1.k _ rfl | exact H.1.k _ rfl) (by decide) rfl (Nat.le_of_ble_eq_true rfl) ⟨by show 4 + 1 ≤ 5; omega, by show 64 + 64 * (4) ≤ 64 * (5); omega⟩ ⟨Nat.le_refl _, Nat.le_refl _⟩ ?_
          refine c_itemsR (b := 8) (z := 36) (l := 12) (n0 := x.2.1) (mm0 := x.2.2.1) (n1 := x.2.1) (m1 := x.2.2.1 + 1) (s := x.2.2.2) (Or.inr (Or.inr ⟨h159, rfl, rfl⟩)) (Or.inr (Or.inr ⟨rfl, rfl, rfl⟩)) (by omega) (Or.inl (Nat.le_refl _)) (Or.inr ⟨by omega, rfl⟩) H2 (by rw [s2, s1]; exact hs) hq1 (fun w3 i3 f3 => ?_)
          have B3 : ly_B w3 ∧ hp_i w3 381 21 = nI x.2.2.1 := by
            by_cases q : (its_ T 8 2 (36 + 2 * x.2.2.1) x.2.2.2 (skp_ T p + 1)).1 = true
            · exact ⟨(i3.1 q).1.1, (i3.1 q).1.2.2.2.2.2⟩
            · exact ⟨(i3.2 q).1, (i3.2 q).2.2.2.2⟩
          refine V_aload_n (i := 0) (sx_di dX12_readStreet 113 rfl) rfl rfl ?_
          refine V_dup (sx_di dX12_readStreet 114 rfl) rfl ?_
          refine V_getI (sx_di dX12_readStreet 115 rfl) fX12_241 (fun _ => rfl) (by first | exact H1.1.k _ rfl | exact H2.1.k _ rfl | exact B3.1.k _ rfl | exact H.1.k _ rfl) ?_
          refine V_iv (y := nI x.2.2.1) (B3.2) ?_
          refine V_iconst (v := 1) (sx_di dX12_readStreet 116 rfl) (by decide) ?_
          refine V_iadd (sx_di dX12_readStreet 117 rfl) ?_
          refine V_iv (y := nI (x.2.2.1 + 1)) (nI_add _ 1) ?_
          refine V_putI (sx_di dX12_readStreet 118 rfl) fX12_241 (fun _ => rfl) rfl (by first | exact H1.1.k _ rfl | exact H2.1.k _ rfl | exact B3.1.k _ rfl | exact H.1.k _ rfl) (rfl) (rfl) ?_
          refine V_goto (tgt := 214) (sx_di dX12_readStreet 119 rfl) (by decide) ?_
          refine V_sub (ls' := [(1, .int (bz9 x.1)), (0, .ref 381)]) ⟨rfl, rfl, trivial⟩ ?_
          have ey : (scl_ T x p) = ((its_ T 8 2 (36 + 2 * x.2.2.1) x.2.2.2 (skp_ T p + 1)).1, (x.1, x.2.1, x.2.2.1 + 1, (its_ T 8 2 (36 + 2 * x.2.2.1) x.2.2.2 (skp_ T p + 1)).2.1), (its_ T 8 2 (36 + 2 * x.2.2.1) x.2.2.2 (skp_ T p + 1)).2.2) := by unfold scl_; rw [if_neg n1, if_neg n2, if_pos c9]
          refine t214 x.1 _ (fun _ => by rw [ey]) ?_ (fT9_tr f1 (fT9_tr f2 (fT9_tr f3 (fT9_si (Or.inr (Or.inr (Or.inr rfl)))))))
          rw [ey]
          refine ⟨fun z => ?_, fun z => ?_⟩
          · obtain ⟨q1, q2⟩ := i3.1 z
            exact ⟨⟨ly_i q1.1, tp_si (by decide) q1.2.1, (si_o (by omega)).trans q1.2.2.1, (si_o (by omega)).trans q1.2.2.2.1, (si_o (by omega)).trans q1.2.2.2.2.1, si_a⟩, by rw [RS_s1]; exact q2⟩
          · have q1 := i3.2 z
            exact ⟨_, _, ly_i q1.1, tp_si (by decide) q1.2.1, (si_o (by omega)).trans q1.2.2.1, (si_o (by omega)).trans q1.2.2.2.1, si_a⟩
    have h102 : ¬ (cz_ T p = 115 ∧ x.1 = false) → V E mX12_readStreet (sx_rm 5 0 0) 0 0 0 0 102 [(3, .int (cz_ T p)), (1, .int (bz9 x.1)), (0, .ref 381)] [] w1 Q := by
      intro n1
      refine V_iload_n (i := 3) (sx_di dX12_readStreet 60 rfl) rfl rfl ?_
      refine V_bipush (v := 104) (sx_di dX12_readStreet 61 rfl) (by decide) ?_
      refine V_icmp_ne (tgt := 156) (sx_di dX12_readStreet 62 rfl) (by decide) (fun h105 => ?_) (fun h105 => ?_)
      · exact V_subk (h156 n1 (fun z => h105 z.1)) ⟨rfl, rfl, rfl, trivial⟩
      · refine V_aload_n (i := 0) (sx_di dX12_readStreet 63 rfl) rfl rfl ?_
        refine V_getI (sx_di dX12_readStreet 64 rfl) fX12_238 (fun _ => rfl) (by first | exact H1.1.k _ rfl | exact H2.1.k _ rfl | exact B3.1.k _ rfl | exact H.1.k _ rfl) ?_
        refine V_iv (y := nI x.2.1) (H1.2.2.2.2.1) ?_
        refine V_bipush (v := 8) (sx_di dX12_readStreet 65 rfl) (by decide) ?_
        refine V_icN_ge (a := x.2.1) (b := 8) (rfl) (rfl) (by omega) (by omega) (tgt := 156) (sx_di dX12_readStreet 66 rfl) (by decide) (fun h114 => ?_) (fun h114 => ?_)
        · exact V_subk (h156 n1 (fun z => by have := z.2; omega)) ⟨rfl, rfl, rfl, trivial⟩
        · have hq1 := cz_p1 h105 (by decide)
          have c9 : cz_ T p = 104 ∧ x.2.1 < 8 := ⟨h105, by omega⟩
          refine V_aload_n (i := 0) (sx_di dX12_readStreet 67 rfl) rfl rfl ?_
          refine V_dup (sx_di dX12_readStreet 68 rfl) rfl ?_
          refine V_getI (sx_di dX12_readStreet 69 rfl) fX12_109 (fun _ => rfl) (by first | exact H1.1.k _ rfl | exact H2.1.k _ rfl | exact B3.1.k _ rfl | exact H.1.k _ rfl) ?_
          refine V_iconst (v := 1) (sx_di dX12_readStreet 70 rfl) (by decide) ?_
          refine V_iadd (sx_di dX12_readStreet 71 rfl) ?_
          refine V_putI (sx_di dX12_readStreet 72 rfl) fX12_109 (fun _ => rfl) rfl (by first | exact H1.1.k _ rfl | exact H2.1.k _ rfl | exact B3.1.k _ rfl | exact H.1.k _ rfl) (rfl) (rfl) ?_
          refine V_atS H1 (fun w2 H2 f2 s2 => ?_)
          refine V_aload_n (i := 0) (sx_di dX12_readStreet 73 rfl) rfl rfl ?_
          refine V_iload_n (i := 3) (sx_di dX12_readStreet 74 rfl) rfl rfl ?_
          refine V_aload_n (i := 0) (sx_di dX12_readStreet 75 rfl) rfl rfl ?_
          refine V_getR (sx_di dX12_readStreet 76 rfl) fX12_43 (fun _ => rfl) (by first | exact H1.1.k _ rfl | exact H2.1.k _ rfl | exact B3.1.k _ rfl | exact H.1.k _ rfl) (by first | exact H1.1.r _ _ rfl | exact H2.1.r _ _ rfl | exact H.1.r _ _ rfl) ?_
          refine V_iconst (v := 4) (sx_di dX12_readStreet 77 rfl) (by decide) ?_
          refine V_aload_n (i := 0) (sx_di dX12_readStreet 78 rfl) rfl rfl ?_
          refine V_getI (sx_di dX12_readStreet 79 rfl) fX12_238 (fun _ => rfl) (by first | exact H1.1.k _ rfl | exact H2.1.k _ rfl | exact B3.1.k _ rfl | exact H.1.k _ rfl) ?_
          refine V_iv (y := nI x.2.1) (H2.2.2.2.2.1) ?_
          refine V_imul (sx_di dX12_readStreet 80 rfl) ?_
          refine V_iv (y := nI (4 * x.2.1)) (nx_mul (a := 4) rfl rfl) ?_
          refine V_iconst (v := 4) (sx_di dX12_readStreet 81 rfl) (by decide) ?_
          refine V_iv (y := nI 4) (rfl) ?_
          refine V_cV4 (mc' := 0) (ms' := 0) (M' := mX12_items) 4 (sx_di dX12_readStreet 82 rfl) lX12_244 vX12_items (by first | exact H1.1.k _ rfl | exact H2.1.k _ rfl | exact B3.1.k _ rfl | exact H.1.k _ rfl) (by decide) rfl (Nat.le_of_ble_eq_true rfl) ⟨by show 4 + 1 ≤ 5; omega, by show 64 + 64 * (4) ≤ 64 * (5); omega⟩ ⟨Nat.le_refl _, Nat.le_refl _⟩ ?_
          refine c_itemsR (b := 4) (z := 4) (l := 32) (n0 := x.2.1) (mm0 := x.2.2.1) (n1 := x.2.1 + 1) (m1 := x.2.2.1) (s := x.2.2.2) (Or.inr (Or.inl ⟨h105, rfl, rfl⟩)) (Or.inr (Or.inl ⟨rfl, rfl, rfl⟩)) (by omega) (Or.inr ⟨by omega, rfl⟩) (Or.inl (Nat.le_refl _)) H2 (by rw [s2, s1]; exact hs) hq1 (fun w3 i3 f3 => ?_)
          have B3 : ly_B w3 ∧ hp_i w3 381 20 = nI x.2.1 := by
            by_cases q : (its_ T 4 4 (4 + 4 * x.2.1) x.2.2.2 (skp_ T p + 1)).1 = true
            · exact ⟨(i3.1 q).1.1, (i3.1 q).1.2.2.2.2.1⟩
            · exact ⟨(i3.2 q).1, (i3.2 q).2.2.2.1⟩
          refine V_aload_n (i := 0) (sx_di dX12_readStreet 83 rfl) rfl rfl ?_
          refine V_dup (sx_di dX12_readStreet 84 rfl) rfl ?_
          refine V_getI (sx_di dX12_readStreet 85 rfl) fX12_238 (fun _ => rfl) (by first | exact H1.1.k _ rfl | exact H2.1.k _ rfl | exact B3.1.k _ rfl | exact H.1.k _ rfl) ?_
          refine V_iv (y := nI x.2.1) (B3.2) ?_
          refine V_iconst (v := 1) (sx_di dX12_readStreet 86 rfl) (by decide) ?_
          refine V_iadd (sx_di dX12_readStreet 87 rfl) ?_
          refine V_iv (y := nI (x.2.1 + 1)) (nI_add _ 1) ?_
          refine V_putI (sx_di dX12_readStreet 88 rfl) fX12_238 (fun _ => rfl) rfl (by first | exact H1.1.k _ rfl | exact H2.1.k _ rfl | exact B3.1.k _ rfl | exact H.1.k _ rfl) (rfl) (rfl) ?_
          refine V_goto (tgt := 214) (sx_di dX12_readStreet 89 rfl) (by decide) ?_
          refine V_sub (ls' := [(1, .int (bz9 x.1)), (0, .ref 381)]) ⟨rfl, rfl, trivial⟩ ?_
          have ey : (scl_ T x p) = ((its_ T 4 4 (4 + 4 * x.2.1) x.2.2.2 (skp_ T p + 1)).1, (x.1, x.2.1 + 1, x.2.2.1, (its_ T 4 4 (4 + 4 * x.2.1) x.2.2.2 (skp_ T p + 1)).2.1), (its_ T 4 4 (4 + 4 * x.2.1) x.2.2.2 (skp_ T p + 1)).2.2) := by unfold scl_; rw [if_neg n1, if_pos c9]
          refine t214 x.1 _ (fun _ => by rw [ey]) ?_ (fT9_tr f1 (fT9_tr f2 (fT9_tr f3 (fT9_si (Or.inr (Or.inr (Or.inl rfl)))))))
          rw [ey]
          refine ⟨fun z => ?_, fun z => ?_⟩
          · obtain ⟨q1, q2⟩ := i3.1 z
            exact ⟨⟨ly_i q1.1, tp_si (by decide) q1.2.1, (si_o (by omega)).trans q1.2.2.1, (si_o (by omega)).trans q1.2.2.2.1, si_a, (si_o (by omega)).trans q1.2.2.2.2.2⟩, by rw [RS_s1]; exact q2⟩
          · have q1 := i3.2 z
            exact ⟨_, _, ly_i q1.1, tp_si (by decide) q1.2.1, (si_o (by omega)).trans q1.2.2.1, si_a, (si_o (by omega)).trans q1.2.2.2.2⟩
    refine V_istore_n (i := 3) (sx_di dX12_readStreet 38 rfl) rfl (by decide) (rfl) ?_
    refine V_iload_n (i := 3) (sx_di dX12_readStreet 39 rfl) rfl rfl ?_
    refine V_bipush (v := 115) (sx_di dX12_readStreet 40 rfl) (by decide) ?_
    refine V_icmp_ne (tgt := 102) (sx_di dX12_readStreet 41 rfl) (by decide) (fun h69 => ?_) (fun h69 => ?_)
    · exact V_subk (h102 (fun z => h69 z.1)) ⟨rfl, rfl, rfl, trivial⟩
    · refine V_iload_n (i := 1) (sx_di dX12_readStreet 42 rfl) rfl rfl ?_
      refine V_if_ne (tgt := 102) (sx_di dX12_readStreet 43 rfl) (by decide) (fun h73 => ?_) (fun h73 => ?_)
      · exact V_subk (h102 (fun z => by have q := bz9t h73; rw [z.2] at q; exact absurd q Bool.false_ne_true)) ⟨rfl, rfl, rfl, trivial⟩
      · have hq1 := cz_p1 h69 (by decide)
        have c9 : cz_ T p = 115 ∧ x.1 = false := ⟨h69, Bool.eq_false_iff.mpr (bz9f h73)⟩
        refine V_iconst (v := 1) (sx_di dX12_readStreet 44 rfl) (by decide) ?_
        refine V_istore_n (i := 1) (sx_di dX12_readStreet 45 rfl) rfl (by decide) (rfl) ?_
        refine V_aload_n (i := 0) (sx_di dX12_readStreet 46 rfl) rfl rfl ?_
        refine V_dup (sx_di dX12_readStreet 47 rfl) rfl ?_
        refine V_getI (sx_di dX12_readStreet 48 rfl) fX12_109 (fun _ => rfl) (by first | exact H1.1.k _ rfl | exact H2.1.k _ rfl | exact B3.k _ rfl | exact H.1.k _ rfl) ?_
        refine V_iconst (v := 1) (sx_di dX12_readStreet 49 rfl) (by decide) ?_
        refine V_iadd (sx_di dX12_readStreet 50 rfl) ?_
        refine V_putI (sx_di dX12_readStreet 51 rfl) fX12_109 (fun _ => rfl) rfl (by first | exact H1.1.k _ rfl | exact H2.1.k _ rfl | exact B3.k _ rfl | exact H.1.k _ rfl) (rfl) (rfl) ?_
        refine V_atS H1 (fun w2 H2 f2 s2 => ?_)
        refine V_aload_n (i := 0) (sx_di dX12_readStreet 52 rfl) rfl rfl ?_
        refine V_iload_n (i := 3) (sx_di dX12_readStreet 53 rfl) rfl rfl ?_
        refine V_aload_n (i := 0) (sx_di dX12_readStreet 54 rfl) rfl rfl ?_
        refine V_getR (sx_di dX12_readStreet 55 rfl) fX12_40 (fun _ => rfl) (by first | exact H1.1.k _ rfl | exact H2.1.k _ rfl | exact B3.k _ rfl | exact H.1.k _ rfl) (by first | exact H1.1.r _ _ rfl | exact H2.1.r _ _ rfl | exact H.1.r _ _ rfl) ?_
        refine V_iconst (v := 0) (sx_di dX12_readStreet 56 rfl) (by decide) ?_
        refine V_iv (y := nI 0) (rfl) ?_
        refine V_iconst (v := 4) (sx_di dX12_readStreet 57 rfl) (by decide) ?_
        refine V_iv (y := nI 4) (rfl) ?_
        refine V_cV4 (mc' := 0) (ms' := 0) (M' := mX12_items) 4 (sx_di dX12_readStreet 58 rfl) lX12_244 vX12_items (by first | exact H1.1.k _ rfl | exact H2.1.k _ rfl | exact B3.k _ rfl | exact H.1.k _ rfl) (by decide) rfl (Nat.le_of_ble_eq_true rfl) ⟨by show 4 + 1 ≤ 5; omega, by show 64 + 64 * (4) ≤ 64 * (5); omega⟩ ⟨Nat.le_refl _, Nat.le_refl _⟩ ?_
        refine c_itemsR (b := 0) (z := 0) (l := 4) (n0 := x.2.1) (mm0 := x.2.2.1) (n1 := x.2.1) (m1 := x.2.2.1) (s := x.2.2.2) (Or.inl ⟨h69, rfl, rfl⟩) (Or.inl ⟨rfl, rfl, rfl⟩) (by decide) (Or.inl (Nat.le_refl _)) (Or.inl (Nat.le_refl _)) H2 (by rw [s2, s1]; exact hs) hq1 (fun w3 i3 f3 => ?_)
        refine V_goto (tgt := 214) (sx_di dX12_readStreet 59 rfl) (by decide) ?_
        refine V_sub (ls' := [(1, .int (bz9 true)), (0, .ref 381)]) ⟨rfl, rfl, trivial⟩ ?_
        have ey : (scl_ T x p) = ((its_ T 0 4 (0) x.2.2.2 (skp_ T p + 1)).1, (true, x.2.1, x.2.2.1, (its_ T 0 4 (0) x.2.2.2 (skp_ T p + 1)).2.1), (its_ T 0 4 (0) x.2.2.2 (skp_ T p + 1)).2.2) := by unfold scl_; rw [if_pos c9]
        exact t214 true w3 (fun _ => by rw [ey]) (by rw [ey]; exact ⟨i3.1, fun z => ⟨_, _, i3.2 z⟩⟩) (fT9_tr f1 (fT9_tr f2 f3))

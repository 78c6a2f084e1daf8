/-! the reference: days ahead -/
/-- places in which the reference reckons -/
def rS_ (b : Nat) : Prop := b = 390 ∨ b = 391 ∨ b = 401 ∨ b = 405
def f3_ (w : hpW) (I : Nat → Nat → Int32) : Prop := ∀ j, j ≠ 0 → j ≠ 35 → j ≠ 36 → I 381 j = hp_i w 381 j
/-- all is as it was, but for those, and the state -/
def FL (w : hpW) (I : Nat → Nat → Int32) : Prop := (∀ b, ¬ (b = 381 ∨ b = 398 ∨ rS_ b) → I b = hp_i w b) ∧ f3_ w I
/-- all is as it was, but for those -/
def FQ (w : hpW) (I : Nat → Nat → Int32) : Prop := (∀ b, ¬ (b = 381 ∨ rS_ b) → I b = hp_i w b) ∧ f3_ w I
theorem FL_rf {w : hpW} : FL w (hp_i w) := ⟨fun _ _ => rfl, fun _ _ _ _ => rfl⟩
theorem FL_tr {w : hpW} {I J : Nat → Nat → Int32} (h : FL w I) (h2 : FL (hp_wi w I) J) : FL w J := ⟨fun b hb => (h2.1 b hb).trans (h.1 b hb), fun j a b c => (h2.2 j a b c).trans (h.2 j a b c)⟩
theorem FQ_FL {w : hpW} {I : Nat → Nat → Int32} (h : FQ w I) : FL w I := ⟨fun b hb => h.1 b (fun z => hb (z.elim Or.inl (fun z => Or.inr (Or.inr z)))), h.2⟩
theorem FQ_tr {w : hpW} {I J : Nat → Nat → Int32} (h : FQ w I) (h2 : FQ (hp_wi w I) J) : FQ w J := ⟨fun b hb => (h2.1 b hb).trans (h.1 b hb), fun j a b c => (h2.2 j a b c).trans (h.2 j a b c)⟩
theorem RY_FL {w : hpW} {I : Nat → Nat → Int32} (h : fr_ w I RY) : FL w I := ⟨fun b hb => h b (by unfold RY; unfold rS_ at hb; omega), fun j _ _ _ => congrFun (h 381 (by unfold RY; omega)) j⟩
theorem RX_FQ {w : hpW} {I : Nat → Nat → Int32} (h : fr_ w I RX) : FQ w I := ⟨fun b hb => h b (by unfold RX; unfold rS_ at hb; omega), fun j _ _ _ => congrFun (h 381 (by unfold RX; omega)) j⟩
theorem FQ_of {w : hpW} {I : Nat → Nat → Int32} (h : FL w I) (h2 : I 398 = hp_i w 398) : FQ w I := ⟨fun b hb => by
  by_cases e : b = 398
  · subst e; exact h2
  · exact h.1 b (fun z => hb (z.elim Or.inl (fun z => z.elim (fun z => absurd z e) Or.inr))), h.2⟩
theorem FL_si {w : hpW} {I : Nat → Nat → Int32} {a k : Nat} {x : Int32} (h : FL w I) (ha : (a = 381 ∧ (k = 0 ∨ k = 35 ∨ k = 36)) ∨ a = 398 ∨ rS_ a) : FL w (hp_u I a k x) := by
  refine ⟨fun b hb => ?_, fun j a0 a1 a2 => ?_⟩
  · rw [← h.1 b hb]
    funext j
    exact hp_u_nk _ _ (fun z => hb (by rw [z.1]; rcases ha with q | q; exact Or.inl q.1; exact Or.inr q))
  · rw [← h.2 j a0 a1 a2]
    exact hp_u_nk _ _ (fun z => by
      rcases ha with q | q | q
      · omega
      · omega
      · unfold rS_ at q; omega)
theorem RQ_L {w : hpW} {n m : Nat} {F : wF} {sz fo : Int32 → Int32} {bt : Int32} {m0 s s2 : Nat → Int32} {I : Nat → Nat → Int32} (R : RQ w n m F sz fo bt m0 s) (hf : FL w I) (hs : I 398 = s2) (hO : OKS n m s2) : RQ (hp_wi w I) n m F sz fo bt m0 s2 := by
  have g : ∀ b, 382 ≤ b → b < 398 → b ≠ 390 → b ≠ 391 → I b = hp_i w b := fun b h1 h2 h3 h4 => hf.1 b (by unfold rS_; omega)
  exact ⟨ly_wi R.1 I, RS_mv (hf.2 25 (by omega) (by omega) (by omega)) (hf.2 26 (by omega) (by omega) (by omega)) (g 395 (by omega) (by omega) (by omega) (by omega)) (g 396 (by omega) (by omega) (by omega) (by omega)) (g 397 (by omega) (by omega) (by omega) (by omega)) R.2.1, RL_mv (fun b h1 h2 => g b (by omega) (by omega) (by omega) (by omega)) (hf.2 29 (by omega) (by omega) (by omega)) R.2.2.1, hO, hs⟩
/-- k places copied from b, ob on to a, oa on -/
def cq_ (I : Nat → Nat → Int32) (a oa b ob k : Nat) : Nat → Nat → Int32 := fun q j => if q = a ∧ oa ≤ j ∧ j < oa + k then I b (ob + (j - oa)) else I q j
theorem cq_0 (I : Nat → Nat → Int32) (a oa b ob : Nat) : cq_ I a oa b ob 0 = I := by
  funext q j
  unfold cq_
  rw [if_neg (by omega)]
theorem cq_s (I : Nat → Nat → Int32) {a oa b ob k : Nat} (h : a ≠ b) : hp_u (cq_ I a oa b ob k) a (oa + k) (cq_ I a oa b ob k b (ob + k)) = cq_ I a oa b ob (k + 1) := by
  have e : cq_ I a oa b ob k b (ob + k) = I b (ob + k) := by unfold cq_; rw [if_neg (fun z => h z.1.symm)]
  rw [e]
  funext q j
  unfold hp_u
  by_cases h1 : q = a ∧ j = oa + k
  · rw [if_pos h1]
    unfold cq_
    rw [if_pos (by omega), h1.2, Nat.add_sub_cancel_left]
  · rw [if_neg h1]
    unfold cq_
    by_cases h2 : q = a ∧ oa ≤ j ∧ j < oa + k
    · rw [if_pos h2, if_pos (by omega)]
    · rw [if_neg h2, if_neg (by omega)]
theorem cq_o {I : Nat → Nat → Int32} {a oa b ob k q : Nat} (h : q ≠ a) : cq_ I a oa b ob k q = I q := by
  funext j
  unfold cq_
  rw [if_neg (fun z => h z.1)]
set_option maxHeartbeats 2000000 in
set_option maxRecDepth 20000 in
theorem pa_lp {E : sxE} {w : hpW} {Q : Option Value → hpW → Prop} (hB : ly_B w) (h : Q none (hp_wi w (cq_ (hp_i w) 401 0 398 0 45))) : ∀ q k, k + q = 45 → V E mX12_putAside (sx_rm 1 0 0) 0 0 0 0 2 [(1, .int (nI k)), (0, .ref 381)] [] (hp_wi w (cq_ (hp_i w) 401 0 398 0 k)) Q := by
  intro q
  induction q with
  | zero =>
    intro k hk
    have e : k = 45 := by omega
    subst e
    refine V_iload_n (i := 1) (sx_di dX12_putAside 2 rfl) rfl rfl ?_
    refine V_bipush (v := 45) (sx_di dX12_putAside 3 rfl) (by decide) ?_
    refine V_icN_ge (a := 45) (b := 45) (rfl) (rfl) (by omega) (by omega) (tgt := 26) (sx_di dX12_putAside 4 rfl) (by decide) (fun _ => ?_) (fun h5 => absurd h5 (by omega))
    refine V_vret (sx_di dX12_putAside 15 rfl) rfl (Nat.le_refl _) (Nat.le_refl _) ?_
    exact h
  | succ q ih =>
    intro k hk
    have q1 := ih (k + 1) (by omega)
    rw [← cq_s _ (by decide), ← nI_1, Nat.zero_add] at q1
    refine V_iload_n (i := 1) (sx_di dX12_putAside 2 rfl) rfl rfl ?_
    refine V_bipush (v := 45) (sx_di dX12_putAside 3 rfl) (by decide) ?_
    refine V_icN_ge (a := k) (b := 45) (rfl) (rfl) (by omega) (by omega) (tgt := 26) (sx_di dX12_putAside 4 rfl) (by decide) (fun h5 => absurd h5 (by omega)) (fun _ => ?_)
    refine V_aload_n (i := 0) (sx_di dX12_putAside 5 rfl) rfl rfl ?_
    refine V_getR (sx_di dX12_putAside 6 rfl) fX12_71 (fun _ => rfl) (hB.k _ rfl) (hB.r _ _ rfl) ?_
    refine V_iload_n (i := 1) (sx_di dX12_putAside 7 rfl) rfl rfl ?_
    refine V_aload_n (i := 0) (sx_di dX12_putAside 8 rfl) rfl rfl ?_
    refine V_getR (sx_di dX12_putAside 9 rfl) fX12_58 (fun _ => rfl) (hB.k _ rfl) (hB.r _ _ rfl) ?_
    refine V_iload_n (i := 1) (sx_di dX12_putAside 10 rfl) rfl rfl ?_
    refine V_ialdN (n := 226) (j := k) (sx_di dX12_putAside 11 rfl) (hB.k _ rfl) (rfl) (by omega) (by omega) ?_
    refine V_iastN (n := 45) (j := k) (sx_di dX12_putAside 12 rfl) (hB.k _ rfl) (rfl) (by omega) (by omega) ?_
    refine V_inc (c := 1) (sx_di dX12_putAside 13 rfl) (by decide) rfl (by decide) (rfl) ?_
    refine V_goto (tgt := 2) (sx_di dX12_putAside 14 rfl) (by decide) ?_
    exact V_subk q1 ⟨rfl, rfl, trivial⟩
set_option maxHeartbeats 2000000 in
set_option maxRecDepth 20000 in
theorem c_X12_putAside {E : sxE} {w : hpW} {Q : Option Value → hpW → Prop} (hB : ly_B w) (h : Q none (hp_wi w (cq_ (hp_i w) 401 0 398 0 45))) : sx_C E mX12_putAside 1 0 0 [.ref 381] w Q := by
  refine C_of (by decide +kernel) (Nat.le_of_ble_eq_true rfl) ?_
  refine V_iconst (v := 0) (sx_di dX12_putAside 0 rfl) (by decide) ?_
  refine V_istore_n (i := 1) (sx_di dX12_putAside 1 rfl) rfl (by decide) (rfl) ?_
  refine V_eq rfl rfl rfl (show w = hp_wi w (cq_ (hp_i w) 401 0 398 0 0) by rw [cq_0]; rfl) ?_
  refine V_sub (ls' := [(1, .int (nI 0)), (0, .ref 381)]) ⟨rfl, rfl, trivial⟩ ?_
  exact pa_lp (w := w) hB h 45 0 rfl
set_option maxHeartbeats 2000000 in
set_option maxRecDepth 20000 in
theorem tb_lp {E : sxE} {w : hpW} {Q : Option Value → hpW → Prop} (hB : ly_B w) (h : Q none (hp_wi w (cq_ (hp_i w) 398 0 401 0 45))) : ∀ q k, k + q = 45 → V E mX12_takeBack (sx_rm 1 0 0) 0 0 0 0 2 [(1, .int (nI k)), (0, .ref 381)] [] (hp_wi w (cq_ (hp_i w) 398 0 401 0 k)) Q := by
  intro q
  induction q with
  | zero =>
    intro k hk
    have e : k = 45 := by omega
    subst e
    refine V_iload_n (i := 1) (sx_di dX12_takeBack 2 rfl) rfl rfl ?_
    refine V_bipush (v := 45) (sx_di dX12_takeBack 3 rfl) (by decide) ?_
    refine V_icN_ge (a := 45) (b := 45) (rfl) (rfl) (by omega) (by omega) (tgt := 26) (sx_di dX12_takeBack 4 rfl) (by decide) (fun _ => ?_) (fun h5 => absurd h5 (by omega))
    refine V_vret (sx_di dX12_takeBack 15 rfl) rfl (Nat.le_refl _) (Nat.le_refl _) ?_
    exact h
  | succ q ih =>
    intro k hk
    have q1 := ih (k + 1) (by omega)
    rw [← cq_s _ (by decide), ← nI_1, Nat.zero_add] at q1
    refine V_iload_n (i := 1) (sx_di dX12_takeBack 2 rfl) rfl rfl ?_
    refine V_bipush (v := 45) (sx_di dX12_takeBack 3 rfl) (by decide) ?_
    refine V_icN_ge (a := k) (b := 45) (rfl) (rfl) (by omega) (by omega) (tgt := 26) (sx_di dX12_takeBack 4 rfl) (by decide) (fun h5 => absurd h5 (by omega)) (fun _ => ?_)
    refine V_aload_n (i := 0) (sx_di dX12_takeBack 5 rfl) rfl rfl ?_
    refine V_getR (sx_di dX12_takeBack 6 rfl) fX12_58 (fun _ => rfl) (hB.k _ rfl) (hB.r _ _ rfl) ?_
    refine V_iload_n (i := 1) (sx_di dX12_takeBack 7 rfl) rfl rfl ?_
    refine V_aload_n (i := 0) (sx_di dX12_takeBack 8 rfl) rfl rfl ?_
    refine V_getR (sx_di dX12_takeBack 9 rfl) fX12_71 (fun _ => rfl) (hB.k _ rfl) (hB.r _ _ rfl) ?_
    refine V_iload_n (i := 1) (sx_di dX12_takeBack 10 rfl) rfl rfl ?_
    refine V_ialdN (n := 45) (j := k) (sx_di dX12_takeBack 11 rfl) (hB.k _ rfl) (rfl) (by omega) (by omega) ?_
    refine V_iastN (n := 226) (j := k) (sx_di dX12_takeBack 12 rfl) (hB.k _ rfl) (rfl) (by omega) (by omega) ?_
    refine V_inc (c := 1) (sx_di dX12_takeBack 13 rfl) (by decide) rfl (by decide) (rfl) ?_
    refine V_goto (tgt := 2) (sx_di dX12_takeBack 14 rfl) (by decide) ?_
    exact V_subk q1 ⟨rfl, rfl, trivial⟩
set_option maxHeartbeats 2000000 in
set_option maxRecDepth 20000 in
theorem c_X12_takeBack {E : sxE} {w : hpW} {Q : Option Value → hpW → Prop} (hB : ly_B w) (h : Q none (hp_wi w (cq_ (hp_i w) 398 0 401 0 45))) : sx_C E mX12_takeBack 1 0 0 [.ref 381] w Q := by
  refine C_of (by decide +kernel) (Nat.le_of_ble_eq_true rfl) ?_
  refine V_iconst (v := 0) (sx_di dX12_takeBack 0 rfl) (by decide) ?_
  refine V_istore_n (i := 1) (sx_di dX12_takeBack 1 rfl) rfl (by decide) (rfl) ?_
  refine V_eq rfl rfl rfl (show w = hp_wi w (cq_ (hp_i w) 398 0 401 0 0) by rw [cq_0]; rfl) ?_
  refine V_sub (ls' := [(1, .int (nI 0)), (0, .ref 381)]) ⟨rfl, rfl, trivial⟩ ?_
  exact tb_lp (w := w) hB h 45 0 rfl
/-- set aside: the state s2 lives, s is kept -/
def AL (w : hpW) (n m : Nat) (s s2 : Nat → Int32) (J : Nat → Nat → Int32) : Prop := FL w J ∧ J 398 = s2 ∧ (∀ j, j < 45 → J 401 j = s j) ∧ OKS n m s2 ∧ ∀ j, 45 ≤ j → s2 j = s j
theorem dv_hi {F : wF} {sz fo : Int32 → Int32} {bt : Int32} {n : Nat} {m0 s : Nat → Int32} (hn : n ≤ 8) {j : Nat} (h : 45 ≤ j) : dv_ F sz fo bt n m0 s j = s j := by
  have e1 : d1_ n m0 s j = s j := by unfold d1_; rw [if_neg (by omega), if_neg (by omega)]
  unfold dv_
  split
  · unfold d2_
    rw [if_neg (by omega), if_neg (by omega), if_neg (by omega), e1]
  · exact e1
theorem e_putAside {E : sxE} {w : hpW} {Q : Option Value → hpW → Prop} {n m : Nat} {F : wF} {sz fo : Int32 → Int32} {bt : Int32} {m0 s : Nat → Int32} (R : RQ w n m F sz fo bt m0 s) (h : ∀ J, AL w n m s s J → Q none (hp_wi w J)) : sx_C E mX12_putAside 1 0 0 [.ref 381] w Q := by
  refine c_X12_putAside R.1 (h _ ⟨⟨fun b hb => cq_o (fun z => hb (by unfold rS_; omega)), fun j _ _ _ => congrFun (cq_o (by decide)) j⟩, (cq_o (by decide)).trans R.2.2.2.2, fun j hj => ?_, R.2.2.2.1, fun _ _ => rfl⟩)
  unfold cq_
  rw [if_pos ⟨rfl, by omega, by omega⟩, R.2.2.2.2, Nat.zero_add, Nat.sub_zero]
theorem e_takeBack {E : sxE} {w : hpW} {Q : Option Value → hpW → Prop} {n m : Nat} {F : wF} {sz fo : Int32 → Int32} {bt : Int32} {m0 s : Nat → Int32} (R : RQ w n m F sz fo bt m0 s) {s2 : Nat → Int32} {J : Nat → Nat → Int32} (A : AL w n m s s2 J) (h : ∀ J2, FQ w J2 → (∀ j, J2 381 j = J 381 j) → Q none (hp_wi w J2)) : sx_C E mX12_takeBack 1 0 0 [.ref 381] (hp_wi w J) Q := by
  refine c_X12_takeBack (ly_wi R.1 J) ?_
  have e : cq_ J 398 0 401 0 45 398 = hp_i w 398 := by
    rw [R.2.2.2.2]
    funext j
    unfold cq_
    by_cases hj : j < 45
    · rw [if_pos ⟨rfl, by omega, by omega⟩, Nat.zero_add, Nat.sub_zero]; exact A.2.2.1 j hj
    · rw [if_neg (by omega), A.2.1]; exact A.2.2.2.2 j (by omega)
  exact h _ (FQ_of (FL_tr A.1 ⟨fun b hb => cq_o (fun z => hb (Or.inr (Or.inl z))), fun j _ _ _ => congrFun (cq_o (by decide)) j⟩) e) (fun j => congrFun (cq_o (by decide)) j)
theorem e_live {E : sxE} {w : hpW} {Q : Option Value → hpW → Prop} {n m : Nat} {F : wF} {sz fo : Int32 → Int32} {bt : Int32} {m0 s : Nat → Int32} (R : RQ w n m F sz fo bt m0 s) {s2 : Nat → Int32} {J : Nat → Nat → Int32} (A : AL w n m s s2 J) (h0 : 0 < n) (h : ∀ J2 r, AL w n m s (dv_ F sz fo bt n m0 s2) J2 → (∀ j, J2 381 j = J 381 j) → Q (some (.int r)) (hp_wi w J2)) : sx_C E mX12_live 8 0 0 [.ref 381] (hp_wi w J) Q := by
  have hn8 : n ≤ 8 := R.2.1.2.1
  refine c_X12_live (RQ_L R A.1 A.2.1 A.2.2.2.1) h0 (fun J2 r f2 v2 _ => ?_)
  refine h J2 r ⟨FL_tr A.1 (RY_FL f2), v2, fun j hj => ?_, ?_, fun j hj => (dv_hi hn8 hj).trans (A.2.2.2.2 j hj)⟩ (fun j => congrFun (f2 381 (by unfold RY; omega)) j)
  · exact (congrFun (f2 401 (by unfold RY; omega)) j).trans (A.2.2.1 j hj)
  · exact OKS_dv hn8 A.2.2.2.1 (fun h hh => (R.2.1.2.2.2.2.2.2.2 h hh).2) (fun f hf => (R.2.1.2.2.2.2.1 f hf).2.2.1)
/-- k days on -/
noncomputable def dm_ (F : wF) (sz fo : Int32 → Int32) (bt : Int32) (n : Nat) (m0 s : Nat → Int32) : Nat → Nat → Int32
  | 0 => s
  | k + 1 => dv_ F sz fo bt n m0 (dm_ F sz fo bt n m0 s k)
theorem dn_dm (F : wF) (I : Nat → Nat → Int32) (t n : Nat) (m0 s : Nat → Int32) : ∀ k, dn_ F I t n m0 s k = dm_ F (fs_ I t) (fo_ I t) (sl_ I t 0) n m0 s k
  | 0 => rfl
  | k + 1 => by rw [dn_, dm_, dn_dm F I t n m0 s k]
set_option maxHeartbeats 2000000 in
set_option maxRecDepth 20000 in
theorem ahR_lp {E : sxE} {w : hpW} {Q : Option Value → hpW → Prop} {n m : Nat} {F : wF} {sz fo : Int32 → Int32} {bt : Int32} {m0 s : Nat → Int32} (R : RQ w n m F sz fo bt m0 s) (h0 : 0 < n) {q : Nat} {y : Int32} (hq : q ≤ 60) (h : ∀ J, FQ w J → Q (some (.int (if y = 0 then dm_ F sz fo bt n m0 s q 42 else dm_ F sz fo bt n m0 s q 43))) (hp_wi w J)) : ∀ p k J, k + p = q → AL w n m s (dm_ F sz fo bt n m0 s k) J → V E mX12_ahead (sx_rm 9 0 0) 0 0 0 0 36 [(3, .int (nI k)), (2, .int y), (1, .int (nI q)), (0, .ref 381)] [] (hp_wi w J) Q := by
  have hB := R.1
  intro p
  induction p with
  | zero =>
    intro k J hk A
    have e : k = q := by omega
    subst e
    refine V_iload_n (i := 3) (sx_di dX12_ahead 19 rfl) rfl rfl ?_
    refine V_iload_n (i := 1) (sx_di dX12_ahead 20 rfl) rfl rfl ?_
    refine V_icN_ge (a := k) (b := k) (rfl) (rfl) (by omega) (by omega) (tgt := 52) (sx_di dX12_ahead 21 rfl) (by decide) (fun _ => ?_) (fun h38 => absurd h38 (by omega))
    refine V_iload_n (i := 2) (sx_di dX12_ahead 27 rfl) rfl rfl ?_
    refine V_if_ne (tgt := 66) (sx_di dX12_ahead 28 rfl) (by decide) (fun h53 => ?_) (fun h53 => ?_)
    · rw [if_neg h53] at h
      refine V_aload_n (i := 0) (sx_di dX12_ahead 34 rfl) rfl rfl ?_
      refine V_getR (sx_di dX12_ahead 35 rfl) fX12_58 (fun _ => rfl) (hB.k _ rfl) (hB.r _ _ rfl) ?_
      refine V_bipush (v := 43) (sx_di dX12_ahead 36 rfl) (by decide) ?_
      refine V_ialdN (n := 226) (j := 43) (sx_di dX12_ahead 37 rfl) (hB.k _ rfl) (rfl) (by omega) (by omega) ?_
      rw [show hp_i (hp_wi w J) 398 = _ from A.2.1]
      refine V_istore_n (i := 3) (sx_di dX12_ahead 38 rfl) rfl (by decide) (rfl) ?_
      refine V_aload_n (i := 0) (sx_di dX12_ahead 39 rfl) rfl rfl ?_
      refine V_cV0 (mc' := 0) (ms' := 0) (M' := mX12_takeBack) 1 (sx_di dX12_ahead 40 rfl) lX12_359 vX12_takeBack (hB.k _ rfl) (by decide) rfl (Nat.le_of_ble_eq_true rfl) ⟨Nat.le_of_ble_eq_true rfl, Nat.le_of_ble_eq_true rfl⟩ ⟨Nat.le_refl _, Nat.le_refl _⟩ ?_
      refine e_takeBack R A (fun J2 f2 g2 => ?_)
      refine V_iload_n (i := 3) (sx_di dX12_ahead 41 rfl) rfl rfl ?_
      refine V_iret (sx_di dX12_ahead 42 rfl) rfl (Nat.le_refl _) (Nat.le_refl _) ?_
      exact h J2 f2
    · rw [if_pos h53] at h
      refine V_aload_n (i := 0) (sx_di dX12_ahead 29 rfl) rfl rfl ?_
      refine V_getR (sx_di dX12_ahead 30 rfl) fX12_58 (fun _ => rfl) (hB.k _ rfl) (hB.r _ _ rfl) ?_
      refine V_bipush (v := 42) (sx_di dX12_ahead 31 rfl) (by decide) ?_
      refine V_ialdN (n := 226) (j := 42) (sx_di dX12_ahead 32 rfl) (hB.k _ rfl) (rfl) (by omega) (by omega) ?_
      rw [show hp_i (hp_wi w J) 398 = _ from A.2.1]
      refine V_goto (tgt := 73) (sx_di dX12_ahead 33 rfl) (by decide) ?_
      refine V_istore_n (i := 3) (sx_di dX12_ahead 38 rfl) rfl (by decide) (rfl) ?_
      refine V_aload_n (i := 0) (sx_di dX12_ahead 39 rfl) rfl rfl ?_
      refine V_cV0 (mc' := 0) (ms' := 0) (M' := mX12_takeBack) 1 (sx_di dX12_ahead 40 rfl) lX12_359 vX12_takeBack (hB.k _ rfl) (by decide) rfl (Nat.le_of_ble_eq_true rfl) ⟨Nat.le_of_ble_eq_true rfl, Nat.le_of_ble_eq_true rfl⟩ ⟨Nat.le_refl _, Nat.le_refl _⟩ ?_
      refine e_takeBack R A (fun J2 f2 g2 => ?_)
      refine V_iload_n (i := 3) (sx_di dX12_ahead 41 rfl) rfl rfl ?_
      refine V_iret (sx_di dX12_ahead 42 rfl) rfl (Nat.le_refl _) (Nat.le_refl _) ?_
      exact h J2 f2
  | succ p ih =>
    intro k J hk A
    have q1 := ih (k + 1)
    rw [← nI_1] at q1
    refine V_iload_n (i := 3) (sx_di dX12_ahead 19 rfl) rfl rfl ?_
    refine V_iload_n (i := 1) (sx_di dX12_ahead 20 rfl) rfl rfl ?_
    refine V_icN_ge (a := k) (b := q) (rfl) (rfl) (by omega) (by omega) (tgt := 52) (sx_di dX12_ahead 21 rfl) (by decide) (fun h38 => absurd h38 (by omega)) (fun _ => ?_)
    refine V_aload_n (i := 0) (sx_di dX12_ahead 22 rfl) rfl rfl ?_
    refine V_cV0 (mc' := 0) (ms' := 0) (M' := mX12_live) 8 (sx_di dX12_ahead 23 rfl) lX12_308 vX12_live (hB.k _ rfl) (by decide) rfl (Nat.le_of_ble_eq_true rfl) ⟨Nat.le_of_ble_eq_true rfl, Nat.le_of_ble_eq_true rfl⟩ ⟨Nat.le_refl _, Nat.le_refl _⟩ ?_
    refine e_live R A h0 (fun J2 r A2 g2 => ?_)
    refine V_pop (sx_di dX12_ahead 24 rfl) rfl ?_
    refine V_inc (c := 1) (sx_di dX12_ahead 25 rfl) (by decide) rfl (by decide) (rfl) ?_
    refine V_goto (tgt := 36) (sx_di dX12_ahead 26 rfl) (by decide) ?_
    exact V_subk (q1 J2 (by omega) A2) ⟨rfl, rfl, rfl, rfl, trivial⟩
set_option maxHeartbeats 2000000 in
set_option maxRecDepth 20000 in
theorem c_X12_ahead {E : sxE} {w : hpW} {Q : Option Value → hpW → Prop} {n m : Nat} {F : wF} {sz fo : Int32 → Int32} {bt : Int32} {m0 s : Nat → Int32} (R : RQ w n m F sz fo bt m0 s) {x y : Int32} (h0 : ax_ n x y → Q (some (.int (-1000000))) w) (h1 : ¬ ax_ n x y → ∀ q, q ≤ 60 → x = nI q → ∀ J, FQ w J → Q (some (.int (if y = 0 then dm_ F sz fo bt n m0 s q 42 else dm_ F sz fo bt n m0 s q 43))) (hp_wi w J)) : sx_C E mX12_ahead 9 0 0 [.ref 381, .int x, .int y] w Q := by
  obtain ⟨hB, hRS, hL, hO, hs⟩ := id R
  obtain ⟨hn, hn8, hm, hm6, hfo, hbt, hb, hm0⟩ := id hRS
  subst hs
  refine C_of (by decide +kernel) (Nat.le_of_ble_eq_true rfl) ?_
  refine V_aload_n (i := 0) (sx_di dX12_ahead 0 rfl) rfl rfl ?_
  refine V_getI (sx_di dX12_ahead 1 rfl) fX12_258 (fun _ => rfl) (hB.k _ rfl) ?_
  refine V_ifN_eq (a := n) (hn) (by omega) (tgt := 26) (sx_di dX12_ahead 2 rfl) (by decide) (fun h4 => ?_) (fun h4 => ?_)
  · refine V_ldcw (sx_di dX12_ahead 13 rfl) kX12_320 ?_
    refine V_iret (sx_di dX12_ahead 14 rfl) rfl (Nat.le_refl _) (Nat.le_refl _) ?_
    exact h0 (Or.inl h4)
  · refine V_iload_n (i := 1) (sx_di dX12_ahead 3 rfl) rfl rfl ?_
    refine V_iconst (v := 0) (sx_di dX12_ahead 4 rfl) (by decide) ?_
    refine V_bipush (v := 60) (sx_di dX12_ahead 5 rfl) (by decide) ?_
    refine V_cS3 (mc' := 0) (ms' := 0) (M' := mX12_in) 1 (sx_di dX12_ahead 6 rfl) lX12_214 vX12_in (Nat.le_of_ble_eq_true rfl) ⟨Nat.le_of_ble_eq_true rfl, Nat.le_of_ble_eq_true rfl⟩ ⟨Nat.le_refl _, Nat.le_refl _⟩ ?_
    refine c_X12_in ?_
    refine V_if_eq (tgt := 26) (sx_di dX12_ahead 7 rfl) (by decide) (fun h14 => ?_) (fun h14 => ?_)
    · have h14 := in_no h14
      refine V_ldcw (sx_di dX12_ahead 13 rfl) kX12_320 ?_
      refine V_iret (sx_di dX12_ahead 14 rfl) rfl (Nat.le_refl _) (Nat.le_refl _) ?_
      exact h0 (Or.inr (h14.elim Or.inl (fun z => Or.inr (Or.inl z))))
    · have h14 := in_ye h14
      refine V_iload_n (i := 2) (sx_di dX12_ahead 8 rfl) rfl rfl ?_
      refine V_iconst (v := 0) (sx_di dX12_ahead 9 rfl) (by decide) ?_
      refine V_iconst (v := 1) (sx_di dX12_ahead 10 rfl) (by decide) ?_
      refine V_cS3 (mc' := 0) (ms' := 0) (M' := mX12_in) 1 (sx_di dX12_ahead 11 rfl) lX12_214 vX12_in (Nat.le_of_ble_eq_true rfl) ⟨Nat.le_of_ble_eq_true rfl, Nat.le_of_ble_eq_true rfl⟩ ⟨Nat.le_refl _, Nat.le_refl _⟩ ?_
      refine c_X12_in ?_
      refine V_if_ne (tgt := 30) (sx_di dX12_ahead 12 rfl) (by decide) (fun h23 => ?_) (fun h23 => ?_)
      · have h23 := in_ye h23
        have hok : ¬ ax_ n x y := fun z => z.elim h4 (fun z => z.elim (fun z => h14 (Or.inl z)) (fun z => z.elim (fun z => h14 (Or.inr z)) h23))
        obtain ⟨q, hq, rfl⟩ := nI_of2 (M := 60) (n := 60) (by decide) (fun z => h14 (Or.inl z)) (Int32.not_lt.mp (fun z => h14 (Or.inr z)))
        refine V_aload_n (i := 0) (sx_di dX12_ahead 15 rfl) rfl rfl ?_
        refine V_cV0 (mc' := 0) (ms' := 0) (M' := mX12_putAside) 1 (sx_di dX12_ahead 16 rfl) lX12_356 vX12_putAside (hB.k _ rfl) (by decide) rfl (Nat.le_of_ble_eq_true rfl) ⟨Nat.le_of_ble_eq_true rfl, Nat.le_of_ble_eq_true rfl⟩ ⟨Nat.le_refl _, Nat.le_refl _⟩ ?_
        refine e_putAside R (fun J A => ?_)
        refine V_iconst (v := 0) (sx_di dX12_ahead 17 rfl) (by decide) ?_
        refine V_istore_n (i := 3) (sx_di dX12_ahead 18 rfl) rfl (by decide) (rfl) ?_
        refine V_sub (ls' := [(3, .int (nI 0)), (2, .int y), (1, .int (nI q)), (0, .ref 381)]) ⟨rfl, rfl, rfl, rfl, trivial⟩ ?_
        exact ahR_lp (w := w) R (by omega) hq (h1 hok q hq rfl) q 0 J (by omega) A
      · have h23 := in_no h23
        refine V_ldcw (sx_di dX12_ahead 13 rfl) kX12_320 ?_
        refine V_iret (sx_di dX12_ahead 14 rfl) rfl (Nat.le_refl _) (Nat.le_refl _) ?_
        exact h0 (Or.inr (Or.inr (Or.inr h23)))
set_option maxHeartbeats 2000000 in
set_option maxRecDepth 20000 in
theorem snR_lp {E : sxE} {w : hpW} {Q : Option Value → hpW → Prop} {n m : Nat} {F : wF} {sz fo : Int32 → Int32} {bt : Int32} {m0 s : Nat → Int32} (R : RQ w n m F sz fo bt m0 s) (h0 : 0 < n) {x v : Int32} (h : ∀ J, FQ w J → Q (some (.int (v))) (hp_wi w J)) : ∀ p k J, k + p = 60 → AL w n m s (dm_ F sz fo bt n m0 s k) J → sn_ (dm_ F sz fo bt n m0 s) x (p + 1) k = v → V E mX12_soonest (sx_rm 9 0 0) 0 0 0 0 16 [(2, .int (nI k)), (1, .int x), (0, .ref 381)] [] (hp_wi w J) Q := by
  have hB := R.1
  intro p
  induction p with
  | zero =>
    intro k J hk A hv
    have e : k = 60 := by omega
    have e42 : hp_i (hp_wi w J) 398 42 = dm_ F sz fo bt n m0 s k 42 := by rw [show hp_i (hp_wi w J) 398 = _ from A.2.1]
    subst e
    rw [sn_, sn_] at hv
    refine V_iload_n (i := 2) (sx_di dX12_soonest 10 rfl) rfl rfl ?_
    refine V_bipush (v := 60) (sx_di dX12_soonest 11 rfl) (by decide) ?_
    refine V_icN_ge (a := 60) (b := 60) (rfl) (rfl) (by omega) (by omega) (tgt := 44) (sx_di dX12_soonest 12 rfl) (by decide) (fun _ => ?_) (fun h19 => absurd h19 (by omega))
    refine V_aload_n (i := 0) (sx_di dX12_soonest 24 rfl) rfl rfl ?_
    refine V_getR (sx_di dX12_soonest 25 rfl) fX12_58 (fun _ => rfl) (hB.k _ rfl) (hB.r _ _ rfl) ?_
    refine V_bipush (v := 42) (sx_di dX12_soonest 26 rfl) (by decide) ?_
    refine V_ialdN (n := 226) (j := 42) (sx_di dX12_soonest 27 rfl) (hB.k _ rfl) (rfl) (by omega) (by omega) ?_
    refine V_iload_n (i := 1) (sx_di dX12_soonest 28 rfl) rfl rfl ?_
    refine V_icmp_ne (tgt := 59) (sx_di dX12_soonest 29 rfl) (by decide) (fun h52 => ?_) (fun h52 => ?_)
    · rw [if_neg (by rw [e42] at h52; exact h52)] at hv
      refine V_iconst (v := 0) (sx_di dX12_soonest 32 rfl) (by decide) ?_
      refine V_istore_n (i := 3) (sx_di dX12_soonest 33 rfl) rfl (by decide) (rfl) ?_
      refine V_aload_n (i := 0) (sx_di dX12_soonest 34 rfl) rfl rfl ?_
      refine V_cV0 (mc' := 0) (ms' := 0) (M' := mX12_takeBack) 1 (sx_di dX12_soonest 35 rfl) lX12_359 vX12_takeBack (hB.k _ rfl) (by decide) rfl (Nat.le_of_ble_eq_true rfl) ⟨Nat.le_of_ble_eq_true rfl, Nat.le_of_ble_eq_true rfl⟩ ⟨Nat.le_refl _, Nat.le_refl _⟩ ?_
      refine e_takeBack R A (fun J2 f2 g2 => ?_)
      refine V_iload_n (i := 3) (sx_di dX12_soonest 36 rfl) rfl rfl ?_
      refine V_if_eq (tgt := 73) (sx_di dX12_soonest 37 rfl) (by decide) (fun _ => ?_) (fun h66 => absurd rfl h66)
      refine V_iconst (v := -1) (sx_di dX12_soonest 40 rfl) (by decide) ?_
      refine V_iret (sx_di dX12_soonest 41 rfl) rfl (Nat.le_refl _) (Nat.le_refl _) ?_
      subst hv; exact h J2 f2
    · rw [if_pos (by rw [e42] at h52; exact h52)] at hv
      refine V_iconst (v := 1) (sx_di dX12_soonest 30 rfl) (by decide) ?_
      refine V_goto (tgt := 60) (sx_di dX12_soonest 31 rfl) (by decide) ?_
      refine V_istore_n (i := 3) (sx_di dX12_soonest 33 rfl) rfl (by decide) (rfl) ?_
      refine V_aload_n (i := 0) (sx_di dX12_soonest 34 rfl) rfl rfl ?_
      refine V_cV0 (mc' := 0) (ms' := 0) (M' := mX12_takeBack) 1 (sx_di dX12_soonest 35 rfl) lX12_359 vX12_takeBack (hB.k _ rfl) (by decide) rfl (Nat.le_of_ble_eq_true rfl) ⟨Nat.le_of_ble_eq_true rfl, Nat.le_of_ble_eq_true rfl⟩ ⟨Nat.le_refl _, Nat.le_refl _⟩ ?_
      refine e_takeBack R A (fun J2 f2 g2 => ?_)
      refine V_iload_n (i := 3) (sx_di dX12_soonest 36 rfl) rfl rfl ?_
      refine V_if_eq (tgt := 73) (sx_di dX12_soonest 37 rfl) (by decide) (fun h66 => absurd h66 (by decide)) (fun _ => ?_)
      refine V_iload_n (i := 2) (sx_di dX12_soonest 38 rfl) rfl rfl ?_
      refine V_goto (tgt := 74) (sx_di dX12_soonest 39 rfl) (by decide) ?_
      refine V_iret (sx_di dX12_soonest 41 rfl) rfl (Nat.le_refl _) (Nat.le_refl _) ?_
      subst hv; exact h J2 f2
  | succ p ih =>
    intro k J hk A hv
    have e42 : hp_i (hp_wi w J) 398 42 = dm_ F sz fo bt n m0 s k 42 := by rw [show hp_i (hp_wi w J) 398 = _ from A.2.1]
    have q1 := ih (k + 1)
    rw [← nI_1] at q1
    rw [sn_] at hv
    refine V_iload_n (i := 2) (sx_di dX12_soonest 10 rfl) rfl rfl ?_
    refine V_bipush (v := 60) (sx_di dX12_soonest 11 rfl) (by decide) ?_
    refine V_icN_ge (a := k) (b := 60) (rfl) (rfl) (by omega) (by omega) (tgt := 44) (sx_di dX12_soonest 12 rfl) (by decide) (fun h19 => absurd h19 (by omega)) (fun _ => ?_)
    refine V_aload_n (i := 0) (sx_di dX12_soonest 13 rfl) rfl rfl ?_
    refine V_getR (sx_di dX12_soonest 14 rfl) fX12_58 (fun _ => rfl) (hB.k _ rfl) (hB.r _ _ rfl) ?_
    refine V_bipush (v := 42) (sx_di dX12_soonest 15 rfl) (by decide) ?_
    refine V_ialdN (n := 226) (j := 42) (sx_di dX12_soonest 16 rfl) (hB.k _ rfl) (rfl) (by omega) (by omega) ?_
    refine V_iload_n (i := 1) (sx_di dX12_soonest 17 rfl) rfl rfl ?_
    refine V_icmp_eq (tgt := 44) (sx_di dX12_soonest 18 rfl) (by decide) (fun h30 => ?_) (fun h30 => ?_)
    · rw [if_pos (by rw [e42] at h30; exact h30)] at hv
      refine V_aload_n (i := 0) (sx_di dX12_soonest 24 rfl) rfl rfl ?_
      refine V_getR (sx_di dX12_soonest 25 rfl) fX12_58 (fun _ => rfl) (hB.k _ rfl) (hB.r _ _ rfl) ?_
      refine V_bipush (v := 42) (sx_di dX12_soonest 26 rfl) (by decide) ?_
      refine V_ialdN (n := 226) (j := 42) (sx_di dX12_soonest 27 rfl) (hB.k _ rfl) (rfl) (by omega) (by omega) ?_
      refine V_iload_n (i := 1) (sx_di dX12_soonest 28 rfl) rfl rfl ?_
      refine V_icmp_ne (tgt := 59) (sx_di dX12_soonest 29 rfl) (by decide) (fun h52 => absurd (by rw [e42] at h30; exact e42.trans h30) h52) (fun _ => ?_)
      refine V_iconst (v := 1) (sx_di dX12_soonest 30 rfl) (by decide) ?_
      refine V_goto (tgt := 60) (sx_di dX12_soonest 31 rfl) (by decide) ?_
      refine V_istore_n (i := 3) (sx_di dX12_soonest 33 rfl) rfl (by decide) (rfl) ?_
      refine V_aload_n (i := 0) (sx_di dX12_soonest 34 rfl) rfl rfl ?_
      refine V_cV0 (mc' := 0) (ms' := 0) (M' := mX12_takeBack) 1 (sx_di dX12_soonest 35 rfl) lX12_359 vX12_takeBack (hB.k _ rfl) (by decide) rfl (Nat.le_of_ble_eq_true rfl) ⟨Nat.le_of_ble_eq_true rfl, Nat.le_of_ble_eq_true rfl⟩ ⟨Nat.le_refl _, Nat.le_refl _⟩ ?_
      refine e_takeBack R A (fun J2 f2 g2 => ?_)
      refine V_iload_n (i := 3) (sx_di dX12_soonest 36 rfl) rfl rfl ?_
      refine V_if_eq (tgt := 73) (sx_di dX12_soonest 37 rfl) (by decide) (fun h66 => absurd h66 (by decide)) (fun _ => ?_)
      refine V_iload_n (i := 2) (sx_di dX12_soonest 38 rfl) rfl rfl ?_
      refine V_goto (tgt := 74) (sx_di dX12_soonest 39 rfl) (by decide) ?_
      refine V_iret (sx_di dX12_soonest 41 rfl) rfl (Nat.le_refl _) (Nat.le_refl _) ?_
      subst hv; exact h J2 f2
    · rw [if_neg (by rw [e42] at h30; exact h30)] at hv
      refine V_aload_n (i := 0) (sx_di dX12_soonest 19 rfl) rfl rfl ?_
      refine V_cV0 (mc' := 0) (ms' := 0) (M' := mX12_live) 8 (sx_di dX12_soonest 20 rfl) lX12_308 vX12_live (hB.k _ rfl) (by decide) rfl (Nat.le_of_ble_eq_true rfl) ⟨Nat.le_of_ble_eq_true rfl, Nat.le_of_ble_eq_true rfl⟩ ⟨Nat.le_refl _, Nat.le_refl _⟩ ?_
      refine e_live R A h0 (fun J2 r A2 g2 => ?_)
      refine V_pop (sx_di dX12_soonest 21 rfl) rfl ?_
      refine V_inc (c := 1) (sx_di dX12_soonest 22 rfl) (by decide) rfl (by decide) (rfl) ?_
      refine V_goto (tgt := 16) (sx_di dX12_soonest 23 rfl) (by decide) ?_
      exact V_subk (q1 J2 (by omega) A2 hv) ⟨rfl, rfl, rfl, trivial⟩
set_option maxHeartbeats 2000000 in
set_option maxRecDepth 20000 in
theorem c_X12_soonest {E : sxE} {w : hpW} {Q : Option Value → hpW → Prop} {n m : Nat} {F : wF} {sz fo : Int32 → Int32} {bt : Int32} {m0 s : Nat → Int32} (R : RQ w n m F sz fo bt m0 s) {x : Int32} (h0 : ih_ n x = 0 → Q (some (.int (-1))) w) (h1 : ¬ ih_ n x = 0 → ∀ J, FQ w J → Q (some (.int (sn_ (dm_ F sz fo bt n m0 s) x 61 0))) (hp_wi w J)) : sx_C E mX12_soonest 9 0 0 [.ref 381, .int x] w Q := by
  obtain ⟨hB, hRS, hL, hO, hs⟩ := id R
  obtain ⟨hn, hn8, hm, hm6, hfo, hbt, hb, hm0⟩ := id hRS
  subst hs
  refine C_of (by decide +kernel) (Nat.le_of_ble_eq_true rfl) ?_
  refine V_aload_n (i := 0) (sx_di dX12_soonest 0 rfl) rfl rfl ?_
  refine V_iload_n (i := 1) (sx_di dX12_soonest 1 rfl) rfl rfl ?_
  refine V_cV1 (mc' := 0) (ms' := 0) (M' := mX12_isHouse) 2 (sx_di dX12_soonest 2 rfl) lX12_311 vX12_isHouse (hB.k _ rfl) (by decide) rfl (Nat.le_of_ble_eq_true rfl) ⟨Nat.le_of_ble_eq_true rfl, Nat.le_of_ble_eq_true rfl⟩ ⟨Nat.le_refl _, Nat.le_refl _⟩ ?_
  refine c_X12_isHouse hB hn hn8 ?_
  refine V_if_ne (tgt := 10) (sx_di dX12_soonest 3 rfl) (by decide) (fun h5 => ?_) (fun h5 => ?_)
  · obtain ⟨k0, hk0, _⟩ := ih_ye (by omega) h5
    refine V_aload_n (i := 0) (sx_di dX12_soonest 6 rfl) rfl rfl ?_
    refine V_cV0 (mc' := 0) (ms' := 0) (M' := mX12_putAside) 1 (sx_di dX12_soonest 7 rfl) lX12_356 vX12_putAside (hB.k _ rfl) (by decide) rfl (Nat.le_of_ble_eq_true rfl) ⟨Nat.le_of_ble_eq_true rfl, Nat.le_of_ble_eq_true rfl⟩ ⟨Nat.le_refl _, Nat.le_refl _⟩ ?_
    refine e_putAside R (fun J A => ?_)
    refine V_iconst (v := 0) (sx_di dX12_soonest 8 rfl) (by decide) ?_
    refine V_istore_n (i := 2) (sx_di dX12_soonest 9 rfl) rfl (by decide) (rfl) ?_
    refine V_sub (ls' := [(2, .int (nI 0)), (1, .int x), (0, .ref 381)]) ⟨rfl, rfl, rfl, trivial⟩ ?_
    exact snR_lp (w := w) R (by omega) (h1 h5) 60 0 J (by omega) A rfl
  · refine V_iconst (v := -1) (sx_di dX12_soonest 4 rfl) (by decide) ?_
    refine V_iret (sx_di dX12_soonest 5 rfl) rfl (Nat.le_refl _) (Nat.le_refl _) ?_
    exact h0 h5
theorem AL_si {w : hpW} {n m : Nat} {s s2 : Nat → Int32} {J : Nat → Nat → Int32} (A : AL w n m s s2 J) {k : Nat} (hk : k = 0 ∨ k = 35 ∨ k = 36) (x : Int32) : AL w n m s s2 (hp_u J 381 k x) := by
  refine ⟨FL_si A.1 (Or.inl ⟨rfl, hk⟩), ?_, fun j hj => ?_, A.2.2.2⟩
  · rw [← A.2.1]; funext j; exact hp_u_nk _ _ (by omega)
  · rw [← A.2.2.1 j hj]; exact hp_u_nk _ _ (by omega)
set_option maxHeartbeats 2000000 in
set_option maxRecDepth 20000 in
theorem ld_lp {E : sxE} {w : hpW} {Q : Option Value → hpW → Prop} {n m : Nat} {F : wF} {sz fo : Int32 → Int32} {bt : Int32} {m0 s : Nat → Int32} (R : RQ w n m F sz fo bt m0 s) (h0 : 0 < n) {q : Nat} (hq : q ≤ 60) (h : ∀ J, FQ w J → J 381 35 = vs_ (dm_ F sz fo bt n m0 s) q → J 381 36 = em_ (dm_ F sz fo bt n m0 s) q → Q none (hp_wi w J)) : ∀ p k J, k + p = q → AL w n m s (dm_ F sz fo bt n m0 s k) J → J 381 35 = vs_ (dm_ F sz fo bt n m0 s) k → J 381 36 = em_ (dm_ F sz fo bt n m0 s) k → V E mX12_layDays (sx_rm 9 0 0) 0 0 0 0 16 [(2, .int (nI k)), (1, .int (nI q)), (0, .ref 381)] [] (hp_wi w J) Q := by
  have hB := R.1
  intro p
  induction p with
  | zero =>
    intro k J hk A e5 e6
    have e : k = q := by omega
    subst e
    refine V_iload_n (i := 2) (sx_di dX12_layDays 10 rfl) rfl rfl ?_
    refine V_iload_n (i := 1) (sx_di dX12_layDays 11 rfl) rfl rfl ?_
    refine V_icN_ge (a := k) (b := k) (rfl) (rfl) (by omega) (by omega) (tgt := 90) (sx_di dX12_layDays 12 rfl) (by decide) (fun _ => ?_) (fun h18 => absurd h18 (by omega))
    refine V_aload_n (i := 0) (sx_di dX12_layDays 51 rfl) rfl rfl ?_
    refine V_cV0 (mc' := 0) (ms' := 0) (M' := mX12_takeBack) 1 (sx_di dX12_layDays 52 rfl) lX12_359 vX12_takeBack (hB.k _ rfl) (by decide) rfl (Nat.le_of_ble_eq_true rfl) ⟨Nat.le_of_ble_eq_true rfl, Nat.le_of_ble_eq_true rfl⟩ ⟨Nat.le_refl _, Nat.le_refl _⟩ ?_
    refine e_takeBack R A (fun J2 f2 g2 => ?_)
    refine V_vret (sx_di dX12_layDays 53 rfl) rfl (Nat.le_refl _) (Nat.le_refl _) ?_
    exact h J2 f2 ((g2 35).trans e5) ((g2 36).trans e6)
  | succ p ih =>
    intro k J hk A e5 e6
    have q1 := ih (k + 1)
    rw [← nI_1] at q1
    refine V_iload_n (i := 2) (sx_di dX12_layDays 10 rfl) rfl rfl ?_
    refine V_iload_n (i := 1) (sx_di dX12_layDays 11 rfl) rfl rfl ?_
    refine V_icN_ge (a := k) (b := q) (rfl) (rfl) (by omega) (by omega) (tgt := 90) (sx_di dX12_layDays 12 rfl) (by decide) (fun h18 => absurd h18 (by omega)) (fun _ => ?_)
    refine V_aload_n (i := 0) (sx_di dX12_layDays 13 rfl) rfl rfl ?_
    refine V_cV0 (mc' := 0) (ms' := 0) (M' := mX12_live) 8 (sx_di dX12_layDays 14 rfl) lX12_308 vX12_live (hB.k _ rfl) (by decide) rfl (Nat.le_of_ble_eq_true rfl) ⟨Nat.le_of_ble_eq_true rfl, Nat.le_of_ble_eq_true rfl⟩ ⟨Nat.le_refl _, Nat.le_refl _⟩ ?_
    refine e_live R A h0 (fun J2 r A2 g2 => ?_)
    have e42 : J2 398 42 = dm_ F sz fo bt n m0 s (k + 1) 42 := by rw [A2.2.1]; rfl
    have q2 := q1 _ (by omega) (AL_si (AL_si A2 (k := 35) (by omega) (vs_ (dm_ F sz fo bt n m0 s) (k + 1))) (k := 36) (by omega) (em_ (dm_ F sz fo bt n m0 s) (k + 1))) rfl rfl
    have e52 : hp_i (hp_wi w J2) 381 35 = vs_ (dm_ F sz fo bt n m0 s) k := (g2 35).trans e5
    have e62 : hp_i (hp_wi w J2) 381 36 = em_ (dm_ F sz fo bt n m0 s) k := (g2 36).trans e6
    refine V_pop (sx_di dX12_layDays 15 rfl) rfl ?_
    refine V_aload_n (i := 0) (sx_di dX12_layDays 16 rfl) rfl rfl ?_
    refine V_dup (sx_di dX12_layDays 17 rfl) rfl ?_
    refine V_getI (sx_di dX12_layDays 18 rfl) fX12_362 (fun _ => rfl) (hB.k _ rfl) ?_
    rw [e52]
    refine V_aload_n (i := 0) (sx_di dX12_layDays 19 rfl) rfl rfl ?_
    refine V_getR (sx_di dX12_layDays 20 rfl) fX12_58 (fun _ => rfl) (hB.k _ rfl) (hB.r _ _ rfl) ?_
    refine V_bipush (v := 42) (sx_di dX12_layDays 21 rfl) (by decide) ?_
    refine V_ialdN (n := 226) (j := 42) (sx_di dX12_layDays 22 rfl) (hB.k _ rfl) (rfl) (by omega) (by omega) ?_
    refine V_iconst (v := -1) (sx_di dX12_layDays 23 rfl) (by decide) ?_
    refine V_icmp_ne (tgt := 46) (sx_di dX12_layDays 24 rfl) (by decide) (fun h39 => ?_) (fun h39 => ?_)
    · have c42 : ¬ dm_ F sz fo bt n m0 s (k + 1) 42 = -1 := by rw [← e42]; exact h39
      refine V_iconst (v := 1) (sx_di dX12_layDays 27 rfl) (by decide) ?_
      refine V_aload_n (i := 0) (sx_di dX12_layDays 28 rfl) rfl rfl ?_
      refine V_getR (sx_di dX12_layDays 29 rfl) fX12_58 (fun _ => rfl) (hB.k _ rfl) (hB.r _ _ rfl) ?_
      refine V_bipush (v := 42) (sx_di dX12_layDays 30 rfl) (by decide) ?_
      refine V_ialdN (n := 226) (j := 42) (sx_di dX12_layDays 31 rfl) (hB.k _ rfl) (rfl) (by omega) (by omega) ?_
      refine V_ishl (sx_di dX12_layDays 32 rfl) ?_
      refine V_eq rfl rfl (congrArg (fun z : Int32 => Value.int ((1 : Int32) <<< (z &&& 31)) :: _) e42) rfl ?_
      refine V_ior (sx_di dX12_layDays 33 rfl) ?_
      refine V_putI (sx_di dX12_layDays 34 rfl) fX12_362 (fun _ => rfl) rfl (hB.k _ rfl) (rfl) (rfl) ?_
      refine V_aload_n (i := 0) (sx_di dX12_layDays 35 rfl) rfl rfl ?_
      refine V_dup (sx_di dX12_layDays 36 rfl) rfl ?_
      refine V_getI (sx_di dX12_layDays 37 rfl) fX12_365 (fun _ => rfl) (hB.k _ rfl) ?_
      refine V_eq rfl rfl (congrArg (fun z => Value.int z :: _) e62) rfl ?_
      refine V_aload_n (i := 0) (sx_di dX12_layDays 38 rfl) rfl rfl ?_
      refine V_getR (sx_di dX12_layDays 39 rfl) fX12_58 (fun _ => rfl) (hB.k _ rfl) (hB.r _ _ rfl) ?_
      refine V_bipush (v := 42) (sx_di dX12_layDays 40 rfl) (by decide) ?_
      refine V_ialdN (n := 226) (j := 42) (sx_di dX12_layDays 41 rfl) (hB.k _ rfl) (rfl) (by omega) (by omega) ?_
      refine V_iconst (v := -1) (sx_di dX12_layDays 42 rfl) (by decide) ?_
      refine V_icmp_ne (tgt := 79) (sx_di dX12_layDays 43 rfl) (by decide) (fun _ => ?_) (fun h72 => absurd (e42.symm.trans h72) c42)
      refine V_iconst (v := 0) (sx_di dX12_layDays 46 rfl) (by decide) ?_
      refine V_iadd (sx_di dX12_layDays 47 rfl) ?_
      refine V_putI (sx_di dX12_layDays 48 rfl) fX12_365 (fun _ => rfl) rfl (hB.k _ rfl) (rfl) (rfl) ?_
      refine V_inc (c := 1) (sx_di dX12_layDays 49 rfl) (by decide) rfl (by decide) (rfl) ?_
      refine V_goto (tgt := 16) (sx_di dX12_layDays 50 rfl) (by decide) ?_
      rw [vs_, em_, bi_, if_neg c42, if_neg c42] at q2
      exact V_subk q2 ⟨rfl, rfl, rfl, trivial⟩
    · have c42 : dm_ F sz fo bt n m0 s (k + 1) 42 = -1 := e42.symm.trans h39
      refine V_iconst (v := 0) (sx_di dX12_layDays 25 rfl) (by decide) ?_
      refine V_goto (tgt := 55) (sx_di dX12_layDays 26 rfl) (by decide) ?_
      refine V_ior (sx_di dX12_layDays 33 rfl) ?_
      refine V_putI (sx_di dX12_layDays 34 rfl) fX12_362 (fun _ => rfl) rfl (hB.k _ rfl) (rfl) (rfl) ?_
      refine V_aload_n (i := 0) (sx_di dX12_layDays 35 rfl) rfl rfl ?_
      refine V_dup (sx_di dX12_layDays 36 rfl) rfl ?_
      refine V_getI (sx_di dX12_layDays 37 rfl) fX12_365 (fun _ => rfl) (hB.k _ rfl) ?_
      refine V_eq rfl rfl (congrArg (fun z => Value.int z :: _) e62) rfl ?_
      refine V_aload_n (i := 0) (sx_di dX12_layDays 38 rfl) rfl rfl ?_
      refine V_getR (sx_di dX12_layDays 39 rfl) fX12_58 (fun _ => rfl) (hB.k _ rfl) (hB.r _ _ rfl) ?_
      refine V_bipush (v := 42) (sx_di dX12_layDays 40 rfl) (by decide) ?_
      refine V_ialdN (n := 226) (j := 42) (sx_di dX12_layDays 41 rfl) (hB.k _ rfl) (rfl) (by omega) (by omega) ?_
      refine V_iconst (v := -1) (sx_di dX12_layDays 42 rfl) (by decide) ?_
      refine V_icmp_ne (tgt := 79) (sx_di dX12_layDays 43 rfl) (by decide) (fun h72 => absurd (e42.trans c42) h72) (fun _ => ?_)
      refine V_iconst (v := 1) (sx_di dX12_layDays 44 rfl) (by decide) ?_
      refine V_goto (tgt := 80) (sx_di dX12_layDays 45 rfl) (by decide) ?_
      refine V_iadd (sx_di dX12_layDays 47 rfl) ?_
      refine V_putI (sx_di dX12_layDays 48 rfl) fX12_365 (fun _ => rfl) rfl (hB.k _ rfl) (rfl) (rfl) ?_
      refine V_inc (c := 1) (sx_di dX12_layDays 49 rfl) (by decide) rfl (by decide) (rfl) ?_
      refine V_goto (tgt := 16) (sx_di dX12_layDays 50 rfl) (by decide) ?_
      rw [vs_, em_, bi_, if_pos c42, if_pos c42] at q2
      exact V_subk q2 ⟨rfl, rfl, rfl, trivial⟩
set_option maxHeartbeats 2000000 in
set_option maxRecDepth 20000 in
theorem c_X12_layDays {E : sxE} {w : hpW} {Q : Option Value → hpW → Prop} {n m : Nat} {F : wF} {sz fo : Int32 → Int32} {bt : Int32} {m0 s : Nat → Int32} (R : RQ w n m F sz fo bt m0 s) (h0 : 0 < n) {q : Nat} (hq : q ≤ 60) (h : ∀ J, FQ w J → J 381 35 = vs_ (dm_ F sz fo bt n m0 s) q → J 381 36 = em_ (dm_ F sz fo bt n m0 s) q → Q none (hp_wi w J)) : sx_C E mX12_layDays 9 0 0 [.ref 381, .int (nI q)] w Q := by
  have hB := R.1
  refine C_of (by decide +kernel) (Nat.le_of_ble_eq_true rfl) ?_
  refine V_aload_n (i := 0) (sx_di dX12_layDays 0 rfl) rfl rfl ?_
  refine V_cV0 (mc' := 0) (ms' := 0) (M' := mX12_putAside) 1 (sx_di dX12_layDays 1 rfl) lX12_356 vX12_putAside (hB.k _ rfl) (by decide) rfl (Nat.le_of_ble_eq_true rfl) ⟨Nat.le_of_ble_eq_true rfl, Nat.le_of_ble_eq_true rfl⟩ ⟨Nat.le_refl _, Nat.le_refl _⟩ ?_
  refine e_putAside R (fun J A => ?_)
  refine V_aload_n (i := 0) (sx_di dX12_layDays 2 rfl) rfl rfl ?_
  refine V_iconst (v := 0) (sx_di dX12_layDays 3 rfl) (by decide) ?_
  refine V_putI (sx_di dX12_layDays 4 rfl) fX12_362 (fun _ => rfl) rfl (hB.k _ rfl) (rfl) (rfl) ?_
  refine V_aload_n (i := 0) (sx_di dX12_layDays 5 rfl) rfl rfl ?_
  refine V_iconst (v := 0) (sx_di dX12_layDays 6 rfl) (by decide) ?_
  refine V_putI (sx_di dX12_layDays 7 rfl) fX12_365 (fun _ => rfl) rfl (hB.k _ rfl) (rfl) (rfl) ?_
  refine V_iconst (v := 0) (sx_di dX12_layDays 8 rfl) (by decide) ?_
  refine V_istore_n (i := 2) (sx_di dX12_layDays 9 rfl) rfl (by decide) (rfl) ?_
  refine V_sub (ls' := [(2, .int (nI 0)), (1, .int (nI q)), (0, .ref 381)]) ⟨rfl, rfl, rfl, trivial⟩ ?_
  exact ld_lp (w := w) R h0 hq h q 0 _ (by omega) (AL_si (AL_si A (k := 35) (by omega) 0) (k := 36) (by omega) 0) rfl rfl
def ak_ (n : Nat) (x : Int32) : Int32 := if n = 0 then 0 else in_ x 1 60
set_option maxHeartbeats 2000000 in
set_option maxRecDepth 20000 in
theorem c_X12_isAsked {E : sxE} {w : hpW} {Q : Option Value → hpW → Prop} {n m : Nat} {F : wF} {sz fo : Int32 → Int32} {bt : Int32} {m0 s : Nat → Int32} (R : RQ w n m F sz fo bt m0 s) {x : Int32} (h : Q (some (.int (ak_ n x))) w) : sx_C E mX12_isAsked 2 0 0 [.ref 381, .int x] w Q := by
  obtain ⟨hB, hRS, hL, hO, hs⟩ := id R
  obtain ⟨hn, hn8, hm, hm6, hfo, hbt, hb, hm0⟩ := id hRS
  subst hs
  refine C_of (by decide +kernel) (Nat.le_of_ble_eq_true rfl) ?_
  refine V_aload_n (i := 0) (sx_di dX12_isAsked 0 rfl) rfl rfl ?_
  refine V_getI (sx_di dX12_isAsked 1 rfl) fX12_258 (fun _ => rfl) (hB.k _ rfl) ?_
  refine V_ifN_le (a := n) (hn) (by omega) (tgt := 21) (sx_di dX12_isAsked 2 rfl) (by decide) (fun h4 => ?_) (fun h4 => ?_)
  · rw [ak_, if_pos (by omega)] at h
    refine V_iconst (v := 0) (sx_di dX12_isAsked 10 rfl) (by decide) ?_
    refine V_zret (sx_di dX12_isAsked 11 rfl) rfl (by first | rfl | decide) (Nat.le_refl _) (Nat.le_refl _) ?_
    exact h
  · rw [ak_, if_neg (by omega)] at h
    refine V_iload_n (i := 1) (sx_di dX12_isAsked 3 rfl) rfl rfl ?_
    refine V_iconst (v := 1) (sx_di dX12_isAsked 4 rfl) (by decide) ?_
    refine V_bipush (v := 60) (sx_di dX12_isAsked 5 rfl) (by decide) ?_
    refine V_cS3 (mc' := 0) (ms' := 0) (M' := mX12_in) 1 (sx_di dX12_isAsked 6 rfl) lX12_214 vX12_in (Nat.le_of_ble_eq_true rfl) ⟨Nat.le_of_ble_eq_true rfl, Nat.le_of_ble_eq_true rfl⟩ ⟨Nat.le_refl _, Nat.le_refl _⟩ ?_
    refine c_X12_in ?_
    refine V_if_eq (tgt := 21) (sx_di dX12_isAsked 7 rfl) (by decide) (fun h14 => ?_) (fun h14 => ?_)
    · rw [h14] at h
      refine V_iconst (v := 0) (sx_di dX12_isAsked 10 rfl) (by decide) ?_
      refine V_zret (sx_di dX12_isAsked 11 rfl) rfl (by first | rfl | decide) (Nat.le_refl _) (Nat.le_refl _) ?_
      exact h
    · rw [show in_ x 1 60 = 1 from (by unfold in_ at h14 ⊢; split at h14; exact absurd rfl h14; next z => rw [if_neg z])] at h
      refine V_iconst (v := 1) (sx_di dX12_isAsked 8 rfl) (by decide) ?_
      refine V_goto (tgt := 22) (sx_di dX12_isAsked 9 rfl) (by decide) ?_
      refine V_zret (sx_di dX12_isAsked 11 rfl) rfl (by first | rfl | decide) (Nat.le_refl _) (Nat.le_refl _) ?_
      exact h
theorem ak_no {n : Nat} {x : Int32} (h : ak_ n x = 0) : ay_ n x := by
  unfold ak_ at h
  split at h
  · exact Or.inl (by assumption)
  · exact Or.inr (in_no h)
theorem ak_ye {n : Nat} {x : Int32} (h : ¬ ak_ n x = 0) : ¬ ay_ n x := by
  unfold ak_ at h
  split at h
  · exact absurd rfl h
  · next q => exact fun z => z.elim q (in_ye h)
set_option maxHeartbeats 2000000 in
set_option maxRecDepth 20000 in
theorem c_X12_visits {E : sxE} {w : hpW} {Q : Option Value → hpW → Prop} {n m : Nat} {F : wF} {sz fo : Int32 → Int32} {bt : Int32} {m0 s : Nat → Int32} (R : RQ w n m F sz fo bt m0 s) {x : Int32} (h0 : ay_ n x → Q (some (.int (-1))) w) (h1 : ¬ ay_ n x → ∀ q, q ≤ 60 → x = nI q → ∀ J, FQ w J → Q (some (.int (vs_ (dm_ F sz fo bt n m0 s) q))) (hp_wi w J)) : sx_C E mX12_visits 10 0 0 [.ref 381, .int x] w Q := by
  obtain ⟨hB, hRS, hL, hO, hs⟩ := id R
  obtain ⟨hn, hn8, hm, hm6, hfo, hbt, hb, hm0⟩ := id hRS
  subst hs
  refine C_of (by decide +kernel) (Nat.le_of_ble_eq_true rfl) ?_
  refine V_aload_n (i := 0) (sx_di dX12_visits 0 rfl) rfl rfl ?_
  refine V_iload_n (i := 1) (sx_di dX12_visits 1 rfl) rfl rfl ?_
  refine V_cV1 (mc' := 0) (ms' := 0) (M' := mX12_isAsked) 2 (sx_di dX12_visits 2 rfl) lX12_368 vX12_isAsked (hB.k _ rfl) (by decide) rfl (Nat.le_of_ble_eq_true rfl) ⟨Nat.le_of_ble_eq_true rfl, Nat.le_of_ble_eq_true rfl⟩ ⟨Nat.le_refl _, Nat.le_refl _⟩ ?_
  refine c_X12_isAsked R ?_
  refine V_if_ne (tgt := 10) (sx_di dX12_visits 3 rfl) (by decide) (fun h5 => ?_) (fun h5 => ?_)
  · have h5 := ak_ye h5
    have h6 : ¬ n = 0 := fun z => h5 (Or.inl z)
    obtain ⟨q, hq, rfl⟩ := nI_of2 (M := 60) (n := 60) (by decide) (fun z => h5 (Or.inr (Or.inl (Int32.lt_trans z (by decide))))) (Int32.not_lt.mp (fun z => h5 (Or.inr (Or.inr z))))
    refine V_aload_n (i := 0) (sx_di dX12_visits 6 rfl) rfl rfl ?_
    refine V_iload_n (i := 1) (sx_di dX12_visits 7 rfl) rfl rfl ?_
    refine V_cV1 (mc' := 0) (ms' := 0) (M' := mX12_layDays) 9 (sx_di dX12_visits 8 rfl) lX12_371 vX12_layDays (hB.k _ rfl) (by decide) rfl (Nat.le_of_ble_eq_true rfl) ⟨Nat.le_of_ble_eq_true rfl, Nat.le_of_ble_eq_true rfl⟩ ⟨Nat.le_refl _, Nat.le_refl _⟩ ?_
    refine c_X12_layDays R (by omega) hq (fun J f2 e5 e6 => ?_)
    refine V_aload_n (i := 0) (sx_di dX12_visits 9 rfl) rfl rfl ?_
    refine V_getI (sx_di dX12_visits 10 rfl) fX12_362 (fun _ => rfl) (hB.k _ rfl) ?_
    refine V_iret (sx_di dX12_visits 11 rfl) rfl (Nat.le_refl _) (Nat.le_refl _) ?_
    refine Q_int (h1 h5 q hq rfl J f2) e5.symm
  · refine V_iconst (v := -1) (sx_di dX12_visits 4 rfl) (by decide) ?_
    refine V_iret (sx_di dX12_visits 5 rfl) rfl (Nat.le_refl _) (Nat.le_refl _) ?_
    exact h0 (ak_no h5)
set_option maxHeartbeats 2000000 in
set_option maxRecDepth 20000 in
theorem c_X12_empty {E : sxE} {w : hpW} {Q : Option Value → hpW → Prop} {n m : Nat} {F : wF} {sz fo : Int32 → Int32} {bt : Int32} {m0 s : Nat → Int32} (R : RQ w n m F sz fo bt m0 s) {x : Int32} (h0 : ay_ n x → Q (some (.int (-1))) w) (h1 : ¬ ay_ n x → ∀ q, q ≤ 60 → x = nI q → ∀ J, FQ w J → Q (some (.int (em_ (dm_ F sz fo bt n m0 s) q))) (hp_wi w J)) : sx_C E mX12_empty 10 0 0 [.ref 381, .int x] w Q := by
  obtain ⟨hB, hRS, hL, hO, hs⟩ := id R
  obtain ⟨hn, hn8, hm, hm6, hfo, hbt, hb, hm0⟩ := id hRS
  subst hs
  refine C_of (by decide +kernel) (Nat.le_of_ble_eq_true rfl) ?_
  refine V_aload_n (i := 0) (sx_di dX12_empty 0 rfl) rfl rfl ?_
  refine V_iload_n (i := 1) (sx_di dX12_empty 1 rfl) rfl rfl ?_
  refine V_cV1 (mc' := 0) (ms' := 0) (M' := mX12_isAsked) 2 (sx_di dX12_empty 2 rfl) lX12_368 vX12_isAsked (hB.k _ rfl) (by decide) rfl (Nat.le_of_ble_eq_true rfl) ⟨Nat.le_of_ble_eq_true rfl, Nat.le_of_ble_eq_true rfl⟩ ⟨Nat.le_refl _, Nat.le_refl _⟩ ?_
  refine c_X12_isAsked R ?_
  refine V_if_ne (tgt := 10) (sx_di dX12_empty 3 rfl) (by decide) (fun h5 => ?_) (fun h5 => ?_)
  · have h5 := ak_ye h5
    have h6 : ¬ n = 0 := fun z => h5 (Or.inl z)
    obtain ⟨q, hq, rfl⟩ := nI_of2 (M := 60) (n := 60) (by decide) (fun z => h5 (Or.inr (Or.inl (Int32.lt_trans z (by decide))))) (Int32.not_lt.mp (fun z => h5 (Or.inr (Or.inr z))))
    refine V_aload_n (i := 0) (sx_di dX12_empty 6 rfl) rfl rfl ?_
    refine V_iload_n (i := 1) (sx_di dX12_empty 7 rfl) rfl rfl ?_
    refine V_cV1 (mc' := 0) (ms' := 0) (M' := mX12_layDays) 9 (sx_di dX12_empty 8 rfl) lX12_371 vX12_layDays (hB.k _ rfl) (by decide) rfl (Nat.le_of_ble_eq_true rfl) ⟨Nat.le_of_ble_eq_true rfl, Nat.le_of_ble_eq_true rfl⟩ ⟨Nat.le_refl _, Nat.le_refl _⟩ ?_
    refine c_X12_layDays R (by omega) hq (fun J f2 e5 e6 => ?_)
    refine V_aload_n (i := 0) (sx_di dX12_empty 9 rfl) rfl rfl ?_
    refine V_getI (sx_di dX12_empty 10 rfl) fX12_365 (fun _ => rfl) (hB.k _ rfl) ?_
    refine V_iret (sx_di dX12_empty 11 rfl) rfl (Nat.le_refl _) (Nat.le_refl _) ?_
    refine Q_int (h1 h5 q hq rfl J f2) e6.symm
  · refine V_iconst (v := -1) (sx_di dX12_empty 4 rfl) (by decide) ?_
    refine V_iret (sx_di dX12_empty 5 rfl) rfl (Nat.le_refl _) (Nat.le_refl _) ?_
    exact h0 (ak_no h5)

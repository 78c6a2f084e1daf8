/-! a day of the class's State -/
theorem u_ff {α : Type} {f g : Nat → Nat → α} (h : ∀ b j, f b j = g b j) : f = g := by funext b j; exact h b j
def us_ (mind told pl x : Int32) : Int32 := if mind < (if x = pl then 0 else told) then mind + 1 else if (if x = pl then 0 else told) < mind then mind - 1 else mind
/-- the day is one more, the first k MINDS are drawn on -/
def pdk_ (I : Nat → Nat → Int32) (a k : Nat) : Nat → Nat → Int32 := fun b j => if b = a ∧ j = 11 then I a 11 + 1 else if b = a + 2 ∧ j < k then us_ (I (a + 2) j) (I (a + 1) j) (I a 9) (nI j) else I b j
/-- it goes -/
noncomputable def pd2_ (I : Nat → Nat → Int32) (a t : Nat) (F : wF) (n : Nat) : Nat → Nat → Int32 := fun b j => if b = a ∧ j = 7 then 0 else if b = a ∧ j = 9 then gl_ (mC_ I a t F) n else if b = a ∧ j = 10 then (if gl_ (mC_ I a t F) n = I a 9 then I a 10 else sl_ I t (36 + 2 * I a 10 + 1)) else I b j
theorem pdk_0 (w : hpW) (a : Nat) : hp_si w a 11 (hp_i w a 11 + 1) = hp_wi w (pdk_ (hp_i w) a 0) := by
  rw [hp_si_wi]
  congr 1
  apply u_ff
  intro b j
  simp only [hp_u, pdk_, Nat.not_lt_zero, and_false, if_false]
theorem pdk_s (I : Nat → Nat → Int32) (a k : Nat) : hp_u (pdk_ I a k) (a + 2) k (us_ (I (a + 2) k) (I (a + 1) k) (I a 9) (nI k)) = pdk_ I a (k + 1) := by
  apply u_ff
  intro b j
  unfold hp_u pdk_
  by_cases h1 : b = a + 2
  · subst h1
    have e1 : ¬ (a + 2 = a ∧ j = 11) := by omega
    by_cases h2 : j = k
    · subst h2
      rw [if_pos ⟨rfl, rfl⟩, if_neg e1, if_pos ⟨rfl, by omega⟩]
    · rw [if_neg (by omega), if_neg e1, if_neg e1]
      by_cases h3 : j < k
      · rw [if_pos ⟨rfl, h3⟩, if_pos ⟨rfl, by omega⟩]
      · rw [if_neg (by omega), if_neg (by omega)]
  · rw [if_neg (by omega)]
    by_cases h2 : b = a ∧ j = 11
    · rw [if_pos h2, if_pos h2]
    · rw [if_neg h2, if_neg h2, if_neg (by omega), if_neg (by omega)]
theorem pdk_n {I : Nat → Nat → Int32} {a k : Nat} (h : us_ (I (a + 2) k) (I (a + 1) k) (I a 9) (nI k) = I (a + 2) k) : pdk_ I a (k + 1) = pdk_ I a k := by
  rw [← pdk_s, h]
  apply u_ff
  intro b j
  unfold hp_u
  by_cases h1 : b = a + 2 ∧ j = k
  · rw [if_pos h1, h1.1, h1.2]
    unfold pdk_
    rw [if_neg (by omega), if_neg (by omega)]
  · rw [if_neg h1]
theorem pdk_r (I : Nat → Nat → Int32) (a k : Nat) {b j : Nat} (h1 : b = a → ¬ j = 11) (h2 : b = a + 2 → ¬ j < k) : pdk_ I a k b j = I b j := by
  unfold pdk_
  rw [if_neg (fun z => h1 z.1 z.2), if_neg (fun z => h2 z.1 z.2)]
theorem pdk_d (I : Nat → Nat → Int32) (a k : Nat) : pdk_ I a k a 11 = I a 11 + 1 := by unfold pdk_; rw [if_pos ⟨rfl, rfl⟩]
theorem pdk_f (w : hpW) (a k : Nat) : fr_ w (pdk_ (hp_i w) a k) (fun b => b = a ∨ b = a + 2) := fun b hb => by
  funext j
  exact pdk_r _ _ _ (fun z => absurd (Or.inl z) hb) (fun z => absurd (Or.inr z) hb)
theorem pd2_stay {I G : Nat → Nat → Int32} {a t n : Nat} {F : wF} {to : Int32} (f : ∀ b, ¬ sc_ b → I b = G b) (ha : ¬ sc_ a) (hto : gl_ (mC_ G a t F) n = to) (h : to = I a 9) : ∀ b, ¬ sc_ b → hp_u (hp_u I a 9 to) a 7 0 b = pd2_ G a t F n b := by
  intro b hb
  funext j
  have g0 : ∀ j, I a j = G a j := fun j => congrFun (f a ha) j
  unfold pd2_ hp_u
  rw [hto]
  have h9 : to = G a 9 := h.trans (g0 9)
  by_cases b1 : b = a
  · subst b1
    by_cases j7 : j = 7
    · simp [j7]
    · by_cases j9 : j = 9
      · simp [j9]
      · by_cases j10 : j = 10
        · simp [j10, h9, g0]
        · simp [j7, j9, j10, g0]
  · simp [b1, f b hb]
theorem pd2_go {I G : Nat → Nat → Int32} {a t n : Nat} {F : wF} {to : Int32} (f : ∀ b, ¬ sc_ b → I b = G b) (ha : ¬ sc_ a) (gt : I (t + 1) = G (t + 1)) (hto : gl_ (mC_ G a t F) n = to) (h : ¬ to = I a 9) : ∀ b, ¬ sc_ b → hp_u (hp_u (hp_u I a 10 (sl_ I t (36 + 2 * I a 10 + 1))) a 9 to) a 7 0 b = pd2_ G a t F n b := by
  intro b hb
  funext j
  have g0 : ∀ j, I a j = G a j := fun j => congrFun (f a ha) j
  unfold pd2_ hp_u
  rw [hto]
  have h9 : ¬ to = G a 9 := fun z => h (z.trans (g0 9).symm)
  by_cases b1 : b = a
  · subst b1
    by_cases j7 : j = 7
    · simp [j7]
    · by_cases j9 : j = 9
      · simp [j9]
      · by_cases j10 : j = 10
        · simp [j10, h9, g0, sl_cg gt]
        · simp [j7, j9, j10, g0]
  · simp [b1, f b hb]
set_option maxHeartbeats 2000000 in
set_option maxRecDepth 20000 in
theorem pd_lp {E : sxE} {w : hpW} {Q : Option Value → hpW → Prop} {a t n : Nat} {lv : Value} (hs : is_Ss w a) (ht : hp_r w a 0 = some t) (hst : is_St w t) (hrv : is_rv lv) (ha : 57 ≤ a) (ht2 : 53 ≤ t ∧ t ≤ 55) (hn : hp_i w t 0 = nI n) (hn8 : n ≤ 8) (kk : V E mX7_passDay (sx_rm 6 0 0) 0 0 0 0 91 [(1, lv), (0, .ref a)] [] (hp_wi w (pdk_ (hp_i w) a n)) Q) : ∀ m k, k + m = n → V E mX7_passDay (sx_rm 6 0 0) 0 0 0 0 12 [(2, .int (nI k)), (1, lv), (0, .ref a)] [] (hp_wi w (pdk_ (hp_i w) a k)) Q := by
  intro m
  induction m with
  | zero =>
    intro k hk
    have e : k = n := by omega
    subst e
    have hn2 : hp_i (hp_wi w (pdk_ (hp_i w) a k)) t 0 = nI k := (pdk_r _ _ _ (by omega) (by omega)).trans hn
    refine V_iload_n (i := 2) (sx_di dX7_passDay 8 rfl) rfl rfl ?_
    refine V_aload_n (i := 0) (sx_di dX7_passDay 9 rfl) rfl rfl ?_
    refine V_getR (sx_di dX7_passDay 10 rfl) fX7_34 (fun _ => rfl) (by first | exact hs.1 | exact hs.2.1 | exact hs.2.2.1 | exact hs.2.2.2.1 | exact hs.2.2.2.2.1 | exact hs.2.2.2.2.2.1 | exact hs.2.2.2.2.2.2.1 | exact hst.1 | exact hst.2.1) (by first | exact hs.2.2.2.2.2.2.2.1 | exact hs.2.2.2.2.2.2.2.2.1 | exact hs.2.2.2.2.2.2.2.2.2.1 | exact hs.2.2.2.2.2.2.2.2.2.2.1 | exact hs.2.2.2.2.2.2.2.2.2.2.2.1 | exact hs.2.2.2.2.2.2.2.2.2.2.2.2 | exact ht | exact hst.2.2) ?_
    refine V_cV0 (mc' := 0) (ms' := 0) (M' := mX8_houseCount) 2 (sx_di dX7_passDay 11 rfl) lX7_100 vX8_houseCount (by first | exact hs.1 | exact hs.2.1 | exact hs.2.2.1 | exact hs.2.2.2.1 | exact hs.2.2.2.2.1 | exact hs.2.2.2.2.2.1 | exact hs.2.2.2.2.2.2.1 | exact hst.1 | exact hst.2.1) (by decide) rfl (Nat.le_of_ble_eq_true rfl) ⟨Nat.le_of_ble_eq_true rfl, Nat.le_of_ble_eq_true rfl⟩ ⟨Nat.le_refl _, Nat.le_refl _⟩ ?_
    refine c_X8_houseCount (by first | exact hs.1 | exact hs.2.1 | exact hs.2.2.1 | exact hs.2.2.2.1 | exact hs.2.2.2.2.1 | exact hs.2.2.2.2.2.1 | exact hs.2.2.2.2.2.2.1 | exact hst.1 | exact hst.2.1) (hc8 hn2 hn8) ?_
    refine V_icmp_ge (tgt := 91) (sx_di dX7_passDay 12 rfl) (by decide) (fun _ => ?_) (fun h20 => absurd (by rw [hn2]; exact Int32.le_refl _) h20)
    exact V_subk kk ⟨rfl, rfl, trivial⟩
  | succ m ih =>
    intro k hk
    have hn2 : hp_i (hp_wi w (pdk_ (hp_i w) a k)) t 0 = nI n := (pdk_r _ _ _ (by omega) (by omega)).trans hn
    have hin : vp_in (nI k) 8 := vp_in_nI (by omega) (by decide)
    have hcl : (nI k).toNatClampNeg = k := nI_clamp (by omega)
    have r9 : hp_i (hp_wi w (pdk_ (hp_i w) a k)) a 9 = hp_i w a 9 := pdk_r _ _ _ (by omega) (by omega)
    have r1 : hp_i (hp_wi w (pdk_ (hp_i w) a k)) (a + 1) (nI k).toNatClampNeg = hp_i w (a + 1) k := by rw [hcl]; exact pdk_r _ _ _ (by omega) (by omega)
    have r2 : hp_i (hp_wi w (pdk_ (hp_i w) a k)) (a + 2) (nI k).toNatClampNeg = hp_i w (a + 2) k := by rw [hcl]; exact pdk_r _ _ _ (by omega) (by omega)
    have q1 := ih (k + 1) (by omega)
    rw [← nI_1] at q1
    have key : ∀ to : Int32, to = (if nI k = hp_i w a 9 then 0 else hp_i w (a + 1) k) → V E mX7_passDay (sx_rm 6 0 0) 0 0 0 0 42 [(3, .int to), (2, .int (nI k)), (1, lv), (0, .ref a)] [] (hp_wi w (pdk_ (hp_i w) a k)) Q := by
      intro to hto
      refine V_aload_n (i := 0) (sx_di dX7_passDay 24 rfl) rfl rfl ?_
      refine V_getR (sx_di dX7_passDay 25 rfl) fX7_15 (fun _ => rfl) (by first | exact hs.1 | exact hs.2.1 | exact hs.2.2.1 | exact hs.2.2.2.1 | exact hs.2.2.2.2.1 | exact hs.2.2.2.2.2.1 | exact hs.2.2.2.2.2.2.1 | exact hst.1 | exact hst.2.1) (by first | exact hs.2.2.2.2.2.2.2.1 | exact hs.2.2.2.2.2.2.2.2.1 | exact hs.2.2.2.2.2.2.2.2.2.1 | exact hs.2.2.2.2.2.2.2.2.2.2.1 | exact hs.2.2.2.2.2.2.2.2.2.2.2.1 | exact hs.2.2.2.2.2.2.2.2.2.2.2.2 | exact ht | exact hst.2.2) ?_
      refine V_iload_n (i := 2) (sx_di dX7_passDay 26 rfl) rfl rfl ?_
      refine V_iald (sx_di dX7_passDay 27 rfl) (by first | exact hs.1 | exact hs.2.1 | exact hs.2.2.1 | exact hs.2.2.2.1 | exact hs.2.2.2.2.1 | exact hs.2.2.2.2.2.1 | exact hs.2.2.2.2.2.2.1 | exact hst.1 | exact hst.2.1) (hin) ?_
      refine V_iload_n (i := 3) (sx_di dX7_passDay 28 rfl) rfl rfl ?_
      refine V_icmp_ge (tgt := 65) (sx_di dX7_passDay 29 rfl) (by decide) (fun h49 => ?_) (fun h49 => ?_)
      · rw [r2] at h49
        refine V_aload_n (i := 0) (sx_di dX7_passDay 39 rfl) rfl rfl ?_
        refine V_getR (sx_di dX7_passDay 40 rfl) fX7_15 (fun _ => rfl) (by first | exact hs.1 | exact hs.2.1 | exact hs.2.2.1 | exact hs.2.2.2.1 | exact hs.2.2.2.2.1 | exact hs.2.2.2.2.2.1 | exact hs.2.2.2.2.2.2.1 | exact hst.1 | exact hst.2.1) (by first | exact hs.2.2.2.2.2.2.2.1 | exact hs.2.2.2.2.2.2.2.2.1 | exact hs.2.2.2.2.2.2.2.2.2.1 | exact hs.2.2.2.2.2.2.2.2.2.2.1 | exact hs.2.2.2.2.2.2.2.2.2.2.2.1 | exact hs.2.2.2.2.2.2.2.2.2.2.2.2 | exact ht | exact hst.2.2) ?_
        refine V_iload_n (i := 2) (sx_di dX7_passDay 41 rfl) rfl rfl ?_
        refine V_iald (sx_di dX7_passDay 42 rfl) (by first | exact hs.1 | exact hs.2.1 | exact hs.2.2.1 | exact hs.2.2.2.1 | exact hs.2.2.2.2.1 | exact hs.2.2.2.2.2.1 | exact hs.2.2.2.2.2.2.1 | exact hst.1 | exact hst.2.1) (hin) ?_
        refine V_iload_n (i := 3) (sx_di dX7_passDay 43 rfl) rfl rfl ?_
        refine V_icmp_le (tgt := 85) (sx_di dX7_passDay 44 rfl) (by decide) (fun h72 => ?_) (fun h72 => ?_)
        · rw [r2] at h72
          have hu : us_ (hp_i w (a + 2) k) (hp_i w (a + 1) k) (hp_i w a 9) (nI k) = hp_i w (a + 2) k := by unfold us_; rw [← hto, if_neg (Int32.not_lt.mpr h49), if_neg (Int32.not_lt.mpr h72)]
          rw [pdk_n hu] at q1
          refine V_inc (c := 1) (sx_di dX7_passDay 53 rfl) (by decide) rfl (by decide) (by first | rfl | (rcases hrv with e | ⟨b, e⟩ <;> subst e <;> rfl)) ?_
          refine V_goto (tgt := 12) (sx_di dX7_passDay 54 rfl) (by decide) ?_
          exact V_subk q1 ⟨rfl, rfl, rfl, trivial⟩
        · rw [r2] at h72
          have hu : us_ (hp_i w (a + 2) k) (hp_i w (a + 1) k) (hp_i w a 9) (nI k) = hp_i w (a + 2) k - 1 := by unfold us_; rw [← hto, if_neg (Int32.not_lt.mpr h49), if_pos (Int32.not_le.mp h72)]
          have eh : hp_si (hp_wi w (pdk_ (hp_i w) a k)) (a + 2) (nI k).toNatClampNeg (hp_i (hp_wi w (pdk_ (hp_i w) a k)) (a + 2) (nI k).toNatClampNeg - 1) = hp_wi w (pdk_ (hp_i w) a (k + 1)) := by
            rw [r2, hcl, ← hu, hp_si_wi2, pdk_s]
          refine V_aload_n (i := 0) (sx_di dX7_passDay 45 rfl) rfl rfl ?_
          refine V_getR (sx_di dX7_passDay 46 rfl) fX7_15 (fun _ => rfl) (by first | exact hs.1 | exact hs.2.1 | exact hs.2.2.1 | exact hs.2.2.2.1 | exact hs.2.2.2.2.1 | exact hs.2.2.2.2.2.1 | exact hs.2.2.2.2.2.2.1 | exact hst.1 | exact hst.2.1) (by first | exact hs.2.2.2.2.2.2.2.1 | exact hs.2.2.2.2.2.2.2.2.1 | exact hs.2.2.2.2.2.2.2.2.2.1 | exact hs.2.2.2.2.2.2.2.2.2.2.1 | exact hs.2.2.2.2.2.2.2.2.2.2.2.1 | exact hs.2.2.2.2.2.2.2.2.2.2.2.2 | exact ht | exact hst.2.2) ?_
          refine V_iload_n (i := 2) (sx_di dX7_passDay 47 rfl) rfl rfl ?_
          refine V_dup2 (sx_di dX7_passDay 48 rfl) rfl rfl ?_
          refine V_iald (sx_di dX7_passDay 49 rfl) (by first | exact hs.1 | exact hs.2.1 | exact hs.2.2.1 | exact hs.2.2.2.1 | exact hs.2.2.2.2.1 | exact hs.2.2.2.2.2.1 | exact hs.2.2.2.2.2.2.1 | exact hst.1 | exact hst.2.1) (hin) ?_
          refine V_iconst (v := 1) (sx_di dX7_passDay 50 rfl) (by decide) ?_
          refine V_isub (sx_di dX7_passDay 51 rfl) ?_
          refine V_iast (sx_di dX7_passDay 52 rfl) (by first | exact hs.1 | exact hs.2.1 | exact hs.2.2.1 | exact hs.2.2.2.1 | exact hs.2.2.2.2.1 | exact hs.2.2.2.2.2.1 | exact hs.2.2.2.2.2.2.1 | exact hst.1 | exact hst.2.1) (hin) ?_
          refine V_inc (c := 1) (sx_di dX7_passDay 53 rfl) (by decide) rfl (by decide) (by first | rfl | (rcases hrv with e | ⟨b, e⟩ <;> subst e <;> rfl)) ?_
          refine V_goto (tgt := 12) (sx_di dX7_passDay 54 rfl) (by decide) ?_
          exact V_eq rfl rfl rfl eh (V_subk q1 ⟨rfl, rfl, rfl, trivial⟩)
      · rw [r2] at h49
        have hu : us_ (hp_i w (a + 2) k) (hp_i w (a + 1) k) (hp_i w a 9) (nI k) = hp_i w (a + 2) k + 1 := by unfold us_; rw [← hto, if_pos (Int32.not_le.mp h49)]
        have eh : hp_si (hp_wi w (pdk_ (hp_i w) a k)) (a + 2) (nI k).toNatClampNeg (hp_i (hp_wi w (pdk_ (hp_i w) a k)) (a + 2) (nI k).toNatClampNeg + 1) = hp_wi w (pdk_ (hp_i w) a (k + 1)) := by
          rw [r2, hcl, ← hu, hp_si_wi2, pdk_s]
        refine V_aload_n (i := 0) (sx_di dX7_passDay 30 rfl) rfl rfl ?_
        refine V_getR (sx_di dX7_passDay 31 rfl) fX7_15 (fun _ => rfl) (by first | exact hs.1 | exact hs.2.1 | exact hs.2.2.1 | exact hs.2.2.2.1 | exact hs.2.2.2.2.1 | exact hs.2.2.2.2.2.1 | exact hs.2.2.2.2.2.2.1 | exact hst.1 | exact hst.2.1) (by first | exact hs.2.2.2.2.2.2.2.1 | exact hs.2.2.2.2.2.2.2.2.1 | exact hs.2.2.2.2.2.2.2.2.2.1 | exact hs.2.2.2.2.2.2.2.2.2.2.1 | exact hs.2.2.2.2.2.2.2.2.2.2.2.1 | exact hs.2.2.2.2.2.2.2.2.2.2.2.2 | exact ht | exact hst.2.2) ?_
        refine V_iload_n (i := 2) (sx_di dX7_passDay 32 rfl) rfl rfl ?_
        refine V_dup2 (sx_di dX7_passDay 33 rfl) rfl rfl ?_
        refine V_iald (sx_di dX7_passDay 34 rfl) (by first | exact hs.1 | exact hs.2.1 | exact hs.2.2.1 | exact hs.2.2.2.1 | exact hs.2.2.2.2.1 | exact hs.2.2.2.2.2.1 | exact hs.2.2.2.2.2.2.1 | exact hst.1 | exact hst.2.1) (hin) ?_
        refine V_iconst (v := 1) (sx_di dX7_passDay 35 rfl) (by decide) ?_
        refine V_iadd (sx_di dX7_passDay 36 rfl) ?_
        refine V_iast (sx_di dX7_passDay 37 rfl) (by first | exact hs.1 | exact hs.2.1 | exact hs.2.2.1 | exact hs.2.2.2.1 | exact hs.2.2.2.2.1 | exact hs.2.2.2.2.2.1 | exact hs.2.2.2.2.2.2.1 | exact hst.1 | exact hst.2.1) (hin) ?_
        refine V_goto (tgt := 85) (sx_di dX7_passDay 38 rfl) (by decide) ?_
        refine V_inc (c := 1) (sx_di dX7_passDay 53 rfl) (by decide) rfl (by decide) (by first | rfl | (rcases hrv with e | ⟨b, e⟩ <;> subst e <;> rfl)) ?_
        refine V_goto (tgt := 12) (sx_di dX7_passDay 54 rfl) (by decide) ?_
        exact V_eq rfl rfl rfl eh (V_subk q1 ⟨rfl, rfl, rfl, trivial⟩)
    refine V_iload_n (i := 2) (sx_di dX7_passDay 8 rfl) rfl rfl ?_
    refine V_aload_n (i := 0) (sx_di dX7_passDay 9 rfl) rfl rfl ?_
    refine V_getR (sx_di dX7_passDay 10 rfl) fX7_34 (fun _ => rfl) (by first | exact hs.1 | exact hs.2.1 | exact hs.2.2.1 | exact hs.2.2.2.1 | exact hs.2.2.2.2.1 | exact hs.2.2.2.2.2.1 | exact hs.2.2.2.2.2.2.1 | exact hst.1 | exact hst.2.1) (by first | exact hs.2.2.2.2.2.2.2.1 | exact hs.2.2.2.2.2.2.2.2.1 | exact hs.2.2.2.2.2.2.2.2.2.1 | exact hs.2.2.2.2.2.2.2.2.2.2.1 | exact hs.2.2.2.2.2.2.2.2.2.2.2.1 | exact hs.2.2.2.2.2.2.2.2.2.2.2.2 | exact ht | exact hst.2.2) ?_
    refine V_cV0 (mc' := 0) (ms' := 0) (M' := mX8_houseCount) 2 (sx_di dX7_passDay 11 rfl) lX7_100 vX8_houseCount (by first | exact hs.1 | exact hs.2.1 | exact hs.2.2.1 | exact hs.2.2.2.1 | exact hs.2.2.2.2.1 | exact hs.2.2.2.2.2.1 | exact hs.2.2.2.2.2.2.1 | exact hst.1 | exact hst.2.1) (by decide) rfl (Nat.le_of_ble_eq_true rfl) ⟨Nat.le_of_ble_eq_true rfl, Nat.le_of_ble_eq_true rfl⟩ ⟨Nat.le_refl _, Nat.le_refl _⟩ ?_
    refine c_X8_houseCount (by first | exact hs.1 | exact hs.2.1 | exact hs.2.2.1 | exact hs.2.2.2.1 | exact hs.2.2.2.2.1 | exact hs.2.2.2.2.2.1 | exact hs.2.2.2.2.2.2.1 | exact hst.1 | exact hst.2.1) (hc8 hn2 hn8) ?_
    refine V_icmp_ge (tgt := 91) (sx_di dX7_passDay 12 rfl) (by decide) (fun h20 => absurd h20 (fun z => absurd ((nI_leI (a := n) (b := k) (by omega) (by omega)).mp (by rw [← hn2]; exact z)) (by omega))) (fun _ => ?_)
    refine V_iload_n (i := 2) (sx_di dX7_passDay 13 rfl) rfl rfl ?_
    refine V_aload_n (i := 0) (sx_di dX7_passDay 14 rfl) rfl rfl ?_
    refine V_getI (sx_di dX7_passDay 15 rfl) fX7_30 (fun _ => rfl) (by first | exact hs.1 | exact hs.2.1 | exact hs.2.2.1 | exact hs.2.2.2.1 | exact hs.2.2.2.2.1 | exact hs.2.2.2.2.2.1 | exact hs.2.2.2.2.2.2.1 | exact hst.1 | exact hst.2.1) ?_
    refine V_icmp_ne (tgt := 35) (sx_di dX7_passDay 16 rfl) (by decide) (fun h28 => ?_) (fun h28 => ?_)
    · rw [r9] at h28
      refine V_aload_n (i := 0) (sx_di dX7_passDay 19 rfl) rfl rfl ?_
      refine V_getR (sx_di dX7_passDay 20 rfl) fX7_9 (fun _ => rfl) (by first | exact hs.1 | exact hs.2.1 | exact hs.2.2.1 | exact hs.2.2.2.1 | exact hs.2.2.2.2.1 | exact hs.2.2.2.2.2.1 | exact hs.2.2.2.2.2.2.1 | exact hst.1 | exact hst.2.1) (by first | exact hs.2.2.2.2.2.2.2.1 | exact hs.2.2.2.2.2.2.2.2.1 | exact hs.2.2.2.2.2.2.2.2.2.1 | exact hs.2.2.2.2.2.2.2.2.2.2.1 | exact hs.2.2.2.2.2.2.2.2.2.2.2.1 | exact hs.2.2.2.2.2.2.2.2.2.2.2.2 | exact ht | exact hst.2.2) ?_
      refine V_iload_n (i := 2) (sx_di dX7_passDay 21 rfl) rfl rfl ?_
      refine V_iald (sx_di dX7_passDay 22 rfl) (by first | exact hs.1 | exact hs.2.1 | exact hs.2.2.1 | exact hs.2.2.2.1 | exact hs.2.2.2.2.1 | exact hs.2.2.2.2.2.1 | exact hs.2.2.2.2.2.2.1 | exact hst.1 | exact hst.2.1) (hin) ?_
      refine V_istore_n (i := 3) (sx_di dX7_passDay 23 rfl) rfl (by decide) (by first | rfl | (rcases hrv with e | ⟨b, e⟩ <;> subst e <;> rfl)) ?_
      rw [r1]
      exact V_subk (key _ (if_neg h28).symm) ⟨rfl, rfl, rfl, rfl, trivial⟩
    · rw [r9] at h28
      refine V_iconst (v := 0) (sx_di dX7_passDay 17 rfl) (by decide) ?_
      refine V_goto (tgt := 41) (sx_di dX7_passDay 18 rfl) (by decide) ?_
      refine V_istore_n (i := 3) (sx_di dX7_passDay 23 rfl) rfl (by decide) (by first | rfl | (rcases hrv with e | ⟨b, e⟩ <;> subst e <;> rfl)) ?_
      exact V_subk (key _ (if_pos h28).symm) ⟨rfl, rfl, rfl, rfl, trivial⟩
set_option maxHeartbeats 2000000 in
set_option maxRecDepth 20000 in
theorem c_X7_passDay {E : sxE} {w : hpW} {Q : Option Value → hpW → Prop} {a t n : Nat} {lv : Value} {F : wF} (hs : is_Ss w a) (ht : hp_r w a 0 = some t) (hst : is_St w t) (hl : lw_ok w lv F) (ha : 57 ≤ a) (ht2 : 53 ≤ t ∧ t ≤ 55) (hn : hp_i w t 0 = nI n) (hn8 : n ≤ 8) (h0 : (sl_ (hp_i w) t 0 < 1 ∨ ¬ (hp_i w a 11 + 1) - (hp_i w a 11 + 1) / sl_ (hp_i w) t 0 * sl_ (hp_i w) t 0 = 0) → Q (some (.int 0)) (hp_wi w (pdk_ (hp_i w) a n))) (h1 : ¬ sl_ (hp_i w) t 0 < 1 → (hp_i w a 11 + 1) - (hp_i w a 11 + 1) / sl_ (hp_i w) t 0 * sl_ (hp_i w) t 0 = 0 → ∀ I, (∀ b, ¬ sc_ b → I b = pd2_ (pdk_ (hp_i w) a n) a t F n b) → Q (some (.int 1)) (hp_wi w I)) : sx_C E mX7_passDay 6 0 0 [.ref a, lv] w Q := by
  have hB9 : sl_ (hp_i (hp_wi w (pdk_ (hp_i w) a n))) t 0 = sl_ (hp_i w) t 0 := sl_cg (by funext j; exact pdk_r _ _ _ (by omega) (by omega)) 0
  have hl2 : lw_ok (hp_wi w (pdk_ (hp_i w) a n)) lv F := hl.mv (pdk_f w a n) (fun i j hi hj => by omega)
  have hn2 : hp_i (hp_wi w (pdk_ (hp_i w) a n)) t 0 = nI n := (pdk_r _ _ _ (by omega) (by omega)).trans hn
  have hd2 : hp_i (hp_wi w (pdk_ (hp_i w) a n)) a 11 = hp_i w a 11 + 1 := pdk_d _ _ _
  refine C_of (by decide +kernel) (by rcases hl.rv with e | ⟨b, e⟩ <;> subst e <;> exact Nat.le_of_ble_eq_true rfl) ?_
  refine V_aload_n (i := 0) (sx_di dX7_passDay 0 rfl) rfl rfl ?_
  refine V_dup (sx_di dX7_passDay 1 rfl) rfl ?_
  refine V_getI (sx_di dX7_passDay 2 rfl) fX7_63 (fun _ => rfl) (by first | exact hs.1 | exact hs.2.1 | exact hs.2.2.1 | exact hs.2.2.2.1 | exact hs.2.2.2.2.1 | exact hs.2.2.2.2.2.1 | exact hs.2.2.2.2.2.2.1 | exact hst.1 | exact hst.2.1) ?_
  refine V_iconst (v := 1) (sx_di dX7_passDay 3 rfl) (by decide) ?_
  refine V_iadd (sx_di dX7_passDay 4 rfl) ?_
  refine V_putI (sx_di dX7_passDay 5 rfl) fX7_63 (fun _ => rfl) rfl (by first | exact hs.1 | exact hs.2.1 | exact hs.2.2.1 | exact hs.2.2.2.1 | exact hs.2.2.2.2.1 | exact hs.2.2.2.2.2.1 | exact hs.2.2.2.2.2.2.1 | exact hst.1 | exact hst.2.1) (rfl) (rfl) ?_
  refine V_iconst (v := 0) (sx_di dX7_passDay 6 rfl) (by decide) ?_
  refine V_istore_n (i := 2) (sx_di dX7_passDay 7 rfl) rfl (by decide) (by first | rfl | (rcases hl.rv with e | ⟨b, e⟩ <;> subst e <;> rfl)) ?_
  refine V_eq rfl rfl rfl (pdk_0 w a) ?_
  refine V_sub (ls' := [(2, .int (nI 0)), (1, lv), (0, .ref a)]) ⟨rfl, rfl, rfl, trivial⟩ ?_
  refine pd_lp hs ht hst hl.rv ha ht2 hn hn8 ?_ n 0 (by omega)
  refine V_aload_n (i := 0) (sx_di dX7_passDay 55 rfl) rfl rfl ?_
  refine V_getR (sx_di dX7_passDay 56 rfl) fX7_34 (fun _ => rfl) (by first | exact hs.1 | exact hs.2.1 | exact hs.2.2.1 | exact hs.2.2.2.1 | exact hs.2.2.2.2.1 | exact hs.2.2.2.2.2.1 | exact hs.2.2.2.2.2.2.1 | exact hst.1 | exact hst.2.1) (by first | exact hs.2.2.2.2.2.2.2.1 | exact hs.2.2.2.2.2.2.2.2.1 | exact hs.2.2.2.2.2.2.2.2.2.1 | exact hs.2.2.2.2.2.2.2.2.2.2.1 | exact hs.2.2.2.2.2.2.2.2.2.2.2.1 | exact hs.2.2.2.2.2.2.2.2.2.2.2.2 | exact ht | exact hst.2.2) ?_
  refine V_cV0 (mc' := 0) (ms' := 0) (M' := mX8_daysBetween) 2 (sx_di dX7_passDay 57 rfl) lX7_107 vX8_daysBetween (by first | exact hs.1 | exact hs.2.1 | exact hs.2.2.1 | exact hs.2.2.2.1 | exact hs.2.2.2.2.1 | exact hs.2.2.2.2.2.1 | exact hs.2.2.2.2.2.2.1 | exact hst.1 | exact hst.2.1) (by decide) rfl (Nat.le_of_ble_eq_true rfl) ⟨Nat.le_of_ble_eq_true rfl, Nat.le_of_ble_eq_true rfl⟩ ⟨Nat.le_refl _, Nat.le_refl _⟩ ?_
  refine c_X8_daysBetween (w := hp_wi w (pdk_ (hp_i w) a n)) hst ?_
  refine V_istore_n (i := 2) (sx_di dX7_passDay 58 rfl) rfl (by decide) (by first | rfl | (rcases hl.rv with e | ⟨b, e⟩ <;> subst e <;> rfl)) ?_
  refine V_iload_n (i := 2) (sx_di dX7_passDay 59 rfl) rfl rfl ?_
  refine V_iconst (v := 1) (sx_di dX7_passDay 60 rfl) (by decide) ?_
  refine V_icmp_lt (tgt := 113) (sx_di dX7_passDay 61 rfl) (by decide) (fun h101 => ?_) (fun h101 => ?_)
  · rw [hB9] at h101
    refine V_iconst (v := 0) (sx_di dX7_passDay 67 rfl) (by decide) ?_
    refine V_zret (sx_di dX7_passDay 68 rfl) rfl (by first | rfl | decide) (Nat.le_refl _) (Nat.le_refl _) ?_
    exact h0 (Or.inl h101)
  · rw [hB9] at h101
    refine V_aload_n (i := 0) (sx_di dX7_passDay 62 rfl) rfl rfl ?_
    refine V_getI (sx_di dX7_passDay 63 rfl) fX7_63 (fun _ => rfl) (by first | exact hs.1 | exact hs.2.1 | exact hs.2.2.1 | exact hs.2.2.2.1 | exact hs.2.2.2.2.1 | exact hs.2.2.2.2.2.1 | exact hs.2.2.2.2.2.2.1 | exact hst.1 | exact hst.2.1) ?_
    refine V_iload_n (i := 2) (sx_di dX7_passDay 64 rfl) rfl rfl ?_
    refine V_irem (sx_di dX7_passDay 65 rfl) (fun z => h101 (by rw [← hB9, z]; decide)) ?_
    refine V_if_eq (tgt := 115) (sx_di dX7_passDay 66 rfl) (by decide) (fun h110 => ?_) (fun h110 => ?_)
    · rw [hd2, hB9] at h110
      refine V_aload_n (i := 0) (sx_di dX7_passDay 69 rfl) rfl rfl ?_
      refine V_aloadv_n (i := 1) (sx_di dX7_passDay 70 rfl) rfl rfl (hl.rv) ?_
      refine V_cV1 (mc' := 0) (ms' := 0) (M' := mX7_goal) 5 (sx_di dX7_passDay 71 rfl) lX7_110 vX7_goal (by first | exact hs.1 | exact hs.2.1 | exact hs.2.2.1 | exact hs.2.2.2.1 | exact hs.2.2.2.2.1 | exact hs.2.2.2.2.2.1 | exact hs.2.2.2.2.2.2.1 | exact hst.1 | exact hst.2.1) (by decide) rfl (Nat.le_of_ble_eq_true rfl) ⟨Nat.le_of_ble_eq_true rfl, Nat.le_of_ble_eq_true rfl⟩ ⟨Nat.le_refl _, Nat.le_refl _⟩ ?_
      refine c_X7_goal (w := hp_wi w (pdk_ (hp_i w) a n)) hs ht hst hl2 (by omega) (by omega) hn2 hn8 (fun I2 f2 => ?_)
      have f9 : ∀ b, ¬ sc_ b → I2 b = (pdk_ (hp_i w) a n) b := f2
      have g0 : ∀ j, I2 a j = (pdk_ (hp_i w) a n) a j := fun j => congrFun (f9 a (sc_no (Or.inr (by omega)))) j
      have gt : I2 (t + 1) = (pdk_ (hp_i w) a n) (t + 1) := f9 _ (sc_no (Or.inr (by omega)))
      generalize hto : gl_ (mC_ (hp_i (hp_wi w (pdk_ (hp_i w) a n))) a t F) n = to
      have hto : gl_ (mC_ (pdk_ (hp_i w) a n) a t F) n = to := hto
      refine V_istore_n (i := 3) (sx_di dX7_passDay 72 rfl) rfl (by decide) (by first | rfl | (rcases hl.rv with e | ⟨b, e⟩ <;> subst e <;> rfl)) ?_
      refine V_iload_n (i := 3) (sx_di dX7_passDay 73 rfl) rfl rfl ?_
      refine V_aload_n (i := 0) (sx_di dX7_passDay 74 rfl) rfl rfl ?_
      refine V_getI (sx_di dX7_passDay 75 rfl) fX7_30 (fun _ => rfl) (by first | exact hs.1 | exact hs.2.1 | exact hs.2.2.1 | exact hs.2.2.2.1 | exact hs.2.2.2.2.1 | exact hs.2.2.2.2.2.1 | exact hs.2.2.2.2.2.2.1 | exact hst.1 | exact hst.2.1) ?_
      refine V_icmp_eq (tgt := 144) (sx_di dX7_passDay 76 rfl) (by decide) (fun h126 => ?_) (fun h126 => ?_)
      · refine V_aload_n (i := 0) (sx_di dX7_passDay 84 rfl) rfl rfl ?_
        refine V_iload_n (i := 3) (sx_di dX7_passDay 85 rfl) rfl rfl ?_
        refine V_putI (sx_di dX7_passDay 86 rfl) fX7_30 (fun _ => rfl) rfl (by first | exact hs.1 | exact hs.2.1 | exact hs.2.2.1 | exact hs.2.2.2.1 | exact hs.2.2.2.2.1 | exact hs.2.2.2.2.2.1 | exact hs.2.2.2.2.2.2.1 | exact hst.1 | exact hst.2.1) (rfl) (rfl) ?_
        refine V_aload_n (i := 0) (sx_di dX7_passDay 87 rfl) rfl rfl ?_
        refine V_iconst (v := 0) (sx_di dX7_passDay 88 rfl) (by decide) ?_
        refine V_putI (sx_di dX7_passDay 89 rfl) fX7_44 (fun _ => rfl) rfl (by first | exact hs.1 | exact hs.2.1 | exact hs.2.2.1 | exact hs.2.2.2.1 | exact hs.2.2.2.2.1 | exact hs.2.2.2.2.2.1 | exact hs.2.2.2.2.2.2.1 | exact hst.1 | exact hst.2.1) (rfl) (rfl) ?_
        refine V_iconst (v := 1) (sx_di dX7_passDay 90 rfl) (by decide) ?_
        refine V_zret (sx_di dX7_passDay 91 rfl) rfl (by first | rfl | decide) (Nat.le_refl _) (Nat.le_refl _) ?_
        exact h1 h101 h110 _ (pd2_stay f9 (sc_no (Or.inr (by omega))) hto h126)
      · refine V_aload_n (i := 0) (sx_di dX7_passDay 77 rfl) rfl rfl ?_
        refine V_aload_n (i := 0) (sx_di dX7_passDay 78 rfl) rfl rfl ?_
        refine V_getR (sx_di dX7_passDay 79 rfl) fX7_34 (fun _ => rfl) (by first | exact hs.1 | exact hs.2.1 | exact hs.2.2.1 | exact hs.2.2.2.1 | exact hs.2.2.2.2.1 | exact hs.2.2.2.2.2.1 | exact hs.2.2.2.2.2.2.1 | exact hst.1 | exact hst.2.1) (by first | exact hs.2.2.2.2.2.2.2.1 | exact hs.2.2.2.2.2.2.2.2.1 | exact hs.2.2.2.2.2.2.2.2.2.1 | exact hs.2.2.2.2.2.2.2.2.2.2.1 | exact hs.2.2.2.2.2.2.2.2.2.2.2.1 | exact hs.2.2.2.2.2.2.2.2.2.2.2.2 | exact ht | exact hst.2.2) ?_
        refine V_aload_n (i := 0) (sx_di dX7_passDay 80 rfl) rfl rfl ?_
        refine V_getI (sx_di dX7_passDay 81 rfl) fX7_60 (fun _ => rfl) (by first | exact hs.1 | exact hs.2.1 | exact hs.2.2.1 | exact hs.2.2.2.1 | exact hs.2.2.2.2.1 | exact hs.2.2.2.2.2.1 | exact hs.2.2.2.2.2.2.1 | exact hst.1 | exact hst.2.1) ?_
        refine V_cV1 (mc' := 0) (ms' := 0) (M' := mX8_following) 2 (sx_di dX7_passDay 82 rfl) lX7_114 vX8_following (by first | exact hs.1 | exact hs.2.1 | exact hs.2.2.1 | exact hs.2.2.2.1 | exact hs.2.2.2.2.1 | exact hs.2.2.2.2.2.1 | exact hs.2.2.2.2.2.2.1 | exact hst.1 | exact hst.2.1) (by decide) rfl (Nat.le_of_ble_eq_true rfl) ⟨Nat.le_of_ble_eq_true rfl, Nat.le_of_ble_eq_true rfl⟩ ⟨Nat.le_refl _, Nat.le_refl _⟩ ?_
        refine c_X8_following (w := hp_wi w I2) hst ?_
        refine V_putI (sx_di dX7_passDay 83 rfl) fX7_60 (fun _ => rfl) rfl (by first | exact hs.1 | exact hs.2.1 | exact hs.2.2.1 | exact hs.2.2.2.1 | exact hs.2.2.2.2.1 | exact hs.2.2.2.2.2.1 | exact hs.2.2.2.2.2.2.1 | exact hst.1 | exact hst.2.1) (rfl) (rfl) ?_
        refine V_aload_n (i := 0) (sx_di dX7_passDay 84 rfl) rfl rfl ?_
        refine V_iload_n (i := 3) (sx_di dX7_passDay 85 rfl) rfl rfl ?_
        refine V_putI (sx_di dX7_passDay 86 rfl) fX7_30 (fun _ => rfl) rfl (by first | exact hs.1 | exact hs.2.1 | exact hs.2.2.1 | exact hs.2.2.2.1 | exact hs.2.2.2.2.1 | exact hs.2.2.2.2.2.1 | exact hs.2.2.2.2.2.2.1 | exact hst.1 | exact hst.2.1) (rfl) (rfl) ?_
        refine V_aload_n (i := 0) (sx_di dX7_passDay 87 rfl) rfl rfl ?_
        refine V_iconst (v := 0) (sx_di dX7_passDay 88 rfl) (by decide) ?_
        refine V_putI (sx_di dX7_passDay 89 rfl) fX7_44 (fun _ => rfl) rfl (by first | exact hs.1 | exact hs.2.1 | exact hs.2.2.1 | exact hs.2.2.2.1 | exact hs.2.2.2.2.1 | exact hs.2.2.2.2.2.1 | exact hs.2.2.2.2.2.2.1 | exact hst.1 | exact hst.2.1) (rfl) (rfl) ?_
        refine V_iconst (v := 1) (sx_di dX7_passDay 90 rfl) (by decide) ?_
        refine V_zret (sx_di dX7_passDay 91 rfl) rfl (by first | rfl | decide) (Nat.le_refl _) (Nat.le_refl _) ?_
        exact h1 h101 h110 _ (pd2_go f9 (sc_no (Or.inr (by omega))) gt hto h126)
    · rw [hd2, hB9] at h110
      refine V_iconst (v := 0) (sx_di dX7_passDay 67 rfl) (by decide) ?_
      refine V_zret (sx_di dX7_passDay 68 rfl) rfl (by first | rfl | decide) (Nat.le_refl _) (Nat.le_refl _) ?_
      exact h0 (Or.inr h110)

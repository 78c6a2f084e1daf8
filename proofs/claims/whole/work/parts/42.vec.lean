/-! the mathematical state: a row s of numbers, laid as the reference lays it (MIND 0, SHAM 8, white 16, hangings 24, people 32, pianos 40, coins 41, place 42, form 43, day 44) -/
/-- the State at a holds s, of n houses -/
def vw_ (n : Nat) (I : Nat → Nat → Int32) (a : Nat) (s : Nat → Int32) : Prop := (∀ h, h < n → I (a + 2) h = s h ∧ I (a + 3) h = s (8 + h) ∧ I (a + 4) h = s (16 + h) ∧ I (a + 5) h = s (24 + h) ∧ I (a + 6) h = s (32 + h)) ∧ I a 7 = s 40 ∧ I a 8 = s 41 ∧ I a 9 = s 42 ∧ I a 10 = s 43 ∧ I a 11 = s 44
/-- the MINDS as told -/
def tm_ (n : Nat) (I : Nat → Nat → Int32) (a : Nat) (m0 : Nat → Int32) : Prop := ∀ h, h < n → I (a + 1) h = m0 h
noncomputable def mv_ (F : wF) (sz : Int32 → Int32) (s : Nat → Int32) (h : Nat) : Int32 := md_ F (s h) (s (8 + h)) (s (16 + h)) (s (24 + h)) (s (32 + h)) (s 40) (sz (s 43)) (s 42) (nI h)
noncomputable def go_ (F : wF) (sz : Int32 → Int32) (n : Nat) (s : Nat → Int32) : Int32 := gl_ (mv_ F sz s) n
def d1_ (n : Nat) (m0 s : Nat → Int32) : Nat → Int32 := fun k => if k = 44 then s 44 + 1 else if k < n then us_ (s k) (m0 k) (s 42) (nI k) else s k
noncomputable def d2_ (F : wF) (sz fo : Int32 → Int32) (n : Nat) (s : Nat → Int32) : Nat → Int32 := fun k => if k = 40 then 0 else if k = 42 then go_ F sz n s else if k = 43 then (if go_ F sz n s = s 42 then s 43 else fo (s 43)) else s k
/-- it is a moving day -/
def im_day (bt : Int32) (s : Nat → Int32) : Prop := ¬ bt < 1 ∧ (s 44 + 1) - (s 44 + 1) / bt * bt = 0
noncomputable def dv_ (F : wF) (sz fo : Int32 → Int32) (bt : Int32) (n : Nat) (m0 s : Nat → Int32) : Nat → Int32 := if ¬ bt < 1 ∧ (s 44 + 1) - (s 44 + 1) / bt * bt = 0 then d2_ F sz fo n (d1_ n m0 s) else d1_ n m0 s
/-- size and follower of a form, days between, by the street at t -/
def fs_ (I : Nat → Nat → Int32) (t : Nat) : Int32 → Int32 := fun x => sl_ I t (36 + 2 * x)
def fo_ (I : Nat → Nat → Int32) (t : Nat) : Int32 → Int32 := fun x => sl_ I t (36 + 2 * x + 1)
theorem mC_v {n t a : Nat} {I : Nat → Nat → Int32} {s : Nat → Int32} (h : vw_ n I a s) (F : wF) {k : Nat} (hk : k < n) : mC_ I a t F k = mv_ F (fs_ I t) s k := by
  obtain ⟨h0, h7, h8, h9, h10, h11⟩ := h
  obtain ⟨e2, e3, e4, e5, e6⟩ := h0 k hk
  unfold mC_ mv_ fs_
  rw [e2, e3, e4, e5, e6, h7, h9, h10]
theorem gl_v {n t a : Nat} {I : Nat → Nat → Int32} {s : Nat → Int32} (h : vw_ n I a s) (F : wF) : gl_ (mC_ I a t F) n = go_ F (fs_ I t) n s := by
  unfold go_ gl_
  rw [gs_cg n (fun k hk => mC_v h F hk)]
theorem vw_d1 {n a : Nat} {I : Nat → Nat → Int32} {m0 s : Nat → Int32} (hn : n ≤ 8) (h : vw_ n I a s) (hm : tm_ n I a m0) : vw_ n (pdk_ I a n) a (d1_ n m0 s) := by
  obtain ⟨h0, h7, h8, h9, h10, h11⟩ := h
  refine ⟨fun k hk => ?_, ?_, ?_, ?_, ?_, ?_⟩
  · obtain ⟨e2, e3, e4, e5, e6⟩ := h0 k hk
    refine ⟨?_, ?_, ?_, ?_, ?_⟩
    · unfold pdk_ d1_
      rw [if_neg (by omega), if_pos ⟨rfl, hk⟩, if_neg (by omega), if_pos hk, e2, hm k hk, h9]
    · rw [pdk_r _ _ _ (by omega) (by omega), e3, d1_, if_neg (by omega), if_neg (by omega)]
    · rw [pdk_r _ _ _ (by omega) (by omega), e4, d1_, if_neg (by omega), if_neg (by omega)]
    · rw [pdk_r _ _ _ (by omega) (by omega), e5, d1_, if_neg (by omega), if_neg (by omega)]
    · rw [pdk_r _ _ _ (by omega) (by omega), e6, d1_, if_neg (by omega), if_neg (by omega)]
  · rw [pdk_r _ _ _ (by omega) (by omega), h7, d1_, if_neg (by omega), if_neg (by omega)]
  · rw [pdk_r _ _ _ (by omega) (by omega), h8, d1_, if_neg (by omega), if_neg (by omega)]
  · rw [pdk_r _ _ _ (by omega) (by omega), h9, d1_, if_neg (by omega), if_neg (by omega)]
  · rw [pdk_r _ _ _ (by omega) (by omega), h10, d1_, if_neg (by omega), if_neg (by omega)]
  · rw [pdk_d, h11, d1_, if_pos rfl]
theorem vw_d2 {n a t : Nat} {I : Nat → Nat → Int32} {s : Nat → Int32} {F : wF} (hn : n ≤ 8) (h : vw_ n I a s) : vw_ n (pd2_ I a t F n) a (d2_ F (fs_ I t) (fo_ I t) n s) := by
  have hg := gl_v (t := t) h F
  obtain ⟨h0, h7, h8, h9, h10, h11⟩ := h
  refine ⟨fun k hk => ?_, ?_, ?_, ?_, ?_, ?_⟩
  · obtain ⟨e2, e3, e4, e5, e6⟩ := h0 k hk
    refine ⟨?_, ?_, ?_, ?_, ?_⟩
    · unfold pd2_ d2_
      rw [if_neg (by omega), if_neg (by omega), if_neg (by omega), if_neg (by omega), if_neg (by omega), if_neg (by omega), e2]
    · unfold pd2_ d2_
      rw [if_neg (by omega), if_neg (by omega), if_neg (by omega), if_neg (by omega), if_neg (by omega), if_neg (by omega), e3]
    · unfold pd2_ d2_
      rw [if_neg (by omega), if_neg (by omega), if_neg (by omega), if_neg (by omega), if_neg (by omega), if_neg (by omega), e4]
    · unfold pd2_ d2_
      rw [if_neg (by omega), if_neg (by omega), if_neg (by omega), if_neg (by omega), if_neg (by omega), if_neg (by omega), e5]
    · unfold pd2_ d2_
      rw [if_neg (by omega), if_neg (by omega), if_neg (by omega), if_neg (by omega), if_neg (by omega), if_neg (by omega), e6]
  · simp [pd2_, d2_]
  · simp [pd2_, d2_, h8]
  · simp [pd2_, d2_, hg]
  · simp [pd2_, d2_, hg, h9, h10, fo_]
  · simp [pd2_, d2_, h11]
/-- what is outside the State at a stays through its day -/
def day_S (a : Nat) : Nat → Prop := fun b => b = a ∨ b = a + 2 ∨ sc_ b
theorem vw_mv {n a : Nat} {I J : Nat → Nat → Int32} {s : Nat → Int32} (h : vw_ n I a s) (e : ∀ b, a ≤ b → b ≤ a + 6 → J b = I b) : vw_ n J a s := by
  unfold vw_
  rw [e a (by omega) (by omega), e (a + 2) (by omega) (by omega), e (a + 3) (by omega) (by omega), e (a + 4) (by omega) (by omega), e (a + 5) (by omega) (by omega), e (a + 6) (by omega) (by omega)]
  exact h
theorem pd2_r (I : Nat → Nat → Int32) (a t : Nat) (F : wF) (n : Nat) {b j : Nat} (h : b = a → ¬ j = 7 ∧ ¬ j = 9 ∧ ¬ j = 10) : pd2_ I a t F n b j = I b j := by
  unfold pd2_
  rw [if_neg (fun z => (h z.1).1 z.2), if_neg (fun z => (h z.1).2.1 z.2), if_neg (fun z => (h z.1).2.2 z.2)]
theorem fs_cg {I J : Nat → Nat → Int32} {t : Nat} (h : I (t + 1) = J (t + 1)) : fs_ I t = fs_ J t := by funext x; exact sl_cg h _
theorem fo_cg {I J : Nat → Nat → Int32} {t : Nat} (h : I (t + 1) = J (t + 1)) : fo_ I t = fo_ J t := by funext x; exact sl_cg h _
set_option maxHeartbeats 2000000 in
set_option maxRecDepth 20000 in
/-- a day, by the mathematical state -/
theorem e_passDay {E : sxE} {w : hpW} {Q : Option Value → hpW → Prop} {a t n : Nat} {lv : Value} {F : wF} {m0 s : Nat → Int32} (hs : is_Ss w a) (ht : hp_r w a 0 = some t) (hst : is_St w t) (hl : lw_ok w lv F) (ha : 57 ≤ a) (ht2 : 53 ≤ t ∧ t ≤ 55) (hn : hp_i w t 0 = nI n) (hn8 : n ≤ 8) (hv : vw_ n (hp_i w) a s) (hm : tm_ n (hp_i w) a m0) (h : ∀ I r, fr_ w I (day_S a) → vw_ n I a (dv_ F (fs_ (hp_i w) t) (fo_ (hp_i w) t) (sl_ (hp_i w) t 0) n m0 s) → tm_ n I a m0 → I a 12 = hp_i w a 12 → r = (if ¬ sl_ (hp_i w) t 0 < 1 ∧ (s 44 + 1) - (s 44 + 1) / sl_ (hp_i w) t 0 * sl_ (hp_i w) t 0 = 0 then 1 else 0) → Q (some (.int r)) (hp_wi w I)) : sx_C E mX7_passDay 6 0 0 [.ref a, lv] w Q := by
  have e11 : hp_i w a 11 = s 44 := hv.2.2.2.2.2
  have hv1 := vw_d1 hn8 hv hm
  have et : (pdk_ (hp_i w) a n) (t + 1) = hp_i w (t + 1) := pdk_f w a n (t + 1) (by omega)
  refine c_X7_passDay hs ht hst hl ha ht2 hn hn8 (fun hc => ?_) (fun c1 c2 I hI => ?_)
  · rw [e11] at hc
    have hc2 : ¬ (¬ sl_ (hp_i w) t 0 < 1 ∧ (s 44 + 1) - (s 44 + 1) / sl_ (hp_i w) t 0 * sl_ (hp_i w) t 0 = 0) := fun q => hc.elim q.1 (fun z => z q.2)
    refine h _ _ (fun b hb => ?_) ?_ (fun k hk => ?_) ?_ (if_neg hc2).symm
    · exact pdk_f w a n b (fun z => hb (z.elim Or.inl (fun z => Or.inr (Or.inl z))))
    · unfold dv_
      rw [if_neg hc2]
      exact hv1
    · rw [pdk_r _ _ _ (by omega) (by omega)]
      exact hm k hk
    · exact pdk_r _ _ _ (by omega) (by omega)
  · rw [e11] at c2
    have hv2 : vw_ n (pd2_ (pdk_ (hp_i w) a n) a t F n) a (d2_ F (fs_ (pdk_ (hp_i w) a n) t) (fo_ (pdk_ (hp_i w) a n) t) n (d1_ n m0 s)) := vw_d2 hn8 hv1
    rw [fs_cg et, fo_cg et] at hv2
    have hns : ∀ b, 52 ≤ b → ¬ sc_ b := fun b hb => sc_no (Or.inr hb)
    refine h I _ (fun b hb => ?_) ?_ (fun k hk => ?_) ?_ (if_pos ⟨c1, c2⟩).symm
    · rw [hI b (fun z => hb (Or.inr (Or.inr z)))]
      funext j
      rw [pd2_r _ _ _ _ _ (fun z => absurd (Or.inl z) hb)]
      exact congrFun (pdk_f w a n b (fun z => hb (z.elim Or.inl (fun z => Or.inr (Or.inl z))))) j
    · unfold dv_
      rw [if_pos ⟨c1, c2⟩]
      exact vw_mv hv2 (fun b h1 h2 => hI b (hns b (by omega)))
    · rw [hI _ (hns _ (by omega)), pd2_r _ _ _ _ _ (by omega), pdk_r _ _ _ (by omega) (by omega)]
      exact hm k hk
    · rw [hI _ (hns _ (by omega)), pd2_r _ _ _ _ _ (by omega), pdk_r _ _ _ (by omega) (by omega)]
theorem vw_cp {n a b : Nat} {I : Nat → Nat → Int32} {s : Nat → Int32} (hn : n ≤ 8) (h : vw_ n I b s) : vw_ n (cp_ I a b 6 13) a s := by
  obtain ⟨h0, h7, h8, h9, h10, h11⟩ := h
  refine ⟨fun k hk => ?_, ?_, ?_, ?_, ?_, ?_⟩
  · obtain ⟨e2, e3, e4, e5, e6⟩ := h0 k hk
    refine ⟨?_, ?_, ?_, ?_, ?_⟩ <;> (unfold cp_; rw [if_neg (by omega), if_pos ⟨by omega, by omega, by omega⟩])
    · rw [show b + (a + 2 - a) = b + 2 by omega]; exact e2
    · rw [show b + (a + 3 - a) = b + 3 by omega]; exact e3
    · rw [show b + (a + 4 - a) = b + 4 by omega]; exact e4
    · rw [show b + (a + 5 - a) = b + 5 by omega]; exact e5
    · rw [show b + (a + 6 - a) = b + 6 by omega]; exact e6
  all_goals (unfold cp_; rw [if_pos ⟨rfl, by omega, by omega⟩]; assumption)
theorem tm_cp {n a b : Nat} {I : Nat → Nat → Int32} {m0 : Nat → Int32} (hn : n ≤ 8) (h : tm_ n I b m0) : tm_ n (cp_ I a b 6 13) a m0 := fun k hk => by
  unfold cp_
  rw [if_neg (by omega), if_pos ⟨by omega, by omega, by omega⟩, show b + (a + 1 - a) = b + 1 by omega]
  exact h k hk
theorem cp_o {a b : Nat} {I : Nat → Nat → Int32} {q : Nat} (h : q < a ∨ a + 6 < q) : cp_ I a b 6 13 q = I q := by
  funext j
  unfold cp_
  rw [if_neg (by omega), if_neg (by omega)]

/-! a street as told: what both readers make of the tape -/
theorem bx_1 : ∀ i, i < 32 → bt 1 i = decide (i = 0) := by decide +kernel
theorem bit_v {x : Int32} {k : Nat} (hk : k < 31) : (x >>> (nI k &&& 31)) &&& 1 = if bt x k = true then 1 else 0 := by
  apply b_ext
  intro i hi
  rw [b_and, b_sshr k (by omega) x hi, bx_1 i hi]
  by_cases e : i = 0
  · subst e
    rw [if_pos (by omega), Nat.add_zero]
    cases h : bt x k
    · rw [if_neg Bool.false_ne_true, b_0]; rfl
    · rw [if_pos rfl, bx_1 0 (by decide)]; rfl
  · rw [decide_eq_false e, Bool.and_false]
    split
    · rw [bx_1 i hi, decide_eq_false e]
    · rw [b_0]
theorem bit_or {x : Int32} {k j : Nat} (hk : k < 31) (hj : j < 31) : bt (x ||| (1 <<< (nI k &&& 31))) j = (bt x j || decide (j = k)) := by
  rw [b_or, b_shl k (by omega) 1 (by omega), bx_1 (j - k) (by omega)]
  by_cases e : j = k
  · rw [decide_eq_true e, decide_eq_true (show k ≤ j by omega), decide_eq_true (show j - k = 0 by omega)]
    rfl
  · rw [decide_eq_false e]
    by_cases e2 : k ≤ j
    · rw [decide_eq_false (show ¬ j - k = 0 by omega), Bool.and_false]
    · rw [decide_eq_false e2, Bool.false_and]
/-- which item of the m from b on a sign is; m: none -/
def ixF (c : Int32) (b : Nat) : Nat → Nat → Nat
  | 0, j => j
  | d + 1, j => if ltrs2.getD (b + j) 0 = c then j else ixF c b d (j + 1)
def ix_ (b m : Nat) (c : Int32) : Nat := ixF c b m 0
theorem ixF_le (c : Int32) (b : Nat) : ∀ d j, ixF c b d j ≤ j + d
  | 0, j => Nat.le_refl _
  | d + 1, j => by
    unfold ixF
    split
    · omega
    · have := ixF_le c b d (j + 1)
      omega
theorem ix_le (b m : Nat) (c : Int32) : ix_ b m c ≤ m := by
  have := ixF_le c b m 0
  unfold ix_
  omega
theorem ltr2_n1 : ∀ j, j < 10 → ¬ ltrs2.getD j 0 = -1 ∧ ¬ ltrs2.getD j 0 = 59 := by decide
theorem ixF_no {c : Int32} {b : Nat} : ∀ d j, (∀ i, i < d → ¬ ltrs2.getD (b + (j + i)) 0 = c) → ixF c b d j = j + d
  | 0, j, _ => rfl
  | d + 1, j, h => by
    unfold ixF
    rw [if_neg (show ¬ ltrs2.getD (b + j) 0 = c from h 0 (by omega)), ixF_no d (j + 1) (fun i hi => by have := h (i + 1) (by omega); rw [show j + 1 + i = j + (i + 1) by omega]; exact this)]
    omega
theorem ix_end {b m : Nat} {c : Int32} (hb : b + m ≤ 10) (h : c = -1 ∨ c = 59) : ix_ b m c = m := by
  unfold ix_
  rw [ixF_no m 0 (fun i hi z => ?_), Nat.zero_add]
  have := ltr2_n1 (b + (0 + i)) (by omega)
  rcases h with h | h
  · exact this.1 (z.trans h)
  · exact this.2 (z.trans h)
/-- a number for item j: well, its worth, where it goes on -/
abbrev nbT : Type := Bool × Int32 × Nat
def nb9_ (T : List Int32) (j p : Nat) : nbT := if (rn_ T 2 (skp_ T p)).1 = true then (if (rn_ T 2 (skp_ T p)).2.2 < it_lo j ∨ it_hi j < (rn_ T 2 (skp_ T p)).2.2 then (false, 0, (rn_ T 2 (skp_ T p)).2.1 - 1) else (true, (rn_ T 2 (skp_ T p)).2.2, (rn_ T 2 (skp_ T p)).2.1)) else (false, 0, (rn_ T 2 (skp_ T p)).2.1)
theorem nb9_go {T : List Int32} {j p : Nat} (hp : p ≤ T.length) : p ≤ (nb9_ T j p).2.2 ∧ (nb9_ T j p).2.2 ≤ T.length := by
  have g := skp_ge T p
  have g2 := skq_le (T := T) hp
  obtain ⟨a1, a2, a3⟩ := rn_go (mx := 2) g2
  unfold nb9_
  by_cases c1 : (rn_ T 2 (skp_ T p)).1 = true
  · rw [if_pos c1]
    have a4 := a3 c1
    split
    · exact ⟨by show p ≤ (rn_ T 2 (skp_ T p)).2.1 - 1; omega, by show (rn_ T 2 (skp_ T p)).2.1 - 1 ≤ _; omega⟩
    · exact ⟨by show p ≤ (rn_ T 2 (skp_ T p)).2.1; omega, a2⟩
  · rw [if_neg c1]
    exact ⟨by show p ≤ (rn_ T 2 (skp_ T p)).2.1; omega, a2⟩
/-- in the bounds of item j -/
def rg9 (j : Nat) (v : Int32) : Prop := ¬ v < it_lo j ∧ ¬ it_hi j < v
theorem nb9_rg {T : List Int32} {j p : Nat} (h : (nb9_ T j p).1 = true) : rg9 j (nb9_ T j p).2.1 := by
  unfold nb9_ at h ⊢
  by_cases c1 : (rn_ T 2 (skp_ T p)).1 = true
  · rw [if_pos c1] at h ⊢
    by_cases c2 : (rn_ T 2 (skp_ T p)).2.2 < it_lo j ∨ it_hi j < (rn_ T 2 (skp_ T p)).2.2
    · rw [if_pos c2] at h
      exact absurd h Bool.false_ne_true
    · rw [if_neg c2]
      exact ⟨fun z => c2 (Or.inl z), fun z => c2 (Or.inr z)⟩
  · rw [if_neg c1] at h
    exact absurd h Bool.false_ne_true
/-- items: b the first, m how many, o the first slot; g what was given, s the slots -/
abbrev itT : Type := Bool × (Nat → Int32) × Nat
def ug_ (g : Nat → Bool) (k : Nat) : Nat → Bool := fun j => g j || decide (j = k)
def itF (T : List Int32) (b m o : Nat) : Nat → (Nat → Bool) → (Nat → Int32) → Nat → itT
  | 0, _, s, p => (true, s, skp_ T p)
  | f + 1, g, s, p => if ix_ b m (cz_ T p) < m ∧ g (ix_ b m (cz_ T p)) = false then (if (nb9_ T (b + ix_ b m (cz_ T p)) (skp_ T p + 1)).1 = true then itF T b m o f (ug_ g (ix_ b m (cz_ T p))) (up_ s (o + ix_ b m (cz_ T p)) (nb9_ T (b + ix_ b m (cz_ T p)) (skp_ T p + 1)).2.1) (nb9_ T (b + ix_ b m (cz_ T p)) (skp_ T p + 1)).2.2 else (false, s, (nb9_ T (b + ix_ b m (cz_ T p)) (skp_ T p + 1)).2.2)) else (true, s, skp_ T p)
/-- how many were given -/
def cn_ (g : Nat → Bool) : Nat → Nat
  | 0 => 0
  | m + 1 => cn_ g m + (if g m = true then 1 else 0)
theorem cn_le (g : Nat → Bool) : ∀ m, cn_ g m ≤ m
  | 0 => Nat.le_refl _
  | m + 1 => by
    have := cn_le g m
    unfold cn_
    split <;> omega
theorem cn_all {g : Nat → Bool} : ∀ m, cn_ g m = m → ∀ k, k < m → g k = true
  | 0, _, k, hk => absurd hk (Nat.not_lt_zero k)
  | m + 1, h, k, hk => by
    have l := cn_le g m
    unfold cn_ at h
    by_cases c : g m = true
    · rw [if_pos c] at h
      rcases Nat.lt_or_ge k m with z | z
      · exact cn_all m (by omega) k z
      · have e : k = m := by omega
        rw [e]; exact c
    · rw [if_neg c] at h
      omega
theorem cn_same {g h : Nat → Bool} : ∀ m, (∀ k, k < m → g k = h k) → cn_ g m = cn_ h m
  | 0, _ => rfl
  | m + 1, e => by
    unfold cn_
    rw [cn_same m (fun k hk => e k (by omega)), e m (by omega)]
theorem cn_ug {g : Nat → Bool} {k : Nat} : ∀ m, k < m → g k = false → cn_ (ug_ g k) m = cn_ g m + 1
  | 0, hk, _ => absurd hk (Nat.not_lt_zero k)
  | m + 1, hk, hg => by
    unfold cn_
    by_cases e : k = m
    · subst e
      rw [cn_same (h := g) k (fun j hj => by unfold ug_; rw [decide_eq_false (by omega), Bool.or_false])]
      have e1 : ug_ g k k = true := by unfold ug_; rw [decide_eq_true rfl, Bool.or_true]
      rw [if_pos e1, hg, if_neg Bool.false_ne_true]
    · rw [cn_ug m (by omega) hg]
      have e1 : ug_ g k m = g m := by unfold ug_; rw [decide_eq_false (fun z => e z.symm), Bool.or_false]
      rw [e1]
      omega
theorem itF_stop {T : List Int32} {b m o : Nat} {g : Nat → Bool} {s : Nat → Int32} {p : Nat} (h : ¬ (ix_ b m (cz_ T p) < m ∧ g (ix_ b m (cz_ T p)) = false)) : ∀ f, itF T b m o f g s p = (true, s, skp_ T p)
  | 0 => rfl
  | f + 1 => by unfold itF; rw [if_neg h]
theorem itF_go {T : List Int32} {b m o : Nat} (hb : b + m ≤ 10) : ∀ f g s p, p ≤ T.length → p ≤ (itF T b m o f g s p).2.2 ∧ (itF T b m o f g s p).2.2 ≤ T.length ∧ ((itF T b m o f g s p).1 = true → skp_ T (itF T b m o f g s p).2.2 = (itF T b m o f g s p).2.2) ∧ (∀ j, j < o ∨ o + m ≤ j → (itF T b m o f g s p).2.1 j = s j) ∧ ((∀ k, k < m → rg9 (b + k) (s (o + k))) → ∀ k, k < m → rg9 (b + k) ((itF T b m o f g s p).2.1 (o + k)))
  | 0, g, s, p, hp => ⟨skp_ge T p, skq_le hp, fun _ => skp_id T p, fun _ _ => rfl, fun h => h⟩
  | f + 1, g, s, p, hp => by
    have gq := skp_ge T p
    have g2 := skq_le (T := T) hp
    by_cases c : ix_ b m (cz_ T p) < m ∧ g (ix_ b m (cz_ T p)) = false
    · unfold itF
      rw [if_pos c]
      have z := cz_lt (T := T) (p := p) (fun q => by rw [q, ix_end hb (Or.inl rfl)] at c; omega)
      obtain ⟨a1, a2⟩ := nb9_go (j := b + ix_ b m (cz_ T p)) (show skp_ T p + 1 ≤ T.length from z)
      by_cases c2 : (nb9_ T (b + ix_ b m (cz_ T p)) (skp_ T p + 1)).1 = true
      · rw [if_pos c2]
        obtain ⟨b1, b2, b3, b4, b5⟩ := itF_go (o := o) hb f (ug_ g (ix_ b m (cz_ T p))) (up_ s (o + ix_ b m (cz_ T p)) (nb9_ T (b + ix_ b m (cz_ T p)) (skp_ T p + 1)).2.1) _ a2
        refine ⟨by omega, b2, b3, fun j hj => (b4 j hj).trans ?_, fun hr => b5 (fun k hk => ?_)⟩
        · unfold up_
          rw [if_neg (by omega)]
        · unfold up_
          by_cases e : o + k = o + ix_ b m (cz_ T p)
          · rw [if_pos e]
            have e2 : k = ix_ b m (cz_ T p) := by omega
            rw [e2]
            exact nb9_rg c2
          · rw [if_neg e]
            exact hr k hk
      · rw [if_neg c2]
        exact ⟨by show p ≤ (nb9_ T (b + ix_ b m (cz_ T p)) (skp_ T p + 1)).2.2; omega, a2, fun z => absurd z Bool.false_ne_true, fun _ _ => rfl, fun h => h⟩
    · rw [itF_stop c]
      exact ⟨gq, g2, fun _ => skp_id T p, fun _ _ => rfl, fun h => h⟩
/-- the usual ones of the m items from b on, at slots from o on -/
def us9_ (b m o : Nat) (s : Nat → Int32) : Nat → Int32 := fun j => if o ≤ j ∧ j < o + m then it_us (b + (j - o)) else s j
/-- a street as far as it is told: rules there, houses, forms, slots -/
abbrev srT : Type := Bool × Nat × Nat × (Nat → Int32)
abbrev scT : Type := Bool × srT × Nat
def its_ (T : List Int32) (b m o : Nat) (s : Nat → Int32) (p : Nat) : itT := itF T b m o m (fun _ => false) (us9_ b m o s) p
def scl_ (T : List Int32) (x : srT) (p : Nat) : scT :=
  if cz_ T p = 115 ∧ x.1 = false then ((its_ T 0 4 0 x.2.2.2 (skp_ T p + 1)).1, (true, x.2.1, x.2.2.1, (its_ T 0 4 0 x.2.2.2 (skp_ T p + 1)).2.1), (its_ T 0 4 0 x.2.2.2 (skp_ T p + 1)).2.2)
  else if cz_ T p = 104 ∧ x.2.1 < 8 then ((its_ T 4 4 (4 + 4 * x.2.1) x.2.2.2 (skp_ T p + 1)).1, (x.1, x.2.1 + 1, x.2.2.1, (its_ T 4 4 (4 + 4 * x.2.1) x.2.2.2 (skp_ T p + 1)).2.1), (its_ T 4 4 (4 + 4 * x.2.1) x.2.2.2 (skp_ T p + 1)).2.2)
  else if cz_ T p = 102 ∧ x.2.2.1 < 6 then ((its_ T 8 2 (36 + 2 * x.2.2.1) x.2.2.2 (skp_ T p + 1)).1, (x.1, x.2.1, x.2.2.1 + 1, (its_ T 8 2 (36 + 2 * x.2.2.1) x.2.2.2 (skp_ T p + 1)).2.1), (its_ T 8 2 (36 + 2 * x.2.2.1) x.2.2.2 (skp_ T p + 1)).2.2)
  else (false, x, skp_ T p)
/-- in bounds -/
def sok (x : srT) : Prop := x.2.1 ≤ 8 ∧ x.2.2.1 ≤ 6 ∧ (∀ k, k < 4 → rg9 k (x.2.2.2 k)) ∧ (∀ h k, h < x.2.1 → k < 4 → rg9 (4 + k) (x.2.2.2 (4 + 4 * h + k))) ∧ ∀ f k, f < x.2.2.1 → k < 2 → rg9 (8 + k) (x.2.2.2 (36 + 2 * f + k))
theorem us_rg : ∀ j, j < 10 → rg9 j (it_us j) := by unfold rg9; decide
theorem its_go {T : List Int32} {b m o : Nat} (hb : b + m ≤ 10) {s : Nat → Int32} {p : Nat} (hp : p ≤ T.length) : p ≤ (its_ T b m o s p).2.2 ∧ (its_ T b m o s p).2.2 ≤ T.length ∧ ((its_ T b m o s p).1 = true → skp_ T (its_ T b m o s p).2.2 = (its_ T b m o s p).2.2) ∧ (∀ j, j < o ∨ o + m ≤ j → (its_ T b m o s p).2.1 j = s j) ∧ ∀ k, k < m → rg9 (b + k) ((its_ T b m o s p).2.1 (o + k)) := by
  obtain ⟨b1, b2, b3, b4, b5⟩ := itF_go (T := T) (o := o) hb m (fun _ => false) (us9_ b m o s) p hp
  refine ⟨b1, b2, b3, fun j hj => (b4 j hj).trans ?_, b5 (fun k hk => ?_)⟩
  · unfold us9_
    rw [if_neg (by omega)]
  · unfold us9_
    rw [if_pos (by omega), Nat.add_sub_cancel_left]
    exact us_rg _ (by omega)
theorem scl_go {T : List Int32} {x : srT} {p : Nat} (hx : sok x) (hp : p ≤ T.length) : p ≤ (scl_ T x p).2.2 ∧ (scl_ T x p).2.2 ≤ T.length ∧ ((scl_ T x p).1 = true → sok (scl_ T x p).2.1 ∧ p + 1 ≤ (scl_ T x p).2.2 ∧ skp_ T (scl_ T x p).2.2 = (scl_ T x p).2.2) := by
  have g := skp_ge T p
  have g2 := skq_le (T := T) hp
  obtain ⟨x1, x2, x3, x4, x5⟩ := hx
  unfold scl_
  by_cases c1 : cz_ T p = 115 ∧ x.1 = false
  · rw [if_pos c1]
    obtain ⟨b1, b2, b3, b4, b5⟩ := its_go (T := T) (b := 0) (m := 4) (o := 0) (s := x.2.2.2) (by decide) (cz_p1 c1.1 (by decide))
    refine ⟨by show p ≤ (its_ T 0 4 0 x.2.2.2 (skp_ T p + 1)).2.2; omega, b2, fun z => ⟨⟨x1, x2, fun k hk => ?_, fun h k hh hk => ?_, fun f k hf hk => ?_⟩, by show p + 1 ≤ (its_ T 0 4 0 x.2.2.2 (skp_ T p + 1)).2.2; omega, b3 z⟩⟩
    · have := b5 k hk
      rw [Nat.zero_add] at this
      exact this
    · show rg9 _ ((its_ T 0 4 0 x.2.2.2 (skp_ T p + 1)).2.1 _)
      rw [b4 _ (by omega)]
      exact x4 h k hh hk
    · show rg9 _ ((its_ T 0 4 0 x.2.2.2 (skp_ T p + 1)).2.1 _)
      rw [b4 _ (by omega)]
      exact x5 f k hf hk
  · rw [if_neg c1]
    by_cases c2 : cz_ T p = 104 ∧ x.2.1 < 8
    · rw [if_pos c2]
      have c3 := c2.2
      obtain ⟨b1, b2, b3, b4, b5⟩ := its_go (T := T) (b := 4) (m := 4) (o := 4 + 4 * x.2.1) (s := x.2.2.2) (by decide) (cz_p1 c2.1 (by decide))
      refine ⟨by show p ≤ (its_ T 4 4 (4 + 4 * x.2.1) x.2.2.2 (skp_ T p + 1)).2.2; omega, b2, fun z => ⟨⟨by show x.2.1 + 1 ≤ 8; omega, x2, fun k hk => ?_, fun h k hh hk => ?_, fun f k hf hk => ?_⟩, by show p + 1 ≤ (its_ T 4 4 (4 + 4 * x.2.1) x.2.2.2 (skp_ T p + 1)).2.2; omega, b3 z⟩⟩
      · show rg9 _ ((its_ T 4 4 (4 + 4 * x.2.1) x.2.2.2 (skp_ T p + 1)).2.1 _)
        rw [b4 _ (by omega)]
        exact x3 k hk
      · have hh2 : h < x.2.1 + 1 := hh
        show rg9 _ ((its_ T 4 4 (4 + 4 * x.2.1) x.2.2.2 (skp_ T p + 1)).2.1 _)
        rcases Nat.lt_or_ge h x.2.1 with q | q
        · rw [b4 _ (by omega)]
          exact x4 h k q hk
        · have e : h = x.2.1 := by omega
          rw [e]
          exact b5 k hk
      · have hf2 : f < x.2.2.1 := hf
        show rg9 _ ((its_ T 4 4 (4 + 4 * x.2.1) x.2.2.2 (skp_ T p + 1)).2.1 _)
        rw [b4 _ (by omega)]
        exact x5 f k hf hk
    · rw [if_neg c2]
      by_cases c4 : cz_ T p = 102 ∧ x.2.2.1 < 6
      · rw [if_pos c4]
        have c5 := c4.2
        obtain ⟨b1, b2, b3, b4, b5⟩ := its_go (T := T) (b := 8) (m := 2) (o := 36 + 2 * x.2.2.1) (s := x.2.2.2) (by decide) (cz_p1 c4.1 (by decide))
        refine ⟨by show p ≤ (its_ T 8 2 (36 + 2 * x.2.2.1) x.2.2.2 (skp_ T p + 1)).2.2; omega, b2, fun z => ⟨⟨x1, by show x.2.2.1 + 1 ≤ 6; omega, fun k hk => ?_, fun h k hh hk => ?_, fun f k hf hk => ?_⟩, by show p + 1 ≤ (its_ T 8 2 (36 + 2 * x.2.2.1) x.2.2.2 (skp_ T p + 1)).2.2; omega, b3 z⟩⟩
        · show rg9 _ ((its_ T 8 2 (36 + 2 * x.2.2.1) x.2.2.2 (skp_ T p + 1)).2.1 _)
          rw [b4 _ (by omega)]
          exact x3 k hk
        · have hh2 : h < x.2.1 := hh
          show rg9 _ ((its_ T 8 2 (36 + 2 * x.2.2.1) x.2.2.2 (skp_ T p + 1)).2.1 _)
          rw [b4 _ (by omega)]
          exact x4 h k hh hk
        · have hf2 : f < x.2.2.1 + 1 := hf
          show rg9 _ ((its_ T 8 2 (36 + 2 * x.2.2.1) x.2.2.2 (skp_ T p + 1)).2.1 _)
          rcases Nat.lt_or_ge f x.2.2.1 with q | q
          · rw [b4 _ (by omega)]
            exact x5 f k q hk
          · have e : f = x.2.2.1 := by omega
            rw [e]
            exact b5 k hk
      · rw [if_neg c4]
        exact ⟨g, g2, fun z => absurd z Bool.false_ne_true⟩
/-- nothing is wanting -/
def whl (n m : Nat) (s : Nat → Int32) : Prop := 1 < n ∧ 0 < m ∧ s 2 < nI m ∧ (s 1 = 8 ∨ s 1 < nI n) ∧ ∀ f, f < m → s (36 + 2 * f + 1) < nI m
/-- the street, or where it is wrong -/
noncomputable def stF (T : List Int32) : Nat → srT → Nat → scT
  | 0, x, p => (false, x, p)
  | f + 1, x, p => if (scl_ T x p).1 = true then (if cz_ T (scl_ T x p).2.2 = 59 then stF T f (scl_ T x p).2.1 (skp_ T (scl_ T x p).2.2 + 1) else @ite scT (cz_ T (scl_ T x p).2.2 = -1 ∧ whl (scl_ T x p).2.1.2.1 (scl_ T x p).2.1.2.2.1 (scl_ T x p).2.1.2.2.2) (Classical.propDecidable _) (true, (scl_ T x p).2.1, 0) (false, x, skp_ T (scl_ T x p).2.2)) else (false, x, (scl_ T x p).2.2)
def sr0 : srT := (false, 0, 0, us9_ 0 4 0 (fun _ => 0))
noncomputable def str9 (T : List Int32) : scT := stF T (T.length + 1) sr0 0
theorem sr0_ok : sok sr0 := ⟨by decide, by decide, fun k hk => by
  show rg9 k (us9_ 0 4 0 (fun _ => 0) k)
  unfold us9_
  rw [if_pos (by omega), Nat.zero_add, Nat.sub_zero]
  exact us_rg k (by omega), fun h k hh _ => absurd hh (Nat.not_lt_zero h), fun f k hf _ => absurd hf (Nat.not_lt_zero f)⟩
theorem stF_ok {T : List Int32} : ∀ f x p, sok x → p ≤ T.length → (stF T f x p).2.2 ≤ T.length ∧ ((stF T f x p).1 = true → sok (stF T f x p).2.1 ∧ whl (stF T f x p).2.1.2.1 (stF T f x p).2.1.2.2.1 (stF T f x p).2.1.2.2.2)
  | 0, x, p, hx, hp => ⟨hp, fun z => absurd z Bool.false_ne_true⟩
  | f + 1, x, p, hx, hp => by
    obtain ⟨a1, a2, a3⟩ := scl_go hx hp
    unfold stF
    by_cases c1 : (scl_ T x p).1 = true
    · rw [if_pos c1]
      have a4 := a3 c1
      by_cases c2 : cz_ T (scl_ T x p).2.2 = 59
      · rw [if_pos c2]
        exact stF_ok f _ _ a4.1 (cz_p1 c2 (by decide))
      · rw [if_neg c2]
        by_cases c3 : cz_ T (scl_ T x p).2.2 = -1 ∧ whl (scl_ T x p).2.1.2.1 (scl_ T x p).2.1.2.2.1 (scl_ T x p).2.1.2.2.2
        · rw [if_pos c3]
          exact ⟨Nat.zero_le _, fun _ => ⟨a4.1, c3.2⟩⟩
        · rw [if_neg c3]
          exact ⟨skq_le a2, fun z => absurd z Bool.false_ne_true⟩
    · rw [if_neg c1]
      exact ⟨a2, fun z => absurd z Bool.false_ne_true⟩
theorem rg_nI {j : Nat} {v : Int32} (h : rg9 j v) {lo hi : Nat} (e1 : it_lo j = nI lo) (e2 : it_hi j = nI hi) (hl : lo < 1000) (hh : hi < 1000) : ∃ k, lo ≤ k ∧ k ≤ hi ∧ v = nI k := by
  obtain ⟨h1, h2⟩ := h
  rw [e1] at h1
  rw [e2] at h2
  have h0 : ¬ v < 0 := fun z => h1 (by rw [fa_lt] at z ⊢; rw [nI_toInt (by omega)]; rw [ti_0] at z; omega)
  obtain ⟨n, hn, rfl⟩ := nI_of h0
  exact ⟨n, Nat.le_of_not_lt (fun z => h1 (nI_lt z (by omega))), Nat.le_of_not_lt (fun z => h2 (nI_lt z (by omega))), rfl⟩
/-- a street that is whole is in its bounds -/
theorem sok_OKT {x : srT} (h : sok x) (hw : whl x.2.1 x.2.2.1 x.2.2.2) : OKT x.2.1 x.2.2.1 x.2.2.2 := by
  obtain ⟨h1, h2, h3, h4, h5⟩ := h
  obtain ⟨w1, w2, w3, w4, w5⟩ := hw
  refine ⟨w2, ?_, ?_, ?_, ?_, fun hh i hhn hi => ?_, fun f hf => ⟨?_, ?_⟩⟩
  · obtain ⟨k, a, b, c⟩ := rg_nI (h3 0 (by decide)) (lo := 1) (hi := 9) rfl rfl (by decide) (by decide)
    exact ⟨k, a, b, c⟩
  · rcases w4 with q | q
    · exact Or.inl q
    · obtain ⟨k, a, b, c⟩ := rg_nI (h3 1 (by decide)) (lo := 0) (hi := 8) rfl rfl (by decide) (by decide)
      rw [c] at q
      exact Or.inr ⟨k, (nI_ltI (by omega) (by omega)).mp q, c⟩
  · obtain ⟨k, a, b, c⟩ := rg_nI (h3 2 (by decide)) (lo := 0) (hi := 5) rfl rfl (by decide) (by decide)
    rw [c] at w3
    exact ⟨k, (nI_ltI (by omega) (by omega)).mp w3, c⟩
  · obtain ⟨k, a, b, c⟩ := rg_nI (h3 3 (by decide)) (lo := 0) (hi := 99) rfl rfl (by decide) (by decide)
    exact ⟨k, b, c⟩
  · have q := h4 hh i hhn hi
    have key : ∀ i, i < 4 → it_lo (4 + i) = nI 0 ∧ it_hi (4 + i) = nI 9 := by decide
    obtain ⟨k, a, b, c⟩ := rg_nI q (key i hi).1 (key i hi).2 (by decide) (by decide)
    exact ⟨k, b, c⟩
  · obtain ⟨k, a, b, c⟩ := rg_nI (h5 f 0 hf (by decide)) (lo := 1) (hi := 9) rfl rfl (by decide) (by decide)
    exact ⟨k, b, c⟩
  · obtain ⟨k, a, b, c⟩ := rg_nI (h5 f 1 hf (by decide)) (lo := 0) (hi := 5) rfl rfl (by decide) (by decide)
    have q := w5 f hf
    rw [c] at q
    exact ⟨k, (nI_ltI (by omega) (by omega)).mp q, c⟩

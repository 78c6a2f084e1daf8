/-! a law as told: what both readers make of the tape -/
abbrev prT : Type := Bool × List Int32 × Nat
def pf_ (e : Nat) : prT := (false, [], e)
/-- the next sign from p on, and where it is -/
def cz_ (T : List Int32) (p : Nat) : Int32 := tc_ T (skp_ T p)
theorem skf_at (T : List Int32) : ∀ d p, T.length ≤ p + d → ¬ (skf T d p < T.length ∧ T.getD (skf T d p) 0 = 32)
  | 0, p, h => fun z => by unfold skf at z; omega
  | d + 1, p, h => by
    unfold skf
    split
    · exact skf_at T d (p + 1) (by omega)
    · next z => exact z
theorem skf_id (T : List Int32) {q : Nat} (h : ¬ (q < T.length ∧ T.getD q 0 = 32)) : ∀ d, skf T d q = q
  | 0 => rfl
  | d + 1 => by unfold skf; rw [if_neg h]
theorem skp_id (T : List Int32) (p : Nat) : skp_ T (skp_ T p) = skp_ T p := skf_id T (skf_at T _ p (by omega)) _
theorem skp_end {T : List Int32} {p : Nat} (h : T.length ≤ p) : skp_ T p = p := skf_id T (by omega) _
theorem cz_id (T : List Int32) (p : Nat) : cz_ T (skp_ T p) = cz_ T p := by unfold cz_; rw [skp_id]
theorem cz_end {T : List Int32} {p : Nat} (h : T.length ≤ p) : cz_ T p = -1 := by unfold cz_ tc_; rw [skp_end h, if_neg (by omega)]
theorem cz_lt {T : List Int32} {p : Nat} (h : ¬ cz_ T p = -1) : skp_ T p < T.length := by
  unfold cz_ tc_ at h
  exact Classical.byContradiction (fun z => h (if_neg z))
/-- letters -/
def lt9 (c : Int32) : Int32 := if c = 109 then 0 else if c = 119 then 1 else if c = 103 then 2 else if c = 112 then 3 else if c = 116 then 4 else if c = 100 then 5 else -1
/-- what stands in brackets, and what closes them -/
def clo_ (T : List Int32) (c : Int32) (x : prT) : prT := if x.1 = true then (if cz_ T x.2.2 = c then (true, x.2.1, skp_ T x.2.2 + 1) else pf_ (skp_ T x.2.2)) else pf_ x.2.2
def atm_ (T : List Int32) (r : Nat) (f : Nat → prT) (p : Nat) : prT :=
  if cz_ T p = 91 then (if r = 0 then pf_ (skp_ T p) else clo_ T 93 (f (skp_ T p + 1)))
  else if lt9 (cz_ T p) = -1 then (if (rn_ T 4 (skp_ T p)).1 = true then (true, [(rn_ T 4 (skp_ T p)).2.2], (rn_ T 4 (skp_ T p)).2.1) else pf_ (rn_ T 4 (skp_ T p)).2.1)
  else (true, [-1 - lt9 (cz_ T p)], skp_ T p + 1)
/-- a sign that waits -/
def wt_ (w : Int32) : List Int32 := if w = 0 then [] else [-w]
/-- a row of things: signs of sort hi bind less than those of sort lo; the class's way -/
def flF (T : List Int32) (hi lo : Int32 → Bool) (u : Nat → prT) : Nat → Int32 → List Int32 → Nat → prT
  | 0, w, X, p => (true, X ++ wt_ w, skp_ T p)
  | f + 1, w, X, p => if hi (cz_ T p) = true then (if (u (skp_ T p + 1)).1 = true then flF T hi lo u f (cz_ T p) (X ++ wt_ w ++ (u (skp_ T p + 1)).2.1) (u (skp_ T p + 1)).2.2 else pf_ (u (skp_ T p + 1)).2.2)
    else if lo (cz_ T p) = true then (if (u (skp_ T p + 1)).1 = true then flF T hi lo u f w (X ++ (u (skp_ T p + 1)).2.1 ++ [-cz_ T p]) (u (skp_ T p + 1)).2.2 else pf_ (u (skp_ T p + 1)).2.2)
    else (true, X ++ wt_ w, skp_ T p)
def fl_ (T : List Int32) (hi lo : Int32 → Bool) (u : Nat → prT) (p : Nat) : prT := if (u p).1 = true then flF T hi lo u T.length 0 (u p).2.1 (u p).2.2 else pf_ (u p).2.2
/-- the reference's way: one loop -/
def lpF (T : List Int32) (s : Int32 → Bool) (u : Nat → prT) : Nat → List Int32 → Nat → prT
  | 0, X, p => (true, X, skp_ T p)
  | f + 1, X, p => if s (cz_ T p) = true then (if (u (skp_ T p + 1)).1 = true then lpF T s u f (X ++ (u (skp_ T p + 1)).2.1 ++ [-cz_ T p]) (u (skp_ T p + 1)).2.2 else pf_ (u (skp_ T p + 1)).2.2) else (true, X, skp_ T p)
def lp_ (T : List Int32) (s : Int32 → Bool) (u : Nat → prT) (p : Nat) : prT := if (u p).1 = true then lpF T s u T.length (u p).2.1 (u p).2.2 else pf_ (u p).2.2
def hiS (c : Int32) : Bool := decide (c = 43 ∨ c = 45)
def loS (c : Int32) : Bool := decide (c = 42 ∨ c = 47)
def hiC (c : Int32) : Bool := decide (c = 124)
def loC (c : Int32) : Bool := decide (c = 38)
/-- atoms, sums, units, conditions; r: how much deeper it may go -/
def atR (T : List Int32) : Nat → Nat → prT
  | 0 => atm_ T 0 (fun _ => pf_ 0)
  | r + 1 => atm_ T (r + 1) (fl_ T hiS loS (atR T r))
def smR (T : List Int32) (r : Nat) : Nat → prT := fl_ T hiS loS (atR T r)
def isC (c : Int32) : Bool := decide (c = 61 ∨ c = 60 ∨ c = 62)
/-- compared: behind a sum X -/
def cm_ (T : List Int32) (s : Nat → prT) (X : List Int32) (p : Nat) : prT := if isC (cz_ T p) = true then (if (s (skp_ T p + 1)).1 = true then (true, X ++ (s (skp_ T p + 1)).2.1 ++ [-cz_ T p], (s (skp_ T p + 1)).2.2) else pf_ (s (skp_ T p + 1)).2.2) else pf_ (skp_ T p)
def un_ (T : List Int32) (r : Nat) (s u c : Nat → prT) (p : Nat) : prT :=
  if cz_ T p = 33 then (if r = 0 then pf_ (skp_ T p) else if (u (skp_ T p + 1)).1 = true then (true, (u (skp_ T p + 1)).2.1 ++ [-33], (u (skp_ T p + 1)).2.2) else pf_ (u (skp_ T p + 1)).2.2)
  else if cz_ T p = 40 then (if r = 0 then pf_ (skp_ T p) else clo_ T 41 (c (skp_ T p + 1)))
  else if (s (skp_ T p)).1 = true then cm_ T s (s (skp_ T p)).2.1 (s (skp_ T p)).2.2 else pf_ (s (skp_ T p)).2.2
def uR (T : List Int32) : Nat → Nat → prT
  | 0 => un_ T 0 (smR T 0) (fun _ => pf_ 0) (fun _ => pf_ 0)
  | r + 1 => un_ T (r + 1) (smR T (r + 1)) (uR T r) (fl_ T hiC loC (uR T r))
def cdR (T : List Int32) (r : Nat) : Nat → prT := fl_ T hiC loC (uR T r)
/-- a clause: condition (none: empty) and sum -/
abbrev pcT : Type := Bool × (List Int32 × List Int32) × Nat
def pg_ (e : Nat) : pcT := (false, ([], []), e)
/-- the ? and the sum behind a condition -/
def qs_ (T : List Int32) (x : prT) : pcT := if x.1 = true then (if cz_ T x.2.2 = 63 then (if (smR T 6 (skp_ T x.2.2 + 1)).1 = true then (true, (x.2.1, (smR T 6 (skp_ T x.2.2 + 1)).2.1), (smR T 6 (skp_ T x.2.2 + 1)).2.2) else pg_ (smR T 6 (skp_ T x.2.2 + 1)).2.2) else pg_ (skp_ T x.2.2)) else pg_ x.2.2
/-- a condition whose first sum X has been read -/
def cb9_ (T : List Int32) (X : List Int32) (p : Nat) : prT := if (cm_ T (smR T 6) X p).1 = true then flF T hiC loC (uR T 6) T.length 0 (cm_ T (smR T 6) X p).2.1 (cm_ T (smR T 6) X p).2.2 else pf_ (cm_ T (smR T 6) X p).2.2
def cl9 (T : List Int32) (p : Nat) : pcT :=
  if cz_ T p = 33 ∨ cz_ T p = 40 then qs_ T (cdR T 6 (skp_ T p))
  else if (smR T 6 (skp_ T p)).1 = true then (if isC (cz_ T (smR T 6 (skp_ T p)).2.2) = true then qs_ T (cb9_ T (smR T 6 (skp_ T p)).2.1 (smR T 6 (skp_ T p)).2.2) else (true, ([], (smR T 6 (skp_ T p)).2.1), skp_ T (smR T 6 (skp_ T p)).2.2))
  else pg_ (smR T 6 (skp_ T p)).2.2
def cla_ (T : List Int32) (p : Nat) : pcT :=
  if cz_ T p = 121 then (if cz_ T (skp_ T p + 1) = 58 then cl9 T (skp_ T (skp_ T p + 1) + 1) else pg_ (skp_ T (skp_ T p + 1))) else pg_ (skp_ T p)
/-- clauses: the law, or where it is wrong -/
abbrev plT : Type := Bool × lwT × Nat
def lwF (T : List Int32) : Nat → lwT → Nat → plT
  | 0, _, p => (false, [], p)
  | f + 1, V, p => if (cla_ T p).1 = true then (if cz_ T (cla_ T p).2.2 = -1 then (true, V ++ [(cla_ T p).2.1], skp_ T (cla_ T p).2.2) else if cz_ T (cla_ T p).2.2 = 59 then lwF T f (V ++ [(cla_ T p).2.1]) (skp_ T (cla_ T p).2.2 + 1) else (false, [], skp_ T (cla_ T p).2.2)) else (false, [], (cla_ T p).2.2)
def law9 (T : List Int32) : plT := lwF T (T.length + 1) [] 0
/-! places and lengths -/
/-- a reader goes on by at least what it makes -/
def goS (T : List Int32) (u : Nat → prT) : Prop := ∀ p, p ≤ T.length → p ≤ (u p).2.2 ∧ (u p).2.2 ≤ T.length ∧ ((u p).1 = true → (u p).2.1.length + p ≤ (u p).2.2 ∧ 0 < (u p).2.1.length)
theorem skq_le {T : List Int32} {p : Nat} (h : p ≤ T.length) : skp_ T p ≤ T.length := skp_le (Nat.le_refl _) h
theorem cz_p1 {T : List Int32} {p : Nat} {c : Int32} (h : cz_ T p = c) (hc : ¬ c = -1) : skp_ T p + 1 ≤ T.length := cz_lt (by rw [h]; exact hc)
theorem wt_len (w : Int32) : (wt_ w).length ≤ 1 := by unfold wt_; split <;> simp
theorem wt_0 : wt_ 0 = [] := if_pos rfl
theorem wt_n {w : Int32} (h : ¬ w = 0) : wt_ w = [-w] := if_neg h
theorem clo_go {T : List Int32} {c : Int32} {x : prT} {p : Nat} (hc : ¬ c = -1) (hp : p ≤ x.2.2) (hx : x.2.2 ≤ T.length) (ho : x.1 = true → x.2.1.length + p ≤ x.2.2 ∧ 0 < x.2.1.length) : p ≤ (clo_ T c x).2.2 ∧ (clo_ T c x).2.2 ≤ T.length ∧ ((clo_ T c x).1 = true → (clo_ T c x).2.1.length + p ≤ (clo_ T c x).2.2 ∧ 0 < (clo_ T c x).2.1.length) := by
  have g := skp_ge T x.2.2
  have g2 := skq_le (T := T) hx
  unfold clo_
  by_cases h1 : x.1 = true
  · rw [if_pos h1]
    have o := ho h1
    by_cases h2 : cz_ T x.2.2 = c
    · rw [if_pos h2]
      have z := cz_p1 h2 hc
      exact ⟨by show p ≤ _ + 1; omega, z, fun _ => ⟨by show x.2.1.length + p ≤ _ + 1; omega, o.2⟩⟩
    · rw [if_neg h2]
      exact ⟨by show p ≤ skp_ T x.2.2; omega, g2, fun z => absurd z Bool.false_ne_true⟩
  · rw [if_neg h1]
    exact ⟨hp, hx, fun z => absurd z Bool.false_ne_true⟩
theorem rnF_go (T : List Int32) (mx : Nat) : ∀ f k v p, p ≤ T.length → (rnF T mx f k v p).2.1 ≤ T.length
  | 0, k, v, p, h => h
  | f + 1, k, v, p, h => by
    unfold rnF
    split
    · next z =>
      split
      · exact h
      · exact rnF_go T mx f (k + 1) _ (p + 1) (by omega)
    · exact h
theorem rnF_1 (T : List Int32) (mx : Nat) : ∀ f k v p, (rnF T mx f k v p).1 = true → 0 < k ∨ p < (rnF T mx f k v p).2.1
  | 0, k, v, p, h => absurd h Bool.false_ne_true
  | f + 1, k, v, p, h => by
    unfold rnF at h ⊢
    split
    · next z =>
      rw [if_pos z] at h
      split
      · next z2 => rw [if_pos z2] at h; exact absurd h Bool.false_ne_true
      · next z2 =>
        have := (rnF_p T mx f (k + 1) (v * 10 + T.getD p 0 - 48) (p + 1)).1
        exact Or.inr (by omega)
    · next z =>
      rw [if_neg z] at h
      exact Or.inl (of_decide_eq_true h)
theorem rn_go {T : List Int32} {mx p : Nat} (h : p ≤ T.length) : p ≤ (rn_ T mx p).2.1 ∧ (rn_ T mx p).2.1 ≤ T.length ∧ ((rn_ T mx p).1 = true → p + 1 ≤ (rn_ T mx p).2.1) := ⟨(rnF_p T mx _ 0 0 p).1, rnF_go T mx _ 0 0 p h, fun z => (rnF_1 T mx _ 0 0 p z).elim (fun q => absurd q (by omega)) (fun q => q)⟩
theorem lt9_m1 : lt9 (-1) = -1 := by decide
theorem atm_go {T : List Int32} {r : Nat} {f : Nat → prT} (hf : goS T f ∨ r = 0) : goS T (atm_ T r f) := by
  intro p hp
  have g := skp_ge T p
  have g2 := skq_le (T := T) hp
  unfold atm_
  by_cases h1 : cz_ T p = 91
  · rw [if_pos h1]
    have z := cz_p1 h1 (by decide)
    by_cases h2 : r = 0
    · rw [if_pos h2]
      exact ⟨g, g2, fun z => absurd z Bool.false_ne_true⟩
    · rw [if_neg h2]
      obtain ⟨a1, a2, a3⟩ := (hf.resolve_right h2) (skp_ T p + 1) z
      exact clo_go (by decide) (by omega) a2 (fun q => ⟨by have := (a3 q).1; omega, (a3 q).2⟩)
  · rw [if_neg h1]
    by_cases h2 : lt9 (cz_ T p) = -1
    · rw [if_pos h2]
      obtain ⟨a1, a2, a3⟩ := rn_go (mx := 4) g2
      by_cases h3 : (rn_ T 4 (skp_ T p)).1 = true
      · rw [if_pos h3]
        exact ⟨by show p ≤ (rn_ T 4 (skp_ T p)).2.1; omega, a2, fun _ => ⟨by have := a3 h3; show 1 + p ≤ (rn_ T 4 (skp_ T p)).2.1; omega, Nat.zero_lt_one⟩⟩
      · rw [if_neg h3]
        exact ⟨by show p ≤ (rn_ T 4 (skp_ T p)).2.1; omega, a2, fun z => absurd z Bool.false_ne_true⟩
    · rw [if_neg h2]
      have z := cz_lt (T := T) (p := p) (fun q => h2 (by rw [q]; exact lt9_m1))
      exact ⟨by show p ≤ _ + 1; omega, by show _ + 1 ≤ _; omega, fun _ => ⟨by show 1 + p ≤ _ + 1; omega, Nat.zero_lt_one⟩⟩
theorem flF_go {T : List Int32} {hi lo : Int32 → Bool} {u : Nat → prT} (h1 : hi (-1) = false) (h2 : lo (-1) = false) (hu : goS T u) : ∀ f w X p, p ≤ T.length → p ≤ (flF T hi lo u f w X p).2.2 ∧ (flF T hi lo u f w X p).2.2 ≤ T.length ∧ ((flF T hi lo u f w X p).1 = true → (flF T hi lo u f w X p).2.1.length + p ≤ X.length + (wt_ w).length + (flF T hi lo u f w X p).2.2 ∧ X.length ≤ (flF T hi lo u f w X p).2.1.length)
  | 0, w, X, p, hp => ⟨skp_ge T p, skq_le hp, fun _ => ⟨by have := skp_ge T p; show (X ++ wt_ w).length + p ≤ _ + skp_ T p; rw [List.length_append]; omega, by show X.length ≤ (X ++ wt_ w).length; rw [List.length_append]; omega⟩⟩
  | f + 1, w, X, p, hp => by
    have g := skp_ge T p
    have g2 := skq_le (T := T) hp
    unfold flF
    by_cases c1 : hi (cz_ T p) = true
    · rw [if_pos c1]
      have z := cz_lt (T := T) (p := p) (fun q => by rw [q, h1] at c1; exact absurd c1 (by decide))
      obtain ⟨a1, a2, a3⟩ := hu (skp_ T p + 1) (by omega)
      by_cases c2 : (u (skp_ T p + 1)).1 = true
      · rw [if_pos c2]
        have a4 := a3 c2
        obtain ⟨b1, b2, b3⟩ := flF_go h1 h2 hu f (cz_ T p) (X ++ wt_ w ++ (u (skp_ T p + 1)).2.1) (u (skp_ T p + 1)).2.2 a2
        have wl := wt_len (cz_ T p)
        refine ⟨by omega, b2, fun q => ?_⟩
        have b4 := b3 q
        rw [List.length_append, List.length_append] at b4
        exact ⟨by omega, by omega⟩
      · rw [if_neg c2]
        exact ⟨by show p ≤ (u (skp_ T p + 1)).2.2; omega, a2, fun z => absurd z Bool.false_ne_true⟩
    · rw [if_neg c1]
      by_cases c3 : lo (cz_ T p) = true
      · rw [if_pos c3]
        have z := cz_lt (T := T) (p := p) (fun q => by rw [q, h2] at c3; exact absurd c3 (by decide))
        obtain ⟨a1, a2, a3⟩ := hu (skp_ T p + 1) (by omega)
        by_cases c2 : (u (skp_ T p + 1)).1 = true
        · rw [if_pos c2]
          have a4 := a3 c2
          obtain ⟨b1, b2, b3⟩ := flF_go h1 h2 hu f w (X ++ (u (skp_ T p + 1)).2.1 ++ [-cz_ T p]) (u (skp_ T p + 1)).2.2 a2
          refine ⟨by omega, b2, fun q => ?_⟩
          have b4 := b3 q
          rw [List.length_append, List.length_append, List.length_singleton] at b4
          exact ⟨by omega, by omega⟩
        · rw [if_neg c2]
          exact ⟨by show p ≤ (u (skp_ T p + 1)).2.2; omega, a2, fun z => absurd z Bool.false_ne_true⟩
      · rw [if_neg c3]
        exact ⟨g, g2, fun _ => ⟨by show (X ++ wt_ w).length + p ≤ _ + skp_ T p; rw [List.length_append]; omega, by show X.length ≤ (X ++ wt_ w).length; rw [List.length_append]; omega⟩⟩
theorem fl_go {T : List Int32} {hi lo : Int32 → Bool} {u : Nat → prT} (h1 : hi (-1) = false) (h2 : lo (-1) = false) (hu : goS T u) : goS T (fl_ T hi lo u) := by
  intro p hp
  obtain ⟨a1, a2, a3⟩ := hu p hp
  unfold fl_
  by_cases c : (u p).1 = true
  · rw [if_pos c]
    have a4 := a3 c
    obtain ⟨b1, b2, b3⟩ := flF_go h1 h2 hu T.length 0 (u p).2.1 (u p).2.2 a2
    refine ⟨by omega, b2, fun q => ?_⟩
    have b4 := b3 q
    rw [wt_0] at b4
    have : ([] : List Int32).length = 0 := rfl
    exact ⟨by omega, by omega⟩
  · rw [if_neg c]
    exact ⟨a1, a2, fun z => absurd z Bool.false_ne_true⟩
theorem atR_go (T : List Int32) : ∀ r, goS T (atR T r)
  | 0 => atm_go (Or.inr rfl)
  | r + 1 => atm_go (Or.inl (fl_go (by decide) (by decide) (atR_go T r)))
theorem smR_go (T : List Int32) (r : Nat) : goS T (smR T r) := fl_go (by decide) (by decide) (atR_go T r)
theorem isC_n {c : Int32} (h : isC c = true) : ¬ c = -1 := fun q => by rw [q] at h; exact absurd h (by decide)
theorem cm_go {T : List Int32} {s : Nat → prT} (hs : goS T s) (X : List Int32) {p : Nat} (hp : p ≤ T.length) : p ≤ (cm_ T s X p).2.2 ∧ (cm_ T s X p).2.2 ≤ T.length ∧ ((cm_ T s X p).1 = true → (cm_ T s X p).2.1.length + p ≤ X.length + (cm_ T s X p).2.2 ∧ X.length ≤ (cm_ T s X p).2.1.length) := by
  have g := skp_ge T p
  have g2 := skq_le (T := T) hp
  unfold cm_
  by_cases c1 : isC (cz_ T p) = true
  · rw [if_pos c1]
    have z := cz_lt (isC_n c1)
    obtain ⟨a1, a2, a3⟩ := hs (skp_ T p + 1) (by omega)
    by_cases c2 : (s (skp_ T p + 1)).1 = true
    · rw [if_pos c2]
      have a4 := a3 c2
      exact ⟨by show p ≤ (s (skp_ T p + 1)).2.2; omega, a2, fun _ => ⟨by show (X ++ (s (skp_ T p + 1)).2.1 ++ [-cz_ T p]).length + p ≤ _ + (s (skp_ T p + 1)).2.2; rw [List.length_append, List.length_append, List.length_singleton]; omega, by show X.length ≤ (X ++ (s (skp_ T p + 1)).2.1 ++ [-cz_ T p]).length; rw [List.length_append, List.length_append]; omega⟩⟩
    · rw [if_neg c2]
      exact ⟨by show p ≤ (s (skp_ T p + 1)).2.2; omega, a2, fun z => absurd z Bool.false_ne_true⟩
  · rw [if_neg c1]
    exact ⟨g, g2, fun z => absurd z Bool.false_ne_true⟩
theorem un_go {T : List Int32} {r : Nat} {s u c : Nat → prT} (hs : goS T s) (hu : (goS T u ∧ goS T c) ∨ r = 0) : goS T (un_ T r s u c) := by
  intro p hp
  have g := skp_ge T p
  have g2 := skq_le (T := T) hp
  unfold un_
  by_cases h1 : cz_ T p = 33
  · rw [if_pos h1]
    have z := cz_p1 h1 (by decide)
    by_cases h2 : r = 0
    · rw [if_pos h2]
      exact ⟨g, g2, fun z => absurd z Bool.false_ne_true⟩
    · rw [if_neg h2]
      obtain ⟨a1, a2, a3⟩ := (hu.resolve_right h2).1 (skp_ T p + 1) z
      by_cases h3 : (u (skp_ T p + 1)).1 = true
      · rw [if_pos h3]
        have a4 := a3 h3
        exact ⟨by show p ≤ (u (skp_ T p + 1)).2.2; omega, a2, fun _ => ⟨by show ((u (skp_ T p + 1)).2.1 ++ [-33]).length + p ≤ (u (skp_ T p + 1)).2.2; rw [List.length_append, List.length_singleton]; omega, by show 0 < ((u (skp_ T p + 1)).2.1 ++ [-33]).length; rw [List.length_append]; omega⟩⟩
      · rw [if_neg h3]
        exact ⟨by show p ≤ (u (skp_ T p + 1)).2.2; omega, a2, fun z => absurd z Bool.false_ne_true⟩
  · rw [if_neg h1]
    by_cases h4 : cz_ T p = 40
    · rw [if_pos h4]
      have z := cz_p1 h4 (by decide)
      by_cases h2 : r = 0
      · rw [if_pos h2]
        exact ⟨g, g2, fun z => absurd z Bool.false_ne_true⟩
      · rw [if_neg h2]
        obtain ⟨a1, a2, a3⟩ := (hu.resolve_right h2).2 (skp_ T p + 1) z
        exact clo_go (by decide) (by omega) a2 (fun q => ⟨by have := (a3 q).1; omega, (a3 q).2⟩)
    · rw [if_neg h4]
      obtain ⟨a1, a2, a3⟩ := hs (skp_ T p) g2
      by_cases h5 : (s (skp_ T p)).1 = true
      · rw [if_pos h5]
        have a4 := a3 h5
        obtain ⟨b1, b2, b3⟩ := cm_go hs (s (skp_ T p)).2.1 a2
        exact ⟨by omega, b2, fun q => ⟨by have := (b3 q).1; omega, by have := (b3 q).2; omega⟩⟩
      · rw [if_neg h5]
        exact ⟨by show p ≤ (s (skp_ T p)).2.2; omega, a2, fun z => absurd z Bool.false_ne_true⟩
theorem uR_go (T : List Int32) : ∀ r, goS T (uR T r)
  | 0 => un_go (smR_go T 0) (Or.inr rfl)
  | r + 1 => un_go (smR_go T (r + 1)) (Or.inl ⟨uR_go T r, fl_go (by decide) (by decide) (uR_go T r)⟩)
theorem cdR_go (T : List Int32) (r : Nat) : goS T (cdR T r) := fl_go (by decide) (by decide) (uR_go T r)

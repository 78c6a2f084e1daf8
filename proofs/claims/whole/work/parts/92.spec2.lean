/-! both ways make the same; what is made is reckoned well -/
theorem flF_stop {T : List Int32} {hi lo : Int32 → Bool} {u : Nat → prT} {p : Nat} (h1 : ¬ hi (cz_ T p) = true) (h2 : ¬ lo (cz_ T p) = true) : ∀ f w X, flF T hi lo u f w X p = (true, X ++ wt_ w, skp_ T p)
  | 0, _, _ => rfl
  | f + 1, w, X => by unfold flF; rw [if_neg h1, if_neg h2]
theorem lpF_stop {T : List Int32} {s : Int32 → Bool} {u : Nat → prT} {p : Nat} (h1 : ¬ s (cz_ T p) = true) : ∀ f X, lpF T s u f X p = (true, X, skp_ T p)
  | 0, _ => rfl
  | f + 1, X => by unfold lpF; rw [if_neg h1]
theorem b_nt {b : Bool} (h : b = false) : ¬ b = true := by rw [h]; decide
theorem fl_lp {T : List Int32} {hi lo : Int32 → Bool} {u : Nat → prT} (hl : ∀ c, hi c = true → lo c = false) (h1 : hi (-1) = false) (h2 : lo (-1) = false) (h0 : hi 0 = false) (hu : goS T u) : ∀ f w X Y p g h, T.length ≤ p + f → T.length ≤ p + g → T.length ≤ p + h → p ≤ T.length → flF T hi lo u f w (X ++ Y) p = (if (lpF T lo u g Y p).1 = true then lpF T hi (lp_ T lo u) h (X ++ (lpF T lo u g Y p).2.1 ++ wt_ w) (lpF T lo u g Y p).2.2 else pf_ (lpF T lo u g Y p).2.2) := by
  intro f
  have stop : ∀ f w X Y p g h, ¬ hi (cz_ T p) = true → ¬ lo (cz_ T p) = true → flF T hi lo u f w (X ++ Y) p = (if (lpF T lo u g Y p).1 = true then lpF T hi (lp_ T lo u) h (X ++ (lpF T lo u g Y p).2.1 ++ wt_ w) (lpF T lo u g Y p).2.2 else pf_ (lpF T lo u g Y p).2.2) := by
    intro f w X Y p g h c1 c2
    rw [flF_stop c1 c2, lpF_stop c2]
    show _ = (if true = true then lpF T hi (lp_ T lo u) h (X ++ Y ++ wt_ w) (skp_ T p) else _)
    rw [if_pos rfl, lpF_stop (by rw [cz_id]; exact c1), skp_id]
  induction f with
  | zero =>
    intro w X Y p g h e1 e2 e3 hp
    have e := cz_end (T := T) (p := p) (by omega)
    exact stop 0 w X Y p g h (by rw [e]; exact b_nt h1) (by rw [e]; exact b_nt h2)
  | succ f ih =>
    intro w X Y p g h e1 e2 e3 hp
    have gq := skp_ge T p
    by_cases c1 : hi (cz_ T p) = true
    · have z := cz_lt (T := T) (p := p) (fun q => by rw [q, h1] at c1; exact absurd c1 (by decide))
      obtain ⟨h', rfl⟩ : ∃ h', h = h' + 1 := ⟨h - 1, by omega⟩
      obtain ⟨a1, a2, a3⟩ := hu (skp_ T p + 1) (by omega)
      rw [lpF_stop (b_nt (hl _ c1))]
      show _ = (if true = true then lpF T hi (lp_ T lo u) (h' + 1) (X ++ Y ++ wt_ w) (skp_ T p) else _)
      rw [if_pos rfl]
      unfold flF lpF
      rw [if_pos c1, cz_id, skp_id, if_pos c1]
      by_cases c2 : (u (skp_ T p + 1)).1 = true
      · have e9 : lp_ T lo u (skp_ T p + 1) = lpF T lo u T.length (u (skp_ T p + 1)).2.1 (u (skp_ T p + 1)).2.2 := if_pos c2
        rw [if_pos c2, e9, ih (cz_ T p) (X ++ Y ++ wt_ w) (u (skp_ T p + 1)).2.1 (u (skp_ T p + 1)).2.2 T.length h' (by omega) (by omega) (by omega) a2, wt_n (w := cz_ T p) (fun q => by rw [q, h0] at c1; exact absurd c1 (by decide))]
      · have e9 : lp_ T lo u (skp_ T p + 1) = pf_ (u (skp_ T p + 1)).2.2 := if_neg c2
        rw [if_neg c2, e9]
        rfl
    · by_cases c3 : lo (cz_ T p) = true
      · have z := cz_lt (T := T) (p := p) (fun q => by rw [q, h2] at c3; exact absurd c3 (by decide))
        obtain ⟨g', rfl⟩ : ∃ g', g = g' + 1 := ⟨g - 1, by omega⟩
        obtain ⟨a1, a2, a3⟩ := hu (skp_ T p + 1) (by omega)
        rw [flF, lpF, if_neg c1, if_pos c3, if_pos c3]
        by_cases c2 : (u (skp_ T p + 1)).1 = true
        · rw [if_pos c2, if_pos c2, List.append_assoc X Y, List.append_assoc X, ih w X (Y ++ (u (skp_ T p + 1)).2.1 ++ [-cz_ T p]) (u (skp_ T p + 1)).2.2 g' h (by omega) (by omega) (by omega) a2]
        · rw [if_neg c2, if_neg c2]
          rfl
      · exact stop (f + 1) w X Y p g h c1 c3
theorem fl_eq {T : List Int32} {hi lo : Int32 → Bool} {u : Nat → prT} (hl : ∀ c, hi c = true → lo c = false) (h1 : hi (-1) = false) (h2 : lo (-1) = false) (h0 : hi 0 = false) (hu : goS T u) {p : Nat} (hp : p ≤ T.length) : fl_ T hi lo u p = lp_ T hi (lp_ T lo u) p := by
  obtain ⟨a1, a2, a3⟩ := hu p hp
  unfold fl_
  by_cases c : (u p).1 = true
  · rw [if_pos c]
    have e := fl_lp hl h1 h2 h0 hu T.length 0 [] (u p).2.1 (u p).2.2 T.length T.length (by omega) (by omega) (by omega) a2
    rw [List.nil_append] at e
    rw [e, wt_0, List.append_nil, List.nil_append]
    show _ = (if (lp_ T lo u p).1 = true then lpF T hi (lp_ T lo u) T.length (lp_ T lo u p).2.1 (lp_ T lo u p).2.2 else pf_ (lp_ T lo u p).2.2)
    have e2 : lp_ T lo u p = lpF T lo u T.length (u p).2.1 (u p).2.2 := if_pos c
    rw [e2]
  · rw [if_neg c]
    have e2 : lp_ T lo u p = pf_ (u p).2.2 := if_neg c
    show _ = (if (lp_ T lo u p).1 = true then lpF T hi (lp_ T lo u) T.length (lp_ T lo u p).2.1 (lp_ T lo u p).2.2 else pf_ (lp_ T lo u p).2.2)
    rw [e2]
    rfl
theorem lpF_se {T : List Int32} {s : Int32 → Bool} {u : Nat → prT} {h : Nat} {t : Bool} (hs : ∀ c, s c = true → op_ (-c) t t) (hu : ∀ p, (u p).1 = true → SE (u p).2.1 h t) : ∀ f X p, SE X (h + 1) t → (lpF T s u f X p).1 = true → SE (lpF T s u f X p).2.1 (h + 1) t
  | 0, X, p, hX, _ => hX
  | f + 1, X, p, hX, ho => by
    unfold lpF at ho ⊢
    by_cases c1 : s (cz_ T p) = true
    · rw [if_pos c1] at ho ⊢
      by_cases c2 : (u (skp_ T p + 1)).1 = true
      · rw [if_pos c2] at ho ⊢
        exact lpF_se hs hu f _ _ (SE_2 (hs _ c1) hX (hu _ c2)) ho
      · rw [if_neg c2] at ho
        exact absurd ho Bool.false_ne_true
    · rw [if_neg c1]
      exact hX
theorem lp_se {T : List Int32} {s : Int32 → Bool} {u : Nat → prT} {h : Nat} {t : Bool} (hs : ∀ c, s c = true → op_ (-c) t t) (hu : ∀ p, (u p).1 = true → SE (u p).2.1 h t) (p : Nat) (ho : (lp_ T s u p).1 = true) : SE (lp_ T s u p).2.1 (h + 1) t := by
  unfold lp_ at ho ⊢
  by_cases c : (u p).1 = true
  · rw [if_pos c] at ho ⊢
    exact lpF_se hs hu _ _ _ (SE_up (Nat.le_succ h) (hu p c)) ho
  · rw [if_neg c] at ho
    exact absurd ho Bool.false_ne_true
theorem hiS_op (c : Int32) (h : hiS c = true) : op_ (-c) false false := by
  rcases of_decide_eq_true h with rfl | rfl
  · exact Or.inl ⟨rfl, rfl, Or.inl rfl⟩
  · exact Or.inl ⟨rfl, rfl, Or.inr (Or.inl rfl)⟩
theorem loS_op (c : Int32) (h : loS c = true) : op_ (-c) false false := by
  rcases of_decide_eq_true h with rfl | rfl
  · exact Or.inl ⟨rfl, rfl, Or.inr (Or.inr (Or.inl rfl))⟩
  · exact Or.inl ⟨rfl, rfl, Or.inr (Or.inr (Or.inr rfl))⟩
theorem hiC_op (c : Int32) (h : hiC c = true) : op_ (-c) true true := by
  have e := of_decide_eq_true h
  subst e
  exact Or.inr (Or.inr ⟨rfl, rfl, Or.inr rfl⟩)
theorem loC_op (c : Int32) (h : loC c = true) : op_ (-c) true true := by
  have e := of_decide_eq_true h
  subst e
  exact Or.inr (Or.inr ⟨rfl, rfl, Or.inl rfl⟩)
theorem isC_op (c : Int32) (h : isC c = true) : op_ (-c) false true := by
  rcases of_decide_eq_true h with rfl | rfl | rfl
  · exact Or.inr (Or.inl ⟨rfl, rfl, Or.inl rfl⟩)
  · exact Or.inr (Or.inl ⟨rfl, rfl, Or.inr (Or.inl rfl)⟩)
  · exact Or.inr (Or.inl ⟨rfl, rfl, Or.inr (Or.inr rfl)⟩)
theorem hlS (c : Int32) (h : hiS c = true) : loS c = false := by rcases of_decide_eq_true h with rfl | rfl <;> decide
theorem hlC (c : Int32) (h : hiC c = true) : loC c = false := by have e := of_decide_eq_true h; subst e; decide
theorem dg_nI {d : Int32} (h1 : 48 ≤ d) (h2 : d ≤ 57) : ∃ e, e ≤ 9 ∧ d = nI (48 + e) := by
  have h0 : ¬ d < 0 := fun z => by rw [fa_lt] at z; rw [fa_le] at h1; have e1 : (48 : Int32).toInt = 48 := by decide
                                   have e2 : (0 : Int32).toInt = 0 := by decide
                                   omega
  obtain ⟨n, hn, rfl⟩ := nI_of h0
  have a1 : 48 ≤ n := (nI_leI (a := 48) (by decide) hn).mp h1
  have a2 : n ≤ 57 := (nI_leI (b := 57) hn (by decide)).mp h2
  exact ⟨n - 48, by omega, congrArg nI (by omega)⟩
theorem dg_st {m e : Nat} : nI m * 10 + nI (48 + e) - 48 = nI (10 * m + e) := by
  have e1 : (10 : Int32) = nI 10 := rfl
  have e2 : (48 : Int32) = nI 48 := rfl
  rw [e1, e2, pk_mul, nI_add, pk_sub (by omega)]
  exact congrArg nI (by omega)
/-- the number read so far has k digits -/
theorem rnF_v (T : List Int32) (mx : Nat) : ∀ f k m p, m < 10 ^ k → ∃ m', (rnF T mx f k (nI m) p).2.2 = nI m' ∧ ((rnF T mx f k (nI m) p).1 = true → m' < 10 ^ mx ∨ mx < k)
  | 0, k, m, p, hm => ⟨m, rfl, fun z => absurd z Bool.false_ne_true⟩
  | f + 1, k, m, p, hm => by
    unfold rnF
    by_cases c1 : p < T.length ∧ 48 ≤ T.getD p 0 ∧ T.getD p 0 ≤ 57
    · rw [if_pos c1]
      by_cases c2 : k = mx
      · rw [if_pos c2]
        exact ⟨m, rfl, fun z => absurd z Bool.false_ne_true⟩
      · rw [if_neg c2]
        obtain ⟨e, he, hd⟩ := dg_nI c1.2.1 c1.2.2
        rw [hd, dg_st]
        obtain ⟨m', r1, r2⟩ := rnF_v T mx f (k + 1) (10 * m + e) (p + 1) (by rw [Nat.pow_succ]; omega)
        refine ⟨m', r1, fun z => (r2 z).elim Or.inl (fun q => ?_)⟩
        exact Or.inr (by omega)
    · rw [if_neg c1]
      refine ⟨m, rfl, fun _ => ?_⟩
      rcases Nat.lt_or_ge mx k with q | q
      · exact Or.inr q
      · exact Or.inl (Nat.lt_of_lt_of_le hm (Nat.pow_le_pow_right (by decide) q))
theorem rn_v (T : List Int32) (mx p : Nat) (h : (rn_ T mx p).1 = true) : ∃ m', (rn_ T mx p).2.2 = nI m' ∧ m' < 10 ^ mx := by
  obtain ⟨m', r1, r2⟩ := rnF_v T mx (mx + 1) 0 0 p (by decide)
  exact ⟨m', r1, (r2 h).resolve_right (by omega)⟩
theorem lt9_c {c : Int32} (h : ¬ lt9 c = -1) : ∃ i, i < 6 ∧ lt9 c = nI i := by
  unfold lt9 at h ⊢
  by_cases h1 : c = 109
  · rw [if_pos h1]; exact ⟨0, by decide, rfl⟩
  · rw [if_neg h1] at h ⊢
    by_cases h2 : c = 119
    · rw [if_pos h2]; exact ⟨1, by decide, rfl⟩
    · rw [if_neg h2] at h ⊢
      by_cases h3 : c = 103
      · rw [if_pos h3]; exact ⟨2, by decide, rfl⟩
      · rw [if_neg h3] at h ⊢
        by_cases h4 : c = 112
        · rw [if_pos h4]; exact ⟨3, by decide, rfl⟩
        · rw [if_neg h4] at h ⊢
          by_cases h5 : c = 116
          · rw [if_pos h5]; exact ⟨4, by decide, rfl⟩
          · rw [if_neg h5] at h ⊢
            by_cases h6 : c = 100
            · rw [if_pos h6]; exact ⟨5, by decide, rfl⟩
            · rw [if_neg h6] at h
              exact absurd rfl h
theorem ltr_b : ∀ i, i < 6 → ¬ (-1 - nI i) < -6 ∧ -1 - nI i ≤ 9999 := by decide
theorem num_b {m : Nat} (h : m < 10000) : ¬ nI m < -6 ∧ nI m ≤ 9999 := by
  refine ⟨fun z => ?_, (nI_leI (b := 9999) (by omega) (by decide)).mpr (by omega)⟩
  rw [fa_lt, nI_toInt (by omega)] at z
  have e : (-6 : Int32).toInt = -6 := by decide
  omega
theorem clo_se {T : List Int32} {c : Int32} {x : prT} {h : Nat} {t : Bool} (hx : x.1 = true → SE x.2.1 h t) (ho : (clo_ T c x).1 = true) : SE (clo_ T c x).2.1 h t := by
  unfold clo_ at ho ⊢
  by_cases h1 : x.1 = true
  · rw [if_pos h1] at ho ⊢
    by_cases h2 : cz_ T x.2.2 = c
    · rw [if_pos h2]
      exact hx h1
    · rw [if_neg h2] at ho
      exact absurd ho Bool.false_ne_true
  · rw [if_neg h1] at ho
    exact absurd ho Bool.false_ne_true
theorem atm_se {T : List Int32} {r h : Nat} {f : Nat → prT} (h1 : 1 ≤ h) (hf : r = 0 ∨ ∀ p, p ≤ T.length → (f p).1 = true → SE (f p).2.1 h false) (p : Nat) (ho : (atm_ T r f p).1 = true) : SE (atm_ T r f p).2.1 h false := by
  unfold atm_ at ho ⊢
  by_cases c1 : cz_ T p = 91
  · rw [if_pos c1] at ho ⊢
    by_cases c2 : r = 0
    · rw [if_pos c2] at ho
      exact absurd ho Bool.false_ne_true
    · rw [if_neg c2] at ho ⊢
      exact clo_se (fun z => (hf.resolve_left c2) _ (cz_p1 c1 (by decide)) z) ho
  · rw [if_neg c1] at ho ⊢
    by_cases c2 : lt9 (cz_ T p) = -1
    · rw [if_pos c2] at ho ⊢
      by_cases c3 : (rn_ T 4 (skp_ T p)).1 = true
      · rw [if_pos c3]
        obtain ⟨m, r1, r2⟩ := rn_v T 4 _ c3
        have b := num_b (show m < 10000 from r2)
        rw [← r1] at b
        exact SE_up h1 (SE_1 b.1 b.2)
      · rw [if_neg c3] at ho
        exact absurd ho Bool.false_ne_true
    · rw [if_neg c2]
      obtain ⟨i, hi, e⟩ := lt9_c c2
      have b := ltr_b i hi
      rw [← e] at b
      exact SE_up h1 (SE_1 b.1 b.2)
theorem fl_se {T : List Int32} {hi lo : Int32 → Bool} {u : Nat → prT} {h : Nat} {t : Bool} (hl : ∀ c, hi c = true → lo c = false) (h1 : hi (-1) = false) (h2 : lo (-1) = false) (h0 : hi 0 = false) (hu : goS T u) (o1 : ∀ c, hi c = true → op_ (-c) t t) (o2 : ∀ c, lo c = true → op_ (-c) t t) (hse : ∀ p, (u p).1 = true → SE (u p).2.1 h t) (p : Nat) (hp : p ≤ T.length) (ho : (fl_ T hi lo u p).1 = true) : SE (fl_ T hi lo u p).2.1 (h + 2) t := by
  rw [fl_eq hl h1 h2 h0 hu hp] at ho ⊢
  exact lp_se o1 (fun p z => lp_se o2 hse p z) p ho
theorem atR_se (T : List Int32) : ∀ r p, (atR T r p).1 = true → SE (atR T r p).2.1 (2 * r + 1) false
  | 0, p, ho => atm_se (Nat.le_refl _) (Or.inl rfl) p ho
  | r + 1, p, ho => atm_se (by omega) (Or.inr (fun p hp z => fl_se hlS (by decide) (by decide) (by decide) (atR_go T r) hiS_op loS_op (fun p z => atR_se T r p z) p hp z)) p ho
theorem smR_se (T : List Int32) (r p : Nat) (hp : p ≤ T.length) (ho : (smR T r p).1 = true) : SE (smR T r p).2.1 (2 * r + 3) false := fl_se hlS (by decide) (by decide) (by decide) (atR_go T r) hiS_op loS_op (fun p z => atR_se T r p z) p hp ho
theorem cm_se {T : List Int32} {s : Nat → prT} {X : List Int32} {p h : Nat} (hX : SE X (h + 1) false) (hs : ∀ p, p ≤ T.length → (s p).1 = true → SE (s p).2.1 h false) (ho : (cm_ T s X p).1 = true) : SE (cm_ T s X p).2.1 (h + 1) true := by
  unfold cm_ at ho ⊢
  by_cases c1 : isC (cz_ T p) = true
  · rw [if_pos c1] at ho ⊢
    have z := cz_lt (isC_n c1)
    by_cases c2 : (s (skp_ T p + 1)).1 = true
    · rw [if_pos c2]
      exact SE_2 (isC_op _ c1) hX (hs _ z c2)
    · rw [if_neg c2] at ho
      exact absurd ho Bool.false_ne_true
  · rw [if_neg c1] at ho
    exact absurd ho Bool.false_ne_true
theorem un_se {T : List Int32} {r h : Nat} {s u c : Nat → prT} (h1 : 16 ≤ h) (hgs : goS T s) (hs : ∀ p, p ≤ T.length → (s p).1 = true → SE (s p).2.1 15 false) (hu : r = 0 ∨ ((∀ p, (u p).1 = true → p ≤ T.length → SE (u p).2.1 h true) ∧ ∀ p, (c p).1 = true → p ≤ T.length → SE (c p).2.1 h true)) (p : Nat) (hp : p ≤ T.length) (ho : (un_ T r s u c p).1 = true) : SE (un_ T r s u c p).2.1 h true := by
  have g2 := skq_le (T := T) hp
  unfold un_ at ho ⊢
  by_cases c1 : cz_ T p = 33
  · rw [if_pos c1] at ho ⊢
    by_cases c2 : r = 0
    · rw [if_pos c2] at ho
      exact absurd ho Bool.false_ne_true
    · rw [if_neg c2] at ho ⊢
      by_cases c3 : (u (skp_ T p + 1)).1 = true
      · rw [if_pos c3]
        exact SE_n ((hu.resolve_left c2).1 _ c3 (cz_p1 c1 (by decide)))
      · rw [if_neg c3] at ho
        exact absurd ho Bool.false_ne_true
  · rw [if_neg c1] at ho ⊢
    by_cases c4 : cz_ T p = 40
    · rw [if_pos c4] at ho ⊢
      by_cases c2 : r = 0
      · rw [if_pos c2] at ho
        exact absurd ho Bool.false_ne_true
      · rw [if_neg c2] at ho ⊢
        exact clo_se (fun z => (hu.resolve_left c2).2 _ z (cz_p1 c4 (by decide))) ho
    · rw [if_neg c4] at ho ⊢
      by_cases c5 : (s (skp_ T p)).1 = true
      · rw [if_pos c5] at ho ⊢
        exact SE_up h1 (cm_se (SE_up (by decide) (hs _ g2 c5)) hs ho)
      · rw [if_neg c5] at ho
        exact absurd ho Bool.false_ne_true
theorem lpF_se2 {T : List Int32} {s : Int32 → Bool} {u : Nat → prT} {h : Nat} {t : Bool} (hg : goS T u) (s1 : s (-1) = false) (hs : ∀ c, s c = true → op_ (-c) t t) (hu : ∀ p, p ≤ T.length → (u p).1 = true → SE (u p).2.1 h t) : ∀ f X p, p ≤ T.length → SE X (h + 1) t → (lpF T s u f X p).1 = true → SE (lpF T s u f X p).2.1 (h + 1) t ∧ (lpF T s u f X p).2.2 ≤ T.length
  | 0, X, p, hp, hX, _ => ⟨hX, skq_le hp⟩
  | f + 1, X, p, hp, hX, ho => by
    unfold lpF at ho ⊢
    by_cases c1 : s (cz_ T p) = true
    · rw [if_pos c1] at ho ⊢
      have z := cz_lt (T := T) (p := p) (fun q => by rw [q, s1] at c1; exact absurd c1 (by decide))
      obtain ⟨a1, a2, a3⟩ := hg (skp_ T p + 1) z
      by_cases c2 : (u (skp_ T p + 1)).1 = true
      · rw [if_pos c2] at ho ⊢
        exact lpF_se2 hg s1 hs hu f _ _ a2 (SE_2 (hs _ c1) hX (hu _ z c2)) ho
      · rw [if_neg c2] at ho
        exact absurd ho Bool.false_ne_true
    · rw [if_neg c1]
      exact ⟨hX, skq_le hp⟩
theorem lpF_go {T : List Int32} {s : Int32 → Bool} {u : Nat → prT} (hg : goS T u) (s1 : s (-1) = false) : ∀ f X p, p ≤ T.length → p ≤ (lpF T s u f X p).2.2 ∧ (lpF T s u f X p).2.2 ≤ T.length ∧ ((lpF T s u f X p).1 = true → (lpF T s u f X p).2.1.length + p ≤ X.length + (lpF T s u f X p).2.2 ∧ X.length ≤ (lpF T s u f X p).2.1.length)
  | 0, X, p, hp => ⟨skp_ge T p, skq_le hp, fun _ => ⟨Nat.add_le_add_left (skp_ge T p) _, Nat.le_refl _⟩⟩
  | f + 1, X, p, hp => by
    have g := skp_ge T p
    have g2 := skq_le (T := T) hp
    unfold lpF
    by_cases c1 : s (cz_ T p) = true
    · rw [if_pos c1]
      have z := cz_lt (T := T) (p := p) (fun q => by rw [q, s1] at c1; exact absurd c1 (by decide))
      obtain ⟨a1, a2, a3⟩ := hg (skp_ T p + 1) z
      by_cases c2 : (u (skp_ T p + 1)).1 = true
      · rw [if_pos c2]
        have a4 := a3 c2
        obtain ⟨b1, b2, b3⟩ := lpF_go hg s1 f (X ++ (u (skp_ T p + 1)).2.1 ++ [-cz_ T p]) (u (skp_ T p + 1)).2.2 a2
        refine ⟨by omega, b2, fun q => ?_⟩
        have b4 := b3 q
        rw [List.length_append, List.length_append, List.length_singleton] at b4
        exact ⟨by omega, by omega⟩
      · rw [if_neg c2]
        exact ⟨by show p ≤ (u (skp_ T p + 1)).2.2; omega, a2, fun z => absurd z Bool.false_ne_true⟩
    · rw [if_neg c1]
      exact ⟨g, g2, fun _ => ⟨Nat.add_le_add_left g _, Nat.le_refl _⟩⟩
theorem lp_go {T : List Int32} {s : Int32 → Bool} {u : Nat → prT} (hg : goS T u) (s1 : s (-1) = false) : goS T (lp_ T s u) := by
  intro p hp
  obtain ⟨a1, a2, a3⟩ := hg p hp
  unfold lp_
  by_cases c : (u p).1 = true
  · rw [if_pos c]
    have a4 := a3 c
    obtain ⟨b1, b2, b3⟩ := lpF_go hg s1 T.length (u p).2.1 (u p).2.2 a2
    exact ⟨by omega, b2, fun q => ⟨by have := (b3 q).1; omega, by have := (b3 q).2; omega⟩⟩
  · rw [if_neg c]
    exact ⟨a1, a2, fun z => absurd z Bool.false_ne_true⟩
theorem lp_se2 {T : List Int32} {s : Int32 → Bool} {u : Nat → prT} {h : Nat} {t : Bool} (hg : goS T u) (s1 : s (-1) = false) (hs : ∀ c, s c = true → op_ (-c) t t) (hu : ∀ p, p ≤ T.length → (u p).1 = true → SE (u p).2.1 h t) (p : Nat) (hp : p ≤ T.length) (ho : (lp_ T s u p).1 = true) : SE (lp_ T s u p).2.1 (h + 1) t := by
  unfold lp_ at ho ⊢
  by_cases c : (u p).1 = true
  · rw [if_pos c] at ho ⊢
    exact (lpF_se2 hg s1 hs hu _ _ _ (hg p hp).2.1 (SE_up (Nat.le_succ h) (hu p hp c)) ho).1
  · rw [if_neg c] at ho
    exact absurd ho Bool.false_ne_true
theorem flC_se {h : Nat} (T : List Int32) (u : Nat → prT) (hg : goS T u) (hu : ∀ p, p ≤ T.length → (u p).1 = true → SE (u p).2.1 h true) (X : List Int32) (hX : SE X (h + 1) true) (p : Nat) (hp : p ≤ T.length) (ho : (flF T hiC loC u T.length 0 X p).1 = true) : SE (flF T hiC loC u T.length 0 X p).2.1 (h + 2) true := by
  have e := fl_lp hlC (by decide) (by decide) (by decide) hg T.length 0 [] X p T.length T.length (by omega) (by omega) (by omega) hp
  rw [List.nil_append, wt_0, List.append_nil, List.nil_append] at e
  rw [e] at ho ⊢
  by_cases c : (lpF T loC u T.length X p).1 = true
  · rw [if_pos c] at ho ⊢
    obtain ⟨s1, s2⟩ := lpF_se2 hg (by decide) loC_op hu T.length X p hp hX c
    exact (lpF_se2 (lp_go hg (by decide)) (by decide) hiC_op (fun p hp z => lp_se2 hg (by decide) loC_op hu p hp z) T.length _ _ s2 (SE_up (Nat.le_succ _) s1) ho).1
  · rw [if_neg c] at ho
    exact absurd ho Bool.false_ne_true
theorem cdR_se' {h : Nat} (T : List Int32) (u : Nat → prT) (hg : goS T u) (hu : ∀ p, p ≤ T.length → (u p).1 = true → SE (u p).2.1 h true) (p : Nat) (hp : p ≤ T.length) (ho : (fl_ T hiC loC u p).1 = true) : SE (fl_ T hiC loC u p).2.1 (h + 2) true := by
  unfold fl_ at ho ⊢
  by_cases c : (u p).1 = true
  · rw [if_pos c] at ho ⊢
    exact flC_se T u hg hu _ (SE_up (Nat.le_succ h) (hu p hp c)) _ (hg p hp).2.1 ho
  · rw [if_neg c] at ho
    exact absurd ho Bool.false_ne_true
theorem uR_se (T : List Int32) : ∀ r, r ≤ 6 → ∀ p, p ≤ T.length → (uR T r p).1 = true → SE (uR T r p).2.1 (2 * r + 16) true
  | 0, hr, p, hp, ho => un_se (by decide) (smR_go T 0) (fun p hp z => SE_up (by decide) (smR_se T 0 p hp z)) (Or.inl rfl) p hp ho
  | r + 1, hr, p, hp, ho => by
    refine un_se (by omega) (smR_go T (r + 1)) (fun p hp z => SE_up (by omega) (smR_se T (r + 1) p hp z)) (Or.inr ⟨fun p z hp => SE_up (by omega) (uR_se T r (by omega) p hp z), fun p z hp => ?_⟩) p hp ho
    have e := cdR_se' (h := 2 * r + 16) T (uR T r) (uR_go T r) (fun p hp z => uR_se T r (by omega) p hp z) p hp z
    exact e
theorem cb9_se {T : List Int32} {X : List Int32} {p : Nat} (hX : SE X 16 false) (hp : p ≤ T.length) (ho : (cb9_ T X p).1 = true) : SE (cb9_ T X p).2.1 30 true := by
  unfold cb9_ at ho ⊢
  by_cases c : (cm_ T (smR T 6) X p).1 = true
  · rw [if_pos c] at ho ⊢
    exact flC_se (h := 28) T (uR T 6) (uR_go T 6) (fun p hp z => uR_se T 6 (by decide) p hp z) _ (SE_up (by decide) (cm_se (h := 15) hX (fun p hp z => smR_se T 6 p hp z) c)) _ (cm_go (smR_go T 6) X hp).2.1 ho
  · rw [if_neg c] at ho
    exact absurd ho Bool.false_ne_true
theorem cb9_go {T : List Int32} {X : List Int32} {p : Nat} (hp : p ≤ T.length) : p ≤ (cb9_ T X p).2.2 ∧ (cb9_ T X p).2.2 ≤ T.length ∧ ((cb9_ T X p).1 = true → (cb9_ T X p).2.1.length + p ≤ X.length + (cb9_ T X p).2.2 ∧ X.length ≤ (cb9_ T X p).2.1.length) := by
  obtain ⟨a1, a2, a3⟩ := cm_go (smR_go T 6) X hp
  unfold cb9_
  by_cases c : (cm_ T (smR T 6) X p).1 = true
  · rw [if_pos c]
    have a4 := a3 c
    obtain ⟨b1, b2, b3⟩ := flF_go (hi := hiC) (lo := loC) (by decide) (by decide) (uR_go T 6) T.length 0 (cm_ T (smR T 6) X p).2.1 (cm_ T (smR T 6) X p).2.2 a2
    rw [wt_0] at b3
    have : ([] : List Int32).length = 0 := rfl
    exact ⟨by omega, b2, fun q => ⟨by have := (b3 q).1; omega, by have := (b3 q).2; omega⟩⟩
  · rw [if_neg c]
    exact ⟨a1, a2, fun z => absurd z Bool.false_ne_true⟩
/-- a clause is well made -/
def pcok (T : List Int32) (p : Nat) (x : pcT) : Prop := p ≤ x.2.2 ∧ x.2.2 ≤ T.length ∧ (x.1 = true → x.2.1.1.length + x.2.1.2.length + p ≤ x.2.2 ∧ 0 < x.2.1.2.length ∧ (x.2.1.1 = [] ∨ SE x.2.1.1 40 true) ∧ SE x.2.1.2 40 false)
theorem qs_ok {T : List Int32} {x : prT} {p : Nat} (h1 : p ≤ x.2.2) (h2 : x.2.2 ≤ T.length) (h3 : x.1 = true → x.2.1.length + p ≤ x.2.2 ∧ SE x.2.1 30 true) : pcok T p (qs_ T x) := by
  have g := skp_ge T x.2.2
  have g2 := skq_le (T := T) h2
  unfold qs_
  by_cases c1 : x.1 = true
  · rw [if_pos c1]
    by_cases c2 : cz_ T x.2.2 = 63
    · rw [if_pos c2]
      have z := cz_p1 c2 (by decide)
      obtain ⟨a1, a2, a3⟩ := smR_go T 6 _ z
      by_cases c3 : (smR T 6 (skp_ T x.2.2 + 1)).1 = true
      · rw [if_pos c3]
        have a4 := a3 c3
        have a5 := h3 c1
        exact ⟨by show p ≤ (smR T 6 (skp_ T x.2.2 + 1)).2.2; omega, a2, fun _ => ⟨by show x.2.1.length + (smR T 6 (skp_ T x.2.2 + 1)).2.1.length + p ≤ (smR T 6 (skp_ T x.2.2 + 1)).2.2; omega, a4.2, Or.inr (SE_up (by decide) a5.2), SE_up (by decide) (smR_se T 6 _ z c3)⟩⟩
      · rw [if_neg c3]
        exact ⟨by show p ≤ (smR T 6 (skp_ T x.2.2 + 1)).2.2; omega, a2, fun z => absurd z Bool.false_ne_true⟩
    · rw [if_neg c2]
      exact ⟨by show p ≤ skp_ T x.2.2; omega, g2, fun z => absurd z Bool.false_ne_true⟩
  · rw [if_neg c1]
    exact ⟨h1, h2, fun z => absurd z Bool.false_ne_true⟩
theorem cl9_ok {T : List Int32} {p : Nat} (hp : p ≤ T.length) : pcok T p (cl9 T p) := by
  have g := skp_ge T p
  have g2 := skq_le (T := T) hp
  unfold cl9
  by_cases c1 : cz_ T p = 33 ∨ cz_ T p = 40
  · rw [if_pos c1]
    obtain ⟨a1, a2, a3⟩ := cdR_go T 6 _ g2
    exact qs_ok (by omega) a2 (fun z => ⟨by have := (a3 z).1; omega, cdR_se' (h := 28) T (uR T 6) (uR_go T 6) (fun p hp z => uR_se T 6 (by decide) p hp z) _ g2 z⟩)
  · rw [if_neg c1]
    obtain ⟨a1, a2, a3⟩ := smR_go T 6 _ g2
    by_cases c2 : (smR T 6 (skp_ T p)).1 = true
    · rw [if_pos c2]
      have a4 := a3 c2
      have a5 := smR_se T 6 _ g2 c2
      by_cases c3 : isC (cz_ T (smR T 6 (skp_ T p)).2.2) = true
      · rw [if_pos c3]
        obtain ⟨b1, b2, b3⟩ := cb9_go (X := (smR T 6 (skp_ T p)).2.1) a2
        exact qs_ok (by omega) b2 (fun z => ⟨by have := (b3 z).1; omega, cb9_se (SE_up (by decide) a5) a2 z⟩)
      · rw [if_neg c3]
        have g3 := skp_ge T (smR T 6 (skp_ T p)).2.2
        exact ⟨by show p ≤ skp_ T (smR T 6 (skp_ T p)).2.2; omega, skq_le a2, fun _ => ⟨by show 0 + (smR T 6 (skp_ T p)).2.1.length + p ≤ skp_ T (smR T 6 (skp_ T p)).2.2; omega, a4.2, Or.inl rfl, SE_up (by decide) a5⟩⟩
    · rw [if_neg c2]
      exact ⟨by show p ≤ (smR T 6 (skp_ T p)).2.2; omega, a2, fun z => absurd z Bool.false_ne_true⟩
theorem cla_ok {T : List Int32} {p : Nat} (hp : p ≤ T.length) : pcok T p (cla_ T p) ∧ ((cla_ T p).1 = true → p + 3 ≤ (cla_ T p).2.2) := by
  have g := skp_ge T p
  have g2 := skq_le (T := T) hp
  unfold cla_
  by_cases c1 : cz_ T p = 121
  · rw [if_pos c1]
    have z := cz_p1 c1 (by decide)
    have g3 := skp_ge T (skp_ T p + 1)
    by_cases c2 : cz_ T (skp_ T p + 1) = 58
    · rw [if_pos c2]
      have z2 := cz_p1 c2 (by decide)
      obtain ⟨a1, a2, a3⟩ := cl9_ok z2
      exact ⟨⟨by omega, a2, fun q => ⟨by have := (a3 q).1; omega, (a3 q).2⟩⟩, fun q => by have := a3 q; omega⟩
    · rw [if_neg c2]
      exact ⟨⟨by show p ≤ skp_ T (skp_ T p + 1); omega, skq_le z, fun z => absurd z Bool.false_ne_true⟩, fun z => absurd z Bool.false_ne_true⟩
  · rw [if_neg c1]
    exact ⟨⟨g, g2, fun z => absurd z Bool.false_ne_true⟩, fun z => absurd z Bool.false_ne_true⟩

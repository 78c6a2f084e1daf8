/-! THE ROWS OF V: an instruction each -/
section SXR
variable {E : sxE} {M : sxM} {R : Room} {mc ms ce sl pc : Nat} {ls : List (Nat × Value)} {st : List Value} {w : hpW} {Q : Option Value → hpW → Prop}
/-- from the walk to the contract -/
theorem C_of {d : Nat} {av : List Value} (hp : plainName M.1.cls = true) (ha : (lg_sl (av.map (sx_v E))).length ≤ M.2.2.1) (k : V E M (sx_rm d mc ms) mc ms 0 0 0 (lv_args 0 av) [] w Q) : sx_C E M d mc ms av w Q := by
  refine Met.ofW (cc := M.2.1) (maxL := M.2.2.1) (ret := M.2.2.2) hp rfl ?_
  intro p e s m args below meth c s₁ B hml hv
  obtain ⟨rfl, hP, hK⟩ := hv
  obtain ⟨la, hent, hL⟩ := sx_ent E m av M.2.2.1 ha
  rw [hent]
  exact k p e s m _ below meth c s.heap [] la ⟨⟨B.exec, B.bytes, hml, B.returns, B.notSynchronized, findClass_of_methodNamed B.named, (name_of_methodNamed B.named B.method).1, hK⟩, hP, fun _ _ => rfl, (fun q h => by cases h), hL⟩
/-- fewer locals are told -/
def sx_sub : List (Nat × Value) → List (Nat × Value) → Prop
  | [], _ => True
  | q :: r, l => l.lookup q.1 = some q.2 ∧ sx_sub r l
theorem sx_sub_at : ∀ {l' l : List (Nat × Value)}, sx_sub l' l → ∀ i v, l'.lookup i = some v → l.lookup i = some v
  | [], _, _, i, v, h => by simp at h
  | q :: r, l, hs, i, v, h => by
    obtain ⟨k, x⟩ := q
    rw [List.lookup_cons] at h
    by_cases hk : i == k
    · rw [hk] at h
      simp at h
      rw [eq_of_beq hk, ← h]
      exact hs.1
    · simp [hk] at h
      exact sx_sub_at hs.2 i v h
theorem V_sub {ls' : List (Nat × Value)} (h : sx_sub ls' ls) (k : V E M R mc ms ce sl pc ls' st w Q) : V E M R mc ms ce sl pc ls st w Q := fun p e s m args below meth c H locs la g => k p e s m args below meth c H locs la ⟨g.1, g.2.1, g.2.2.1, g.2.2.2.1, g.2.2.2.2.1, g.2.2.2.2.2.1, fun i v hv => g.2.2.2.2.2.2 i v (sx_sub_at h i v hv)⟩
theorem V_wide {ce' sl' : Nat} (h1 : ce ≤ ce') (h2 : sl ≤ sl') (k : V E M R mc ms ce' sl' pc ls st w Q) : V E M R mc ms ce sl pc ls st w Q := fun p e s m args below meth c H locs la g => W.widen h1 h2 (k p e s m args below meth c H locs la g)
theorem V_eq {pc' : Nat} {ls' : List (Nat × Value)} {st' : List Value} {w' : hpW} (h1 : pc = pc') (h2 : ls = ls') (h3 : st = st') (h4 : w = w') (k : V E M R mc ms ce sl pc' ls' st' w' Q) : V E M R mc ms ce sl pc ls st w Q := by subst h1 h2 h3 h4; exact k
/-- a store into the locals -/
def sx_c1 (ls : List (Nat × Value)) (i : Nat) : Bool := match i with
  | 0 => true
  | j + 1 => match ls.lookup j with
    | some v => v.category == 1
    | none => true
theorem sx_L.store1 {la : Array Slot} {n i : Nat} {v : Value} (h : sx_L E la n ls) (hi : i < n) (hc : v.category = 1) (h1 : sx_c1 ls i = true) : ∃ la', storeLocals la i (sx_v E v) = some la' ∧ sx_L E la' n ((i, v) :: ls) := by
  have hc' : (sx_v E v).category = 1 := by rw [sx_v_cat]; exact hc
  obtain ⟨la', e1, h2⟩ := lv_store1 (l := []) (v := sx_v E v) ⟨h.1, h.2.1, fun q hq => by cases hq⟩ hi hc'
  refine ⟨la', e1, h2.1, h2.2.1, fun j x hx => ?_⟩
  rw [List.lookup_cons] at hx
  by_cases hj : j == i
  · rw [hj] at hx
    simp at hx
    rw [eq_of_beq hj, ← hx]
    exact h2.2.2 (i, sx_v E v) (by simp)
  · simp [hj] at hx
    obtain ⟨la2, e2, h3⟩ := lv_store1 (l := [(j, sx_v E x)]) (v := sx_v E v) ⟨h.1, h.2.1, fun q hq => by rw [List.mem_singleton.mp hq]; exact h.2.2 j x hx⟩ hi hc'
    have e3 : la2 = la' := Option.some.inj (e2.symm.trans e1)
    subst e3
    refine h3.2.2 (j, sx_v E x) (List.mem_cons_of_mem _ (List.mem_filter.mpr ⟨List.mem_singleton.mpr rfl, ?_⟩))
    have hne : (j == i) = false := by simpa using hj
    simp only [hne, Bool.not_false, Bool.true_and, Bool.not_eq_true', Bool.and_eq_false_iff]
    by_cases hs : j + 1 = i
    · right
      subst hs
      have h5 : (match ls.lookup j with | some v => v.category == 1 | none => true) = true := h1
      rw [hx] at h5
      have h6 : x.category = 1 := by simpa using h5
      rw [sx_v_cat, h6]
      rfl
    · left
      simpa using hs
theorem sx_L.store2 {la : Array Slot} {n i : Nat} {v : Value} (h : sx_L E la n ls) (hi : i + 1 < n) (hc : v.category = 2) (h1 : sx_c1 ls i = true) : ∃ la', storeLocals la i (sx_v E v) = some la' ∧ sx_L E la' n ((i, v) :: ls.filter (fun q => !(q.1 == i + 1))) := by
  have hc' : (sx_v E v).category = 2 := by rw [sx_v_cat]; exact hc
  obtain ⟨la', e1, h2⟩ := lv_store2 (l := []) (v := sx_v E v) ⟨h.1, h.2.1, fun q hq => by cases hq⟩ hi hc'
  have hlk : ∀ (l : List (Nat × Value)) (j : Nat) (x : Value), (l.filter (fun q => !(q.1 == i + 1))).lookup j = some x → l.lookup j = some x ∧ ¬ j = i + 1 := by
    intro l
    induction l with
    | nil => intro j x hx; simp at hx
    | cons q r ih =>
      obtain ⟨k, y⟩ := q
      intro j x hx
      by_cases hk : k = i + 1
      · subst hk
        rw [List.filter_cons_of_neg (by simp)] at hx
        obtain ⟨g1, g2⟩ := ih j x hx
        refine ⟨?_, g2⟩
        rw [List.lookup_cons, show (j == i + 1) = false by simpa using g2]
        exact g1
      · rw [List.filter_cons_of_pos (by simpa using hk), List.lookup_cons] at hx
        rw [List.lookup_cons]
        by_cases hj : j == k
        · rw [hj] at hx ⊢
          exact ⟨hx, fun q => hk (by rw [← eq_of_beq hj]; exact q)⟩
        · simp only [hj] at hx ⊢
          exact ih j x hx
  refine ⟨la', e1, h2.1, h2.2.1, fun j x hx => ?_⟩
  rw [List.lookup_cons] at hx
  by_cases hj : j == i
  · rw [hj] at hx
    simp at hx
    rw [eq_of_beq hj, ← hx]
    exact h2.2.2 (i, sx_v E v) (by simp)
  · simp only [hj] at hx
    obtain ⟨hx2, hne1⟩ := hlk ls j x hx
    obtain ⟨la2, e2, h3⟩ := lv_store2 (l := [(j, sx_v E x)]) (v := sx_v E v) ⟨h.1, h.2.1, fun q hq => by rw [List.mem_singleton.mp hq]; exact h.2.2 j x hx2⟩ hi hc'
    have e3 : la2 = la' := Option.some.inj (e2.symm.trans e1)
    subst e3
    refine h3.2.2 (j, sx_v E x) (List.mem_cons_of_mem _ (List.mem_filter.mpr ⟨List.mem_singleton.mpr rfl, ?_⟩))
    have hne : (j == i) = false := by simpa using hj
    have hne2 : (j == i + 1) = false := by simpa using hne1
    simp only [hne, hne2, Bool.not_false, Bool.true_and, Bool.not_eq_true', Bool.and_eq_false_iff]
    by_cases hs : j + 1 = i
    · right
      subst hs
      have h5 : (match ls.lookup j with | some v => v.category == 1 | none => true) = true := h1
      rw [hx2] at h5
      have h6 : x.category = 1 := by simpa using h5
      rw [sx_v_cat, h6]
      rfl
    · left
      simpa using hs
theorem V_iadd {x y : Int32} (hd : decode M.2.1 pc = .ok (.iadd, 1))  (k : V E M R mc ms ce sl (pc + 1) ls (.int (x + y) :: st) w Q) : V E M R mc ms ce sl pc ls (.int y :: .int x :: st) w Q := fun p e s m args below meth c H locs la g => lv_iadd g.1.1 g.1.2.1 hd (k p e s m args below meth c H locs la g)
theorem V_isub {x y : Int32} (hd : decode M.2.1 pc = .ok (.isub, 1))  (k : V E M R mc ms ce sl (pc + 1) ls (.int (x - y) :: st) w Q) : V E M R mc ms ce sl pc ls (.int y :: .int x :: st) w Q := fun p e s m args below meth c H locs la g => lv_isub g.1.1 g.1.2.1 hd (k p e s m args below meth c H locs la g)
theorem V_imul {x y : Int32} (hd : decode M.2.1 pc = .ok (.imul, 1))  (k : V E M R mc ms ce sl (pc + 1) ls (.int (x * y) :: st) w Q) : V E M R mc ms ce sl pc ls (.int y :: .int x :: st) w Q := fun p e s m args below meth c H locs la g => lv_imul g.1.1 g.1.2.1 hd (k p e s m args below meth c H locs la g)
theorem V_iand {x y : Int32} (hd : decode M.2.1 pc = .ok (.iand, 1))  (k : V E M R mc ms ce sl (pc + 1) ls (.int (x &&& y) :: st) w Q) : V E M R mc ms ce sl pc ls (.int y :: .int x :: st) w Q := fun p e s m args below meth c H locs la g => lv_iand g.1.1 g.1.2.1 hd (k p e s m args below meth c H locs la g)
theorem V_ior {x y : Int32} (hd : decode M.2.1 pc = .ok (.ior, 1))  (k : V E M R mc ms ce sl (pc + 1) ls (.int (x ||| y) :: st) w Q) : V E M R mc ms ce sl pc ls (.int y :: .int x :: st) w Q := fun p e s m args below meth c H locs la g => lv_ior g.1.1 g.1.2.1 hd (k p e s m args below meth c H locs la g)
theorem V_ixor {x y : Int32} (hd : decode M.2.1 pc = .ok (.ixor, 1))  (k : V E M R mc ms ce sl (pc + 1) ls (.int (x ^^^ y) :: st) w Q) : V E M R mc ms ce sl pc ls (.int y :: .int x :: st) w Q := fun p e s m args below meth c H locs la g => lv_ixor g.1.1 g.1.2.1 hd (k p e s m args below meth c H locs la g)
theorem V_ishl {x y : Int32} (hd : decode M.2.1 pc = .ok (.ishl, 1))  (k : V E M R mc ms ce sl (pc + 1) ls (.int (x <<< (y &&& 31)) :: st) w Q) : V E M R mc ms ce sl pc ls (.int y :: .int x :: st) w Q := fun p e s m args below meth c H locs la g => lv_ishl g.1.1 g.1.2.1 hd (k p e s m args below meth c H locs la g)
theorem V_ishr {x y : Int32} (hd : decode M.2.1 pc = .ok (.ishr, 1))  (k : V E M R mc ms ce sl (pc + 1) ls (.int (x >>> (y &&& 31)) :: st) w Q) : V E M R mc ms ce sl pc ls (.int y :: .int x :: st) w Q := fun p e s m args below meth c H locs la g => lv_ishr g.1.1 g.1.2.1 hd (k p e s m args below meth c H locs la g)
theorem V_iushr {x y : Int32} (hd : decode M.2.1 pc = .ok (.iushr, 1))  (k : V E M R mc ms ce sl (pc + 1) ls (.int ((x.toUInt32 >>> (y.toUInt32 &&& Int32.toUInt32 31)).toInt32) :: st) w Q) : V E M R mc ms ce sl pc ls (.int y :: .int x :: st) w Q := fun p e s m args below meth c H locs la g => lv_iushr g.1.1 g.1.2.1 hd rfl (k p e s m args below meth c H locs la g)
theorem V_idiv {x y : Int32} (hd : decode M.2.1 pc = .ok (.idiv, 1)) (hne : ¬ y = 0) (k : V E M R mc ms ce sl (pc + 1) ls (.int (x / y) :: st) w Q) : V E M R mc ms ce sl pc ls (.int y :: .int x :: st) w Q := fun p e s m args below meth c H locs la g => lv_idiv g.1.1 g.1.2.1 hd hne (k p e s m args below meth c H locs la g)
theorem V_irem {x y : Int32} (hd : decode M.2.1 pc = .ok (.irem, 1)) (hne : ¬ y = 0) (k : V E M R mc ms ce sl (pc + 1) ls (.int (x - x / y * y) :: st) w Q) : V E M R mc ms ce sl pc ls (.int y :: .int x :: st) w Q := fun p e s m args below meth c H locs la g => lv_irem g.1.1 g.1.2.1 hd hne (k p e s m args below meth c H locs la g)
theorem V_ineg {x : Int32} (hd : decode M.2.1 pc = .ok (.ineg, 1))  (k : V E M R mc ms ce sl (pc + 1) ls (.int (-x) :: st) w Q) : V E M R mc ms ce sl pc ls (.int x :: st) w Q := fun p e s m args below meth c H locs la g => lv_ineg g.1.1 g.1.2.1 hd (k p e s m args below meth c H locs la g)
theorem V_ladd {x y : Int64} (hd : decode M.2.1 pc = .ok (.ladd, 1))  (k : V E M R mc ms ce sl (pc + 1) ls (.long (x + y) :: st) w Q) : V E M R mc ms ce sl pc ls (.long y :: .long x :: st) w Q := fun p e s m args below meth c H locs la g => lv_ladd g.1.1 g.1.2.1 hd (k p e s m args below meth c H locs la g)
theorem V_lsub {x y : Int64} (hd : decode M.2.1 pc = .ok (.lsub, 1))  (k : V E M R mc ms ce sl (pc + 1) ls (.long (x - y) :: st) w Q) : V E M R mc ms ce sl pc ls (.long y :: .long x :: st) w Q := fun p e s m args below meth c H locs la g => lv_lsub g.1.1 g.1.2.1 hd (k p e s m args below meth c H locs la g)
theorem V_lmul {x y : Int64} (hd : decode M.2.1 pc = .ok (.lmul, 1))  (k : V E M R mc ms ce sl (pc + 1) ls (.long (x * y) :: st) w Q) : V E M R mc ms ce sl pc ls (.long y :: .long x :: st) w Q := fun p e s m args below meth c H locs la g => lv_lmul g.1.1 g.1.2.1 hd (k p e s m args below meth c H locs la g)
theorem V_land {x y : Int64} (hd : decode M.2.1 pc = .ok (.land, 1))  (k : V E M R mc ms ce sl (pc + 1) ls (.long (x &&& y) :: st) w Q) : V E M R mc ms ce sl pc ls (.long y :: .long x :: st) w Q := fun p e s m args below meth c H locs la g => lv_land g.1.1 g.1.2.1 hd (k p e s m args below meth c H locs la g)
theorem V_lor {x y : Int64} (hd : decode M.2.1 pc = .ok (.lor, 1))  (k : V E M R mc ms ce sl (pc + 1) ls (.long (x ||| y) :: st) w Q) : V E M R mc ms ce sl pc ls (.long y :: .long x :: st) w Q := fun p e s m args below meth c H locs la g => lv_lor g.1.1 g.1.2.1 hd (k p e s m args below meth c H locs la g)
theorem V_ldiv {x y : Int64} (hd : decode M.2.1 pc = .ok (.ldiv, 1)) (hne : ¬ y = 0) (k : V E M R mc ms ce sl (pc + 1) ls (.long (x / y) :: st) w Q) : V E M R mc ms ce sl pc ls (.long y :: .long x :: st) w Q := fun p e s m args below meth c H locs la g => lv_ldiv g.1.1 g.1.2.1 hd hne (k p e s m args below meth c H locs la g)
theorem V_lrem {x y : Int64} (hd : decode M.2.1 pc = .ok (.lrem, 1)) (hne : ¬ y = 0) (k : V E M R mc ms ce sl (pc + 1) ls (.long (x - x / y * y) :: st) w Q) : V E M R mc ms ce sl pc ls (.long y :: .long x :: st) w Q := fun p e s m args below meth c H locs la g => lv_lrem g.1.1 g.1.2.1 hd hne (k p e s m args below meth c H locs la g)
theorem V_i2l {x : Int32} (hd : decode M.2.1 pc = .ok (.i2l, 1))  (k : V E M R mc ms ce sl (pc + 1) ls (.long x.toInt64 :: st) w Q) : V E M R mc ms ce sl pc ls (.int x :: st) w Q := fun p e s m args below meth c H locs la g => lv_i2l g.1.1 g.1.2.1 hd rfl (k p e s m args below meth c H locs la g)
theorem V_l2i {x : Int64} (hd : decode M.2.1 pc = .ok (.l2i, 1))  (k : V E M R mc ms ce sl (pc + 1) ls (.int x.toInt32 :: st) w Q) : V E M R mc ms ce sl pc ls (.long x :: st) w Q := fun p e s m args below meth c H locs la g => lv_l2i g.1.1 g.1.2.1 hd rfl (k p e s m args below meth c H locs la g)
theorem V_i2c {x : Int32} (hd : decode M.2.1 pc = .ok (.i2c, 1))  (k : V E M R mc ms ce sl (pc + 1) ls (.int (x.toUInt32 % 65536).toInt32 :: st) w Q) : V E M R mc ms ce sl pc ls (.int x :: st) w Q := fun p e s m args below meth c H locs la g => lv_i2c g.1.1 g.1.2.1 hd rfl (k p e s m args below meth c H locs la g)
theorem V_lushr {x : Int64} {y : Int32} (hd : decode M.2.1 pc = .ok (.lushr, 1))  (k : V E M R mc ms ce sl (pc + 1) ls (.long (x.toUInt64 >>> (y.toInt64.toUInt64 &&& Int64.toUInt64 63)).toInt64 :: st) w Q) : V E M R mc ms ce sl pc ls (.int y :: .long x :: st) w Q := fun p e s m args below meth c H locs la g => lv_lushr g.1.1 g.1.2.1 hd rfl (k p e s m args below meth c H locs la g)
theorem V_lshl {x : Int64} {y : Int32} (hd : decode M.2.1 pc = .ok (.lshl, 1))  (k : V E M R mc ms ce sl (pc + 1) ls (.long (x <<< (y.toInt64 &&& 63)) :: st) w Q) : V E M R mc ms ce sl pc ls (.int y :: .long x :: st) w Q := fun p e s m args below meth c H locs la g => lv_lshl g.1.1 g.1.2.1 hd rfl (k p e s m args below meth c H locs la g)
theorem V_iconst {n : Int} {v : Int32} (hd : decode M.2.1 pc = .ok (.iconst n, 1)) (hv : Int32.ofInt n = v) (k : V E M R mc ms ce sl (pc + 1) ls (.int v :: st) w Q) : V E M R mc ms ce sl pc ls (st) w Q := fun p e s m args below meth c H locs la g => lv_iconst g.1.1 g.1.2.1 hd hv (k p e s m args below meth c H locs la g)
theorem V_bipush {n : Int} {v : Int32} (hd : decode M.2.1 pc = .ok (.bipush n, 2)) (hv : (Int8.ofInt n).toInt32 = v) (k : V E M R mc ms ce sl (pc + 2) ls (.int v :: st) w Q) : V E M R mc ms ce sl pc ls (st) w Q := fun p e s m args below meth c H locs la g => lv_bipush g.1.1 g.1.2.1 hd hv (k p e s m args below meth c H locs la g)
theorem V_sipush {n : Int} {v : Int32} (hd : decode M.2.1 pc = .ok (.sipush n, 3)) (hv : (Int16.ofInt n).toInt32 = v) (k : V E M R mc ms ce sl (pc + 3) ls (.int v :: st) w Q) : V E M R mc ms ce sl pc ls (st) w Q := fun p e s m args below meth c H locs la g => lv_sipush g.1.1 g.1.2.1 hd hv (k p e s m args below meth c H locs la g)
theorem V_lconst {n : Fin 2} {v : Int64} (hd : decode M.2.1 pc = .ok (.lconst n, 1)) (hv : Int64.ofNat (n : Nat) = v) (k : V E M R mc ms ce sl (pc + 1) ls (.long v :: st) w Q) : V E M R mc ms ce sl pc ls (st) w Q := fun p e s m args below meth c H locs la g => lv_lconst g.1.1 g.1.2.1 hd hv (k p e s m args below meth c H locs la g)
theorem V_null  (hd : decode M.2.1 pc = .ok (.aconst_null, 1))  (k : V E M R mc ms ce sl (pc + 1) ls (.null :: st) w Q) : V E M R mc ms ce sl pc ls (st) w Q := fun p e s m args below meth c H locs la g => lv_null g.1.1 g.1.2.1 hd (k p e s m args below meth c H locs la g)
theorem V_dup {va : Value} (hd : decode M.2.1 pc = .ok (.dup, 1)) (h1 : va.category = 1) (k : V E M R mc ms ce sl (pc + 1) ls (va :: va :: st) w Q) : V E M R mc ms ce sl pc ls (va :: st) w Q := fun p e s m args below meth c H locs la g => lv_dup g.1.1 g.1.2.1 hd (by rw [sx_v_cat]; exact h1) (k p e s m args below meth c H locs la g)
theorem V_dup_x1 {va vb : Value} (hd : decode M.2.1 pc = .ok (.dup_x1, 1)) (h1 : va.category = 1) (h2 : vb.category = 1) (k : V E M R mc ms ce sl (pc + 1) ls (va :: vb :: va :: st) w Q) : V E M R mc ms ce sl pc ls (va :: vb :: st) w Q := fun p e s m args below meth c H locs la g => lv_dup_x1 g.1.1 g.1.2.1 hd (by rw [sx_v_cat]; exact h1) (by rw [sx_v_cat]; exact h2) (k p e s m args below meth c H locs la g)
theorem V_dup2 {va vb : Value} (hd : decode M.2.1 pc = .ok (.dup2, 1)) (h1 : va.category = 1) (h2 : vb.category = 1) (k : V E M R mc ms ce sl (pc + 1) ls (va :: vb :: va :: vb :: st) w Q) : V E M R mc ms ce sl pc ls (va :: vb :: st) w Q := fun p e s m args below meth c H locs la g => lv_dup2_11 g.1.1 g.1.2.1 hd (by rw [sx_v_cat]; exact h1) (by rw [sx_v_cat]; exact h2) (k p e s m args below meth c H locs la g)
theorem V_pop {va : Value} (hd : decode M.2.1 pc = .ok (.pop, 1)) (h1 : va.category = 1) (k : V E M R mc ms ce sl (pc + 1) ls (st) w Q) : V E M R mc ms ce sl pc ls (va :: st) w Q := fun p e s m args below meth c H locs la g => lv_pop g.1.1 g.1.2.1 hd (by rw [sx_v_cat]; exact h1) (k p e s m args below meth c H locs la g)
theorem V_ldc {i : Nat} {v : Int32} (hd : decode M.2.1 pc = .ok (.ldc i, 2)) (hl : sx_w (.constant M.1.cls i v)) (k : V E M R mc ms ce sl (pc + 2) ls (.int v :: st) w Q) : V E M R mc ms ce sl pc ls (st) w Q := fun p e s m args below meth c H locs la g => lv_ldc g.1.1 g.1.2.1 g.1.2.2.2.2.2.1 (g.1.2.2.2.2.2.2.2.1 _ hl _) hd (k p e s m args below meth c H locs la g)
theorem V_ldcw {i : Nat} {v : Int32} (hd : decode M.2.1 pc = .ok (.ldc_w i, 3)) (hl : sx_w (.constant M.1.cls i v)) (k : V E M R mc ms ce sl (pc + 3) ls (.int v :: st) w Q) : V E M R mc ms ce sl pc ls (st) w Q := fun p e s m args below meth c H locs la g => lv_ldcw g.1.1 g.1.2.1 g.1.2.2.2.2.2.1 (g.1.2.2.2.2.2.2.2.1 _ hl _) hd (k p e s m args below meth c H locs la g)
theorem V_ldc2 {i : Nat} {v : Int64} (hd : decode M.2.1 pc = .ok (.ldc2_w i, 3)) (hl : sx_w (.constantLong M.1.cls i v)) (k : V E M R mc ms ce sl (pc + 3) ls (.long v :: st) w Q) : V E M R mc ms ce sl pc ls (st) w Q := fun p e s m args below meth c H locs la g => lv_ldc2 g.1.1 g.1.2.1 g.1.2.2.2.2.2.1 (g.1.2.2.2.2.2.2.2.1 _ hl _) hd (k p e s m args below meth c H locs la g)
theorem V_iload {i : Nat} {x : Int32} (hd : decode M.2.1 pc = .ok (.iload i, 2)) (hl : ls.lookup i = some (.int x)) (k : V E M R mc ms ce sl (pc + 2) ls (.int x :: st) w Q) : V E M R mc ms ce sl pc ls st w Q := fun p e s m args below meth c H locs la g => lv_iload g.1.1 g.1.2.1 hd (g.2.2.2.2.2.2 _ _ hl) (k p e s m args below meth c H locs la g)
theorem V_iload_n {j : Fin 4} {i : Nat} {x : Int32} (hd : decode M.2.1 pc = .ok (.iload_n j, 1)) (hi : (j : Nat) = i) (hl : ls.lookup i = some (.int x)) (k : V E M R mc ms ce sl (pc + 1) ls (.int x :: st) w Q) : V E M R mc ms ce sl pc ls st w Q := fun p e s m args below meth c H locs la g => lv_iload_n g.1.1 g.1.2.1 hd hi (g.2.2.2.2.2.2 _ _ hl) (k p e s m args below meth c H locs la g)
theorem V_lload {i : Nat} {x : Int64} (hd : decode M.2.1 pc = .ok (.lload i, 2)) (hl : ls.lookup i = some (.long x)) (k : V E M R mc ms ce sl (pc + 2) ls (.long x :: st) w Q) : V E M R mc ms ce sl pc ls st w Q := fun p e s m args below meth c H locs la g => lv_lload g.1.1 g.1.2.1 hd (g.2.2.2.2.2.2 _ _ hl) (k p e s m args below meth c H locs la g)
theorem V_lload_n {j : Fin 4} {i : Nat} {x : Int64} (hd : decode M.2.1 pc = .ok (.lload_n j, 1)) (hi : (j : Nat) = i) (hl : ls.lookup i = some (.long x)) (k : V E M R mc ms ce sl (pc + 1) ls (.long x :: st) w Q) : V E M R mc ms ce sl pc ls st w Q := fun p e s m args below meth c H locs la g => lv_lload_n g.1.1 g.1.2.1 hd hi (g.2.2.2.2.2.2 _ _ hl) (k p e s m args below meth c H locs la g)
theorem V_aload {i : Nat} {x : Nat} (hd : decode M.2.1 pc = .ok (.aload i, 2)) (hl : ls.lookup i = some (.ref x)) (k : V E M R mc ms ce sl (pc + 2) ls (.ref x :: st) w Q) : V E M R mc ms ce sl pc ls st w Q := fun p e s m args below meth c H locs la g => lv_aload g.1.1 g.1.2.1 hd (g.2.2.2.2.2.2 _ _ hl) (k p e s m args below meth c H locs la g)
theorem V_aload_n {j : Fin 4} {i : Nat} {x : Nat} (hd : decode M.2.1 pc = .ok (.aload_n j, 1)) (hi : (j : Nat) = i) (hl : ls.lookup i = some (.ref x)) (k : V E M R mc ms ce sl (pc + 1) ls (.ref x :: st) w Q) : V E M R mc ms ce sl pc ls st w Q := fun p e s m args below meth c H locs la g => lv_aload_n g.1.1 g.1.2.1 hd hi (g.2.2.2.2.2.2 _ _ hl) (k p e s m args below meth c H locs la g)
theorem V_istore {i : Nat} {x : Int32} (hd : decode M.2.1 pc = .ok (.istore i, 2)) (hn : i < M.2.2.1) (h1 : sx_c1 ls i = true) (k : V E M R mc ms ce sl (pc + 2) ((i, .int x) :: ls) st w Q) : V E M R mc ms ce sl pc ls (.int x :: st) w Q := by
  intro p e s m args below meth c H locs la g
  obtain ⟨la', e1, h2⟩ := g.2.2.2.2.store1 (v := .int x) hn rfl h1
  intro T hT X
  obtain ⟨t, a1, b1⟩ := k p e s m args below meth c H locs la' ⟨g.1, g.2.1, g.2.2.1, g.2.2.2.1, h2⟩ T hT X
  refine ⟨t, ?_, b1⟩
  have e1 : storeLocals la _ (.int x) = some la' := e1
  have hx := g.1.1
  have hb := g.1.2.1
  show Steps p.tables e below (T.setTop (F0 m pc la (.int x :: st.map (sx_v E)))) t
  jvm_step X.here [X.here.top, hx, hb, hd, e1]
  first | exact a1 | exact ⟨rfl, a1⟩
theorem V_istore_n {j : Fin 4} {i : Nat} {x : Int32} (hd : decode M.2.1 pc = .ok (.istore_n j, 1)) (hi : (j : Nat) = i) (hn : i < M.2.2.1) (h1 : sx_c1 ls i = true) (k : V E M R mc ms ce sl (pc + 1) ((i, .int x) :: ls) st w Q) : V E M R mc ms ce sl pc ls (.int x :: st) w Q := by
  subst hi
  intro p e s m args below meth c H locs la g
  obtain ⟨la', e1, h2⟩ := g.2.2.2.2.store1 (v := .int x) hn rfl h1
  intro T hT X
  obtain ⟨t, a1, b1⟩ := k p e s m args below meth c H locs la' ⟨g.1, g.2.1, g.2.2.1, g.2.2.2.1, h2⟩ T hT X
  refine ⟨t, ?_, b1⟩
  have e1 : storeLocals la _ (.int x) = some la' := e1
  have hx := g.1.1
  have hb := g.1.2.1
  show Steps p.tables e below (T.setTop (F0 m pc la (.int x :: st.map (sx_v E)))) t
  jvm_step X.here [X.here.top, hx, hb, hd, e1]
  first | exact a1 | exact ⟨rfl, a1⟩
theorem V_astore {i : Nat} {x : Nat} (hd : decode M.2.1 pc = .ok (.astore i, 2)) (hn : i < M.2.2.1) (h1 : sx_c1 ls i = true) (k : V E M R mc ms ce sl (pc + 2) ((i, .ref x) :: ls) st w Q) : V E M R mc ms ce sl pc ls (.ref x :: st) w Q := by
  intro p e s m args below meth c H locs la g
  obtain ⟨la', e1, h2⟩ := g.2.2.2.2.store1 (v := .ref x) hn rfl h1
  intro T hT X
  obtain ⟨t, a1, b1⟩ := k p e s m args below meth c H locs la' ⟨g.1, g.2.1, g.2.2.1, g.2.2.2.1, h2⟩ T hT X
  refine ⟨t, ?_, b1⟩
  have e1 : storeLocals la _ (.ref (sx_ad E x)) = some la' := e1
  have hx := g.1.1
  have hb := g.1.2.1
  show Steps p.tables e below (T.setTop (F0 m pc la (.ref (sx_ad E x) :: st.map (sx_v E)))) t
  jvm_step X.here [X.here.top, hx, hb, hd, e1]
  first | exact a1 | exact ⟨rfl, a1⟩
theorem V_astore_n {j : Fin 4} {i : Nat} {x : Nat} (hd : decode M.2.1 pc = .ok (.astore_n j, 1)) (hi : (j : Nat) = i) (hn : i < M.2.2.1) (h1 : sx_c1 ls i = true) (k : V E M R mc ms ce sl (pc + 1) ((i, .ref x) :: ls) st w Q) : V E M R mc ms ce sl pc ls (.ref x :: st) w Q := by
  subst hi
  intro p e s m args below meth c H locs la g
  obtain ⟨la', e1, h2⟩ := g.2.2.2.2.store1 (v := .ref x) hn rfl h1
  intro T hT X
  obtain ⟨t, a1, b1⟩ := k p e s m args below meth c H locs la' ⟨g.1, g.2.1, g.2.2.1, g.2.2.2.1, h2⟩ T hT X
  refine ⟨t, ?_, b1⟩
  have e1 : storeLocals la _ (.ref (sx_ad E x)) = some la' := e1
  have hx := g.1.1
  have hb := g.1.2.1
  show Steps p.tables e below (T.setTop (F0 m pc la (.ref (sx_ad E x) :: st.map (sx_v E)))) t
  jvm_step X.here [X.here.top, hx, hb, hd, e1]
  first | exact a1 | exact ⟨rfl, a1⟩
theorem V_lstore {i : Nat} {x : Int64} (hd : decode M.2.1 pc = .ok (.lstore i, 2)) (hn : i + 1 < M.2.2.1) (h1 : sx_c1 ls i = true) (k : V E M R mc ms ce sl (pc + 2) ((i, .long x) :: ls.filter (fun q => !(q.1 == i + 1))) st w Q) : V E M R mc ms ce sl pc ls (.long x :: st) w Q := by
  intro p e s m args below meth c H locs la g
  obtain ⟨la', e1, h2⟩ := g.2.2.2.2.store2 (v := .long x) hn rfl h1
  intro T hT X
  obtain ⟨t, a1, b1⟩ := k p e s m args below meth c H locs la' ⟨g.1, g.2.1, g.2.2.1, g.2.2.2.1, h2⟩ T hT X
  refine ⟨t, ?_, b1⟩
  have e1 : storeLocals la _ (.long x) = some la' := e1
  have hx := g.1.1
  have hb := g.1.2.1
  show Steps p.tables e below (T.setTop (F0 m pc la (.long x :: st.map (sx_v E)))) t
  jvm_step X.here [X.here.top, hx, hb, hd, e1]
  first | exact a1 | exact ⟨rfl, a1⟩
theorem V_lstore_n {j : Fin 4} {i : Nat} {x : Int64} (hd : decode M.2.1 pc = .ok (.lstore_n j, 1)) (hi : (j : Nat) = i) (hn : i + 1 < M.2.2.1) (h1 : sx_c1 ls i = true) (k : V E M R mc ms ce sl (pc + 1) ((i, .long x) :: ls.filter (fun q => !(q.1 == i + 1))) st w Q) : V E M R mc ms ce sl pc ls (.long x :: st) w Q := by
  subst hi
  intro p e s m args below meth c H locs la g
  obtain ⟨la', e1, h2⟩ := g.2.2.2.2.store2 (v := .long x) hn rfl h1
  intro T hT X
  obtain ⟨t, a1, b1⟩ := k p e s m args below meth c H locs la' ⟨g.1, g.2.1, g.2.2.1, g.2.2.2.1, h2⟩ T hT X
  refine ⟨t, ?_, b1⟩
  have e1 : storeLocals la _ (.long x) = some la' := e1
  have hx := g.1.1
  have hb := g.1.2.1
  show Steps p.tables e below (T.setTop (F0 m pc la (.long x :: st.map (sx_v E)))) t
  jvm_step X.here [X.here.top, hx, hb, hd, e1]
  first | exact a1 | exact ⟨rfl, a1⟩
theorem V_iinc {i : Nat} {n : Int} {x : Int32} (hd : decode M.2.1 pc = .ok (.iinc i n, 3)) (hl : ls.lookup i = some (.int x)) (hn : i < M.2.2.1) (h1 : sx_c1 ls i = true) (k : V E M R mc ms ce sl (pc + 3) ((i, .int (x + Int32.ofInt n)) :: ls) st w Q) : V E M R mc ms ce sl pc ls st w Q := by
  intro p e s m args below meth c H locs la g
  obtain ⟨la', e1, h2⟩ := g.2.2.2.2.store1 (v := .int (x + Int32.ofInt n)) hn rfl h1
  have hg : la[i]? = some (.val (.int x)) := g.2.2.2.2.2.2 _ _ hl
  intro T hT X
  obtain ⟨t, a1, b1⟩ := k p e s m args below meth c H locs la' ⟨g.1, g.2.1, g.2.2.1, g.2.2.2.1, h2⟩ T hT X
  refine ⟨t, ?_, b1⟩
  have e1 : storeLocals la i (.int (x + Int32.ofInt n)) = some la' := e1
  have hx := g.1.1
  have hb := g.1.2.1
  jvm_step X.here [X.here.top, hx, hb, hd, hg, e1]
  exact a1
theorem V_icmp_eq {x y : Int32} {off : Int} {tgt : Nat} (hd : decode M.2.1 pc = .ok (.if_icmp .eq off, 3)) (ht : (pc : Int) + off = (tgt : Int)) (kt : x = y → V E M R mc ms ce sl tgt ls st w Q) (kf : ¬ x = y → V E M R mc ms ce sl (pc + 3) ls st w Q) : V E M R mc ms ce sl pc ls (.int y :: .int x :: st) w Q := fun p e s m args below meth c H locs la g => lv_icmp_eq g.1.1 g.1.2.1 hd ht (fun z => kt z p e s m args below meth c H locs la g) (fun z => kf z p e s m args below meth c H locs la g)
theorem V_if_eq {x : Int32} {off : Int} {tgt : Nat} (hd : decode M.2.1 pc = .ok (.ifCond .eq off, 3)) (ht : (pc : Int) + off = (tgt : Int)) (kt : x = 0 → V E M R mc ms ce sl tgt ls st w Q) (kf : ¬ x = 0 → V E M R mc ms ce sl (pc + 3) ls st w Q) : V E M R mc ms ce sl pc ls (.int x :: st) w Q := fun p e s m args below meth c H locs la g => lv_if_eq g.1.1 g.1.2.1 hd ht (fun z => kt z p e s m args below meth c H locs la g) (fun z => kf z p e s m args below meth c H locs la g)
theorem V_icmp_ne {x y : Int32} {off : Int} {tgt : Nat} (hd : decode M.2.1 pc = .ok (.if_icmp .ne off, 3)) (ht : (pc : Int) + off = (tgt : Int)) (kt : ¬ x = y → V E M R mc ms ce sl tgt ls st w Q) (kf : x = y → V E M R mc ms ce sl (pc + 3) ls st w Q) : V E M R mc ms ce sl pc ls (.int y :: .int x :: st) w Q := fun p e s m args below meth c H locs la g => lv_icmp_ne g.1.1 g.1.2.1 hd ht (fun z => kt z p e s m args below meth c H locs la g) (fun z => kf z p e s m args below meth c H locs la g)
theorem V_if_ne {x : Int32} {off : Int} {tgt : Nat} (hd : decode M.2.1 pc = .ok (.ifCond .ne off, 3)) (ht : (pc : Int) + off = (tgt : Int)) (kt : ¬ x = 0 → V E M R mc ms ce sl tgt ls st w Q) (kf : x = 0 → V E M R mc ms ce sl (pc + 3) ls st w Q) : V E M R mc ms ce sl pc ls (.int x :: st) w Q := fun p e s m args below meth c H locs la g => lv_if_ne g.1.1 g.1.2.1 hd ht (fun z => kt z p e s m args below meth c H locs la g) (fun z => kf z p e s m args below meth c H locs la g)
theorem V_icmp_lt {x y : Int32} {off : Int} {tgt : Nat} (hd : decode M.2.1 pc = .ok (.if_icmp .lt off, 3)) (ht : (pc : Int) + off = (tgt : Int)) (kt : x < y → V E M R mc ms ce sl tgt ls st w Q) (kf : ¬ x < y → V E M R mc ms ce sl (pc + 3) ls st w Q) : V E M R mc ms ce sl pc ls (.int y :: .int x :: st) w Q := fun p e s m args below meth c H locs la g => lv_icmp_lt g.1.1 g.1.2.1 hd ht (fun z => kt z p e s m args below meth c H locs la g) (fun z => kf z p e s m args below meth c H locs la g)
theorem V_if_lt {x : Int32} {off : Int} {tgt : Nat} (hd : decode M.2.1 pc = .ok (.ifCond .lt off, 3)) (ht : (pc : Int) + off = (tgt : Int)) (kt : x < 0 → V E M R mc ms ce sl tgt ls st w Q) (kf : ¬ x < 0 → V E M R mc ms ce sl (pc + 3) ls st w Q) : V E M R mc ms ce sl pc ls (.int x :: st) w Q := fun p e s m args below meth c H locs la g => lv_if_lt g.1.1 g.1.2.1 hd ht (fun z => kt z p e s m args below meth c H locs la g) (fun z => kf z p e s m args below meth c H locs la g)
theorem V_icmp_ge {x y : Int32} {off : Int} {tgt : Nat} (hd : decode M.2.1 pc = .ok (.if_icmp .ge off, 3)) (ht : (pc : Int) + off = (tgt : Int)) (kt : y ≤ x → V E M R mc ms ce sl tgt ls st w Q) (kf : ¬ y ≤ x → V E M R mc ms ce sl (pc + 3) ls st w Q) : V E M R mc ms ce sl pc ls (.int y :: .int x :: st) w Q := fun p e s m args below meth c H locs la g => lv_icmp_ge g.1.1 g.1.2.1 hd ht (fun z => kt z p e s m args below meth c H locs la g) (fun z => kf z p e s m args below meth c H locs la g)
theorem V_if_ge {x : Int32} {off : Int} {tgt : Nat} (hd : decode M.2.1 pc = .ok (.ifCond .ge off, 3)) (ht : (pc : Int) + off = (tgt : Int)) (kt : 0 ≤ x → V E M R mc ms ce sl tgt ls st w Q) (kf : ¬ 0 ≤ x → V E M R mc ms ce sl (pc + 3) ls st w Q) : V E M R mc ms ce sl pc ls (.int x :: st) w Q := fun p e s m args below meth c H locs la g => lv_if_ge g.1.1 g.1.2.1 hd ht (fun z => kt z p e s m args below meth c H locs la g) (fun z => kf z p e s m args below meth c H locs la g)
theorem V_icmp_gt {x y : Int32} {off : Int} {tgt : Nat} (hd : decode M.2.1 pc = .ok (.if_icmp .gt off, 3)) (ht : (pc : Int) + off = (tgt : Int)) (kt : y < x → V E M R mc ms ce sl tgt ls st w Q) (kf : ¬ y < x → V E M R mc ms ce sl (pc + 3) ls st w Q) : V E M R mc ms ce sl pc ls (.int y :: .int x :: st) w Q := fun p e s m args below meth c H locs la g => lv_icmp_gt g.1.1 g.1.2.1 hd ht (fun z => kt z p e s m args below meth c H locs la g) (fun z => kf z p e s m args below meth c H locs la g)
theorem V_if_gt {x : Int32} {off : Int} {tgt : Nat} (hd : decode M.2.1 pc = .ok (.ifCond .gt off, 3)) (ht : (pc : Int) + off = (tgt : Int)) (kt : 0 < x → V E M R mc ms ce sl tgt ls st w Q) (kf : ¬ 0 < x → V E M R mc ms ce sl (pc + 3) ls st w Q) : V E M R mc ms ce sl pc ls (.int x :: st) w Q := fun p e s m args below meth c H locs la g => lv_if_gt g.1.1 g.1.2.1 hd ht (fun z => kt z p e s m args below meth c H locs la g) (fun z => kf z p e s m args below meth c H locs la g)
theorem V_icmp_le {x y : Int32} {off : Int} {tgt : Nat} (hd : decode M.2.1 pc = .ok (.if_icmp .le off, 3)) (ht : (pc : Int) + off = (tgt : Int)) (kt : x ≤ y → V E M R mc ms ce sl tgt ls st w Q) (kf : ¬ x ≤ y → V E M R mc ms ce sl (pc + 3) ls st w Q) : V E M R mc ms ce sl pc ls (.int y :: .int x :: st) w Q := fun p e s m args below meth c H locs la g => lv_icmp_le g.1.1 g.1.2.1 hd ht (fun z => kt z p e s m args below meth c H locs la g) (fun z => kf z p e s m args below meth c H locs la g)
theorem V_if_le {x : Int32} {off : Int} {tgt : Nat} (hd : decode M.2.1 pc = .ok (.ifCond .le off, 3)) (ht : (pc : Int) + off = (tgt : Int)) (kt : x ≤ 0 → V E M R mc ms ce sl tgt ls st w Q) (kf : ¬ x ≤ 0 → V E M R mc ms ce sl (pc + 3) ls st w Q) : V E M R mc ms ce sl pc ls (.int x :: st) w Q := fun p e s m args below meth c H locs la g => lv_if_le g.1.1 g.1.2.1 hd ht (fun z => kt z p e s m args below meth c H locs la g) (fun z => kf z p e s m args below meth c H locs la g)
theorem V_goto {off : Int} {tgt : Nat} (hd : decode M.2.1 pc = .ok (.goto off, 3)) (ht : (pc : Int) + off = (tgt : Int)) (k : V E M R mc ms ce sl tgt ls st w Q) : V E M R mc ms ce sl pc ls st w Q := fun p e s m args below meth c H locs la g => lv_goto g.1.1 g.1.2.1 hd ht (k p e s m args below meth c H locs la g)
theorem V_lcmp {x y : Int64} (hd : decode M.2.1 pc = .ok (.lcmp, 1)) (k : V E M R mc ms ce sl (pc + 1) ls (.int (lg_cmp x y) :: st) w Q) : V E M R mc ms ce sl pc ls (.long y :: .long x :: st) w Q := fun p e s m args below meth c H locs la g => W.lcmp g.1.1 g.1.2.1 hd (k p e s m args below meth c H locs la g)
theorem V_ifnonnull {v : Value} {off : Int} {tgt : Nat} (hd : decode M.2.1 pc = .ok (.ifnonnull off, 3)) (ht : (pc : Int) + off = (tgt : Int)) {a : Nat} (hv : v = .ref a) (k : V E M R mc ms ce sl tgt ls st w Q) : V E M R mc ms ce sl pc ls (v :: st) w Q := by subst hv; exact fun p e s m args below meth c H locs la g => lv_ifnonnull g.1.1 g.1.2.1 hd ht (k p e s m args below meth c H locs la g)
theorem V_ifnonnullN {off : Int} (hd : decode M.2.1 pc = .ok (.ifnonnull off, 3)) (k : V E M R mc ms ce sl (pc + 3) ls st w Q) : V E M R mc ms ce sl pc ls (.null :: st) w Q := fun p e s m args below meth c H locs la g => lv_ifnonnullN g.1.1 g.1.2.1 hd (k p e s m args below meth c H locs la g)
theorem sx_end {t : State} {H : Heap} {s : State} {args : Array Value} {r : Option Value} (hP : sx_P E w H) (hB : ∀ q, q < sx_b E → H[q]? = s.heap[q]?) (q : Q r w) (ht : t.heap = H) : sx_Qc E Q args s (.returned (r.map (sx_v E))) t := ⟨r, w, rfl, by rw [ht]; exact hP, q, fun z hz => by rw [ht]; exact hB z hz⟩
theorem V_iret {v : Int32} (hd : decode M.2.1 pc = .ok (.ireturn, 1)) (hr : M.2.2.2 = some .int) (h1 : ce ≤ mc) (h2 : sl ≤ ms) (q : Q (some (.int v)) w) : V E M R mc ms ce sl pc ls [.int v] w Q := fun p e s m args below meth c H locs la g => W.widen h1 h2 (W.iret g.1.1 g.1.2.1 (g.1.2.2.2.1.trans hr) (fun t ht hW => sx_end g.2.1 g.2.2.1 q ht) g.2.2.2.1 hd g.1.2.2.2.2.1)
theorem V_zret {v : Int32} {ty : FieldType} (hd : decode M.2.1 pc = .ok (.ireturn, 1)) (hr : M.2.2.2 = some ty) (hn : narrow ty (.int v) = .int v) (h1 : ce ≤ mc) (h2 : sl ≤ ms) (q : Q (some (.int v)) w) : V E M R mc ms ce sl pc ls [.int v] w Q := fun p e s m args below meth c H locs la g => W.widen h1 h2 (W.zret g.1.1 g.1.2.1 (g.1.2.2.2.1.trans hr) hn (fun t ht hW => sx_end g.2.1 g.2.2.1 q ht) g.2.2.2.1 hd g.1.2.2.2.2.1)
theorem V_lret {v : Int64} (hd : decode M.2.1 pc = .ok (.lreturn, 1)) (hr : M.2.2.2 = some .long) (h1 : ce ≤ mc) (h2 : sl ≤ ms) (q : Q (some (.long v)) w) : V E M R mc ms ce sl pc ls [.long v] w Q := fun p e s m args below meth c H locs la g => W.widen h1 h2 (W.lret g.1.1 g.1.2.1 (g.1.2.2.2.1.trans hr) (fun t ht hW => sx_end g.2.1 g.2.2.1 q ht) g.2.2.2.1 hd g.1.2.2.2.2.1)
theorem V_vret (hd : decode M.2.1 pc = .ok (.return_, 1)) (hr : M.2.2.2 = none) (h1 : ce ≤ mc) (h2 : sl ≤ ms) (q : Q none w) : V E M R mc ms ce sl pc ls [] w Q := fun p e s m args below meth c H locs la g => W.widen h1 h2 (W.vret g.1.1 g.1.2.1 (g.1.2.2.2.1.trans hr) (fun t ht hW => sx_end (r := none) g.2.1 g.2.2.1 q ht) g.2.2.2.1 hd g.1.2.2.2.2.1)
theorem V_aret {v : Value} {C : String} (hd : decode M.2.1 pc = .ok (.areturn, 1)) (hr : M.2.2.2 = some (.object C)) (hv : v = .null ∨ ∃ a, v = .ref a) (h1 : ce ≤ mc) (h2 : sl ≤ ms) (q : Q (some v) w) : V E M R mc ms ce sl pc ls [v] w Q := fun p e s m args below meth c H locs la g => W.widen h1 h2 (W.aret g.1.1 g.1.2.1 (g.1.2.2.2.1.trans hr) (Or.inl ⟨C, rfl⟩) (by rcases hv with rfl | ⟨a, rfl⟩; exact Or.inl rfl; exact Or.inr ⟨_, rfl⟩) (fun t ht hW => sx_end (r := some v) g.2.1 g.2.2.1 q ht) g.2.2.2.1 hd g.1.2.2.2.2.1)
end SXR

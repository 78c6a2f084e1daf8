/-! the surroundings out of what the Statement gives -/
theorem tb_1 {w : Cond} (i : Nat) (h : tables_1_1[i]? = some w) : w ∈ lw_tbl := List.mem_append_right _ (by have q := List.mem_of_getElem? h; exact List.mem_append_left _ q)
theorem tb_2 {w : Cond} (i : Nat) (h : tables_1_2[i]? = some w) : w ∈ lw_tbl := List.mem_append_right _ (by have q := List.mem_of_getElem? h; exact List.mem_append_right _ (List.mem_append_left _ q))
theorem tb_3 {w : Cond} (i : Nat) (h : tables_1_3[i]? = some w) : w ∈ lw_tbl := List.mem_append_right _ (by have q := List.mem_of_getElem? h; exact List.mem_append_right _ (List.mem_append_right _ (List.mem_append_left _ q)))
theorem tb_5 {w : Cond} (i : Nat) (h : tables_1_5[i]? = some w) : w ∈ lw_tbl := List.mem_append_right _ (by have q := List.mem_of_getElem? h; exact List.mem_append_right _ (List.mem_append_right _ (List.mem_append_right _ (List.mem_append_right _ (List.mem_append_left _ q)))))
def xe_ws : List Cond := Cond.classLink "StainStreet" 174 nse :: Cond.initialized nse :: vx_at0 "StainStreet" 176 nse nup
set_option maxRecDepth 100000 in
theorem xe_in : ∀ w ∈ xe_ws, w ∈ tables_1 := by decide +kernel
set_option maxRecDepth 100000 in
theorem xe_gd : ∀ w ∈ xe_ws, ((w.onTables && w.faceAtom) || goodWord w) = true := by decide +kernel
/-- what is fixed outside -/
def we_X (E : sxE) (v : Value) (n : Nat) (f : Nat → Int32) (U : State) (H : Heap) : Prop := ox_ E U H ∧ va_Z "jdk/internal/util/Preconditions" "SIOOBE_FORMATTER" "Ljava/util/function/BiFunction;" (sx_v E v) (ox_A E) U H ∧ (∀ a, (Cond.arrayOver (.object (cl_R 1))).before a U = true ∧ (Cond.arrayOver (.object (cl_R 7))).before a U = true) ∧ va_T .int (sx_ad E 0) n (fun j => .int (f j)) (ox_A E) U H ∧ (∀ a, ∀ w ∈ xe_ws, w.before a U = true) ∧ vx_Zq Bundle.tN "UNASSIGNED_STACK" Bundle.steD (ox_A E) U H ∧ vx_Zq Bundle.tN "SUPPRESSED_SENTINEL" Bundle.listD (ox_A E) U H
theorem we_St0 {E : sxE} {v : Value} {n : Nat} {f : Nat → Int32} {u U : State} {H H1 : Heap} (hW : u.WarmedH U.vm) (hq : ∀ q, q < sx_b E → H1[q]? = H[q]?) (h : we_X E v n f u H) : we_X E v n f U H1 := by
  have hk : ∀ a : Nat, a < H.size → ¬ ox_A E a → H1[a]? = H[a]? := fun a _ z => hq a (Nat.lt_of_not_le z)
  have ha := hW.alike
  obtain ⟨⟨⟨r1, o1, o2, o3, o4⟩, ⟨r2, p1, p2, p3, p4⟩, z, ⟨zl, tl⟩, ⟨zh, th⟩, zu, tu⟩, fm, ao, sc, xe, x1, x2⟩ := h
  refine ⟨⟨⟨r1.warm hW, (va_O.moved ha o1).kept hk, (va_OF.moved ha o2).kept hk, (va_OF.moved ha o3).kept hk, (va_T.moved ha o4).kept hk⟩, ⟨r2.warm hW, (va_O.moved ha p1).kept hk, (va_OF.moved ha p2).kept hk, (va_OF.moved ha p3).kept hk, (va_T.moved ha p4).kept hk⟩, (va_Z.moved ha z).kept hk, ⟨(va_Z.moved ha zl).kept hk, (va_T.moved ha tl).kept hk⟩, ⟨(va_Z.moved ha zh).kept hk, (va_T.moved ha th).kept hk⟩, (va_Z.moved ha zu).kept hk, (va_T.moved ha tu).kept hk⟩, (va_Z.moved ha fm).kept hk, fun a => ⟨va_AO.use (va_AO.moved ha (va_AO.of (ao a).1)), va_AO.use (va_AO.moved ha (va_AO.of (ao a).2))⟩, (va_T.moved ha sc).kept hk, fun a w hw => ?_, (vx_Zq.moved ha x1).kept hk, (vx_Zq.moved ha x2).kept hk⟩
  have g := xe_gd w hw
  rw [Bool.or_eq_true] at g
  rcases g with g | g
  · rw [Bool.and_eq_true] at g
    exact va_tabs g.1 (rfl : (u.setVm U.vm).vm = U.vm) (Cond.faceAtom_setVm ha w g.2 (xe a w hw))
  · exact word_at hW (good_of_word g) (xe a w hw)
/-- the surroundings with that -/
def we_E (E : sxE) (v : Value) (n : Nat) (f : Nat → Int32) : sxE := (E.1, E.2.1, E.2.2.1, E.2.2.2.1, E.2.2.2.2.1, we_X E v n f)
section WE
variable {E : sxE} {v : Value} {n : Nat} {f : Nat → Int32}
theorem we_vv : ∀ z : Value, sx_v (we_E E v n f) z = sx_v E z := fun z => by cases z <;> rfl
theorem we_XO (hv : is_rv v) : XO (we_E E v n f) := ⟨fun U H h => (show we_X E v n f U H from h).1, v, hv, fun U H h => by rw [we_vv]; exact (show we_X E v n f U H from h).2.1⟩
theorem we_AO : AO9 (we_E E v n f) := fun U H h => (show we_X E v n f U H from h).2.2.1
theorem we_scr : scr9 (we_E E v n f) n f := fun U H h => (show we_X E v n f U H from h).2.2.2.1
theorem we_XE (hl : (sx_l E).stackTraces = false) : XE9 (we_E E v n f) := ⟨hl, fun U H h => (show we_X E v n f U H from h).2.2.2.2⟩
theorem we_St : sx_St (we_E E v n f) := fun _ _ _ _ hW hq h => we_St0 (E := E) hW hq h
end WE
/-- the tables' words, whatever the arguments -/
theorem st_TB {b : Nat} {s : State} (hts : ∀ w ∈ lw_tbl, w.before #[Value.ref b] s = true) : sx_TB s := by
  intro w hw a
  have h1 := hw.2
  unfold sx_gd at h1
  rw [Bool.or_eq_true] at h1
  rcases h1 with h1 | h1
  · exact word_at (State.WarmedH.refl s) (good_of_word h1) (hts w hw.1)
  · cases w with
    | fieldLinkNest x1 x2 x3 x4 x5 x6 => exact va_Nw.use rfl (va_Nw.of rfl (hts _ hw.1))
    | methodLinkNest x1 x2 x3 x4 => exact va_Nw.use rfl (va_Nw.of rfl (hts _ hw.1))
    | _ => simp at h1
def cl_ci : List (Nat × Nat) := [(254, 3), (76, 7), (69, 3), (116, 2), (218, 3), (275, 4), (234, 3), (157, 13), (133, 4), (59, 1), (34, 4), (26, 19), (1079, 48)]
set_option maxRecDepth 100000 in
theorem cl_inst : ∀ c, c < 13 → tables_1[(cl_ci.getD c (0, 0)).1]? = some (Cond.instantiable (cl_R c) (cl_ci.getD c (0, 0)).2) := by decide +kernel
theorem st_D {b : Nat} {s : State} (hts : ∀ w ∈ lw_tbl, w.before #[Value.ref b] s = true) : ∃ D : va_G, ∀ (c : Nat) (q : vw_C), cl_all[c]? = some q → u_Kn s q.1 q.2.1 q.2.2 (D.1 c) (D.2 c) := by
  have h0 : ∀ c : Nat, ∃ q : ClassId × (Nat → Nat), c < 13 → u_Kn s (cl_R c) (cl_T c) (cl_N c) q.1 q.2 := by
    intro c
    by_cases hc : c < 13
    · obtain ⟨cC, iS, h⟩ := u_known (C := cl_R c) (T := cl_T c) (N := cl_N c) hts (fun w hw => (cl_lay hc w hw).1) (hts _ (List.mem_append_right _ (List.mem_of_getElem? (cl_inst c hc))))
      exact ⟨(cC, iS), fun _ => h⟩
    · exact ⟨(0, fun _ => 0), fun h => absurd h hc⟩
  obtain ⟨g, hg⟩ := Classical.axiomOfChoice h0
  refine ⟨(fun c => (g c).1, fun c => (g c).2), fun c q hq => ?_⟩
  have hc : c < 13 := by
    have z := (List.getElem?_eq_some_iff.mp hq).1
    simpa [cl_all] using z
  rw [cl_at hc] at hq
  cases hq
  exact hg c hc
theorem st_ap {args : Array Value} {s : State} {ty : FieldType} (hn : ∀ C, ty ≠ .object C) (h : (Cond.arrayClass ty).before args s = true) : ∃ c : ClassId, ArrOfT s c ty ∧ va_RA s c ty := by
  obtain ⟨c, k, comp, h1, h2, h3⟩ := Cond.arrayClass_spec h
  refine ⟨c, fun n z => ⟨fun k h => (by cases h), k, h2, comp, h3⟩, ?_⟩
  cases ty with
  | object C => exact absurd rfl (hn C)
  | _ => exact h1
theorem st_ao {args : Array Value} {s : State} {C : String} (h : (Cond.arrayOver (.object C)).before args s = true) : ∃ c : ClassId, ArrOfT s c (.object C) ∧ va_RA s c (.object C) := by
  obtain ⟨comp, c, k, h1, -, h2, h3, h4⟩ := Cond.arrayOver_spec h
  exact ⟨c, fun n z => ⟨fun k h => (by cases h), k, h2, comp, h3⟩, k, comp, h2, h3, h1, h4⟩
theorem st_A {b : Nat} {s : State} (hts : ∀ w ∈ lw_tbl, w.before #[Value.ref b] s = true) : ∃ cc : Nat → ClassId, ∀ (k : Nat) (q : ClassId × FieldType), ([(cc 13, .int), (cc 14, .boolean), (cc 15, .object "StainStreet$Law"), (cc 16, .object "StainStreet$State"), (cc 17, .long)] : List (ClassId × FieldType))[k]? = some q → ArrOfT s q.1 q.2 ∧ va_RA s q.1 q.2 := by
  obtain ⟨c1, h1⟩ := st_ap (ty := .int) (fun C h => by cases h) (hts _ (tb_1 57 rfl))
  obtain ⟨c2, h2⟩ := st_ap (ty := .boolean) (fun C h => by cases h) (hts _ (tb_2 57 rfl))
  obtain ⟨c3, h3⟩ := st_ao (C := "StainStreet$Law") (hts _ (tb_1 75 rfl))
  obtain ⟨c4, h4⟩ := st_ao (C := "StainStreet$State") (hts _ (tb_2 0 rfl))
  obtain ⟨c5, h5⟩ := st_ap (ty := .long) (fun C h => by cases h) (hts _ (sx_a8 48 rfl rfl).1)
  refine ⟨fun k => if k = 13 then c1 else if k = 14 then c2 else if k = 15 then c3 else if k = 16 then c4 else c5, fun k q hq => ?_⟩
  match k, hq with
  | 0, hq => cases hq; exact h1
  | 1, hq => cases hq; exact h2
  | 2, hq => cases hq; exact h3
  | 3, hq => cases hq; exact h4
  | 4, hq => cases hq; exact h5
  | k + 5, hq => simp at hq
/-- a row of ten ints that a static holds -/
theorem st_I {args : Array Value} {s : State} {nm : String} {it : Nat → Int32} {A : Nat → Prop} (hl : (Cond.laysStatic "StainStreet" nm "[I").before args s = true) (hi : (Cond.initialized "StainStreet").before args s = true) (h1 : (Cond.arrayOf (.static "StainStreet" nm "[I") .int).before args s = true) (h2 : (Cond.eq (.length (.static "StainStreet" nm "[I")) (.int (Int32.ofNat 10))).before args s = true)
    (h3 : ∀ j : Nat, j < 10 → (Cond.eq (.elem (.static "StainStreet" nm "[I") (.int (Int32.ofNat j))) (.int (it j))).before args s = true) (hA : ∀ a : Nat, a < s.heap.size → ¬ A a) : ∃ t : Nat, va_Z "StainStreet" nm "[I" (.ref t) A s s.heap ∧ va_T .int t 10 (fun j => .int (it j)) A s s.heap := by
  obtain ⟨t, ht, hT⟩ := va_Tof (tm := .static "StainStreet" nm "[I") (ty := .int) (N := 10) (f := fun j => .int (it j)) (A := A) (by decide) h1 (va_eqt h2) (fun j hj => va_eqt (h3 j hj)) hA
  exact ⟨t, va_Zref hl hi ht hA, hT⟩
/-- a String constant -/
theorem st_S {args : Array Value} {s : State} {own tx : String} {k : Nat} {L : List Int32} {A : Nat → Prop} (hL : L.length < 2 ^ 31) (h0 : (Cond.stringRef own k tx).before args s = true) (h1 : (Cond.exactly (.string own k) "java/lang/String").before args s = true) (h2 : (Cond.eq (.field (.string own k) "java/lang/String" "coder" "B") (.int 0)).before args s = true) (h3 : (Cond.arrayOf (.field (.string own k) "java/lang/String" "value" "[B") .byte).before args s = true) (h4 : (Cond.eq (.length (.field (.string own k) "java/lang/String" "value" "[B")) (.int (Int32.ofNat L.length))).before args s = true)
    (h5 : ∀ j : Nat, j < L.length → (Cond.eq (.elem (.field (.string own k) "java/lang/String" "value" "[B") (.int (Int32.ofNat j))) (.int (L.getD j 0))).before args s = true) (hA : ∀ a : Nat, a < s.heap.size → ¬ A a) : ∃ a t : Nat, vk_R own k tx a s ∧ va_O "java/lang/String" a A s s.heap ∧ va_OF "java/lang/String" "coder" "B" (.int 0) a A s s.heap ∧ va_OF "java/lang/String" "value" "[B" (.ref t) a A s s.heap ∧ va_T .byte t L.length (fun j => .int (L.getD j 0)) A s s.heap := by
  obtain ⟨a, c, cA, kA, q1, q2, q3, q4, q5, q6, -⟩ := Cond.exactly_spec (args := args) (first := s) (o := none) (s := s) (idx := []) (t := .string own k) (cls := "java/lang/String") h1
  obtain ⟨t, ht, hT⟩ := va_Tof (f := fun j => .int (L.getD j 0)) (A := A) hL h3 (va_eqt h4) (fun j hj => va_eqt (h5 j hj)) hA
  exact ⟨a, t, vk_R.of h0 q1, va_Oof h1 q1 hA, vk_OFof q1 (va_eqt h2) hA, vk_OFof q1 ht hA, hT⟩

/-! THE LAYER: an abstract heap, and one judgement V for a method's walk over it -/
/-- an abstract heap: the next free place, kind and length of each place, references, longs, ints -/
abbrev hpW : Type := Nat × (Nat → Nat × Nat) × (Nat → Nat → Option Nat) × (Nat → Nat → Int64) × (Nat → Nat → Int32)
def hp_n (w : hpW) : Nat := w.1
def hp_k (w : hpW) : Nat → Nat × Nat := w.2.1
def hp_r (w : hpW) : Nat → Nat → Option Nat := w.2.2.1
def hp_j (w : hpW) : Nat → Nat → Int64 := w.2.2.2.1
def hp_i (w : hpW) : Nat → Nat → Int32 := w.2.2.2.2
/-- f with another value at a, k -/
def hp_u {α : Type} (f : Nat → Nat → α) (a k : Nat) (x : α) : Nat → Nat → α := fun b j => if b = a ∧ j = k then x else f b j
def hp_si (w : hpW) (a k : Nat) (x : Int32) : hpW := (hp_n w, hp_k w, hp_r w, hp_j w, hp_u (hp_i w) a k x)
def hp_sr (w : hpW) (a k : Nat) (x : Option Nat) : hpW := (hp_n w, hp_k w, hp_u (hp_r w) a k x, hp_j w, hp_i w)
def hp_sj (w : hpW) (a k : Nat) (x : Int64) : hpW := (hp_n w, hp_k w, hp_r w, hp_u (hp_j w) a k x, hp_i w)
/-- n ints copied from s, sp on to d, dp on -/
def hp_cp (w : hpW) (s sp d dp n : Nat) : hpW := (hp_n w, hp_k w, hp_r w, hp_j w, fun b j => if b = d then va_cpy (hp_i w s) (hp_i w d) sp dp n j else hp_i w b j)
/-- a new thing of kind c and length n, all zero -/
def hp_new (w : hpW) (c n : Nat) : hpW := (hp_n w + 1, (fun b => if b = hp_n w then (c, n) else hp_k w b), (fun b => if b = hp_n w then (fun _ => none) else hp_r w b), (fun b => if b = hp_n w then (fun _ => 0) else hp_j w b), (fun b => if b = hp_n w then (fun _ => 0) else hp_i w b))
/-- the surroundings: launch, class numbers and slots, array classes by kind, first address of ours, addresses of the places below 16, what is fixed outside -/
abbrev sxE : Type := Launch × va_G × (Nat → ClassId) × Nat × (Nat → Nat) × (State → Heap → Prop)
def sx_l (E : sxE) : Launch := E.1
def sx_D (E : sxE) : va_G := E.2.1
def sx_c (E : sxE) : Nat → ClassId := E.2.2.1
def sx_b (E : sxE) : Nat := E.2.2.2.1
def sx_ro (E : sxE) : Nat → Nat := E.2.2.2.2.1
def sx_X (E : sxE) : State → Heap → Prop := E.2.2.2.2.2
def sx_ad (E : sxE) (k : Nat) : Nat := if k < 16 then sx_ro E k else sx_b E + (k - 16)
def sx_v (E : sxE) : Value → Value
  | .ref k => .ref (sx_ad E k)
  | v => v
theorem sx_v_cat (E : sxE) (v : Value) : (sx_v E v).category = v.category := by cases v <;> rfl
theorem sx_v_rf (E : sxE) (r : Option Nat) : va_rf (r.map (sx_ad E)) = sx_v E (va_rf r) := by cases r <;> rfl
/-- what a field holds -/
def hp_f (w : hpW) (a c j : Nat) : Value := match cl_ty c j with
  | .long => .long (hp_j w a j)
  | .object _ => va_rf (hp_r w a j)
  | .array _ => va_rf (hp_r w a j)
  | _ => .int (hp_i w a j)
def hp_e (E : sxE) (w : hpW) (a : Nat) : va_E :=
  if (hp_k w a).1 < 13 then .inr ((hp_k w a).1, (List.range (cl_N (hp_k w a).1)).map (fun j => sx_v E (hp_f w a (hp_k w a).1 j)))
  else if (hp_k w a).1 < 15 then .inl (sx_c E ((hp_k w a).1), (hp_k w a).2, .inl (hp_i w a))
  else if (hp_k w a).1 < 17 then .inl (sx_c E ((hp_k w a).1), (hp_k w a).2, .inr (.inr (.inr (.inr (fun j => (hp_r w a j).map (sx_ad E))))))
  else .inl (sx_c E ((hp_k w a).1), (hp_k w a).2, .inr (.inl (hp_j w a)))
/-- the heap holds w -/
def sx_P (E : sxE) (w : hpW) (H : Heap) : Prop := H.size + 16 = sx_b E + hp_n w ∧ 16 ≤ hp_n w ∧ ∀ a, (hp_k w a).1 < 18 → 16 ≤ a ∧ a < hp_n w ∧ va_at (sx_D E) cl_all (sx_ad E a, hp_e E w a) H
def sx_tys (E : sxE) : List (ClassId × FieldType) := [(sx_c E 13, .int), (sx_c E 14, .boolean), (sx_c E 15, .object "StainStreet$Law"), (sx_c E 16, .object "StainStreet$State"), (sx_c E 17, .long)]
def sx_TB (s : State) : Prop := ∀ w, sx_w w → ∀ a, w.before a s = true
/-- what is fixed outside stays, whatever the code links, and whatever is written from sx_b on -/
def sx_St (E : sxE) : Prop := ∀ (u U : State) (H H1 : Heap), u.WarmedH U.vm → (∀ q, q < sx_b E → H1[q]? = H[q]?) → sx_X E u H → sx_X E U H1
def sx_K (E : sxE) (s : State) (H : Heap) : Prop := sx_TB s ∧ va_K (sx_D E) cl_all (sx_tys E) s ∧ sx_St E ∧ sx_X E s H
theorem sx_TB.warm {s U : State} (hW : s.WarmedH U.vm) (h : sx_TB s) : sx_TB U := by
  intro w hw a
  have h1 := hw.2
  unfold sx_gd at h1
  rw [Bool.or_eq_true] at h1
  rcases h1 with h1 | h1
  · exact word_at hW (good_of_word h1) (h w hw #[])
  · cases w with
    | fieldLinkNest x1 x2 x3 x4 x5 x6 => exact va_Nw.use rfl (va_Nw.warmF hW (va_Nw.of rfl (h _ hw #[])))
    | methodLinkNest x1 x2 x3 x4 => exact va_Nw.use rfl (va_Nw.warmM hW (va_Nw.of rfl (h _ hw #[])))
    | _ => simp at h1
theorem sx_K.warm {E : sxE} {s U : State} {H H1 : Heap} (hW : s.WarmedH U.vm) (hq : ∀ q, q < sx_b E → H1[q]? = H[q]?) (h : sx_K E s H) : sx_K E U H1 := ⟨h.1.warm hW, va_K.moved hW.alike h.2.1, h.2.2.1, h.2.2.1 s U H H1 hW hq h.2.2.2⟩
/-- a method: name, bytes, locals, answer -/
abbrev sxM : Type := MethodName × ByteArray × Nat × Option FieldType
def sx_Cx (E : sxE) (M : sxM) (p : Program) (s : State) (m : MethodId) (meth : Method) (c : Code) : Prop :=
  p.tables.exec = Jvm.exec ∧ c.code = M.2.1 ∧ c.maxLocals = M.2.2.1 ∧ meth.sig.returnType = M.2.2.2 ∧ meth.locks = false ∧ s.vm.findClass M.1.cls = some m.cls ∧ meth.name = M.1.name ∧ sx_K E s s.heap
/-- the locals by a list, the first of a place counts -/
def sx_L (E : sxE) (la : Array Slot) (n : Nat) (ls : List (Nat × Value)) : Prop := la.size = n ∧ lv_wf la ∧ ∀ i v, ls.lookup i = some v → la[i]? = some (.val (sx_v E v))
def sx_In (E : sxE) (M : sxM) (p : Program) (s : State) (m : MethodId) (meth : Method) (c : Code) (H : Heap) (locs : List Loc) (la : Array Slot) (ls : List (Nat × Value)) (w : hpW) : Prop :=
  sx_Cx E M p s m meth c ∧ sx_P E w H ∧ (∀ q, q < sx_b E → H[q]? = s.heap[q]?) ∧ (∀ q ∈ locs, sx_b E ≤ q.base) ∧ sx_L E la M.2.2.1 ls
def sx_Qc (E : sxE) (Q : Option Value → hpW → Prop) : Array Value → State → Outcome → State → Prop := fun _ st o t => ∃ (r : Option Value) (w' : hpW), o = .returned (r.map (sx_v E)) ∧ sx_P E w' t.heap ∧ Q r w' ∧ ∀ q, q < sx_b E → t.heap[q]? = st.heap[q]?
/-- the walk: at pc, locals ls, stack st, heap w, the method comes to its end with Q; ce, sl: made so far; mc, ms: to be made at most -/
def V (E : sxE) (M : sxM) (R : Room) (mc ms ce sl pc : Nat) (ls : List (Nat × Value)) (st : List Value) (w : hpW) (Q : Option Value → hpW → Prop) : Prop :=
  ∀ (p : Program) (e : Env) (s : State) (m : MethodId) (args : Array Value) (below : List Frame) (meth : Method) (c : Code) (H : Heap) (locs : List Loc) (la : Array Slot),
    sx_In E M p s m meth c H locs la ls w → W p (sx_l E) e R s m args below meth c H locs ce sl (MQ below (sx_Qc E Q) args s mc ms (fun q => sx_b E ≤ q)) (F0 m pc la (st.map (sx_v E)))
def sx_rm (d mc ms : Nat) : Room := { frames := d, cells := mc, slots := ms, locals := 64 * d }
/-- a contract: called with av in a heap that holds w, it returns with Q -/
def sx_C (E : sxE) (M : sxM) (d mc ms : Nat) (av : List Value) (w : hpW) (Q : Option Value → hpW → Prop) : Prop :=
  Met (sx_l E) M.1 [.code M.1 M.2.1 M.2.2.1 M.2.2.2] (sx_rm d mc ms) (fun a U => a = (av.map (sx_v E)).toArray ∧ sx_P E w U.heap ∧ sx_K E U U.heap) (sx_Qc E Q) mc ms (fun q => sx_b E ≤ q)
def sx_push (r : Option Value) (st : List Value) : List Value := match r with
  | some v => v :: st
  | none => st
theorem sx_push_map (E : sxE) (r : Option Value) (st : List Value) : (r.map (sx_v E)).toList ++ st.map (sx_v E) = (sx_push r st).map (sx_v E) := by cases r <;> rfl
theorem lv_args_map (E : sxE) : ∀ (av : List Value) (k : Nat), lv_args k (av.map (sx_v E)) = (lv_args k av).map (fun q => (q.1, sx_v E q.2))
  | [], _ => rfl
  | v :: r, k => by
    simp only [List.map_cons, lv_args, sx_v_cat, lv_args_map E r]
theorem lookup_mem {α : Type} {l : List (Nat × α)} {i : Nat} {v : α} (h : l.lookup i = some v) : (i, v) ∈ l := by
  induction l with
  | nil => simp at h
  | cons q r ih =>
    obtain ⟨k, x⟩ := q
    rw [List.lookup_cons] at h
    by_cases hk : i == k
    · rw [hk] at h
      simp at h
      rw [h, eq_of_beq hk]
      exact List.mem_cons_self
    · simp [hk] at h
      exact List.mem_cons_of_mem _ (ih h)
theorem sx_ent (E : sxE) (m : MethodId) (av : List Value) (n : Nat) (h : (lg_sl (av.map (sx_v E))).length ≤ n) : ∃ la, entryFrame m (av.map (sx_v E)).toArray n = F0 m 0 la [] ∧ sx_L E la n (lv_args 0 av) := by
  have hl := lv_entry (av.map (sx_v E)) h
  refine ⟨_, lg_entry_eq _ _ _, hl.1, hl.2.1, fun i v hv => ?_⟩
  refine hl.2.2 (i, sx_v E v) ?_
  rw [lv_args_map]
  exact List.mem_map.mpr ⟨(i, v), lookup_mem hv, rfl⟩

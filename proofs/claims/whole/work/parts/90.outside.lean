/-! what lies outside: String constants, static rows -/
section OUT
variable {E : sxE} {M : sxM} {R : Room} {mc ms ce sl pc : Nat} {ls : List (Nat × Value)} {st : List Value} {w : hpW} {Q : Option Value → hpW → Prop}
theorem Met.ofWF {l : Launch} {y : MethodName} {ws ws' : List Cond} {rm : Room} {Pc : Array Value → State → Prop} {Qc : Array Value → State → Outcome → State → Prop} {mc ms : Nat} {free : Addr → Prop} {cc : ByteArray} {maxL : Nat} {ret : Option FieldType}
    (hy : plainFor y = true) (hw : ws = Cond.code y cc maxL ret :: ws')
    (body : ∀ p e s m args below meth c s₁, BodyLoose p l y (headSpec ws rm) cc maxL ret e s m args below meth c s₁ → c.maxLocals = maxL → Pc args s →
      W p l e (headSpec ws rm).room s m args below meth c s.heap [] 0 0 (MQ below Qc args s mc ms free) (entryFrame m args maxL)) : Met l y ws rm Pc Qc mc ms free := by
  refine MetFree.of_bodySF (code := cc) (maxLocals := maxL) (ret := ret) hy ?_ ?_
  · intro args s m h hn
    obtain ⟨meth, c, h1, h2, h3, h4, h5, h6, -, -⟩ := Cond.code_spec hn (atoms_spec (ws := ws) h _ (by rw [hw]; exact List.mem_cons_self))
    exact ⟨meth, c, h1, h2, h3, h4, h5, h6⟩
  · intro p e s m args below meth c s₁ B hml hP _
    have hh0 : s₁.heap = s.heap := by rw [B.state]; rfl
    obtain ⟨t, a1, o, b1, b2, b3⟩ := body p e s m args below meth c s₁ B hml hP s₁ hh0 (Stand.of_body B)
    exact ⟨t, o, a1, b1, b2, ⟨b3.1, b3.2⟩⟩
theorem C_ofF {d : Nat} {av : List Value} (hp : plainFor M.1 = true) (ha : (lg_sl (av.map (sx_v E))).length ≤ M.2.2.1) (k : V E M (sx_rm d mc ms) mc ms 0 0 0 (lv_args 0 av) [] w Q) : sx_C E M d mc ms av w Q := by
  refine Met.ofWF (cc := M.2.1) (maxL := M.2.2.1) (ret := M.2.2.2) hp rfl ?_
  intro p e s m args below meth c s₁ B hml hv
  obtain ⟨rfl, hP, hK⟩ := hv
  obtain ⟨la, hent, hL⟩ := sx_ent E m av M.2.2.1 ha
  rw [hent]
  exact k p e s m _ below meth c s.heap [] la ⟨⟨B.exec, B.bytes, hml, B.returns, B.notSynchronized, findClass_of_methodNamed B.named, (name_of_methodNamed B.named B.method).1, hK⟩, hP, fun _ _ => rfl, (fun q h => by cases h), hL⟩
def ox_A (E : sxE) : Nat → Prop := fun q => sx_b E ≤ q
theorem W_sz {p : Program} {l : Launch} {e : Env} {R : Room} {s : State} {m : MethodId} {args : Array Value} {below : List Frame} {meth : Method} {c : Code} {H : Heap} {locs : List Loc} {cells slots : Nat} {Q : State → Prop} {g : JFrame} (h : s.heap.size ≤ H.size → W p l e R s m args below meth c H locs cells slots Q g) : W p l e R s m args below meth c H locs cells slots Q g := fun T hT X => h (by have z : s.heap.size ≤ T.heap.size := X.same.2.1; rw [← hT]; exact z) T hT X
theorem sx_S9 {p : Program} {s : State} {m : MethodId} {meth : Method} {c : Code} {H : Heap} {locs : List Loc} {la : Array Slot} (g : sx_In E M p s m meth c H locs la ls w) (hz : s.heap.size ≤ H.size) : va_S (ox_A E) s.heap H locs := ⟨hz, fun q _ hA => g.2.2.1 q (Nat.lt_of_not_le hA), g.2.2.2.1⟩
theorem V_getO {a idx : Nat} {o n d : String} {v : Value} (hd : decode M.2.1 pc = .ok (.getfield idx, 3)) (hl : sx_w (.fieldLink M.1.cls idx o n d)) (hX : ∀ U H, sx_X E U H → va_OF o n d (sx_v E v) (sx_ad E a) (ox_A E) U H) (k : V E M R mc ms ce sl (pc + 3) ls (v :: st) w Q) : V E M R mc ms ce sl pc ls (.ref a :: st) w Q := fun p e s m args below meth c H locs la g => W_sz fun hz => vk_getf g.1.1 g.1.2.1 (hX s s.heap g.1.2.2.2.2.2.2.2.2.2.2) (sx_S9 g hz) g.1.2.2.2.2.2.1 (g.1.2.2.2.2.2.2.2.1 _ hl _) (fun x h => h) hd (k p e s m args below meth c H locs la g)
theorem V_alenO {a N : Nat} {ty : FieldType} {f : Nat → Value} (hd : decode M.2.1 pc = .ok (.arraylength, 1)) (hX : ∀ U H, sx_X E U H → va_T ty (sx_ad E a) N f (ox_A E) U H) (k : V E M R mc ms ce sl (pc + 1) ls (.int (nI N) :: st) w Q) : V E M R mc ms ce sl pc ls (.ref a :: st) w Q := fun p e s m args below meth c H locs la g => W_sz fun hz => va_tlen g.1.1 g.1.2.1 (hX s s.heap g.1.2.2.2.2.2.2.2.2.2.2) (sx_S9 g hz) rfl hd (k p e s m args below meth c H locs la g)
theorem V_baldO {a N : Nat} {f : Nat → Int32} {i : Int32} (hd : decode M.2.1 pc = .ok (.baload, 1)) (hX : ∀ U H, sx_X E U H → va_T .byte (sx_ad E a) N (fun j => .int (f j)) (ox_A E) U H) (hi : vp_in i N) (k : V E M R mc ms ce sl (pc + 1) ls (.int (f i.toNatClampNeg) :: st) w Q) : V E M R mc ms ce sl pc ls (.int i :: .ref a :: st) w Q := fun p e s m args below meth c H locs la g => W_sz fun hz => va_tb g.1.1 g.1.2.1 (hX s s.heap g.1.2.2.2.2.2.2.2.2.2.2) (sx_S9 g hz) hi rfl hd (k p e s m args below meth c H locs la g)
theorem V_ialdO {a N : Nat} {f : Nat → Int32} {i : Int32} (hd : decode M.2.1 pc = .ok (.iaload, 1)) (hX : ∀ U H, sx_X E U H → va_T .int (sx_ad E a) N (fun j => .int (f j)) (ox_A E) U H) (hi : vp_in i N) (k : V E M R mc ms ce sl (pc + 1) ls (.int (f i.toNatClampNeg) :: st) w Q) : V E M R mc ms ce sl pc ls (.int i :: .ref a :: st) w Q := fun p e s m args below meth c H locs la g => W_sz fun hz => va_ti g.1.1 g.1.2.1 (hX s s.heap g.1.2.2.2.2.2.2.2.2.2.2) (sx_S9 g hz) hi rfl hd (k p e s m args below meth c H locs la g)
theorem V_gets {idx : Nat} {o n d : String} {v : Value} (hd : decode M.2.1 pc = .ok (.getstatic idx, 3)) (hl : sx_w (.fieldLink M.1.cls idx o n d)) (hX : ∀ U H, sx_X E U H → va_Z o n d (sx_v E v) (ox_A E) U H) (k : V E M R mc ms ce sl (pc + 3) ls (v :: st) w Q) : V E M R mc ms ce sl pc ls st w Q := fun p e s m args below meth c H locs la g => W_sz fun hz => va_gets g.1.1 g.1.2.1 (hX s s.heap g.1.2.2.2.2.2.2.2.2.2.2) (sx_S9 g hz) g.1.2.2.2.2.2.1 (g.1.2.2.2.2.2.2.2.1 _ hl _) (fun x h => h) hd (k p e s m args below meth c H locs la g)
theorem V_getsN {idx : Nat} {o n d host : String} {v : Value} (hd : decode M.2.1 pc = .ok (.getstatic idx, 3)) (hl : sx_w (.fieldLinkNest M.1.cls idx o n d host)) (hX : ∀ U H, sx_X E U H → va_Z o n d (sx_v E v) (ox_A E) U H) (k : V E M R mc ms ce sl (pc + 3) ls (v :: st) w Q) : V E M R mc ms ce sl pc ls st w Q := fun p e s m args below meth c H locs la g => W_sz fun hz => va_getsN g.1.1 g.1.2.1 (hX s s.heap g.1.2.2.2.2.2.2.2.2.2.2) (sx_S9 g hz) g.1.2.2.2.2.2.1 (g.1.2.2.2.2.2.2.2.1 _ hl _) (fun x h => h) hd (k p e s m args below meth c H locs la g)
theorem V_ldcS {idx a : Nat} {tx : String} (hd : decode M.2.1 pc = .ok (.ldc idx, 2)) (hX : ∀ U H, sx_X E U H → vk_R M.1.cls idx tx (sx_ad E a) U) (k : V E M R mc ms ce sl (pc + 2) ls (.ref a :: st) w Q) : V E M R mc ms ce sl pc ls st w Q := fun p e s m args below meth c H locs la g => va_ldcS g.1.1 g.1.2.1 g.1.2.2.2.2.2.1 (hX s s.heap g.1.2.2.2.2.2.2.2.2.2.2) hd (k p e s m args below meth c H locs la g)
end OUT
section OUC
variable {E : sxE} {M : sxM} {R : Room} {mc ms ce sl pc : Nat} {ls : List (Nat × Value)} {w : hpW} {Q : Option Value → hpW → Prop} {idx : Nat} {M' : sxM} {d : Nat} {rest : List Value}
theorem V_callO {as : List Value} {b n : Nat} (hd : decode M.2.1 pc = .ok (.invokevirtual idx, 3)) (hl : sx_w (.methodLink M.1.cls idx M'.1)) (hm : sx_mv M' n) (hX : ∀ U H, sx_X E U H → va_O M'.1.cls (sx_ad E b) (ox_A E) U H) (hn : as.length = n) (hrm : (rest.map fun v => v.category).sum ≤ 8) (hf : d + 1 ≤ R.frames ∧ 64 + 64 * d ≤ R.locals) (h1 : ce ≤ R.cells ∧ sl ≤ R.slots)
    (kk : sx_C E M' d 0 0 (.ref b :: as) w (fun r w' => V E M R mc ms ce sl (pc + 3) ls (sx_push r rest) w' Q)) : V E M R mc ms ce sl pc ls (as.reverse ++ .ref b :: rest) w Q := by
  intro p e s m args below meth c0 H locs la g
  have hT := g.1.2.2.2.2.2.2.2.1
  have hloc := hm.1.2.2.2.2
  obtain ⟨cell, q1, q2, q3, q4⟩ := hX s s.heap g.1.2.2.2.2.2.2.2.2.2.2
  have hcell : ∃ cellB : Cell, H[sx_ad E b]? = some cellB ∧ cellB.vm.isStatics = false ∧ s.vm.findClass M'.1.cls = some cellB.cls := ⟨cell, by rw [g.2.2.1 _ (Nat.lt_of_not_le q4)]; exact q1, q2, q3⟩
  have hstk : (as.reverse ++ Value.ref b :: rest).map (sx_v E) = (as.map (sx_v E)).reverse ++ .ref (sx_ad E b) :: rest.map (sx_v E) := by simp [sx_v]
  rw [hstk]
  refine sx_go (a := (Value.ref (sx_ad E b) :: as.map (sx_v E)).toArray) (stk := (as.map (sx_v E)).reverse ++ .ref (sx_ad E b) :: rest.map (sx_v E)) (rest := rest) (mc' := 0) (ms' := 0) g ?_ (fun r w' h => h)
  have hp : PreV s H M'.1.cls (sx_ad E b) (fun a U => a = ((Value.ref b :: as).map (sx_v E)).toArray ∧ sx_P E w U.heap ∧ sx_K E U U.heap) (as.map (sx_v E)) := ⟨sx_bl, hcell, fun U hU hW => sx_pre (av := Value.ref b :: as) g U hU hW⟩
  exact va_runV (C := M'.1.cls) (bytes := M'.2.1) (maxL := M'.2.2.1) (ret := M'.2.2.2) (Ts := []) (nL := M.2.2.1) (n := n) ⟨g.1.1, g.1.2.1, g.1.2.2.1, g.1.2.2.2.2.2.1, fun _ h => by cases h⟩ kk ⟨⟨rfl, rfl, hf.1, by show 8 + (M'.2.2.1 + 11) + 64 * d ≤ R.locals; omega, sx_cd hT hm.1, List.mem_singleton.mpr rfl, hT _ hm.1.1 _, hT _ hm.1.2.1 _, hm.1.2.2.1, sx_len hm.1, hT _ hl _⟩, hT _ hm.2.1 _, hT _ hm.2.2 _⟩ hp rfl (by rw [List.length_map]; exact hn) g.2.2.2.2.1 rfl (sx_rmR hrm) hd h1
theorem V_co0 {b : Nat} (d : Nat) (hd : decode M.2.1 pc = .ok (.invokevirtual idx, 3)) (hl : sx_w (.methodLink M.1.cls idx M'.1)) (hm : sx_mv M' 0) (hX : ∀ U H, sx_X E U H → va_O M'.1.cls (sx_ad E b) (ox_A E) U H) (hrm : (rest.map fun v => v.category).sum ≤ 8) (hf : d + 1 ≤ R.frames ∧ 64 + 64 * d ≤ R.locals) (h1 : ce ≤ R.cells ∧ sl ≤ R.slots) (kk : sx_C E M' d 0 0 [.ref b] w (fun r w' => V E M R mc ms ce sl (pc + 3) ls (sx_push r rest) w' Q)) : V E M R mc ms ce sl pc ls (.ref b :: rest) w Q := V_callO (as := []) hd hl hm hX rfl hrm hf h1 kk
theorem V_co1 {b : Nat} {x : Value} (d : Nat) (hd : decode M.2.1 pc = .ok (.invokevirtual idx, 3)) (hl : sx_w (.methodLink M.1.cls idx M'.1)) (hm : sx_mv M' 1) (hX : ∀ U H, sx_X E U H → va_O M'.1.cls (sx_ad E b) (ox_A E) U H) (hrm : (rest.map fun v => v.category).sum ≤ 8) (hf : d + 1 ≤ R.frames ∧ 64 + 64 * d ≤ R.locals) (h1 : ce ≤ R.cells ∧ sl ≤ R.slots) (kk : sx_C E M' d 0 0 [.ref b, x] w (fun r w' => V E M R mc ms ce sl (pc + 3) ls (sx_push r rest) w' Q)) : V E M R mc ms ce sl pc ls (x :: .ref b :: rest) w Q := V_callO (as := [x]) hd hl hm hX rfl hrm hf h1 kk
end OUC
def ltrs1 : List Int32 := [109, 119, 103, 112, 116, 100]
def ltrs2 : List Int32 := [100, 104, 102, 99, 109, 119, 103, 112, 116, 110]
def it_lo : Nat → Int32 := fun j => [1, 0, 0, 0, 0, 0, 0, 0, 1, 0].getD j 0
def it_hi : Nat → Int32 := fun j => [9, 8, 5, 99, 9, 9, 9, 9, 9, 5].getD j 0
def it_us : Nat → Int32 := fun j => [3, 8, 0, 20, 3, 0, 0, 2, 3, 0].getD j 0
/-- a String constant at a, its bytes at b -/
def oxS (E : sxE) (a b : Nat) (L : List Int32) (U : State) (H : Heap) : Prop := va_O "java/lang/String" (sx_ad E a) (ox_A E) U H ∧ va_OF "java/lang/String" "coder" "B" (.int 0) (sx_ad E a) (ox_A E) U H ∧ va_OF "java/lang/String" "value" "[B" (.ref (sx_ad E b)) (sx_ad E a) (ox_A E) U H ∧ va_T .byte (sx_ad E b) L.length (fun j => .int (L.getD j 0)) (ox_A E) U H
def ox_ (E : sxE) (U : State) (H : Heap) : Prop := (vk_R "StainStreet$LawReader" 69 "mwgptd" (sx_ad E 1) U ∧ oxS E 1 3 ltrs1 U H) ∧ (vk_R "StainStreet$StreetReader" 81 "dhfcmwgptn" (sx_ad E 2) U ∧ oxS E 2 4 ltrs2 U H) ∧ va_Z "java/lang/String" "COMPACT_STRINGS" "Z" (.int 1) (ox_A E) U H ∧ ((va_Z "StainStreet" "ITEM_LOWEST" "[I" (.ref (sx_ad E 5)) (ox_A E) U H ∧ va_T .int (sx_ad E 5) 10 (fun j => .int (it_lo j)) (ox_A E) U H) ∧ (va_Z "StainStreet" "ITEM_HIGHEST" "[I" (.ref (sx_ad E 6)) (ox_A E) U H ∧ va_T .int (sx_ad E 6) 10 (fun j => .int (it_hi j)) (ox_A E) U H) ∧ va_Z "StainStreet" "ITEM_USUAL" "[I" (.ref (sx_ad E 7)) (ox_A E) U H ∧ va_T .int (sx_ad E 7) 10 (fun j => .int (it_us j)) (ox_A E) U H)
/-- the surroundings give all that -/
def XO (E : sxE) : Prop := (∀ U H, sx_X E U H → ox_ E U H) ∧ ∃ v, is_rv v ∧ ∀ U H, sx_X E U H → va_Z "jdk/internal/util/Preconditions" "SIOOBE_FORMATTER" "Ljava/util/function/BiFunction;" (sx_v E v) (ox_A E) U H
set_option maxHeartbeats 2000000 in
set_option maxRecDepth 20000 in
theorem c_coder {E : sxE} {w : hpW} {Q : Option Value → hpW → Prop} (hX : XO E) {a b : Nat} {L : List Int32} (hs : ∀ U H, sx_X E U H → oxS E a b L U H) (h : Q (some (.int 0)) w) : sx_C E mJ0_coder_7d493 1 0 0 [.ref a] w Q := by
  refine C_ofF (by decide +kernel) (Nat.le_of_ble_eq_true rfl) ?_
  refine V_gets (v := .int 1) (sx_di dJ0_coder_7d493 0 rfl) (sx_a2 178 rfl rfl) (fun U H z => (hX.1 U H z).2.2.1) ?_
  refine V_if_eq (tgt := 13) (sx_di dJ0_coder_7d493 1 rfl) (by decide) (fun h3 => absurd h3 (by decide)) (fun _ => ?_)
  refine V_aload_n (i := 0) (sx_di dJ0_coder_7d493 2 rfl) rfl rfl ?_
  refine V_getO (v := .int 0) (sx_di dJ0_coder_7d493 3 rfl) (sx_a8 66 rfl rfl) (fun U H z => (hs U H z).2.1) ?_
  refine V_goto (tgt := 14) (sx_di dJ0_coder_7d493 4 rfl) (by decide) ?_
  refine V_zret (sx_di dJ0_coder_7d493 6 rfl) rfl (by decide) (Nat.le_refl _) (Nat.le_refl _) ?_
  exact h
set_option maxHeartbeats 2000000 in
set_option maxRecDepth 20000 in
theorem c_isLatin1 {E : sxE} {w : hpW} {Q : Option Value → hpW → Prop} (hX : XO E) {a b : Nat} {L : List Int32} (hs : ∀ U H, sx_X E U H → oxS E a b L U H) (h : Q (some (.int 1)) w) : sx_C E mJ0_isLatin1_aae02 1 0 0 [.ref a] w Q := by
  refine C_ofF (by decide +kernel) (Nat.le_of_ble_eq_true rfl) ?_
  refine V_gets (v := .int 1) (sx_di dJ0_isLatin1_aae02 0 rfl) (sx_a2 178 rfl rfl) (fun U H z => (hX.1 U H z).2.2.1) ?_
  refine V_if_eq (tgt := 17) (sx_di dJ0_isLatin1_aae02 1 rfl) (by decide) (fun h3 => absurd h3 (by decide)) (fun _ => ?_)
  refine V_aload_n (i := 0) (sx_di dJ0_isLatin1_aae02 2 rfl) rfl rfl ?_
  refine V_getO (v := .int 0) (sx_di dJ0_isLatin1_aae02 3 rfl) (sx_a8 66 rfl rfl) (fun U H z => (hs U H z).2.1) ?_
  refine V_if_ne (tgt := 17) (sx_di dJ0_isLatin1_aae02 4 rfl) (by decide) (fun h3 => absurd rfl h3) (fun _ => ?_)
  refine V_iconst (v := 1) (sx_di dJ0_isLatin1_aae02 5 rfl) (by decide) ?_
  refine V_goto (tgt := 18) (sx_di dJ0_isLatin1_aae02 6 rfl) (by decide) ?_
  refine V_zret (sx_di dJ0_isLatin1_aae02 8 rfl) rfl (by first | rfl | decide) (Nat.le_refl _) (Nat.le_refl _) ?_
  exact h
set_option maxHeartbeats 2000000 in
set_option maxRecDepth 20000 in
theorem c_strlen {E : sxE} {w : hpW} {Q : Option Value → hpW → Prop} (hX : XO E) {a b : Nat} {L : List Int32} (hs : ∀ U H, sx_X E U H → oxS E a b L U H) (h : Q (some (.int (nI L.length))) w) (hL : L.length < 2 ^ 31) : sx_C E mJ0_length_8abf5 2 0 0 [.ref a] w Q := by
  refine C_ofF (by decide +kernel) (Nat.le_of_ble_eq_true rfl) ?_
  refine V_aload_n (i := 0) (sx_di dJ0_length_8abf5 0 rfl) rfl rfl ?_
  refine V_getO (v := .ref b) (sx_di dJ0_length_8abf5 1 rfl) (sx_a8 67 rfl rfl) (fun U H z => (hs U H z).2.2.1) ?_
  refine V_alenO (sx_di dJ0_length_8abf5 2 rfl) (fun U H z => (hs U H z).2.2.2) ?_
  refine V_aload_n (i := 0) (sx_di dJ0_length_8abf5 3 rfl) rfl rfl ?_
  refine V_co0 (M' := mJ0_coder_7d493) 1 (sx_di dJ0_length_8abf5 4 rfl) (sx_a3 33 rfl rfl) vJ0_coder_7d493 (fun U H z => (hs U H z).1) (Nat.le_of_ble_eq_true rfl) ⟨Nat.le_of_ble_eq_true rfl, Nat.le_of_ble_eq_true rfl⟩ ⟨Nat.le_refl _, Nat.le_refl _⟩ ?_
  refine c_coder hX hs ?_
  refine V_ishr (sx_di dJ0_length_8abf5 5 rfl) ?_
  refine V_iv (y := nI L.length) (by show nI L.length >>> ((0 : Int32) &&& 31) = _; exact sc_shr0 hL) ?_
  refine V_iret (sx_di dJ0_length_8abf5 6 rfl) rfl (Nat.le_refl _) (Nat.le_refl _) ?_
  exact h
set_option maxHeartbeats 2000000 in
set_option maxRecDepth 20000 in
theorem c_pre_ck {E : sxE} {w : hpW} {Q : Option Value → hpW → Prop} {i n : Nat} (hi : i < n) (hn : n < 2 ^ 31) {v : Value} (hv : is_rv v) (h : Q (some (.int (nI i))) w) : sx_C E mJ3_checkIndex_8e157 1 0 0 [.int (nI i), .int (nI n), v] w Q := by
  refine C_ofF (by decide +kernel) (by rcases hv with rfl | ⟨a, rfl⟩ <;> exact Nat.le_of_ble_eq_true rfl) ?_
  refine V_iload_n (i := 0) (sx_di dJ3_checkIndex_8e157 0 rfl) rfl rfl ?_
  refine V_ifN_lt (a := i) rfl (by omega) (tgt := 9) (sx_di dJ3_checkIndex_8e157 1 rfl) (by decide) (fun z => absurd z (by omega)) (fun _ => ?_)
  refine V_iload_n (i := 0) (sx_di dJ3_checkIndex_8e157 2 rfl) rfl rfl ?_
  refine V_iload_n (i := 1) (sx_di dJ3_checkIndex_8e157 3 rfl) rfl rfl ?_
  refine V_icN_lt (a := i) (b := n) rfl rfl (by omega) (by omega) (tgt := 16) (sx_di dJ3_checkIndex_8e157 4 rfl) (by decide) (fun _ => ?_) (fun z => absurd hi z)
  refine V_iload_n (i := 0) (sx_di dJ3_checkIndex_8e157 10 rfl) rfl rfl ?_
  refine V_iret (sx_di dJ3_checkIndex_8e157 11 rfl) rfl (Nat.le_refl _) (Nat.le_refl _) ?_
  exact h
set_option maxHeartbeats 2000000 in
set_option maxRecDepth 20000 in
theorem c_str_ck {E : sxE} {w : hpW} {Q : Option Value → hpW → Prop} (hX : XO E) {i n : Nat} (hi : i < n) (hn : n < 2 ^ 31) (h : Q none w) : sx_C E mJ0_checkIndex_df160 2 0 0 [.int (nI i), .int (nI n)] w Q := by
  obtain ⟨v, hv, hz⟩ := hX.2
  refine C_ofF (by decide +kernel) (Nat.le_of_ble_eq_true rfl) ?_
  refine V_iload_n (i := 0) (sx_di dJ0_checkIndex_df160 0 rfl) rfl rfl ?_
  refine V_iload_n (i := 1) (sx_di dJ0_checkIndex_df160 1 rfl) rfl rfl ?_
  refine V_gets (v := v) (sx_di dJ0_checkIndex_df160 2 rfl) (sx_a2 186 rfl rfl) hz ?_
  refine V_cS3 (mc' := 0) (ms' := 0) (M' := mJ3_checkIndex_8e157) 1 (sx_di dJ0_checkIndex_df160 3 rfl) lJ0_1059 vJ3_checkIndex_8e157 (Nat.le_of_ble_eq_true rfl) ⟨Nat.le_of_ble_eq_true rfl, Nat.le_of_ble_eq_true rfl⟩ ⟨Nat.le_refl _, Nat.le_refl _⟩ ?_
  refine c_pre_ck hi hn hv ?_
  refine V_pop (sx_di dJ0_checkIndex_df160 4 rfl) rfl ?_
  refine V_vret (sx_di dJ0_checkIndex_df160 5 rfl) rfl (Nat.le_refl _) (Nat.le_refl _) ?_
  exact h
set_option maxHeartbeats 2000000 in
set_option maxRecDepth 20000 in
theorem c_lat_at {E : sxE} {w : hpW} {Q : Option Value → hpW → Prop} (hX : XO E) {a b : Nat} {L : List Int32} (hs : ∀ U H, sx_X E U H → oxS E a b L U H) {i : Nat} (hi : i < L.length) (hL : L.length < 2 ^ 31) (h : Q (some (.int (L.getD i 0 &&& 255))) w) : sx_C E mJ1_charAt_3b067 3 0 0 [.ref b, .int (nI i)] w Q := by
  refine C_ofF (by decide +kernel) (Nat.le_of_ble_eq_true rfl) ?_
  refine V_iload_n (i := 1) (sx_di dJ1_charAt_3b067 0 rfl) rfl rfl ?_
  refine V_aload_n (i := 0) (sx_di dJ1_charAt_3b067 1 rfl) rfl rfl ?_
  refine V_alenO (sx_di dJ1_charAt_3b067 2 rfl) (fun U H z => (hs U H z).2.2.2) ?_
  refine V_cS2 (mc' := 0) (ms' := 0) (M' := mJ0_checkIndex_df160) 2 (sx_di dJ1_charAt_3b067 3 rfl) lJ1_9 vJ0_checkIndex_df160 (Nat.le_of_ble_eq_true rfl) ⟨Nat.le_of_ble_eq_true rfl, Nat.le_of_ble_eq_true rfl⟩ ⟨Nat.le_refl _, Nat.le_refl _⟩ ?_
  refine c_str_ck hX hi hL ?_
  refine V_aload_n (i := 0) (sx_di dJ1_charAt_3b067 4 rfl) rfl rfl ?_
  refine V_iload_n (i := 1) (sx_di dJ1_charAt_3b067 5 rfl) rfl rfl ?_
  refine V_baldO (sx_di dJ1_charAt_3b067 6 rfl) (fun U H z => (hs U H z).2.2.2) (vp_in_nI hi hL) ?_
  refine V_sipush (v := 255) (sx_di dJ1_charAt_3b067 7 rfl) (by decide) ?_
  refine V_iand (sx_di dJ1_charAt_3b067 8 rfl) ?_
  refine V_i2c (sx_di dJ1_charAt_3b067 9 rfl) ?_
  refine V_iv (y := L.getD i 0 &&& 255) (by rw [nI_clamp (by omega)]; exact sc_c2 _) ?_
  refine V_zret (sx_di dJ1_charAt_3b067 10 rfl) rfl (sc_nar _) (Nat.le_refl _) (Nat.le_refl _) ?_
  exact h
set_option maxHeartbeats 2000000 in
set_option maxRecDepth 20000 in
theorem c_str_at {E : sxE} {w : hpW} {Q : Option Value → hpW → Prop} (hX : XO E) {a b : Nat} {L : List Int32} (hs : ∀ U H, sx_X E U H → oxS E a b L U H) {i : Nat} (hi : i < L.length) (hL : L.length < 2 ^ 31) (h : Q (some (.int (L.getD i 0 &&& 255))) w) : sx_C E mJ0_charAt_5068e 4 0 0 [.ref a, .int (nI i)] w Q := by
  refine C_ofF (by decide +kernel) (Nat.le_of_ble_eq_true rfl) ?_
  refine V_aload_n (i := 0) (sx_di dJ0_charAt_5068e 0 rfl) rfl rfl ?_
  refine V_co0 (M' := mJ0_isLatin1_aae02) 1 (sx_di dJ0_charAt_5068e 1 rfl) (sx_a2 174 rfl rfl) vJ0_isLatin1_aae02 (fun U H z => (hs U H z).1) (Nat.le_of_ble_eq_true rfl) ⟨Nat.le_of_ble_eq_true rfl, Nat.le_of_ble_eq_true rfl⟩ ⟨Nat.le_refl _, Nat.le_refl _⟩ ?_
  refine c_isLatin1 hX hs ?_
  refine V_if_eq (tgt := 16) (sx_di dJ0_charAt_5068e 2 rfl) (by decide) (fun h3 => absurd h3 (by decide)) (fun _ => ?_)
  refine V_aload_n (i := 0) (sx_di dJ0_charAt_5068e 3 rfl) rfl rfl ?_
  refine V_getO (v := .ref b) (sx_di dJ0_charAt_5068e 4 rfl) (sx_a8 67 rfl rfl) (fun U H z => (hs U H z).2.2.1) ?_
  refine V_iload_n (i := 1) (sx_di dJ0_charAt_5068e 5 rfl) rfl rfl ?_
  refine V_cS2 (mc' := 0) (ms' := 0) (M' := mJ1_charAt_3b067) 3 (sx_di dJ0_charAt_5068e 6 rfl) lJ0_495 vJ1_charAt_3b067 (Nat.le_of_ble_eq_true rfl) ⟨Nat.le_of_ble_eq_true rfl, Nat.le_of_ble_eq_true rfl⟩ ⟨Nat.le_refl _, Nat.le_refl _⟩ ?_
  refine c_lat_at hX hs hi hL ?_
  refine V_zret (sx_di dJ0_charAt_5068e 7 rfl) rfl (sc_nar _) (Nat.le_refl _) (Nat.le_refl _) ?_
  exact h

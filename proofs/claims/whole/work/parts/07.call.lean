/-! THE ROWS OF V for calls, copies, arrays of things -/
/-- what the tables say of a method that is called -/
def sx_mt (M : sxM) (n : Nat) : Prop := sx_w (.code M.1 M.2.1 M.2.2.1 M.2.2.2) ∧ sx_w (.initialized M.1.cls) ∧ (M.1.cls ≠ "java/lang/invoke/MethodHandle" ∧ M.1.cls ≠ "java/lang/invoke/VarHandle") ∧ (parseMethodDescriptor M.1.desc).map (fun d => d.parameters.length) = some n ∧ M.2.2.1 ≤ 45
def sx_mv (M : sxM) (n : Nat) : Prop := sx_mt M n ∧ sx_w (.instanceMethod M.1) ∧ sx_w (.selects M.1.cls M.1 M.1)
def sx_ms (M : sxM) (n : Nat) : Prop := sx_mt M n ∧ sx_w (.static M.1)
def sx_mi (M : sxM) (n : Nat) : Prop := sx_mt M n ∧ sx_w (.instanceMethod M.1) ∧ M.1.name = "<init>" ∧ M.2.2.2 = none
def sx_ml (C : String) (idx : Nat) (y : MethodName) : Prop := sx_w (.methodLink C idx y) ∨ ∃ host, sx_w (.methodLinkNest C idx y host)
section SXC
variable {E : sxE} {M : sxM} {R : Room} {mc ms ce sl pc : Nat} {ls : List (Nat × Value)} {w : hpW} {Q : Option Value → hpW → Prop} {idx : Nat} {M' : sxM} {d mc' ms' : Nat} {rest : List Value}
theorem sx_bl {av : List Value} : FrameBlind (fun a U => a = (av.map (sx_v E)).toArray ∧ sx_P E w U.heap ∧ sx_K E U U.heap) := fun a U g mk q => ⟨q.1, q.2.1, sx_K.warm (U := U.calling g mk a) (H := U.heap) (State.WarmedH.refl U) (fun _ _ => rfl) q.2.2⟩
theorem sx_pre {av : List Value} {p : Program} {s : State} {m : MethodId} {meth : Method} {c : Code} {H : Heap} {locs : List Loc} {la : Array Slot} (g : sx_In E M p s m meth c H locs la ls w) (U : State) (hU : U.heap = H) (hW : s.WarmedH U.vm) : (av.map (sx_v E)).toArray = (av.map (sx_v E)).toArray ∧ sx_P E w U.heap ∧ sx_K E U U.heap := ⟨rfl, by rw [hU]; exact g.2.1, sx_K.warm hW (fun q hq => by rw [hU]; exact g.2.2.1 q hq) g.1.2.2.2.2.2.2.2⟩
theorem sx_go {Q' : Option Value → hpW → Prop} {a : Array Value} {p : Program} {e : Env} {s : State} {m : MethodId} {args : Array Value} {below : List Frame} {meth : Method} {c : Code} {H : Heap} {locs : List Loc} {la : Array Slot} {stk : List Value} (g : sx_In E M p s m meth c H locs la ls w)
    (hr : va_Run p (sx_l E) e R s m args below meth c H locs ce sl mc' ms' (F0 m pc la stk) (rest.map (sx_v E)) (sx_Qc E Q' a) (fun q => sx_b E ≤ q)) (kk : ∀ r w', Q' r w' → V E M R mc ms (ce + mc') (sl + ms') (pc + 3) ls (sx_push r rest) w' Q) :
    W p (sx_l E) e R s m args below meth c H locs ce sl (MQ below (sx_Qc E Q) args s mc ms (fun q => sx_b E ≤ q)) (F0 m pc la stk) := by
  intro T hT X
  obtain ⟨v, st₀, t, T', L, h0, X', hL, e1, e2, ⟨r, w', hv, hP', hQ, hB'⟩, st⟩ := hr T hT X
  have hv : v = r.map (sx_v E) := by cases hv; rfl
  subst hv
  have k2 := kk r w' hQ p e s m args below meth c T'.heap (locs ++ L) la ⟨g.1, by rw [e1]; exact hP', fun q hq => by rw [e1, hB' q hq, h0]; exact g.2.2.1 q hq, fun q hq => (List.mem_append.mp hq).elim (fun h => g.2.2.2.1 q h) (fun h => hL q h), g.2.2.2.2⟩ T' rfl X'
  obtain ⟨t2, a1, b1⟩ := k2
  refine ⟨t2, st t2 ?_, b1⟩
  have e3 : (r.map (sx_v E)).toList ++ rest.map (sx_v E) = (sx_push r rest).map (sx_v E) := sx_push_map E r rest
  show Steps p.tables e below (T'.setTop (F0 m (pc + 3) la ((r.map (sx_v E)).toList ++ rest.map (sx_v E)))) t2
  rw [e3]
  exact a1
theorem sx_cat (E : sxE) (st : List Value) : ((st.map (sx_v E)).map fun v => v.category).sum = (st.map fun v => v.category).sum := by
  induction st with
  | nil => rfl
  | cons v r ih => simp only [List.map_cons, List.sum_cons, sx_v_cat, ih]
theorem sx_rmR {m : MethodId} {la : Array Slot} {st0 : List Value} (h : (rest.map fun v => v.category).sum ≤ 8) : 2 * (F0 m pc la st0).monitorRoom + ((rest.map (sx_v E)).map fun v => v.category).sum ≤ 8 := lv_room (by rw [sx_cat]; exact h)
theorem sx_cd {s : State} (hT : sx_TB s) {n : Nat} (hm : sx_mt M' n) : ∀ x ∈ [Cond.code M'.1 M'.2.1 M'.2.2.1 M'.2.2.2], ∀ (a' : Array Value) (U : State), s.WarmedH U.vm → x.before a' U = true := fun x hx a' U hW => by rw [List.mem_singleton.mp hx]; exact hT.warm hW _ hm.1 a'
theorem sx_len {n : Nat} (hm : sx_mt M' n) : ∀ sig, parseMethodDescriptor M'.1.desc = some sig → n = sig.parameters.length := fun sig h => by
  have h2 := hm.2.2.2.1
  rw [h] at h2
  exact (Option.some.inj h2).symm
theorem V_callV {as : List Value} {b n c N : Nat} (hd : decode M.2.1 pc = .ok (.invokevirtual idx, 3)) (hl : sx_ml M.1.cls idx M'.1) (hm : sx_mv M' n) (hk : hp_k w b = (c, N)) (hc : c < 13) (hcn : cl_R c = M'.1.cls) (hn : as.length = n) (hrm : (rest.map fun v => v.category).sum ≤ 8) (hf : d + 1 ≤ R.frames ∧ 64 + 64 * d ≤ R.locals) (h1 : ce + mc' ≤ R.cells ∧ sl + ms' ≤ R.slots)
    (kk : sx_C E M' d mc' ms' (.ref b :: as) w (fun r w' => V E M R mc ms (ce + mc') (sl + ms') (pc + 3) ls (sx_push r rest) w' Q)) : V E M R mc ms ce sl pc ls (as.reverse ++ .ref b :: rest) w Q := by
  intro p e s m args below meth c0 H locs la g
  have hT := g.1.2.2.2.2.2.2.2.1
  have hloc := hm.1.2.2.2.2
  obtain ⟨-, -, hat⟩ := g.2.1.2.2 b (by rw [hk]; show c < 18; omega)
  rw [hp_e_o hk hc] at hat
  obtain ⟨r', h3, cell, q1, q2, q3, -⟩ := hat
  have hcell : ∃ cellB : Cell, H[sx_ad E b]? = some cellB ∧ cellB.vm.isStatics = false ∧ s.vm.findClass M'.1.cls = some cellB.cls := ⟨cell, q1, by rw [q3]; rfl, by rw [q2, ← hcn]; exact (g.1.2.2.2.2.2.2.2.2.1.1 c _ (cl_at hc)).2.1⟩
  have hstk : (as.reverse ++ Value.ref b :: rest).map (sx_v E) = (as.map (sx_v E)).reverse ++ .ref (sx_ad E b) :: rest.map (sx_v E) := by simp [sx_v]
  rw [hstk]
  refine sx_go (a := (Value.ref (sx_ad E b) :: as.map (sx_v E)).toArray) (stk := (as.map (sx_v E)).reverse ++ .ref (sx_ad E b) :: rest.map (sx_v E)) (rest := rest) (mc' := mc') (ms' := ms') g ?_ (fun r w' h => h)
  have hp : PreV s H M'.1.cls (sx_ad E b) (fun a U => a = ((Value.ref b :: as).map (sx_v E)).toArray ∧ sx_P E w U.heap ∧ sx_K E U U.heap) (as.map (sx_v E)) := ⟨sx_bl, hcell, fun U hU hW => sx_pre (av := Value.ref b :: as) g U hU hW⟩
  rcases hl with hl | ⟨host, hl⟩
  · exact va_runV (C := M'.1.cls) (bytes := M'.2.1) (maxL := M'.2.2.1) (ret := M'.2.2.2) (Ts := []) (nL := M.2.2.1) (n := n) ⟨g.1.1, g.1.2.1, g.1.2.2.1, g.1.2.2.2.2.2.1, fun _ h => by cases h⟩ kk ⟨⟨rfl, rfl, hf.1, by show 8 + (M'.2.2.1 + 11) + 64 * d ≤ R.locals; omega, sx_cd hT hm.1, List.mem_singleton.mpr rfl, hT _ hm.1.1 _, hT _ hm.1.2.1 _, hm.1.2.2.1, sx_len hm.1, hT _ hl _⟩, hT _ hm.2.1 _, hT _ hm.2.2 _⟩ hp rfl (by rw [List.length_map]; exact hn) g.2.2.2.2.1 rfl (sx_rmR hrm) hd h1
  · exact va_runVN (C := M'.1.cls) (bytes := M'.2.1) (maxL := M'.2.2.1) (ret := M'.2.2.2) (Ts := []) (nL := M.2.2.1) (n := n) (host := host) ⟨g.1.1, g.1.2.1, g.1.2.2.1, g.1.2.2.2.2.2.1, fun _ h => by cases h⟩ kk ⟨⟨⟨rfl, rfl, hf.1, by show 8 + (M'.2.2.1 + 11) + 64 * d ≤ R.locals; omega, sx_cd hT hm.1, List.mem_singleton.mpr rfl⟩, hT _ hm.1.1 _, hT _ hm.1.2.1 _, hm.1.2.2.1, sx_len hm.1, hT _ hl _⟩, hT _ hm.2.1 _, hT _ hm.2.2 _⟩ hp rfl (by rw [List.length_map]; exact hn) g.2.2.2.2.1 rfl (sx_rmR hrm) hd h1
theorem V_callS {as : List Value} {n : Nat} (hd : decode M.2.1 pc = .ok (.invokestatic idx, 3)) (hl : sx_ml M.1.cls idx M'.1) (hm : sx_ms M' n) (hn : as.length = n) (hrm : (rest.map fun v => v.category).sum ≤ 8) (hf : d + 1 ≤ R.frames ∧ 64 + 64 * d ≤ R.locals) (h1 : ce + mc' ≤ R.cells ∧ sl + ms' ≤ R.slots)
    (kk : sx_C E M' d mc' ms' as w (fun r w' => V E M R mc ms (ce + mc') (sl + ms') (pc + 3) ls (sx_push r rest) w' Q)) : V E M R mc ms ce sl pc ls (as.reverse ++ rest) w Q := by
  intro p e s m args below meth c0 H locs la g
  have hT := g.1.2.2.2.2.2.2.2.1
  have hloc := hm.1.2.2.2.2
  have hstk : (as.reverse ++ rest).map (sx_v E) = (as.map (sx_v E)).reverse ++ rest.map (sx_v E) := by simp
  rw [hstk]
  refine sx_go (a := (as.map (sx_v E)).toArray) (stk := (as.map (sx_v E)).reverse ++ rest.map (sx_v E)) (rest := rest) (mc' := mc') (ms' := ms') g ?_ (fun r w' h => h)
  have hp : PreS s H (fun a U => a = (as.map (sx_v E)).toArray ∧ sx_P E w U.heap ∧ sx_K E U U.heap) (as.map (sx_v E)) := ⟨sx_bl, fun U hU hW => sx_pre (av := as) g U hU hW⟩
  rcases hl with hl | ⟨host, hl⟩
  · exact va_runS (bytes := M'.2.1) (maxL := M'.2.2.1) (ret := M'.2.2.2) (Ts := []) (nL := M.2.2.1) (n := n) ⟨g.1.1, g.1.2.1, g.1.2.2.1, g.1.2.2.2.2.2.1, fun _ h => by cases h⟩ kk ⟨⟨rfl, rfl, hf.1, by show 8 + (M'.2.2.1 + 11) + 64 * d ≤ R.locals; omega, sx_cd hT hm.1, List.mem_singleton.mpr rfl, hT _ hm.1.1 _, hT _ hm.1.2.1 _, hm.1.2.2.1, sx_len hm.1, hT _ hl _⟩, hT _ hm.2 _⟩ hp rfl (by rw [List.length_map]; exact hn) g.2.2.2.2.1 rfl (sx_rmR hrm) hd h1
  · exact va_runSN (bytes := M'.2.1) (maxL := M'.2.2.1) (ret := M'.2.2.2) (Ts := []) (nL := M.2.2.1) (n := n) (host := host) ⟨g.1.1, g.1.2.1, g.1.2.2.1, g.1.2.2.2.2.2.1, fun _ h => by cases h⟩ kk ⟨⟨⟨rfl, rfl, hf.1, by show 8 + (M'.2.2.1 + 11) + 64 * d ≤ R.locals; omega, sx_cd hT hm.1, List.mem_singleton.mpr rfl⟩, hT _ hm.1.1 _, hT _ hm.1.2.1 _, hm.1.2.2.1, sx_len hm.1, hT _ hl _⟩, hT _ hm.2 _, trivial⟩ hp rfl (by rw [List.length_map]; exact hn) g.2.2.2.2.1 rfl (sx_rmR hrm) hd h1
theorem V_callI {as : List Value} {b n : Nat} (hd : decode M.2.1 pc = .ok (.invokespecial idx, 3)) (hl : sx_ml M.1.cls idx M'.1) (hm : sx_mi M' n) (hn : as.length = n) (hrm : (rest.map fun v => v.category).sum ≤ 8) (hf : d + 1 ≤ R.frames ∧ 64 + 64 * d ≤ R.locals) (h1 : ce + mc' ≤ R.cells ∧ sl + ms' ≤ R.slots)
    (kk : sx_C E M' d mc' ms' (.ref b :: as) w (fun r w' => V E M R mc ms (ce + mc') (sl + ms') (pc + 3) ls (sx_push r rest) w' Q)) : V E M R mc ms ce sl pc ls (as.reverse ++ .ref b :: rest) w Q := by
  intro p e s m args below meth c0 H locs la g
  have hT := g.1.2.2.2.2.2.2.2.1
  have hloc := hm.1.2.2.2.2
  have hret : M'.2.2.2 = none := hm.2.2.2
  have hcode := hm.1.1
  rw [hret] at hcode
  have hstk : (as.reverse ++ Value.ref b :: rest).map (sx_v E) = (as.map (sx_v E)).reverse ++ .ref (sx_ad E b) :: rest.map (sx_v E) := by simp [sx_v]
  rw [hstk]
  refine sx_go (a := (Value.ref (sx_ad E b) :: as.map (sx_v E)).toArray) (stk := (as.map (sx_v E)).reverse ++ .ref (sx_ad E b) :: rest.map (sx_v E)) (rest := rest) (mc' := mc') (ms' := ms') g ?_ (fun r w' h => h)
  have hp : PreS s H (fun a U => a = ((Value.ref b :: as).map (sx_v E)).toArray ∧ sx_P E w U.heap ∧ sx_K E U U.heap) (.ref (sx_ad E b) :: as.map (sx_v E)) := ⟨sx_bl, fun U hU hW => sx_pre (av := Value.ref b :: as) g U hU hW⟩
  have hcd := sx_cd hT hm.1
  have kk' := kk
  unfold sx_C at kk'
  rw [hret] at kk' hcd
  rcases hl with hl | ⟨host, hl⟩
  · exact va_runI (bytes := M'.2.1) (maxL := M'.2.2.1) (Ts := []) (nL := M.2.2.1) (n := n) ⟨g.1.1, g.1.2.1, g.1.2.2.1, g.1.2.2.2.2.2.1, fun _ h => by cases h⟩ kk' ⟨⟨rfl, rfl, hf.1, by show 8 + (M'.2.2.1 + 11) + 64 * d ≤ R.locals; omega, hcd, List.mem_singleton.mpr rfl, hT _ hcode _, hT _ hm.1.2.1 _, hm.1.2.2.1, sx_len hm.1, hT _ hl _⟩, hm.2.2.1, hT _ hm.2.1 _⟩ hp rfl (by rw [List.length_map]; exact hn) g.2.2.2.2.1 rfl (sx_rmR hrm) hd h1
  · exact va_runIN (bytes := M'.2.1) (maxL := M'.2.2.1) (Ts := []) (nL := M.2.2.1) (n := n) (host := host) ⟨g.1.1, g.1.2.1, g.1.2.2.1, g.1.2.2.2.2.2.1, fun _ h => by cases h⟩ kk' ⟨⟨⟨rfl, rfl, hf.1, by show 8 + (M'.2.2.1 + 11) + 64 * d ≤ R.locals; omega, hcd, List.mem_singleton.mpr rfl⟩, hT _ hcode _, hT _ hm.1.2.1 _, hm.1.2.2.1, sx_len hm.1, hT _ hl _⟩, hm.2.2.1, hT _ hm.2.1 _⟩ hp rfl (by rw [List.length_map]; exact hn) g.2.2.2.2.1 rfl (sx_rmR hrm) hd h1
theorem V_objInit {b : Nat} (hd : decode M.2.1 pc = .ok (.invokespecial idx, 3)) (hl : sx_w (.methodLink M.1.cls idx Lib.objectInit)) (hi : sx_w (.instanceMethod Lib.objectInit)) (hc : sx_w (.code Lib.objectInit ⟨#[0xb1]⟩ 1 none)) (hrm : (rest.map fun v => v.category).sum ≤ 8) (hf : 1 ≤ R.frames ∧ 64 ≤ R.locals) (kk : V E M R mc ms ce sl (pc + 3) ls rest w Q) : V E M R mc ms ce sl pc ls (.ref b :: rest) w Q := by
  intro p e s m args below meth c0 H locs la g
  have hT := g.1.2.2.2.2.2.2.2.1
  refine W.objInit g.1.1 g.1.2.1 g.1.2.2.2.2.2.1 (hT _ hl _) (hT _ hi _) (hT _ hc _) rfl (g.2.2.2.2.1.trans g.1.2.2.1.symm) rfl hd hf.1 ?_ (kk p e s m args below meth c0 H locs la g)
  have h8 := sx_rmR (E := E) (m := m) (la := la) (pc := pc) (st0 := (Value.ref b :: rest).map (sx_v E)) hrm
  have h9 := hf.2
  show 2 * (F0 m pc la ((Value.ref b :: rest).map (sx_v E))).monitorRoom + ((rest.map (sx_v E)).map fun v => v.category).sum + 12 ≤ R.locals
  omega
end SXC

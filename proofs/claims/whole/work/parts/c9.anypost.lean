/-! the walk to any end Z; a few rows of it, for the part of house that throws -/
def VX (E : sxE) (M : sxM) (R : Room) (CP : Code → Prop) (Z : List Frame → Array Value → State → State → Prop) (ce sl pc : Nat) (ls : List (Nat × Value)) (st : List Value) (w : hpW) : Prop :=
  ∀ (p : Program) (e : Env) (s : State) (m : MethodId) (args : Array Value) (below : List Frame) (meth : Method) (c : Code) (H : Heap) (locs : List Loc) (la : Array Slot),
    CP c → sx_In E M p s m meth c H locs la ls w → W p (sx_l E) e R s m args below meth c H locs ce sl (Z below args s) (F0 m pc la (st.map (sx_v E)))
section SXX
variable {E : sxE} {M M' : sxM} {R : Room} {CP : Code → Prop} {Z : List Frame → Array Value → State → State → Prop} {mc ms ce sl pc mc' ms' d idx : Nat} {ls : List (Nat × Value)} {st rest : List Value} {w : hpW} {Q : Option Value → hpW → Prop}
theorem VX_of (h : ∀ below args s t, MQ below (sx_Qc E Q) args s mc ms (fun q => sx_b E ≤ q) t → Z below args s t) (k : V E M R mc ms ce sl pc ls st w Q) : VX E M R CP Z ce sl pc ls st w := by
  intro p e s m args below meth c H locs la hC g T hT X
  obtain ⟨t, a1, b1⟩ := k p e s m args below meth c H locs la g T hT X
  exact ⟨t, a1, h below args s t b1⟩
theorem VX_aload_n {j : Fin 4} {i : Nat} {x : Nat} (hd : decode M.2.1 pc = .ok (.aload_n j, 1)) (hi : (j : Nat) = i) (hl : ls.lookup i = some (.ref x)) (k : VX E M R CP Z ce sl (pc + 1) ls (.ref x :: st) w) : VX E M R CP Z ce sl pc ls st w := fun p e s m args below meth c H locs la hC g => lv_aload_n g.1.1 g.1.2.1 hd hi (g.2.2.2.2.2.2 _ _ hl) (k p e s m args below meth c H locs la hC g)
theorem VX_iload_n {j : Fin 4} {i : Nat} {x : Int32} (hd : decode M.2.1 pc = .ok (.iload_n j, 1)) (hi : (j : Nat) = i) (hl : ls.lookup i = some (.int x)) (k : VX E M R CP Z ce sl (pc + 1) ls (.int x :: st) w) : VX E M R CP Z ce sl pc ls st w := fun p e s m args below meth c H locs la hC g => lv_iload_n g.1.1 g.1.2.1 hd hi (g.2.2.2.2.2.2 _ _ hl) (k p e s m args below meth c H locs la hC g)
theorem VX_if_eq {x : Int32} {off : Int} {tgt : Nat} (hd : decode M.2.1 pc = .ok (.ifCond .eq off, 3)) (ht : (pc : Int) + off = (tgt : Int)) (kt : x = 0 → VX E M R CP Z ce sl tgt ls st w) (kf : ¬ x = 0 → VX E M R CP Z ce sl (pc + 3) ls st w) : VX E M R CP Z ce sl pc ls (.int x :: st) w := fun p e s m args below meth c H locs la hC g => lv_if_eq g.1.1 g.1.2.1 hd ht (fun z => kt z p e s m args below meth c H locs la hC g) (fun z => kf z p e s m args below meth c H locs la hC g)
theorem VX_if_lt {x : Int32} {off : Int} {tgt : Nat} (hd : decode M.2.1 pc = .ok (.ifCond .lt off, 3)) (ht : (pc : Int) + off = (tgt : Int)) (kt : x < 0 → VX E M R CP Z ce sl tgt ls st w) (kf : ¬ x < 0 → VX E M R CP Z ce sl (pc + 3) ls st w) : VX E M R CP Z ce sl pc ls (.int x :: st) w := fun p e s m args below meth c H locs la hC g => lv_if_lt g.1.1 g.1.2.1 hd ht (fun z => kt z p e s m args below meth c H locs la hC g) (fun z => kf z p e s m args below meth c H locs la hC g)
theorem VX_bipush {n : Int} {v : Int32} (hd : decode M.2.1 pc = .ok (.bipush n, 2)) (hv : (Int8.ofInt n).toInt32 = v) (k : VX E M R CP Z ce sl (pc + 2) ls (.int v :: st) w) : VX E M R CP Z ce sl pc ls (st) w := fun p e s m args below meth c H locs la hC g => lv_bipush g.1.1 g.1.2.1 hd hv (k p e s m args below meth c H locs la hC g)
theorem VX_icmp_le {x y : Int32} {off : Int} {tgt : Nat} (hd : decode M.2.1 pc = .ok (.if_icmp .le off, 3)) (ht : (pc : Int) + off = (tgt : Int)) (kt : x ≤ y → VX E M R CP Z ce sl tgt ls st w) (kf : ¬ x ≤ y → VX E M R CP Z ce sl (pc + 3) ls st w) : VX E M R CP Z ce sl pc ls (.int y :: .int x :: st) w := fun p e s m args below meth c H locs la hC g => lv_icmp_le g.1.1 g.1.2.1 hd ht (fun z => kt z p e s m args below meth c H locs la hC g) (fun z => kf z p e s m args below meth c H locs la hC g)
theorem sx_goX {Q' : Option Value → hpW → Prop} {a : Array Value} {p : Program} {e : Env} {s : State} {m : MethodId} {args : Array Value} {below : List Frame} {meth : Method} {c : Code} {H : Heap} {locs : List Loc} {la : Array Slot} {stk : List Value} (hC : CP c) (g : sx_In E M p s m meth c H locs la ls w)
    (hr : va_Run p (sx_l E) e R s m args below meth c H locs ce sl mc' ms' (F0 m pc la stk) (rest.map (sx_v E)) (sx_Qc E Q' a) (fun q => sx_b E ≤ q)) (kk : ∀ r w', Q' r w' → VX E M R CP Z (ce + mc') (sl + ms') (pc + 3) ls (sx_push r rest) w') :
    W p (sx_l E) e R s m args below meth c H locs ce sl (Z below args s) (F0 m pc la stk) := by
  intro T hT X
  obtain ⟨v, st₀, t, T', L, h0, X', hL, e1, e2, ⟨r, w', hv, hP', hQ, hB'⟩, st⟩ := hr T hT X
  have hv : v = r.map (sx_v E) := by cases hv; rfl
  subst hv
  have k2 := kk r w' hQ p e s m args below meth c T'.heap (locs ++ L) la hC ⟨g.1, by rw [e1]; exact hP', fun q hq => by rw [e1, hB' q hq, h0]; exact g.2.2.1 q hq, fun q hq => (List.mem_append.mp hq).elim (fun h => g.2.2.2.1 q h) (fun h => hL q h), g.2.2.2.2⟩ T' rfl X'
  obtain ⟨t2, a1, b1⟩ := k2
  refine ⟨t2, st t2 ?_, b1⟩
  have e3 : (r.map (sx_v E)).toList ++ rest.map (sx_v E) = (sx_push r rest).map (sx_v E) := sx_push_map E r rest
  show Steps p.tables e below (T'.setTop (F0 m (pc + 3) la ((r.map (sx_v E)).toList ++ rest.map (sx_v E)))) t2
  rw [e3]
  exact a1
theorem VX_callV {as : List Value} {b n c N : Nat} (hd : decode M.2.1 pc = .ok (.invokevirtual idx, 3)) (hl : sx_ml M.1.cls idx M'.1) (hm : sx_mv M' n) (hk : hp_k w b = (c, N)) (hc : c < 13) (hcn : cl_R c = M'.1.cls) (hn : as.length = n) (hrm : (rest.map fun v => v.category).sum ≤ 8) (hf : d + 1 ≤ R.frames ∧ 64 + 64 * d ≤ R.locals) (h1 : ce + mc' ≤ R.cells ∧ sl + ms' ≤ R.slots)
    (kk : sx_C E M' d mc' ms' (.ref b :: as) w (fun r w' => VX E M R CP Z (ce + mc') (sl + ms') (pc + 3) ls (sx_push r rest) w')) : VX E M R CP Z ce sl pc ls (as.reverse ++ .ref b :: rest) w := by
  intro p e s m args below meth c0 H locs la hC g
  have hT := g.1.2.2.2.2.2.2.2.1
  have hloc := hm.1.2.2.2.2
  obtain ⟨-, -, hat⟩ := g.2.1.2.2 b (by rw [hk]; show c < 18; omega)
  rw [hp_e_o hk hc] at hat
  obtain ⟨r', h3, cell, q1, q2, q3, -⟩ := hat
  have hcell : ∃ cellB : Cell, H[sx_ad E b]? = some cellB ∧ cellB.vm.isStatics = false ∧ s.vm.findClass M'.1.cls = some cellB.cls := ⟨cell, q1, by rw [q3]; rfl, by rw [q2, ← hcn]; exact (g.1.2.2.2.2.2.2.2.2.1.1 c _ (cl_at hc)).2.1⟩
  have hstk : (as.reverse ++ Value.ref b :: rest).map (sx_v E) = (as.map (sx_v E)).reverse ++ .ref (sx_ad E b) :: rest.map (sx_v E) := by simp [sx_v]
  rw [hstk]
  refine sx_goX (a := (Value.ref (sx_ad E b) :: as.map (sx_v E)).toArray) (stk := (as.map (sx_v E)).reverse ++ .ref (sx_ad E b) :: rest.map (sx_v E)) (rest := rest) (mc' := mc') (ms' := ms') hC g ?_ (fun r w' h => h)
  have hp : PreV s H M'.1.cls (sx_ad E b) (fun a U => a = ((Value.ref b :: as).map (sx_v E)).toArray ∧ sx_P E w U.heap ∧ sx_K E U U.heap) (as.map (sx_v E)) := ⟨sx_bl, hcell, fun U hU hW => sx_pre (av := Value.ref b :: as) g U hU hW⟩
  rcases hl with hl | ⟨host, hl⟩
  · exact va_runV (C := M'.1.cls) (bytes := M'.2.1) (maxL := M'.2.2.1) (ret := M'.2.2.2) (Ts := []) (nL := M.2.2.1) (n := n) ⟨g.1.1, g.1.2.1, g.1.2.2.1, g.1.2.2.2.2.2.1, fun _ h => by cases h⟩ kk ⟨⟨rfl, rfl, hf.1, by show 8 + (M'.2.2.1 + 11) + 64 * d ≤ R.locals; omega, sx_cd hT hm.1, List.mem_singleton.mpr rfl, hT _ hm.1.1 _, hT _ hm.1.2.1 _, hm.1.2.2.1, sx_len hm.1, hT _ hl _⟩, hT _ hm.2.1 _, hT _ hm.2.2 _⟩ hp rfl (by rw [List.length_map]; exact hn) g.2.2.2.2.1 rfl (sx_rmR hrm) hd h1
  · exact va_runVN (C := M'.1.cls) (bytes := M'.2.1) (maxL := M'.2.2.1) (ret := M'.2.2.2) (Ts := []) (nL := M.2.2.1) (n := n) (host := host) ⟨g.1.1, g.1.2.1, g.1.2.2.1, g.1.2.2.2.2.2.1, fun _ h => by cases h⟩ kk ⟨⟨⟨rfl, rfl, hf.1, by show 8 + (M'.2.2.1 + 11) + 64 * d ≤ R.locals; omega, sx_cd hT hm.1, List.mem_singleton.mpr rfl⟩, hT _ hm.1.1 _, hT _ hm.1.2.1 _, hm.1.2.2.1, sx_len hm.1, hT _ hl _⟩, hT _ hm.2.1 _, hT _ hm.2.2 _⟩ hp rfl (by rw [List.length_map]; exact hn) g.2.2.2.2.1 rfl (sx_rmR hrm) hd h1
end SXX

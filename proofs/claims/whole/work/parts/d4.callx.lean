/-! a call that may throw -/
section SXY
variable {E : sxE} {M M' : sxM} {R : Room} {CP : Code → Prop} {Z : List Frame → Array Value → State → State → Prop} {mc ms ce sl pc mc' ms' d idx : Nat} {ls : List (Nat × Value)} {st rest : List Value} {w : hpW} {Q Q' : Option Value → hpW → Prop} {XQ : hpW → Prop}
theorem VX_iconst {n : Int} {v : Int32} (hd : decode M.2.1 pc = .ok (.iconst n, 1)) (hv : Int32.ofInt n = v) (k : VX E M R CP Z ce sl (pc + 1) ls (.int v :: st) w) : VX E M R CP Z ce sl pc ls (st) w := fun p e s m args below meth c H locs la hC g => lv_iconst g.1.1 g.1.2.1 hd hv (k p e s m args below meth c H locs la hC g)
theorem VX_callX {as : List Value} {b n c N : Nat} (hd : decode M.2.1 pc = .ok (.invokevirtual idx, 3)) (hl : sx_w (.methodLink M.1.cls idx M'.1)) (hm : sx_mv M' n) (hk : hp_k w b = (c, N)) (hc : c < 13) (hcn : cl_R c = M'.1.cls) (hn : as.length = n) (hrm : (rest.map fun v => v.category).sum ≤ 8) (hf : d + 1 ≤ R.frames ∧ 64 + 64 * d ≤ R.locals) (h1 : ce + mc' ≤ R.cells ∧ sl + ms' ≤ R.slots)
    (kk : vx_Met (sx_l E) M'.1 [.code M'.1 M'.2.1 M'.2.2.1 M'.2.2.2] (sx_rm d mc' ms') (fun a U => a = ((Value.ref b :: as).map (sx_v E)).toArray ∧ sx_P E w U.heap ∧ sx_K E U U.heap) (sx_Qc E Q') (sx_XC E XQ) mc' ms' (fun q => sx_b E ≤ q))
    (kr : ∀ r w', Q' r w' → VX E M R CP Z (ce + mc') (sl + ms') (pc + 3) ls (sx_push r rest) w')
    (kx : ∀ (p : Program) (e : Env) (s : State) (m : MethodId) (args : Array Value) (below : List Frame) (meth : Method) (c : Code) (H : Heap) (locs : List Loc) (la : Array Slot) (w' : hpW) (q : Addr) (ce9 : Cell), CP c → sx_In E M p s m meth c H locs la ls w' → XQ w' → H[q]? = some ce9 → ce9.vm = .none → s.vm.findClass nse = some ce9.cls → vx_W p (sx_l E) e R s m args below meth c H locs (ce + mc') (sl + ms') (Z below args s) (F0 m pc la (rest.map (sx_v E))) q) : VX E M R CP Z ce sl pc ls (as.reverse ++ .ref b :: rest) w := by
  intro p e s m args below meth c0 H locs la hC g
  have hT := g.1.2.2.2.2.2.2.2.1
  have hloc := hm.1.2.2.2.2
  obtain ⟨-, -, hat⟩ := g.2.1.2.2 b (by rw [hk]; show c < 18; omega)
  rw [hp_e_o hk hc] at hat
  obtain ⟨r', h3, cell, q1, q2, q3, -⟩ := hat
  have hcell : ∃ cellB : Cell, H[sx_ad E b]? = some cellB ∧ cellB.vm.isStatics = false ∧ s.vm.findClass M'.1.cls = some cellB.cls := ⟨cell, q1, by rw [q3]; rfl, by rw [q2, ← hcn]; exact (g.1.2.2.2.2.2.2.2.2.1.1 c _ (cl_at hc)).2.1⟩
  have hstk : (as.reverse ++ Value.ref b :: rest).map (sx_v E) = (as.map (sx_v E)).reverse ++ .ref (sx_ad E b) :: rest.map (sx_v E) := by simp [sx_v]
  rw [hstk]
  have hp : PreV s H M'.1.cls (sx_ad E b) (fun a U => a = ((Value.ref b :: as).map (sx_v E)).toArray ∧ sx_P E w U.heap ∧ sx_K E U U.heap) (as.map (sx_v E)) := ⟨sx_bl, hcell, fun U hU hW => sx_pre (av := Value.ref b :: as) g U hU hW⟩
  have hr : vx_Run p (sx_l E) e R s m args below meth c0 H locs ce sl mc' ms' (F0 m pc la ((as.map (sx_v E)).reverse ++ .ref (sx_ad E b) :: rest.map (sx_v E))) (rest.map (sx_v E)) (sx_Qc E Q' (Value.ref (sx_ad E b) :: as.map (sx_v E)).toArray) (sx_XC E XQ) (fun q => sx_b E ≤ q) :=
    vx_runV (C := M'.1.cls) (bytes := M'.2.1) (maxL := M'.2.2.1) (ret := M'.2.2.2) (Ts := []) (nL := M.2.2.1) (n := n) ⟨g.1.1, g.1.2.1, g.1.2.2.1, g.1.2.2.2.2.2.1, fun _ h => by cases h⟩ kk ⟨⟨rfl, rfl, hf.1, by show 8 + (M'.2.2.1 + 11) + 64 * d ≤ R.locals; omega, sx_cd hT hm.1, List.mem_singleton.mpr rfl, hT _ hm.1.1 _, hT _ hm.1.2.1 _, hm.1.2.2.1, sx_len hm.1, hT _ hl _⟩, hT _ hm.2.1 _, hT _ hm.2.2 _⟩ hp rfl (by rw [List.length_map]; exact hn) g.2.2.2.2.1 rfl (sx_rmR hrm) hd h1
  intro T hT9 X
  rcases hr T hT9 X with ⟨v, st₀, t, T', L, h0, X', hL, e1, e2, ⟨r, w', hv, hP', hQ, hB'⟩, st⟩ | ⟨q, st₀, t, T', L, Ex, ce9, h0, X', hL, e1, e2, ⟨hEx, w', hP', hQ, hB'⟩, hce, hcv, hcl, st⟩
  · have hv : v = r.map (sx_v E) := by cases hv; rfl
    subst hv
    obtain ⟨t2, a1, b1⟩ := kr r w' hQ p e s m args below meth c0 T'.heap (locs ++ L) la hC ⟨g.1, by rw [e1]; exact hP', fun q hq => by rw [e1, hB' q hq, h0]; exact g.2.2.1 q hq, fun q hq => (List.mem_append.mp hq).elim (fun h => g.2.2.2.1 q h) (fun h => hL q h), g.2.2.2.2⟩ T' rfl X'
    refine ⟨t2, st t2 ?_, b1⟩
    have e3 : (r.map (sx_v E)).toList ++ rest.map (sx_v E) = (sx_push r rest).map (sx_v E) := sx_push_map E r rest
    show Steps p.tables e below (T'.setTop (F0 m (pc + 3) la ((r.map (sx_v E)).toList ++ rest.map (sx_v E)))) t2
    rw [e3]
    exact a1
  · subst hEx
    obtain ⟨t2, a1, b1⟩ := kx p e s m args below meth c0 T'.heap (locs ++ L) la w' q ce9 hC ⟨g.1, by rw [e1]; exact hP', fun q hq => by rw [e1, hB' q hq, h0]; exact g.2.2.1 q hq, fun q hq => (List.mem_append.mp hq).elim (fun h => g.2.2.2.1 q h) (fun h => hL q h), g.2.2.2.2⟩ hQ (by rw [e1]; exact hce) hcv hcl T' rfl X'
    exact ⟨t2, st.trans a1, b1⟩
end SXY

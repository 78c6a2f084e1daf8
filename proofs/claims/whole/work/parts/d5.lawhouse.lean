/-! the law's own house, walked: it returns 0 with the answer told, or 1 -/
def lh_at (A : AS) (x y : Int32) (w : hpW) (Q : Option Value → hpW → Prop) : Prop := (hok A x y → ∀ k, k < a_n A → x = nI k → ∀ w', CR A w' → fR w w' → Q (some (.int 0)) (hp_sj w' 410 0 (hv9 A k y).toInt64)) ∧ (¬ hok A x y → ∀ d, Q (some (.int 1)) (wn w d))
set_option maxHeartbeats 2000000 in
set_option maxRecDepth 20000 in
theorem vx_lh {E : sxE} {A : AS} {w : hpW} {Q : Option Value → hpW → Prop} {x y : Int32} (hE : XE9 E) (VA : AV A) (HC : CR A w) (hQ : lh_at A x y w Q) : VX E mL_house (sx_rm 7 64 1024) (fun c => c.exceptionTable.toList.map (fun h => (h.startPc, h.endPc, h.handlerPc, h.catchType)) = [(0, 10, 13, 13)]) (fun below args s => MQ below (sx_Qc E Q) args s 64 1024 (fun q => sx_b E ≤ q)) 0 0 0 (lv_args 0 [.ref 16, .int x, .int y, .ref 410]) [] w := by
  refine VX_aload_n (i := 3) (sx_di dL_house 0 rfl) rfl rfl ?_
  refine VX_iconst (v := 0) (sx_di dL_house 1 rfl) (by decide) ?_
  refine VX_aload_n (i := 0) (sx_di dL_house 2 rfl) rfl rfl ?_
  refine VX_iload_n (i := 1) (sx_di dL_house 3 rfl) rfl rfl ?_
  refine VX_iload_n (i := 2) (sx_di dL_house 4 rfl) rfl rfl ?_
  refine VX_callX (as := [.int x, .int y]) (b := 16) (rest := [.int 0, .ref 410]) (mc' := 64) (ms' := 1024) (d := 6) (M' := mX11_house) (Q' := fun r w' => ∃ k, r = some (.int (hv9 A k y)) ∧ k < a_n A ∧ x = nI k ∧ hok A x y ∧ CR A w' ∧ fR w w') (XQ := fun w' => ¬ hok A x y ∧ ∃ d, w' = wn w d) (sx_di dL_house 5 rfl) (sx_a5 53 rfl rfl) vX11_house (HC.1.k 16 rfl) (by decide) rfl rfl (Nat.le_of_ble_eq_true rfl) ⟨Nat.le_of_ble_eq_true rfl, Nat.le_of_ble_eq_true rfl⟩ ⟨Nat.le_of_ble_eq_true rfl, Nat.le_of_ble_eq_true rfl⟩ (m_house hE VA HC (fun ok k hk hx w' C f => ⟨k, rfl, hk, hx, ok, C, f⟩) (fun nok d => ⟨nok, d, rfl⟩)) ?_ ?_
  · intro r w' hr
    obtain ⟨k, hr, hk, hx, ok, C, f⟩ := hr
    subst hr
    refine VX_of (Q := Q) (mc := 64) (ms := 1024) (fun _ _ _ _ h => h) ?_
    refine V_i2l (sx_di dL_house 6 rfl) ?_
    refine V_last (n := 1) (sx_di dL_house 7 rfl) (C.1.k 410 rfl) (vp_in_nI (n := 0) (by decide) (by decide)) ?_
    refine V_goto (tgt := 17) (sx_di dL_house 8 rfl) (by decide) ?_
    refine V_iconst (v := 0) (sx_di dL_house 12 rfl) (by decide) ?_
    refine V_iret (sx_di dL_house 13 rfl) rfl (Nat.le_refl _) (Nat.le_refl _) ?_
    exact hQ.1 ok k hk hx w' C f
  · intro p e s m args below meth c H locs la w' q ce9 hC g hx hcell hvm hcl
    obtain ⟨nok, d, hw⟩ := hx
    subst hw
    obtain ⟨x9, hx9, e9⟩ : ∃ x9, c.exceptionTable.toList = [x9] ∧ (x9.startPc, x9.endPc, x9.handlerPc, x9.catchType) = (0, 10, 13, 13) := by
      cases hl : c.exceptionTable.toList with
      | nil => rw [hl] at hC; cases hC
      | cons z r =>
        rw [hl] at hC
        cases r with
        | nil => exact ⟨z, rfl, (List.cons.inj hC).1⟩
        | cons z2 r2 => exact absurd (List.cons.inj hC).2 (by simp)
    have e9a : x9.startPc = 0 := congrArg (fun q => q.1) e9
    have e9b : x9.endPc = 10 := congrArg (fun q => q.2.1) e9
    have e9c : x9.handlerPc = 13 := congrArg (fun q => q.2.2.1) e9
    have e9d : x9.catchType = 13 := congrArg (fun q => q.2.2.2) e9
    have KV : V E mL_house (sx_rm 7 64 1024) 64 1024 (0 + 64) (0 + 1024) 15 [] [] (wn w d) Q := by
      refine V_iconst (v := 1) (sx_di dL_house 10 rfl) (by decide) ?_
      refine V_iret (sx_di dL_house 11 rfl) rfl (Nat.le_refl _) (Nat.le_refl _) ?_
      exact hQ.2 nok d
    refine lh_catch (x := x9) (own := "StainStreetLaw") (name := nse) (Ex := nse) (ce := ce9) hx9 (by unfold covers; rw [e9a, e9b]; rfl) (by rw [e9d]; decide) g.1.2.2.2.2.2.1 (by rw [e9d]; exact g.1.2.2.2.2.2.2.2.1 _ lh_link _) (lh_cast hE g.1.2.2.2.2.2.2.2.2.2.2 _) hcell hvm hcl ?_
    rw [e9c]
    exact lv_astore (lv := []) (nL := 5) (i := 4) g.1.1 g.1.2.1 (sx_di dL_house 9 rfl) ⟨g.2.2.2.2.1, g.2.2.2.2.2.1, fun q hq => by cases hq⟩ (by decide) rfl (fun ls' h' => KV p e s m args below meth c H locs ls' ⟨g.1, g.2.1, g.2.2.1, g.2.2.2.1, h'.1, h'.2.1, fun i v hv => by cases hv⟩)
set_option maxHeartbeats 2000000 in
set_option maxRecDepth 20000 in
theorem m_lh {E : sxE} {A : AS} {w : hpW} {Q : Option Value → hpW → Prop} {x y : Int32} (hE : XE9 E) (VA : AV A) (HC : CR A w) (hQ : lh_at A x y w Q) : Met (sx_l E) mL_house.1 [.codeWith mL_house.1 mL_house.2.1 mL_house.2.2.1 mL_house.2.2.2 [(0, 10, 13, 13)]] (sx_rm 7 64 1024) (fun a U => a = ([Value.ref 16, .int x, .int y, .ref 410].map (sx_v E)).toArray ∧ sx_P E w U.heap ∧ sx_K E U U.heap) (sx_Qc E Q) 64 1024 (fun q => sx_b E ≤ q) := by
  refine MetFree.of_bodyS (code := mL_house.2.1) (maxLocals := mL_house.2.2.1) (ret := mL_house.2.2.2) (by decide +kernel) ?_ ?_
  · intro args s m h hn
    obtain ⟨m2, meth, c, h0, h1, h2, h3, h4, -, h5, h6, -⟩ := Cond.codeWith_spec (atoms_spec (ws := [.codeWith mL_house.1 mL_house.2.1 mL_house.2.2.1 mL_house.2.2.2 [(0, 10, 13, 13)]]) h _ List.mem_cons_self)
    cases Option.some.inj (h0.symm.trans hn)
    exact ⟨meth, c, h1, h2, h3, h4, h5, h6⟩
  · intro p e s m args below meth c s₁ B hml hP _
    obtain ⟨rfl, hP, hK⟩ := hP
    have hw := atoms_spec (ws := [.codeWith mL_house.1 mL_house.2.1 mL_house.2.2.1 mL_house.2.2.2 [(0, 10, 13, 13)]]) B.pre
    obtain ⟨m2, meth2, c2, e0, e1, e2, -, -, e7, -, -, -⟩ := Cond.codeWith_spec (hw _ List.mem_cons_self)
    have e9 : m2 = m := Option.some.inj (e0.symm.trans B.named)
    subst e9
    have e3 : meth2 = meth := Option.some.inj (e1.symm.trans B.method)
    subst e3
    have e4 : c2 = c := by
      have q := B.here.code
      rw [B.state] at q
      rw [State.code?_eq] at q
      have q2 : (s.vm.method? m2).bind (fun z => z.code) = some c := q
      rw [B.method] at q2
      exact Option.some.inj (e2.symm.trans q2)
    subst e4
    obtain ⟨la, hent, hL⟩ := sx_ent E m2 [.ref 16, .int x, .int y, .ref 410] mL_house.2.2.1 (Nat.le_of_ble_eq_true rfl)
    have hh0 : s₁.heap = s.heap := by rw [B.state]; rfl
    rw [hent]
    obtain ⟨t, a1, o, b1, b2, b3⟩ := vx_lh (Q := Q) hE VA HC hQ p e s m2 _ below meth2 c2 s.heap [] la e7 ⟨⟨B.exec, B.bytes, hml, B.returns, B.notSynchronized, findClass_of_methodNamed B.named, (name_of_methodNamed B.named B.method).1, hK⟩, hP, fun _ _ => rfl, (fun q h => by cases h), hL⟩ s₁ hh0 (Stand.of_body B)
    exact ⟨t, o, a1, b1, b2, b3⟩
section SXZ
variable {E : sxE} {M M' : sxM} {R : Room} {mc ms ce sl pc mc' ms' d idx : Nat} {ls : List (Nat × Value)} {st rest : List Value} {w : hpW} {Q Q' : Option Value → hpW → Prop}
/-- a static call of a method with a table -/
theorem V_callSW {as : List Value} {n : Nat} {hh : List (Nat × Nat × Nat × Nat)} (hd : decode M.2.1 pc = .ok (.invokestatic idx, 3)) (hl : sx_w (.methodLink M.1.cls idx M'.1)) (hc : sx_w (.codeWith M'.1 M'.2.1 M'.2.2.1 M'.2.2.2 hh)) (hi : sx_w (.initialized M'.1.cls)) (hs : sx_w (.static M'.1)) (hy : M'.1.cls ≠ "java/lang/invoke/MethodHandle" ∧ M'.1.cls ≠ "java/lang/invoke/VarHandle") (hp9 : (parseMethodDescriptor M'.1.desc).map (fun d => d.parameters.length) = some n) (hloc : M'.2.2.1 ≤ 45) (hn : as.length = n) (hrm : (rest.map fun v => v.category).sum ≤ 8) (hf : d + 1 ≤ R.frames ∧ 64 + 64 * d ≤ R.locals) (h1 : ce + mc' ≤ R.cells ∧ sl + ms' ≤ R.slots)
    (kk : Met (sx_l E) M'.1 [.codeWith M'.1 M'.2.1 M'.2.2.1 M'.2.2.2 hh] (sx_rm d mc' ms') (fun a U => a = (as.map (sx_v E)).toArray ∧ sx_P E w U.heap ∧ sx_K E U U.heap) (sx_Qc E (fun r w' => V E M R mc ms (ce + mc') (sl + ms') (pc + 3) ls (sx_push r rest) w' Q)) mc' ms' (fun q => sx_b E ≤ q)) : V E M R mc ms ce sl pc ls (as.reverse ++ rest) w Q := by
  intro p e s m args below meth c0 H locs la g
  have hT := g.1.2.2.2.2.2.2.2.1
  have hstk : (as.reverse ++ rest).map (sx_v E) = (as.map (sx_v E)).reverse ++ rest.map (sx_v E) := by simp
  rw [hstk]
  refine sx_go (a := (as.map (sx_v E)).toArray) (stk := (as.map (sx_v E)).reverse ++ rest.map (sx_v E)) (rest := rest) (mc' := mc') (ms' := ms') g ?_ (fun r w' h => h)
  have hp : PreS s H (fun a U => a = (as.map (sx_v E)).toArray ∧ sx_P E w U.heap ∧ sx_K E U U.heap) (as.map (sx_v E)) := ⟨sx_bl, fun U hU hW => sx_pre (av := as) g U hU hW⟩
  exact vx_runSW (bytes := M'.2.1) (maxL := M'.2.2.1) (ret := M'.2.2.2) (hh := hh) (Ts := []) (nL := M.2.2.1) (n := n) ⟨g.1.1, g.1.2.1, g.1.2.2.1, g.1.2.2.2.2.2.1, fun _ h => by cases h⟩ kk ⟨⟨rfl, rfl, hf.1, by show 8 + (M'.2.2.1 + 11) + 64 * d ≤ R.locals; omega, fun x hx a' U hW => by rw [List.mem_singleton.mp hx]; exact hT.warm hW _ hc a', List.mem_singleton.mpr rfl⟩, hT _ hc _, hT _ hi _, hy, fun sig h => by rw [h] at hp9; exact (Option.some.inj hp9).symm, hT _ hl _, hT _ hs _⟩ hp rfl (by rw [List.length_map]; exact hn) g.2.2.2.2.1 rfl (sx_rmR hrm) hd h1
end SXZ
theorem c_X12_thrown {E : sxE} {w : hpW} {Q : Option Value → hpW → Prop} (hB : ly_B w) (h : Q (some (.int (hp_i w 381 0))) w) : sx_C E mX12_thrown 1 0 0 [.ref 381] w Q := by
  refine C_of (by decide +kernel) (Nat.le_of_ble_eq_true rfl) ?_
  refine V_aload_n (i := 0) (sx_di dX12_thrown 0 rfl) rfl rfl ?_
  refine V_getI (sx_di dX12_thrown 1 rfl) fX12_99 (fun _ => rfl) (hB.k _ rfl) ?_
  refine V_iret (sx_di dX12_thrown 2 rfl) rfl (Nat.le_refl _) (Nat.le_refl _) ?_
  exact h

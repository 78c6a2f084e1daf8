set_option maxHeartbeats 2000000 in
set_option maxRecDepth 20000 in
/-! the class's house: it returns or throws -/
theorem vx_house {E : sxE} {A : AS} {w : hpW} {Q : Option Value → hpW → Prop} {XQ : hpW → Prop} {x y : Int32} (hE : XE9 E) (VA : AV A) (HC : CR A w) (h1 : hok A x y → ∀ k, k < a_n A → x = nI k → ∀ w', CR A w' → fR w w' → Q (some (.int (hv9 A k y))) w') (h0 : ¬ hok A x y → ∀ d, XQ (wn w d)) : VX E mX11_house (sx_rm 6 64 1024) (fun c => c.exceptionTable.isEmpty = true) (fun below args s => vx_MQ below (sx_Qc E Q) (sx_XC E XQ) args s 64 1024 (fun q => sx_b E ≤ q)) 0 0 0 (lv_args 0 [.ref 16, .int x, .int y]) [] w := by
  have hn8 := VA.2.2.1.1
  obtain ⟨t, hB, ht, hst, hn, _, _⟩ := CRn VA HC
  by_cases ok : hok A x y
  · obtain ⟨k, hk, rfl⟩ := ih_ye (by omega) ok.1
    refine VX_of (fun below args s t h => ?_) (v_houseC (Q := Q) VA HC hk ok (fun w' C' f' => h1 ok k hk rfl w' C' f'))
    obtain ⟨o, b1, b2, b3, b4⟩ := h
    exact ⟨o, b1, b2, Or.inl ⟨b3, b4⟩⟩
  · have TH : ∀ ls, VX E mX11_house (sx_rm 6 64 1024) (fun c => c.exceptionTable.isEmpty = true) (fun below args s => vx_MQ below (sx_Qc E Q) (sx_XC E XQ) args s 64 1024 (fun q => sx_b E ≤ q)) 0 0 18 ls [] w := fun ls p e s m args below meth c H locs la hC g => thr9 hE (h0 ok) g (fun z hz => by
      have e : c.exceptionTable.toList = [] := by simpa using hC
      rw [e] at hz
      cases hz)
    refine VX_aload_n (i := 0) (sx_di dX11_house 0 rfl) rfl rfl ?_
    refine VX_iload_n (i := 1) (sx_di dX11_house 1 rfl) rfl rfl ?_
    refine VX_callV (as := [.int x]) (rest := []) (mc' := 0) (ms' := 0) (d := 1) (M' := mX11_isHouse) (sx_di dX11_house 2 rfl) lX11_170 vX11_isHouse (hB.k 16 rfl) (by decide) rfl rfl (Nat.le_of_ble_eq_true rfl) ⟨Nat.le_of_ble_eq_true rfl, Nat.le_of_ble_eq_true rfl⟩ ⟨Nat.zero_le _, Nat.zero_le _⟩ ?_
    refine c_X11_isHouse hB ht hst hn hn8 ?_
    refine VX_if_eq (tgt := 18) (sx_di dX11_house 3 rfl) (by decide) (fun _ => TH _) (fun h5 => ?_)
    refine VX_iload_n (i := 2) (sx_di dX11_house 4 rfl) rfl rfl ?_
    refine VX_if_lt (tgt := 18) (sx_di dX11_house 5 rfl) (by decide) (fun _ => TH _) (fun h9 => ?_)
    refine VX_iload_n (i := 2) (sx_di dX11_house 6 rfl) rfl rfl ?_
    refine VX_bipush (v := 6) (sx_di dX11_house 7 rfl) (by decide) ?_
    refine VX_icmp_le (tgt := 26) (sx_di dX11_house 8 rfl) (by decide) (fun h15 => absurd ⟨h5, fun z => (in_no z).elim h9 (fun q => absurd h15 (Int32.not_le.mpr q))⟩ ok) (fun _ => TH _)
set_option maxHeartbeats 2000000 in
set_option maxRecDepth 20000 in
theorem m_house {E : sxE} {A : AS} {w : hpW} {Q : Option Value → hpW → Prop} {XQ : hpW → Prop} {x y : Int32} (hE : XE9 E) (VA : AV A) (HC : CR A w) (h1 : hok A x y → ∀ k, k < a_n A → x = nI k → ∀ w', CR A w' → fR w w' → Q (some (.int (hv9 A k y))) w') (h0 : ¬ hok A x y → ∀ d, XQ (wn w d)) : vx_Met (sx_l E) mX11_house.1 [.code mX11_house.1 mX11_house.2.1 mX11_house.2.2.1 mX11_house.2.2.2] (sx_rm 6 64 1024) (fun a U => a = ([Value.ref 16, .int x, .int y].map (sx_v E)).toArray ∧ sx_P E w U.heap ∧ sx_K E U U.heap) (sx_Qc E Q) (sx_XC E XQ) 64 1024 (fun q => sx_b E ≤ q) := by
  refine MetFree.of_bodyS (code := mX11_house.2.1) (maxLocals := mX11_house.2.2.1) (ret := mX11_house.2.2.2) (by decide +kernel) ?_ ?_
  · intro args s m h hn
    obtain ⟨meth, c, h1, h2, h3, h4, h5, h6, -, -⟩ := Cond.code_spec hn (atoms_spec (ws := [.code mX11_house.1 mX11_house.2.1 mX11_house.2.2.1 mX11_house.2.2.2]) h _ List.mem_cons_self)
    exact ⟨meth, c, h1, h2, h3, h4, h5, h6⟩
  · intro p e s m args below meth c s₁ B hml hP _
    obtain ⟨rfl, hP, hK⟩ := hP
    have hw := atoms_spec (ws := [.code mX11_house.1 mX11_house.2.1 mX11_house.2.2.1 mX11_house.2.2.2]) B.pre
    obtain ⟨meth2, c2, e1, e2, -, -, -, -, e7, -⟩ := Cond.code_spec B.named (hw _ List.mem_cons_self)
    have e3 : meth2 = meth := Option.some.inj (e1.symm.trans B.method)
    subst e3
    have e4 : c2 = c := by
      have q := B.here.code
      rw [B.state] at q
      rw [State.code?_eq] at q
      have q2 : (s.vm.method? m).bind (fun z => z.code) = some c := q
      rw [B.method] at q2
      exact Option.some.inj (e2.symm.trans q2)
    subst e4
    obtain ⟨la, hent, hL⟩ := sx_ent E m [.ref 16, .int x, .int y] mX11_house.2.2.1 (Nat.le_of_ble_eq_true rfl)
    have hh0 : s₁.heap = s.heap := by rw [B.state]; rfl
    rw [hent]
    obtain ⟨t, a1, o, b1, b2, b3⟩ := vx_house (Q := Q) (XQ := XQ) hE VA HC h1 h0 p e s m _ below meth2 c2 s.heap [] la e7 ⟨⟨B.exec, B.bytes, hml, B.returns, B.notSynchronized, findClass_of_methodNamed B.named, (name_of_methodNamed B.named B.method).1, hK⟩, hP, fun _ _ => rfl, (fun q h => by cases h), hL⟩ s₁ hh0 (Stand.of_body B)
    exact ⟨t, o, a1, b1, b2, b3⟩

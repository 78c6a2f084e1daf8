/-! THE ROWS OF V that read and write the heap -/
section SXH
variable {E : sxE} {w w' : hpW} {H H' : Heap} {a b c n k : Nat}
theorem hp_e_o (hk : hp_k w a = (c, n)) (hc : c < 13) : hp_e E w a = .inr (c, (List.range (cl_N c)).map (fun j => sx_v E (hp_f w a c j))) := by simp [hp_e, hk, hc]
theorem hp_e_i (hk : hp_k w a = (c, n)) (hc : 13 ≤ c) (hc2 : c < 15) : hp_e E w a = .inl (sx_c E c, n, .inl (hp_i w a)) := by simp [hp_e, hk, hc2, Nat.not_lt.mpr hc]
theorem hp_e_r (hk : hp_k w a = (c, n)) (hc : 15 ≤ c) (hc2 : c < 17) : hp_e E w a = .inl (sx_c E c, n, .inr (.inr (.inr (.inr (fun j => (hp_r w a j).map (sx_ad E)))))) := by simp [hp_e, hk, hc2, Nat.not_lt.mpr hc, show ¬ c < 13 by omega]
theorem hp_e_j (hk : hp_k w a = (17, n)) : hp_e E w a = .inl (sx_c E 17, n, .inr (.inl (hp_j w a))) := by simp [hp_e, hk]
theorem sx_ad_ge (h : 16 ≤ a) : sx_ad E a = sx_b E + (a - 16) := by simp [sx_ad, show ¬ a < 16 by omega]
theorem sx_ad_ne (ha : 16 ≤ a) (hb : 16 ≤ b) (h : b ≠ a) : sx_ad E b ≠ sx_ad E a := by rw [sx_ad_ge ha, sx_ad_ge hb]; omega
theorem sx_ad_lt {q : Nat} (h : 16 ≤ a) (hq : q < sx_b E) : q ≠ sx_ad E a := by rw [sx_ad_ge h]; omega
theorem sx_ad_le (h : 16 ≤ a) : sx_b E ≤ sx_ad E a := by rw [sx_ad_ge h]; omega
theorem sx_P.put (h : sx_P E w H) (hn : hp_n w' = hp_n w) (hk' : hp_k w' = hp_k w) (ha : (hp_k w a).1 < 18) (he : ∀ b, b ≠ a → hp_e E w' b = hp_e E w b) (hc : va_at (sx_D E) cl_all (sx_ad E a, hp_e E w' a) H') (hz : H'.size = H.size) (ho : ∀ q, q ≠ sx_ad E a → H'[q]? = H[q]?) : sx_P E w' H' := by
  refine ⟨by rw [hz, hn]; exact h.1, by rw [hn]; exact h.2.1, fun b hb => ?_⟩
  rw [hk'] at hb
  obtain ⟨h1, h2, h3⟩ := h.2.2 b hb
  refine ⟨h1, by rw [hn]; exact h2, ?_⟩
  by_cases hba : b = a
  · rw [hba]
    exact hc
  · rw [he b hba]
    exact h3.kept (ho _ (sx_ad_ne (h.2.2 a ha).1 h1 hba))
theorem sx_P.push (h : sx_P E w H) (hz : H'.size = H.size + 1) (ho : ∀ q, q < H.size → H'[q]? = H[q]?) (hn : hp_n w' = hp_n w + 1) (he : ∀ b, b ≠ hp_n w → hp_k w' b = hp_k w b ∧ ((hp_k w b).1 < 18 → hp_e E w' b = hp_e E w b)) (hc : va_at (sx_D E) cl_all (H.size, hp_e E w' (hp_n w)) H') : sx_P E w' H' := by
  have hsz : H.size = sx_ad E (hp_n w) := by rw [sx_ad_ge h.2.1]; have := h.1; have := h.2.1; omega
  refine ⟨by rw [hz, hn]; have := h.1; omega, by rw [hn]; have := h.2.1; omega, fun b hb => ?_⟩
  by_cases hbn : b = hp_n w
  · rw [hbn, hn]
    refine ⟨h.2.1, by omega, ?_⟩
    rw [← hsz]
    exact hc
  · rw [(he b hbn).1] at hb
    obtain ⟨h1, h2, h3⟩ := h.2.2 b hb
    refine ⟨h1, by rw [hn]; omega, ?_⟩
    rw [(he b hbn).2 hb]
    exact h3.kept (ho _ h3.lt)
theorem hp_k_si (w : hpW) (a k : Nat) (x : Int32) : hp_k (hp_si w a k x) = hp_k w := rfl
theorem hp_n_si (w : hpW) (a k : Nat) (x : Int32) : hp_n (hp_si w a k x) = hp_n w := rfl
theorem hp_r_si (w : hpW) (a k : Nat) (x : Int32) : hp_r (hp_si w a k x) = hp_r w := rfl
theorem hp_j_si (w : hpW) (a k : Nat) (x : Int32) : hp_j (hp_si w a k x) = hp_j w := rfl
theorem hp_i_si (w : hpW) (a k : Nat) (x : Int32) (b j : Nat) : hp_i (hp_si w a k x) b j = if b = a ∧ j = k then x else hp_i w b j := rfl
theorem hp_k_sr (w : hpW) (a k : Nat) (x : Option Nat) : hp_k (hp_sr w a k x) = hp_k w := rfl
theorem hp_n_sr (w : hpW) (a k : Nat) (x : Option Nat) : hp_n (hp_sr w a k x) = hp_n w := rfl
theorem hp_i_sr (w : hpW) (a k : Nat) (x : Option Nat) : hp_i (hp_sr w a k x) = hp_i w := rfl
theorem hp_j_sr (w : hpW) (a k : Nat) (x : Option Nat) : hp_j (hp_sr w a k x) = hp_j w := rfl
theorem hp_r_sr (w : hpW) (a k : Nat) (x : Option Nat) (b j : Nat) : hp_r (hp_sr w a k x) b j = if b = a ∧ j = k then x else hp_r w b j := rfl
theorem hp_k_sj (w : hpW) (a k : Nat) (x : Int64) : hp_k (hp_sj w a k x) = hp_k w := rfl
theorem hp_n_sj (w : hpW) (a k : Nat) (x : Int64) : hp_n (hp_sj w a k x) = hp_n w := rfl
theorem hp_i_sj (w : hpW) (a k : Nat) (x : Int64) : hp_i (hp_sj w a k x) = hp_i w := rfl
theorem hp_r_sj (w : hpW) (a k : Nat) (x : Int64) : hp_r (hp_sj w a k x) = hp_r w := rfl
theorem hp_j_sj (w : hpW) (a k : Nat) (x : Int64) (b j : Nat) : hp_j (hp_sj w a k x) b j = if b = a ∧ j = k then x else hp_j w b j := rfl
theorem hp_k_cp (w : hpW) (s sp d dp n : Nat) : hp_k (hp_cp w s sp d dp n) = hp_k w := rfl
theorem hp_n_cp (w : hpW) (s sp d dp n : Nat) : hp_n (hp_cp w s sp d dp n) = hp_n w := rfl
theorem hp_r_cp (w : hpW) (s sp d dp n : Nat) : hp_r (hp_cp w s sp d dp n) = hp_r w := rfl
theorem hp_j_cp (w : hpW) (s sp d dp n : Nat) : hp_j (hp_cp w s sp d dp n) = hp_j w := rfl
theorem hp_i_cp (w : hpW) (s sp d dp n : Nat) (b j : Nat) : hp_i (hp_cp w s sp d dp n) b j = if b = d then va_cpy (hp_i w s) (hp_i w d) sp dp n j else hp_i w b j := rfl
theorem hp_n_new (w : hpW) (c n : Nat) : hp_n (hp_new w c n) = hp_n w + 1 := rfl
theorem hp_k_new (w : hpW) (c n b : Nat) : hp_k (hp_new w c n) b = if b = hp_n w then (c, n) else hp_k w b := rfl
theorem hp_r_new (w : hpW) (c n b : Nat) : hp_r (hp_new w c n) b = if b = hp_n w then (fun _ => none) else hp_r w b := rfl
theorem hp_j_new (w : hpW) (c n b : Nat) : hp_j (hp_new w c n) b = if b = hp_n w then (fun _ => 0) else hp_j w b := rfl
theorem hp_i_new (w : hpW) (c n b : Nat) : hp_i (hp_new w c n) b = if b = hp_n w then (fun _ => 0) else hp_i w b := rfl
/-- another place's cell hangs on that place's parts alone -/
theorem hp_e_eq (h0 : hp_k w' b = hp_k w b) (h1 : hp_i w' b = hp_i w b) (h2 : hp_r w' b = hp_r w b) (h3 : hp_j w' b = hp_j w b) : hp_e E w' b = hp_e E w b := by
  simp only [hp_e, hp_f, h0, h1, h2, h3]
theorem hp_u_ne {α : Type} {f : Nat → Nat → α} {x : α} (h : b ≠ a) : hp_u f a k x b = f b := by
  funext j
  simp [hp_u, h]
theorem hp_e_si {x : Int32} (h : b ≠ a) : hp_e E (hp_si w a k x) b = hp_e E w b := hp_e_eq rfl (hp_u_ne h) rfl rfl
theorem hp_e_sr {x : Option Nat} (h : b ≠ a) : hp_e E (hp_sr w a k x) b = hp_e E w b := hp_e_eq rfl rfl (hp_u_ne h) rfl
theorem hp_e_sj {x : Int64} (h : b ≠ a) : hp_e E (hp_sj w a k x) b = hp_e E w b := hp_e_eq rfl rfl rfl (hp_u_ne h)
end SXH
/-- the constant pool's number idx of class C: field k of class c -/
def sx_fl (C : String) (idx c k : Nat) : Prop := (c < 13 ∧ k < cl_N c) ∧ (sx_w (.fieldLink C idx (cl_R c) (cl_T c k).2.1 (cl_T c k).2.2.1) ∨ ∃ host, sx_w (.fieldLinkNest C idx (cl_R c) (cl_T c k).2.1 (cl_T c k).2.2.1 host))
section SXG
variable {E : sxE} {M : sxM} {R : Room} {mc ms ce sl pc : Nat} {ls : List (Nat × Value)} {st : List Value} {w : hpW} {Q : Option Value → hpW → Prop} {idx a c k n : Nat}
theorem vp_V_map {N : Nat} {f : Nat → Value} {j : Nat} (h : j < N) : vp_V ((List.range N).map f) j = f j := by simp [vp_V, h]
theorem sx_lw {s : State} {args : Array Value} (hT : sx_TB s) (hc : c < 13) : ∀ x ∈ u_ws (cl_R c) (cl_T c) (cl_N c), x.before args s = true := fun x hx => hT x (cl_lay hc x hx) args
theorem V_get (hd : decode M.2.1 pc = .ok (.getfield idx, 3)) (hl : sx_fl M.1.cls idx c k) (hk : hp_k w a = (c, n)) (kk : V E M R mc ms ce sl (pc + 3) ls (hp_f w a c k :: st) w Q) : V E M R mc ms ce sl pc ls (.ref a :: st) w Q := by
  intro p e s m args below meth c0 H locs la g
  obtain ⟨⟨hc, hkN⟩, hl⟩ := hl
  have hT := g.1.2.2.2.2.2.2.2.1
  have hK := g.1.2.2.2.2.2.2.2.2.1
  obtain ⟨-, -, hat⟩ := g.2.1.2.2 a (by rw [hk]; show c < 18; omega)
  rw [hp_e_o hk hc] at hat
  obtain ⟨r, h1, cell, q1, q2, q3, q4⟩ := hat
  have hr : r = (cl_R c, cl_T c, cl_N c) := Option.some.inj (h1.symm.trans (cl_at hc))
  subst hr
  obtain ⟨hS, hfc, kC, hkC, hkind⟩ := hK.1 c _ (cl_at hc)
  obtain ⟨cf, kf, fi, f, hi, hsl⟩ := hS k hkN
  have hi2 := hi
  rw [cl_own c hc k hkN] at hi2
  have hv : cell.slots[f.slot]? = some (sx_v E (hp_f w a c k)) := by
    rw [hsl, q4 k hkN, vp_V_map hkN]
  have hst := (u_facts hfc hkC (u_lays (args := args) (sx_lw hT hc) (fun _ h => h) hkN) hi).1
  rcases hl with hl | ⟨host, hl⟩
  · exact W.getf g.1.1 g.1.2.1 g.1.2.2.2.2.2.1 (hT _ hl _) hi2 hst q1 (by rw [q3]; exact fun h => by cases h) (v := sx_v E (hp_f w a c k)) hv rfl rfl hd (kk p e s m args below meth c0 H locs la g)
  · exact va_Wgetf g.1.1 g.1.2.1 g.1.2.2.2.2.2.1 (hT _ hl _) hi2 hst q1 (by rw [q3]; exact fun h => by cases h) (v := sx_v E (hp_f w a c k)) hv rfl rfl hd (kk p e s m args below meth c0 H locs la g)
theorem V_getI (hd : decode M.2.1 pc = .ok (.getfield idx, 3)) (hl : sx_fl M.1.cls idx c k) (hv : ∀ w, hp_f w a c k = .int (hp_i w a k)) (hk : hp_k w a = (c, n)) (kk : V E M R mc ms ce sl (pc + 3) ls (.int (hp_i w a k) :: st) w Q) : V E M R mc ms ce sl pc ls (.ref a :: st) w Q := V_get hd hl hk (by rw [hv]; exact kk)
theorem V_getJ (hd : decode M.2.1 pc = .ok (.getfield idx, 3)) (hl : sx_fl M.1.cls idx c k) (hv : ∀ w, hp_f w a c k = .long (hp_j w a k)) (hk : hp_k w a = (c, n)) (kk : V E M R mc ms ce sl (pc + 3) ls (.long (hp_j w a k) :: st) w Q) : V E M R mc ms ce sl pc ls (.ref a :: st) w Q := V_get hd hl hk (by rw [hv]; exact kk)
theorem V_getR {b : Nat} (hd : decode M.2.1 pc = .ok (.getfield idx, 3)) (hl : sx_fl M.1.cls idx c k) (hv : ∀ w, hp_f w a c k = va_rf (hp_r w a k)) (hk : hp_k w a = (c, n)) (hr : hp_r w a k = some b) (kk : V E M R mc ms ce sl (pc + 3) ls (.ref b :: st) w Q) : V E M R mc ms ce sl pc ls (.ref a :: st) w Q := V_get hd hl hk (by rw [hv, hr]; exact kk)
/-- a field is written: the heap behind it -/
theorem sx_wr {s : State} {args : Array Value} {H H' : Heap} {w' : hpW} {x : Value} (hT : sx_TB s) (hK : va_K (sx_D E) cl_all (sx_tys E) s) (hP : sx_P E w H) (hc : c < 13) (hkN : k < cl_N c) (hk : hp_k w a = (c, n)) (hn' : hp_n w' = hp_n w) (hk' : hp_k w' = hp_k w) (he : ∀ b, b ≠ a → hp_e E w' b = hp_e E w b) (hx : hp_f w' a c k = x) (ho : ∀ j, j ≠ k → hp_f w' a c j = hp_f w a c j)
    {cell : Cell} {f : Field} (q2 : cell.cls = (sx_D E).1 c) (q3 : cell.vm = .none) (q4 : ∀ j, j < cl_N c → cell.slots[(sx_D E).2 c j]? = some (vp_V ((List.range (cl_N c)).map (fun j => sx_v E (hp_f w a c j))) j)) (hsl : f.slot = (sx_D E).2 c k)
    (e1 : H'[sx_ad E a]? = some (cell.setSlot f.slot (sx_v E x))) (hz : H'.size = H.size) (hoq : ∀ q, q ≠ sx_ad E a → H'[q]? = H[q]?) : sx_P E w' H' := by
  refine hP.put (a := a) hn' hk' (by rw [hk]; show c < 18; omega) he ?_ hz hoq
  rw [hp_e_o (by rw [hk']; exact hk) hc]
  have hap := va_apart (own := "") (args := args) (sx_lw hT hc) (fun _ h => h) (cl_ty c) (cl_ok c hc) (cl_nd c hc) hK (cl_at hc)
  refine ⟨_, cl_at hc, t_OB.to (V := updV (vp_V ((List.range (cl_N c)).map (fun j => sx_v E (hp_f w a c j)))) k (sx_v E x)) ⟨_, e1, q2, q3, ?_⟩ (fun j hj => ?_)⟩
  · rw [hsl]
    exact t_set q4 hap hkN _
  · by_cases hjk : j = k
    · subst hjk
      simp only [updV, if_pos]
      rw [vp_V_map hj, hx]
    · simp only [updV, if_neg hjk]
      rw [vp_V_map hj, vp_V_map hj, ho j hjk]
theorem V_put {w' : hpW} {x : Value} (hd : decode M.2.1 pc = .ok (.putfield idx, 3)) (hl : sx_fl M.1.cls idx c k) (hfin : (cl_T c k).2.2.2 = false) (hk : hp_k w a = (c, n)) (hn : narrow (cl_ty c k) (sx_v E x) = sx_v E x) (hft : fits (cl_ty c k) (sx_v E x) = true)
    (hn' : hp_n w' = hp_n w) (hk' : hp_k w' = hp_k w) (he : ∀ b, b ≠ a → hp_e E w' b = hp_e E w b) (hx : hp_f w' a c k = x) (ho : ∀ j, j ≠ k → hp_f w' a c j = hp_f w a c j)
    (kk : V E M R mc ms ce sl (pc + 3) ls st w' Q) : V E M R mc ms ce sl pc ls (x :: .ref a :: st) w Q := by
  intro p e s m args below meth c0 H locs la g
  obtain ⟨⟨hc, hkN⟩, hl⟩ := hl
  have hT := g.1.2.2.2.2.2.2.2.1
  have hK := g.1.2.2.2.2.2.2.2.2.1
  obtain ⟨ha16, -, hat⟩ := g.2.1.2.2 a (by rw [hk]; show c < 18; omega)
  rw [hp_e_o hk hc] at hat
  obtain ⟨r, h1, cell, q1, q2, q3, q4⟩ := hat
  have hr : r = (cl_R c, cl_T c, cl_N c) := Option.some.inj (h1.symm.trans (cl_at hc))
  subst hr
  obtain ⟨hS, hfc, kC, hkC, hkind⟩ := hK.1 c _ (cl_at hc)
  obtain ⟨cf, kf, fi, f, hi, hsl⟩ := hS k hkN
  have hi2 := hi
  rw [cl_own c hc k hkN] at hi2
  have hlay := sx_lw (args := args) hT hc _ (u_in_lay hkN)
  unfold u_lay at hlay
  rw [if_neg (by rw [hfin]; decide)] at hlay
  have hst := (u_facts hfc hkC (u_lays (args := args) (sx_lw hT hc) (fun _ h => h) hkN) hi).1
  have h6 := u_store hfc hkC hkind hlay hi (cl_ok c hc k hkN) hn hft
  have fin : ∀ H' : Heap, H'[sx_ad E a]? = some (cell.setSlot f.slot (sx_v E x)) → H'.size = H.size → (∀ q, q ≠ sx_ad E a → H'[q]? = H[q]?) → W p (sx_l E) e R s m args below meth c0 H' (locs ++ [⟨sx_ad E a, f.slot⟩]) ce sl (MQ below (sx_Qc E Q) args s mc ms (fun q => sx_b E ≤ q)) (F0 m (pc + 3) la (st.map (sx_v E))) := by
    intro H' e1 hz hoq
    refine kk p e s m args below meth c0 H' _ la ⟨g.1, sx_wr (args := args) hT hK g.2.1 hc hkN hk hn' hk' he hx ho q2 q3 q4 hsl e1 hz hoq, fun q hq => ?_, fun q hq => ?_, g.2.2.2.2⟩
    · rw [hoq q (sx_ad_lt ha16 hq)]
      exact g.2.2.1 q hq
    · rcases List.mem_append.mp hq with h | h
      · exact g.2.2.2.1 q h
      · rw [List.mem_singleton.mp h]
        exact sx_ad_le ha16
  rcases hl with hl | ⟨host, hl⟩
  · exact W.putK g.1.1 g.1.2.1 (f := f) ⟨g.1.2.2.2.2.2.1, hT _ hl _, ⟨_, _, _, hi2⟩, hst⟩ (by rw [q2]; exact h6) q1 q3 (by rw [hsl]; exact k2_hasslot (q4 k hkN)) rfl rfl hd fin
  · exact va_WputK g.1.1 g.1.2.1 (f := f) g.1.2.2.2.2.2.1 (hT _ hl _) hi2 hst (by rw [q2]; exact h6) q1 q3 (by rw [hsl]; exact k2_hasslot (q4 k hkN)) rfl rfl hd fin
/-- a final field, in its class's constructor -/
theorem V_putF {w' : hpW} {x : Value} (hd : decode M.2.1 pc = .ok (.putfield idx, 3)) (hc : c < 13) (hkN : k < cl_N c) (hl : sx_w (.fieldLink M.1.cls idx (cl_R c) (cl_T c k).2.1 (cl_T c k).2.2.1)) (hfin : (cl_T c k).2.2.2 = true) (hinit : M.1.name = "<init>") (hown : cl_R c = M.1.cls) (hk : hp_k w a = (c, n)) (hn : narrow (cl_ty c k) (sx_v E x) = sx_v E x) (hft : fits (cl_ty c k) (sx_v E x) = true)
    (hn' : hp_n w' = hp_n w) (hk' : hp_k w' = hp_k w) (he : ∀ b, b ≠ a → hp_e E w' b = hp_e E w b) (hx : hp_f w' a c k = x) (ho : ∀ j, j ≠ k → hp_f w' a c j = hp_f w a c j)
    (kk : V E M R mc ms ce sl (pc + 3) ls st w' Q) : V E M R mc ms ce sl pc ls (x :: .ref a :: st) w Q := by
  intro p e s m args below meth c0 H locs la g
  have hT := g.1.2.2.2.2.2.2.2.1
  have hK := g.1.2.2.2.2.2.2.2.2.1
  obtain ⟨ha16, -, hat⟩ := g.2.1.2.2 a (by rw [hk]; show c < 18; omega)
  rw [hp_e_o hk hc] at hat
  obtain ⟨r, h1, cell, q1, q2, q3, q4⟩ := hat
  have hr : r = (cl_R c, cl_T c, cl_N c) := Option.some.inj (h1.symm.trans (cl_at hc))
  subst hr
  obtain ⟨hS, hfc, kC, hkC, hkind⟩ := hK.1 c _ (cl_at hc)
  obtain ⟨cf, kf, fi, f, hi, hsl⟩ := hS k hkN
  have hi2 := hi
  rw [cl_own c hc k hkN] at hi2
  have hlay := sx_lw (args := args) hT hc _ (u_in_lay hkN)
  unfold u_lay at hlay
  rw [if_pos hfin] at hlay
  have hst := (u_facts hfc hkC (u_lays (args := args) (sx_lw hT hc) (fun _ h => h) hkN) hi).1
  have hcf : m.cls = cf := by
    obtain ⟨_, _, c', _, _, _, -, -, hf', -, -, -, hown2, -⟩ := Cond.laysFinal_spec hlay
    have e1 : c' = cf := by have := hi.symm.trans hf'; simp at this; exact this.1.symm
    rw [cl_own c hc k hkN, hown] at hown2
    rw [← e1]; exact Option.some.inj (g.1.2.2.2.2.2.1.symm.trans hown2)
  have h6 := u_fits hfc hkC hkind (Or.inr hlay) hi (cl_ok c hc k hkN) hn hft
  refine W.putFinK g.1.1 g.1.2.1 g.1.2.2.2.2.2.1 (hT _ hl _) hi2 hst hcf (g.1.2.2.2.2.2.2.1.trans hinit) (by rw [q2]; exact h6) q1 q3 (by rw [hsl]; exact k2_hasslot (q4 k hkN)) rfl rfl hd ?_
  intro H' e1 hz hoq
  refine kk p e s m args below meth c0 H' _ la ⟨g.1, sx_wr (args := args) hT hK g.2.1 hc hkN hk hn' hk' he hx ho q2 q3 q4 hsl e1 hz hoq, fun q hq => ?_, fun q hq => ?_, g.2.2.2.2⟩
  · rw [hoq q (sx_ad_lt ha16 hq)]
    exact g.2.2.1 q hq
  · rcases List.mem_append.mp hq with h | h
    · exact g.2.2.2.1 q h
    · rw [List.mem_singleton.mp h]
      exact sx_ad_le ha16
theorem hp_f_si {x : Int32} {j : Nat} (h : j ≠ k) : hp_f (hp_si w a k x) a c j = hp_f w a c j := by
  unfold hp_f
  simp only [hp_i_si, hp_r_si, hp_j_si, h, and_false, if_false]
theorem hp_f_sr {x : Option Nat} {j : Nat} (h : j ≠ k) : hp_f (hp_sr w a k x) a c j = hp_f w a c j := by
  unfold hp_f
  simp only [hp_i_sr, hp_r_sr, hp_j_sr, h, and_false, if_false]
theorem hp_f_sj {x : Int64} {j : Nat} (h : j ≠ k) : hp_f (hp_sj w a k x) a c j = hp_f w a c j := by
  unfold hp_f
  simp only [hp_i_sj, hp_r_sj, hp_j_sj, h, and_false, if_false]
theorem V_putI {x : Int32} (hd : decode M.2.1 pc = .ok (.putfield idx, 3)) (hl : sx_fl M.1.cls idx c k) (hv : ∀ w, hp_f w a c k = .int (hp_i w a k)) (hfin : (cl_T c k).2.2.2 = false) (hk : hp_k w a = (c, n)) (hn : narrow (cl_ty c k) (.int x) = .int x) (hft : fits (cl_ty c k) (.int x) = true) (kk : V E M R mc ms ce sl (pc + 3) ls st (hp_si w a k x) Q) : V E M R mc ms ce sl pc ls (.int x :: .ref a :: st) w Q :=
  V_put hd hl hfin hk hn hft (w' := hp_si w a k x) rfl rfl (fun _ h => hp_e_si h) (by rw [hv, hp_i_si, if_pos ⟨rfl, rfl⟩]) (fun _ h => hp_f_si h) kk
theorem V_putJ {x : Int64} (hd : decode M.2.1 pc = .ok (.putfield idx, 3)) (hl : sx_fl M.1.cls idx c k) (hv : ∀ w, hp_f w a c k = .long (hp_j w a k)) (hfin : (cl_T c k).2.2.2 = false) (hk : hp_k w a = (c, n)) (hn : narrow (cl_ty c k) (.long x) = .long x) (hft : fits (cl_ty c k) (.long x) = true) (kk : V E M R mc ms ce sl (pc + 3) ls st (hp_sj w a k x) Q) : V E M R mc ms ce sl pc ls (.long x :: .ref a :: st) w Q :=
  V_put hd hl hfin hk hn hft (w' := hp_sj w a k x) rfl rfl (fun _ h => hp_e_sj h) (by rw [hv, hp_j_sj, if_pos ⟨rfl, rfl⟩]) (fun _ h => hp_f_sj h) kk
theorem V_putR {b : Nat} (hd : decode M.2.1 pc = .ok (.putfield idx, 3)) (hl : sx_fl M.1.cls idx c k) (hv : ∀ w, hp_f w a c k = va_rf (hp_r w a k)) (hfin : (cl_T c k).2.2.2 = false) (hk : hp_k w a = (c, n)) (hn : ∀ b, narrow (cl_ty c k) (.ref b) = .ref b) (hft : ∀ b, fits (cl_ty c k) (.ref b) = true) (kk : V E M R mc ms ce sl (pc + 3) ls st (hp_sr w a k (some b)) Q) : V E M R mc ms ce sl pc ls (.ref b :: .ref a :: st) w Q :=
  V_put hd hl hfin hk (hn _) (hft _) (w' := hp_sr w a k (some b)) rfl rfl (fun _ h => hp_e_sr h) (by rw [hv, hp_r_sr, if_pos ⟨rfl, rfl⟩]; rfl) (fun _ h => hp_f_sr h) kk
theorem V_putFR {b : Nat} (hd : decode M.2.1 pc = .ok (.putfield idx, 3)) (hc : c < 13) (hkN : k < cl_N c) (hl : sx_w (.fieldLink M.1.cls idx (cl_R c) (cl_T c k).2.1 (cl_T c k).2.2.1)) (hfin : (cl_T c k).2.2.2 = true) (hinit : M.1.name = "<init>") (hown : cl_R c = M.1.cls) (hv : ∀ w, hp_f w a c k = va_rf (hp_r w a k)) (hk : hp_k w a = (c, n)) (hn : ∀ b, narrow (cl_ty c k) (.ref b) = .ref b) (hft : ∀ b, fits (cl_ty c k) (.ref b) = true) (kk : V E M R mc ms ce sl (pc + 3) ls st (hp_sr w a k (some b)) Q) : V E M R mc ms ce sl pc ls (.ref b :: .ref a :: st) w Q :=
  V_putF hd hc hkN hl hfin hinit hown hk (hn _) (hft _) (w' := hp_sr w a k (some b)) rfl rfl (fun _ h => hp_e_sr h) (by rw [hv, hp_r_sr, if_pos ⟨rfl, rfl⟩]; rfl) (fun _ h => hp_f_sr h) kk
end SXG

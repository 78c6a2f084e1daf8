/-! THE ROWS OF V for arrays and new things -/
section SXA
variable {E : sxE} {M : sxM} {R : Room} {mc ms ce sl pc : Nat} {ls : List (Nat × Value)} {st : List Value} {w : hpW} {Q : Option Value → hpW → Prop} {idx a b n : Nat}
theorem sx_in {i : Int32} (h : vp_in i n) : i.toNatClampNeg < n := Nat.not_le.mp fun q => h (Or.inr q)
theorem V_iald {i : Int32} (hd : decode M.2.1 pc = .ok (.iaload, 1)) (hk : hp_k w a = (13, n)) (hin : vp_in i n) (kk : V E M R mc ms ce sl (pc + 1) ls (.int (hp_i w a i.toNatClampNeg) :: st) w Q) : V E M R mc ms ce sl pc ls (.int i :: .ref a :: st) w Q := by
  intro p e s m args below meth c0 H locs la g
  obtain ⟨-, -, hat⟩ := g.2.1.2.2 a (by rw [hk]; exact Nat.le_of_ble_eq_true rfl)
  rw [hp_e_i hk (by decide) (by decide)] at hat
  exact W.iald (v := .int (hp_i w a i.toNatClampNeg)) g.1.1 g.1.2.1 hat ((g.1.2.2.2.2.2.2.2.2.1.2 0 (sx_c E 13, .int) rfl).1 n (fun j => .int (hp_i w a j))) (fun q => by cases q) (by show ¬ (i < 0 ∨ (arrV _ _ _).slots.size ≤ _); rw [arrV_size]; exact hin) (by show (arrV _ _ _).slots[_]? = _; rw [arrV_read _ _ (sx_in hin)]) rfl rfl hd (kk p e s m args below meth c0 H locs la g)
theorem V_zald {i : Int32} (hd : decode M.2.1 pc = .ok (.baload, 1)) (hk : hp_k w a = (14, n)) (hin : vp_in i n) (kk : V E M R mc ms ce sl (pc + 1) ls (.int (hp_i w a i.toNatClampNeg) :: st) w Q) : V E M R mc ms ce sl pc ls (.int i :: .ref a :: st) w Q := by
  intro p e s m args below meth c0 H locs la g
  obtain ⟨-, -, hat⟩ := g.2.1.2.2 a (by rw [hk]; exact Nat.le_of_ble_eq_true rfl)
  rw [hp_e_i hk (by decide) (by decide)] at hat
  exact W.zald (v := .int (hp_i w a i.toNatClampNeg)) g.1.1 g.1.2.1 hat ((g.1.2.2.2.2.2.2.2.2.1.2 1 (sx_c E 14, .boolean) rfl).1 n (fun j => .int (hp_i w a j))) (fun q => by cases q) (by show ¬ (i < 0 ∨ (arrV _ _ _).slots.size ≤ _); rw [arrV_size]; exact hin) (by show (arrV _ _ _).slots[_]? = _; rw [arrV_read _ _ (sx_in hin)]) rfl rfl hd (kk p e s m args below meth c0 H locs la g)
theorem V_lald {i : Int32} (hd : decode M.2.1 pc = .ok (.laload, 1)) (hk : hp_k w a = (17, n)) (hin : vp_in i n) (kk : V E M R mc ms ce sl (pc + 1) ls (.long (hp_j w a i.toNatClampNeg) :: st) w Q) : V E M R mc ms ce sl pc ls (.int i :: .ref a :: st) w Q := by
  intro p e s m args below meth c0 H locs la g
  obtain ⟨-, -, hat⟩ := g.2.1.2.2 a (by rw [hk]; exact Nat.le_of_ble_eq_true rfl)
  rw [hp_e_j hk] at hat
  exact W.lald (v := .long (hp_j w a i.toNatClampNeg)) g.1.1 g.1.2.1 hat ((g.1.2.2.2.2.2.2.2.2.1.2 4 (sx_c E 17, .long) rfl).1 n (fun j => .long (hp_j w a j))) (fun q => by cases q) (by show ¬ (i < 0 ∨ (arrV _ _ _).slots.size ≤ _); rw [arrV_size]; exact hin) (by show (arrV _ _ _).slots[_]? = _; rw [arrV_read _ _ (sx_in hin)]) rfl rfl hd (kk p e s m args below meth c0 H locs la g)
theorem V_aald {i : Int32} {c : Nat} (hd : decode M.2.1 pc = .ok (.aaload, 1)) (hk : hp_k w a = (c, n)) (hc : c = 15 ∨ c = 16) (hin : vp_in i n) (hr : hp_r w a i.toNatClampNeg = some b) (kk : V E M R mc ms ce sl (pc + 1) ls (.ref b :: st) w Q) : V E M R mc ms ce sl pc ls (.int i :: .ref a :: st) w Q := by
  intro p e s m args below meth c0 H locs la g
  have hc1 : c < 18 ∧ 15 ≤ c ∧ c < 17 := by omega
  obtain ⟨-, -, hat⟩ := g.2.1.2.2 a (by rw [hk]; exact hc1.1)
  rw [hp_e_r hk hc1.2.1 hc1.2.2] at hat
  have hA : ∃ C, ArrOfT s (sx_c E c) (.object C) := by
    rcases hc with rfl | rfl
    · exact ⟨_, (g.1.2.2.2.2.2.2.2.2.1.2 2 (sx_c E 15, .object "StainStreet$Law") rfl).1⟩
    · exact ⟨_, (g.1.2.2.2.2.2.2.2.2.1.2 3 (sx_c E 16, .object "StainStreet$State") rfl).1⟩
  obtain ⟨C, hA⟩ := hA
  exact W.aald (v := .ref (sx_ad E b)) (ty := .object C) g.1.1 g.1.2.1 hat (hA n (fun j => va_rf ((hp_r w a j).map (sx_ad E)))) rfl (fun q => by cases q) (by show ¬ (i < 0 ∨ (arrV _ _ _).slots.size ≤ _); rw [arrV_size]; exact hin) (by show (arrV _ _ _).slots[_]? = _; rw [arrV_read _ _ (sx_in hin)]; show some (va_rf ((hp_r w a _).map _)) = _; rw [hr]; rfl) rfl rfl hd (kk p e s m args below meth c0 H locs la g)
theorem V_alen (hd : decode M.2.1 pc = .ok (.arraylength, 1)) (hk : hp_k w a = (13, n)) (kk : V E M R mc ms ce sl (pc + 1) ls (.int (Int32.ofNat n) :: st) w Q) : V E M R mc ms ce sl pc ls (.ref a :: st) w Q := by
  intro p e s m args below meth c0 H locs la g
  obtain ⟨-, -, hat⟩ := g.2.1.2.2 a (by rw [hk]; exact Nat.le_of_ble_eq_true rfl)
  rw [hp_e_i hk (by decide) (by decide)] at hat
  exact W.alen (n := Int32.ofNat n) g.1.1 g.1.2.1 hat ((g.1.2.2.2.2.2.2.2.2.1.2 0 (sx_c E 13, .int) rfl).1 n (fun j => .int (hp_i w a j))) (by rw [vp_cell_i, arrV_size] <;> rfl) rfl rfl hd (kk p e s m args below meth c0 H locs la g)
/-- behind a store into an array -/
theorem sx_to {p : Program} {s : State} {m : MethodId} {meth : Method} {c0 : Code} {H H' : Heap} {locs : List Loc} {la : Array Slot} {w' : hpW} {j : Nat} (g : sx_In E M p s m meth c0 H locs la ls w) (hP : sx_P E w' H') (ha16 : 16 ≤ a) (hoq : ∀ q, q ≠ sx_ad E a → H'[q]? = H[q]?) : sx_In E M p s m meth c0 H' (locs ++ [⟨sx_ad E a, j⟩]) la ls w' := by
  refine ⟨g.1, hP, fun q hq => ?_, fun q hq => ?_, g.2.2.2.2⟩
  · rw [hoq q (sx_ad_lt ha16 hq)]
    exact g.2.2.1 q hq
  · rcases List.mem_append.mp hq with h | h
    · exact g.2.2.2.1 q h
    · rw [List.mem_singleton.mp h]
      exact sx_ad_le ha16
theorem hp_i_row (w : hpW) (a k : Nat) (x : Int32) : (fun j => Value.int (hp_i (hp_si w a k x) a j)) = updV (fun j => .int (hp_i w a j)) k (.int x) := by
  funext j
  by_cases h : j = k
  · simp [updV, h, hp_i_si]
  · simp [updV, h, hp_i_si]
theorem V_iast {i x : Int32} (hd : decode M.2.1 pc = .ok (.iastore, 1)) (hk : hp_k w a = (13, n)) (hin : vp_in i n) (kk : V E M R mc ms ce sl (pc + 1) ls st (hp_si w a i.toNatClampNeg x) Q) : V E M R mc ms ce sl pc ls (.int x :: .int i :: .ref a :: st) w Q := by
  intro p e s m args below meth c0 H locs la g
  obtain ⟨ha16, -, hat⟩ := g.2.1.2.2 a (by rw [hk]; exact Nat.le_of_ble_eq_true rfl)
  rw [hp_e_i hk (by decide) (by decide)] at hat
  refine W.iast g.1.1 g.1.2.1 hat ((g.1.2.2.2.2.2.2.2.2.1.2 0 (sx_c E 13, .int) rfl).1 n (fun j => .int (hp_i w a j))) (fun q => by cases q) (by show ¬ (i < 0 ∨ (arrV _ _ _).slots.size ≤ _); rw [arrV_size]; exact hin) rfl rfl hd fun H' e1 hz hoq => ?_
  refine kk p e s m args below meth c0 H' _ la (sx_to g (g.2.1.put (a := a) rfl rfl (by rw [hk]; exact Nat.le_of_ble_eq_true rfl) (fun _ h => hp_e_si h) ?_ hz hoq) ha16 hoq)
  rw [hp_e_i (w := hp_si w a i.toNatClampNeg x) hk (by decide) (by decide)]
  show H'[sx_ad E a]? = some (vp_cell _ _)
  rw [e1, vp_cell_i, vp_cell_i, arrV_store, hp_i_row]
theorem V_zast {i x : Int32} (hd : decode M.2.1 pc = .ok (.bastore, 1)) (hk : hp_k w a = (14, n)) (hin : vp_in i n) (hx : narrow .boolean (.int x) = .int x) (kk : V E M R mc ms ce sl (pc + 1) ls st (hp_si w a i.toNatClampNeg x) Q) : V E M R mc ms ce sl pc ls (.int x :: .int i :: .ref a :: st) w Q := by
  intro p e s m args below meth c0 H locs la g
  obtain ⟨ha16, -, hat⟩ := g.2.1.2.2 a (by rw [hk]; exact Nat.le_of_ble_eq_true rfl)
  rw [hp_e_i hk (by decide) (by decide)] at hat
  refine W.zast g.1.1 g.1.2.1 hat ((g.1.2.2.2.2.2.2.2.2.1.2 1 (sx_c E 14, .boolean) rfl).1 n (fun j => .int (hp_i w a j))) (fun q => by cases q) (by show ¬ (i < 0 ∨ (arrV _ _ _).slots.size ≤ _); rw [arrV_size]; exact hin) rfl rfl hd fun H' e1 hz hoq => ?_
  refine kk p e s m args below meth c0 H' _ la (sx_to g (g.2.1.put (a := a) rfl rfl (by rw [hk]; exact Nat.le_of_ble_eq_true rfl) (fun _ h => hp_e_si h) ?_ hz hoq) ha16 hoq)
  rw [hp_e_i (w := hp_si w a i.toNatClampNeg x) hk (by decide) (by decide)]
  show H'[sx_ad E a]? = some (vp_cell _ _)
  rw [hx] at e1
  rw [e1, vp_cell_i, vp_cell_i, arrV_store, hp_i_row]
theorem V_last {i : Int32} {x : Int64} (hd : decode M.2.1 pc = .ok (.lastore, 1)) (hk : hp_k w a = (17, n)) (hin : vp_in i n) (kk : V E M R mc ms ce sl (pc + 1) ls st (hp_sj w a i.toNatClampNeg x) Q) : V E M R mc ms ce sl pc ls (.long x :: .int i :: .ref a :: st) w Q := by
  intro p e s m args below meth c0 H locs la g
  obtain ⟨ha16, -, hat⟩ := g.2.1.2.2 a (by rw [hk]; exact Nat.le_of_ble_eq_true rfl)
  rw [hp_e_j hk] at hat
  refine W.last g.1.1 g.1.2.1 hat ((g.1.2.2.2.2.2.2.2.2.1.2 4 (sx_c E 17, .long) rfl).1 n (fun j => .long (hp_j w a j))) (fun q => by cases q) (by show ¬ (i < 0 ∨ (arrV _ _ _).slots.size ≤ _); rw [arrV_size]; exact hin) rfl rfl hd fun H' e1 hz hoq => ?_
  refine kk p e s m args below meth c0 H' _ la (sx_to g (g.2.1.put (a := a) rfl rfl (by rw [hk]; exact Nat.le_of_ble_eq_true rfl) (fun _ h => hp_e_sj h) ?_ hz hoq) ha16 hoq)
  rw [hp_e_j (w := hp_sj w a i.toNatClampNeg x) hk]
  show H'[sx_ad E a]? = some (vp_cell _ _)
  rw [e1, vp_cell_l, vp_cell_l, arrV_store]
  congr 2
  funext j
  by_cases h : j = i.toNatClampNeg
  · simp [updV, h, hp_j_sj]
  · simp [updV, h, hp_j_sj]
theorem V_aast {i : Int32} {c ci m0 : Nat} (hd : decode M.2.1 pc = .ok (.aastore, 1)) (hk : hp_k w a = (c, n)) (hc : (c = 15 ∧ ci = 1) ∨ (c = 16 ∧ ci = 7)) (hin : vp_in i n) (hv : hp_k w b = (ci, m0)) (kk : V E M R mc ms ce sl (pc + 1) ls st (hp_sr w a i.toNatClampNeg (some b)) Q) : V E M R mc ms ce sl pc ls (.ref b :: .int i :: .ref a :: st) w Q := by
  intro p e s m args below meth c0 H locs la g
  have hc1 : c < 18 ∧ 15 ≤ c ∧ c < 17 ∧ ci < 13 ∧ ci < 18 := by omega
  obtain ⟨ha16, -, hat⟩ := g.2.1.2.2 a (by rw [hk]; exact hc1.1)
  obtain ⟨-, -, hbt⟩ := g.2.1.2.2 b (by rw [hv]; exact hc1.2.2.2.2)
  rw [hp_e_r hk hc1.2.1 hc1.2.2.1] at hat
  rw [hp_e_o hv hc1.2.2.2.1] at hbt
  have hA : va_RA s (sx_c E c) (.object (cl_R ci)) := by
    rcases hc with ⟨rfl, rfl⟩ | ⟨rfl, rfl⟩
    · exact (g.1.2.2.2.2.2.2.2.2.1.2 2 (sx_c E 15, .object "StainStreet$Law") rfl).2
    · exact (g.1.2.2.2.2.2.2.2.2.1.2 3 (sx_c E 16, .object "StainStreet$State") rfl).2
  obtain ⟨r', hr', cellV, g1, g2, g3, -⟩ := hbt
  have hcls := (g.1.2.2.2.2.2.2.2.2.1.1 ci _ (cl_at hc1.2.2.2.1)).2
  obtain ⟨kA, comp, k1, k2, k3, -⟩ := hA
  have hcomp : comp = (sx_D E).1 ci := Option.some.inj (k3.symm.trans hcls.1)
  subst hcomp
  obtain ⟨kC, hkC, -⟩ := hcls.2
  refine W.aast g.1.1 g.1.2.1 hat (fun q h => by cases h) (fun h => by cases h) k1 k2 rfl hkC ⟨fun q => hin (Or.inl q), by show _ < (arrV _ _ _).slots.size; rw [arrV_size]; exact sx_in hin⟩ g1 (fun q h => by rw [g3] at h; cases h) (by rw [g2]; exact hkC) (by rw [g2]; exact va_assign hcls) rfl rfl hd fun H' e1 hz hoq => ?_
  refine kk p e s m args below meth c0 H' _ la (sx_to g (g.2.1.put (a := a) rfl rfl (by rw [hk]; exact hc1.1) (fun _ h => hp_e_sr h) ?_ hz hoq) ha16 hoq)
  rw [hp_e_r (w := hp_sr w a i.toNatClampNeg (some b)) hk hc1.2.1 hc1.2.2.1]
  show H'[sx_ad E a]? = some (vp_cell _ _)
  rw [e1, vp_cell_q, vp_cell_q, arrV_store]
  congr 2
  funext j
  by_cases h : j = i.toNatClampNeg
  · simp [updV, h, hp_r_sr, va_rf]
  · simp [updV, h, hp_r_sr]
/-- behind a new thing -/
theorem sx_nw {p : Program} {s : State} {m : MethodId} {meth : Method} {c0 : Code} {H H' : Heap} {locs : List Loc} {la : Array Slot} {w' : hpW} (g : sx_In E M p s m meth c0 H locs la ls w) (hP : sx_P E w' H') (ho : ∀ q, q < H.size → H'[q]? = H[q]?) : sx_In E M p s m meth c0 H' locs la ls w' :=
  ⟨g.1, hP, fun q hq => by rw [ho q (by have := g.2.1.1; have := g.2.1.2.1; omega)]; exact g.2.2.1 q hq, g.2.2.2.1, g.2.2.2.2⟩
theorem sx_sz {H : Heap} (h : sx_P E w H) : H.size = sx_ad E (hp_n w) := by rw [sx_ad_ge h.2.1]; have := h.1; have := h.2.1; omega
theorem hp_e_new {c m0 : Nat} (h : b ≠ hp_n w) : hp_k (hp_new w c m0) b = hp_k w b ∧ ((hp_k w b).1 < 18 → hp_e E (hp_new w c m0) b = hp_e E w b) := ⟨by rw [hp_k_new, if_neg h], fun _ => hp_e_eq (by rw [hp_k_new, if_neg h]) (by rw [hp_i_new, if_neg h]) (by rw [hp_r_new, if_neg h]) (by rw [hp_j_new, if_neg h])⟩
def hp_0 : hpW := (0, fun _ => (0, 0), fun _ _ => none, fun _ _ => 0, fun _ _ => 0)
def hp_isn : Value → Bool
  | .ref _ => false
  | _ => true
set_option maxRecDepth 100000 in
theorem cl_kd0 : ∀ c, c < 13 → ∀ k, k < cl_N c → hp_f hp_0 0 c k = defaultValue (cl_ty c k) ∧ hp_isn (hp_f hp_0 0 c k) = true := by decide +kernel
theorem cl_kd (c : Nat) (hc : c < 13) (k : Nat) (hk : k < cl_N c) : hp_f hp_0 0 c k = defaultValue (cl_ty c k) ∧ sx_v E (hp_f hp_0 0 c k) = hp_f hp_0 0 c k := by
  obtain ⟨h1, h2⟩ := cl_kd0 c hc k hk
  refine ⟨h1, ?_⟩
  cases h : hp_f hp_0 0 c k <;> first | rfl | (rw [h] at h2; cases h2)
theorem V_new {c : Nat} (hd : decode M.2.1 pc = .ok (.new idx, 3)) (hc : c < 13) (hl : sx_w (.classLink M.1.cls idx (cl_R c))) (hi : sx_w (.instantiable (cl_R c) (cl_N c))) (hini : sx_w (.initialized (cl_R c))) (h1 : ce + 1 ≤ R.cells) (h2 : sl + cl_N c ≤ R.slots) (kk : V E M R mc ms (ce + 1) (sl + cl_N c) (pc + 3) ls (.ref (hp_n w) :: st) (hp_new w c (cl_N c)) Q) : V E M R mc ms ce sl pc ls st w Q := by
  intro p e s m args below meth c0 H locs la g
  have hT := g.1.2.2.2.2.2.2.2.1
  have hKn := g.1.2.2.2.2.2.2.2.2.1.1 c _ (cl_at hc)
  refine W.newcK g.1.1 g.1.2.1 g.1.2.2.2.2.2.1 (hT _ hl _) (hT _ hi _) (hT _ hini _) rfl hd h1 h2 hKn.2.1 (sx_sz g.2.1) fun H' kC hkC e1 z1 o1 => ?_
  have e0 := sx_sz g.2.1
  rw [← e0] at e1 z1 o1
  refine kk p e s m args below meth c0 H' locs la (sx_nw g (g.2.1.push z1 o1 rfl (fun b h => hp_e_new h) ?_) o1)
  rw [hp_e_o (c := c) (n := cl_N c) (by rw [hp_k_new, if_pos rfl]) hc]
  refine ⟨_, cl_at hc, (u_born (args := args) (cl_ty c) (sx_lw hT hc) (fun _ h => h) hKn hkC e1 (cl_ok c hc)).to (fun j hj => ?_)⟩
  rw [vp_V_map hj]
  have h5 := cl_kd (E := E) c hc j hj
  have h6 : hp_f (hp_new w c (cl_N c)) (hp_n w) c j = hp_f hp_0 0 c j := by
    unfold hp_f
    rw [hp_j_new, hp_r_new, hp_i_new, if_pos rfl, if_pos rfl, if_pos rfl]
    rfl
  rw [h6, h5.2]
  exact h5.1.symm
theorem V_newa {at0 : ArrayType} {c : Nat} {x : Int32} {ty : FieldType} (hd : decode M.2.1 pc = .ok (.newarray at0, 2)) (hc : (c = 13 ∧ ty = .int) ∨ (c = 14 ∧ ty = .boolean) ∨ (c = 17 ∧ ty = .long)) (hty : newarray.typeOf at0 = ty) (hl : sx_w (.arrayClass ty)) (hx : ¬ x < 0) (hn : x.toNatClampNeg = n) (hby : n * 8 ≤ 536870912) (h1 : ce + 1 ≤ R.cells) (h2 : sl + n ≤ R.slots) (kk : V E M R mc ms (ce + 1) (sl + n) (pc + 2) ls (.ref (hp_n w) :: st) (hp_new w c n) Q) : V E M R mc ms ce sl pc ls (.int x :: st) w Q := by
  intro p e s m args below meth c0 H locs la g
  have hT := g.1.2.2.2.2.2.2.2.1
  have e0 := sx_sz g.2.1
  subst hty
  refine va_newaK g.1.1 g.1.2.1 (hT _ hl _) rfl hd rfl hx hn (by rcases hc with ⟨-, h⟩ | ⟨-, h⟩ | ⟨-, h⟩ <;> rw [h] <;> simp only [componentBytes] <;> omega) h1 h2 e0 fun H' cA e1 z1 o1 hA hcA => ?_
  rw [← e0] at e1 z1 o1
  refine kk p e s m args below meth c0 H' locs la (sx_nw g (g.2.1.push z1 o1 rfl (fun b h => hp_e_new h) ?_) o1)
  have hRA := g.1.2.2.2.2.2.2.2.2.1.2
  rcases hc with ⟨rfl, h⟩ | ⟨rfl, h⟩ | ⟨rfl, h⟩
  · have e2 : cA = sx_c E 13 := by
      have h3 : s.vm.findClass ("[" ++ (FieldType.int).toString) = some (sx_c E 13) := (hRA 0 (sx_c E 13, .int) rfl).2
      rw [h] at hcA
      exact Option.some.inj (hcA.symm.trans h3)
    rw [hp_e_i (c := 13) (n := n) (by rw [hp_k_new, if_pos rfl]) (by decide) (by decide)]
    show H'[H.size]? = some (vp_cell _ _)
    rw [e1, h, e2, vp_cell_i, hp_i_new, if_pos rfl]
    rfl
  · have e2 : cA = sx_c E 14 := by
      have h3 : s.vm.findClass ("[" ++ (FieldType.boolean).toString) = some (sx_c E 14) := (hRA 1 (sx_c E 14, .boolean) rfl).2
      rw [h] at hcA
      exact Option.some.inj (hcA.symm.trans h3)
    rw [hp_e_i (c := 14) (n := n) (by rw [hp_k_new, if_pos rfl]) (by decide) (by decide)]
    show H'[H.size]? = some (vp_cell _ _)
    rw [e1, h, e2, vp_cell_i, hp_i_new, if_pos rfl]
    rfl
  · have e2 : cA = sx_c E 17 := by
      have h3 : s.vm.findClass ("[" ++ (FieldType.long).toString) = some (sx_c E 17) := (hRA 4 (sx_c E 17, .long) rfl).2
      rw [h] at hcA
      exact Option.some.inj (hcA.symm.trans h3)
    rw [hp_e_j (n := n) (by rw [hp_k_new, if_pos rfl])]
    show H'[H.size]? = some (vp_cell _ _)
    rw [e1, h, e2, vp_cell_l, hp_j_new, if_pos rfl]
    rfl
end SXA

/-! THE ROWS OF V for copies and arrays of things -/
section SXY
variable {E : sxE} {M : sxM} {R : Room} {mc ms ce sl pc : Nat} {ls : List (Nat × Value)} {st : List Value} {w : hpW} {Q : Option Value → hpW → Prop} {idx a a0 n0 n1 n : Nat}
theorem V_copy {sp dp x : Int32} (hd : decode M.2.1 pc = .ok (.invokestatic idx, 3)) (hl : sx_w (.methodLink M.1.cls idx arraycopyName)) (hnat : sx_w (.native arraycopyName)) (hsta : sx_w (.static arraycopyName)) (hini : sx_w (.initialized "java/lang/System")) (hk0 : hp_k w a0 = (13, n0)) (hk1 : hp_k w a = (13, n1))
    (h1 : ¬ sp < 0) (h2 : ¬ dp < 0) (h3 : ¬ x < 0) (h4 : sp.toNatClampNeg + x.toNatClampNeg ≤ n0) (h5 : dp.toNatClampNeg + x.toNatClampNeg ≤ n1) (hf : 1 ≤ R.frames ∧ (st.map fun v => v.category).sum + (nativeFrameWords "java/lang/System" "arraycopy" 5 + 11) ≤ R.locals)
    (kk : V E M R mc ms ce sl (pc + 3) ls st (hp_cp w a0 sp.toNatClampNeg a dp.toNatClampNeg x.toNatClampNeg) Q) : V E M R mc ms ce sl pc ls (.int x :: .int dp :: .ref a :: .int sp :: .ref a0 :: st) w Q := by
  intro p e s m args below meth c0 H locs la g
  have hT := g.1.2.2.2.2.2.2.2.1
  have hK := g.1.2.2.2.2.2.2.2.2.1
  obtain ⟨-, -, hat0⟩ := g.2.1.2.2 a0 (by rw [hk0]; exact Nat.le_of_ble_eq_true rfl)
  obtain ⟨ha16, -, hat1⟩ := g.2.1.2.2 a (by rw [hk1]; exact Nat.le_of_ble_eq_true rfl)
  rw [hp_e_i hk0 (by decide) (by decide)] at hat0
  rw [hp_e_i hk1 (by decide) (by decide)] at hat1
  have hc0 : H[sx_ad E a0]? = some (vp_cell (sx_c E 13) (n0, .inl (hp_i w a0))) := hat0
  have hc1 : H[sx_ad E a]? = some (vp_cell (sx_c E 13) (n1, .inl (hp_i w a))) := hat1
  have nn : ∀ z : Int32, ¬ z < 0 → z.toInt = (z.toNatClampNeg : Int) := by
    intro z hz
    have hz0 : (0 : Int) ≤ z.toInt := by
      have := Int32.not_lt.mp hz
      simpa using Int32.le_iff_toInt_le.mp this
    show z.toInt = ((z.toInt.toNat : Nat) : Int)
    omega
  intro T hT0 X
  obtain ⟨-, k0, hkk0, cm0, hkn0⟩ := (hK.2 0 (sx_c E 13, .int) rfl).1 n0 (fun j => .int (hp_i w a0 j))
  obtain ⟨-, k1, hkk1, cm1, hkn1⟩ := (hK.2 0 (sx_c E 13, .int) rfl).1 n1 (fun j => .int (hp_i w a j))
  obtain ⟨vm', X', step⟩ := X.arraycopy g.1.1 g.1.2.2.2.2.2.1 (hT _ hl _) (hT _ hnat _) (hT _ hsta _) (hT _ hini _) (src := sx_ad E a0) (dst := sx_ad E a) (cs := vp_cell (sx_c E 13) (n0, .inl (hp_i w a0))) (cd := vp_cell (sx_c E 13) (n1, .inl (hp_i w a))) (srcPos := sp) (destPos := dp) (n := x) (by rw [hT0]; exact hc0) (by rw [hT0]; exact hc1)
    (fun _ h => by cases h) (fun _ h => by cases h) (fun h => by cases h) (fun h => by cases h) hkk0 hkk1 hkn0 hkn1 (by simp [refKind]) h1 h2 h3
    (by rw [nn sp h1, nn x h3]; show ¬ _ > ((arrV (sx_c E 13) n0 (fun j => .int (hp_i w a0 j))).slots.size : Int); rw [arrV_size]; omega)
    (by rw [nn dp h2, nn x h3]; show ¬ _ > ((arrV (sx_c E 13) n1 (fun j => .int (hp_i w a j))).slots.size : Int); rw [arrV_size]; omega)
    (fun vm₁ _ i hi => by
      have e : (vp_cell (sx_c E 13) (n0, .inl (hp_i w a0))).slots.getD (sp.toNatClampNeg + i) .null = .int (hp_i w a0 (sp.toNatClampNeg + i)) := by
        show (arrV (sx_c E 13) n0 (fun j => .int (hp_i w a0 j))).slots.getD _ _ = _
        rw [Array.getD_eq_getD_getElem?, arrV_read _ _ (by omega)]
        rfl
      refine ⟨?_, ?_⟩
      · rw [e]
        rfl
      · rw [e]
        exact trivial)
    (g := F0 m pc la ((Value.int x :: .int dp :: .ref a :: .int sp :: .ref a0 :: st).map (sx_v E))) rfl (g.2.2.2.2.1.trans g.1.2.2.1.symm) (rest := st.map (sx_v E)) rfl (by rw [g.1.2.1]; exact hd) hf.1 (by
      have h9 := hf.2
      show 2 * 0 + ((st.map (sx_v E)).map fun v => v.category).sum + _ ≤ _
      rw [sx_cat]
      omega)
  have e1 : copied (vp_cell (sx_c E 13) (n0, .inl (hp_i w a0))) (vp_cell (sx_c E 13) (n1, .inl (hp_i w a))) sp dp x = vp_cell (sx_c E 13) (n1, .inl (va_cpy (hp_i w a0) (hp_i w a) sp.toNatClampNeg dp.toNatClampNeg x.toNatClampNeg)) := va_copied (fun z => .int z) (sx_c E 13) (sx_c E 13) (hp_i w a0) (hp_i w a) h4
  rw [e1] at X' step
  have hl2 : sx_ad E a < H.size := (Array.getElem?_eq_some_iff.mp hc1).1
  have hheap : ((T.setVm vm').setCell (sx_ad E a) (vp_cell (sx_c E 13) (n1, .inl (va_cpy (hp_i w a0) (hp_i w a) sp.toNatClampNeg dp.toNatClampNeg x.toNatClampNeg)))).heap = H.setIfInBounds (sx_ad E a) (vp_cell (sx_c E 13) (n1, .inl (va_cpy (hp_i w a0) (hp_i w a) sp.toNatClampNeg dp.toNatClampNeg x.toNatClampNeg))) := by rw [← hT0]; rfl
  have oq : ∀ q : Nat, q ≠ sx_ad E a → (H.setIfInBounds (sx_ad E a) (vp_cell (sx_c E 13) (n1, .inl (va_cpy (hp_i w a0) (hp_i w a) sp.toNatClampNeg dp.toNatClampNeg x.toNatClampNeg))))[q]? = H[q]? := fun q hq => by simp [Array.getElem?_setIfInBounds, Ne.symm hq]
  have hP2 : sx_P E (hp_cp w a0 sp.toNatClampNeg a dp.toNatClampNeg x.toNatClampNeg) (H.setIfInBounds (sx_ad E a) (vp_cell (sx_c E 13) (n1, .inl (va_cpy (hp_i w a0) (hp_i w a) sp.toNatClampNeg dp.toNatClampNeg x.toNatClampNeg)))) := by
    refine g.2.1.put (a := a) rfl rfl (by rw [hk1]; exact Nat.le_of_ble_eq_true rfl) (fun b hb => hp_e_eq rfl (by funext j; rw [hp_i_cp, if_neg hb]) rfl rfl) ?_ (by simp) oq
    rw [hp_e_i (w := hp_cp w a0 sp.toNatClampNeg a dp.toNatClampNeg x.toNatClampNeg) hk1 (by decide) (by decide)]
    show (H.setIfInBounds (sx_ad E a) _)[sx_ad E a]? = some (vp_cell _ _)
    have e5 : hp_i (hp_cp w a0 sp.toNatClampNeg a dp.toNatClampNeg x.toNatClampNeg) a = va_cpy (hp_i w a0) (hp_i w a) sp.toNatClampNeg dp.toNatClampNeg x.toNatClampNeg := by funext j; rw [hp_i_cp, if_pos rfl]
    rw [e5]
    simp [Array.getElem?_setIfInBounds, hl2]
  obtain ⟨t, a1, b1⟩ := kk p e s m args below meth c0 _ _ la ⟨g.1, hP2, fun q hq => by rw [oq q (sx_ad_lt ha16 hq)]; exact g.2.2.1 q hq, fun q hq => by
      rcases List.mem_append.mp hq with h | h
      · exact g.2.2.2.1 q h
      · obtain ⟨z, -, hz⟩ := List.mem_map.mp h
        rw [← hz]
        exact sx_ad_le ha16, g.2.2.2.2⟩ _ hheap X'
  exact ⟨t, step t a1, b1⟩
theorem V_anew {x : Int32} {c ci : Nat} (hd : decode M.2.1 pc = .ok (.anewarray idx, 3)) (hc : (c = 15 ∧ ci = 1) ∨ (c = 16 ∧ ci = 7)) (hl : sx_w (.classLink M.1.cls idx (cl_R ci))) (ho : sx_w (.arrayOver (.object (cl_R ci)))) (hx : ¬ x < 0) (hn : x.toNatClampNeg = n) (hby : n * 4 ≤ 536870912) (h1 : ce + 1 ≤ R.cells) (h2 : sl + n ≤ R.slots) (kk : V E M R mc ms (ce + 1) (sl + n) (pc + 3) ls (.ref (hp_n w) :: st) (hp_new w c n) Q) : V E M R mc ms ce sl pc ls (.int x :: st) w Q := by
  intro p e s m args below meth c0 H locs la g
  have hT := g.1.2.2.2.2.2.2.2.1
  have e0 := sx_sz g.2.1
  subst hn
  refine W.anew g.1.1 g.1.2.1 g.1.2.2.2.2.2.1 (hT _ hl _) (hT _ ho _) rfl hd rfl hx hby h1 h2 fun cA kA comp f1 f2 f3 f4 => ?_
  generalize hH1 : H.push ({ cls := cA, slots := Array.replicate x.toNatClampNeg .null, vm := .none } : Cell) = H1
  have z1 : H1.size = H.size + 1 := by rw [← hH1, Array.size_push]
  have e1 : H1[H.size]? = some (arrV cA x.toNatClampNeg (fun _ => .null)) := by rw [← hH1, Array.getElem?_push_size, ← arrV_new]
  have o1 : ∀ q, q < H.size → H1[q]? = H[q]? := fun q hq => by rw [← hH1, Array.getElem?_push, if_neg (Nat.ne_of_lt hq)]
  have hst : F0 m (pc + 3) la (.ref H.size :: st.map (sx_v E)) = F0 m (pc + 3) la ((Value.ref (hp_n w) :: st).map (sx_v E)) := by rw [e0]; rfl
  show W p (sx_l E) e R s m args below meth c0 H1 locs (ce + 1) (sl + x.toNatClampNeg) _ (F0 m (pc + 3) la (.ref H.size :: st.map (sx_v E)))
  rw [hst]
  refine kk p e s m args below meth c0 H1 locs la (sx_nw g (g.2.1.push z1 o1 rfl (fun b h => hp_e_new h) ?_) o1)
  have hc1 : 15 ≤ c ∧ c < 17 := by omega
  have e2 : cA = sx_c E c := by
    rcases hc with ⟨rfl, rfl⟩ | ⟨rfl, rfl⟩
    · obtain ⟨_, _, -, -, -, h3⟩ := (g.1.2.2.2.2.2.2.2.2.1.2 2 (sx_c E 15, .object "StainStreet$Law") rfl).2
      exact Option.some.inj (f1.symm.trans h3)
    · obtain ⟨_, _, -, -, -, h3⟩ := (g.1.2.2.2.2.2.2.2.2.1.2 3 (sx_c E 16, .object "StainStreet$State") rfl).2
      exact Option.some.inj (f1.symm.trans h3)
  rw [hp_e_r (c := c) (n := x.toNatClampNeg) (by rw [hp_k_new, if_pos rfl]) hc1.1 hc1.2]
  show H1[H.size]? = some (vp_cell _ _)
  rw [e1, e2, vp_cell_q, hp_r_new, if_pos rfl]
  rfl
end SXY

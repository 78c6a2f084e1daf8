/-! text: what both sides do -/
def pt_W (A : AS) (L : lwT) : AS := (([], a_W A ++ [L], a_h A), A.2)
def pt_N (A : AS) (n m : Nat) (s : Nat → Int32) : AS := (([], A.1.2), (n, m, s), (bg_ s n (up_ (a_r A) 45 0), [], none), ([], []), A.2.2.2.2)
noncomputable def q_text (A : AS) (x : Int32) : Int32 × AS := if x = 0 then (if (str9 (a_T A)).1 = true then (nI (str9 (a_T A)).2.1.2.1, pt_N A (str9 (a_T A)).2.1.2.1 (str9 (a_T A)).2.1.2.2.1 (str9 (a_T A)).2.1.2.2.2) else (-1, A)) else if x = 1 ∧ (a_W A).length < 4 ∧ (law9 (a_T A)).1 = true then (nI (a_W A).length, pt_W A (law9 (a_T A)).2.1) else (-1, A)
theorem OKF_bg2 {n m : Nat} {s r : Nat → Int32} (hn : n ≤ 8) (H : OKT n m s) (R1 : ∃ g, g ≤ 60 ∧ r 45 = nI g) (R2 : ∀ j, 226 ≤ j → r j = 0) : OKF n m (bg_ s n r) := by
  obtain ⟨hm0, b, d1, ⟨f, hf, ef⟩, ⟨c, hc, ec⟩, hh, hfo⟩ := H
  have lo : ∀ j, j < 41 → bg_ s n r j = bpr_ s n r j := fun j hj => bg_lo hj
  refine ⟨⟨fun h hh2 => ?_, fun z => ?_, fun z => ?_⟩, ?_, ?_, ?_, fun j hj => ?_⟩
  · rw [lo h (by omega), lo (8 + h) (by omega), lo (16 + h) (by omega), lo (24 + h) (by omega), lo (32 + h) (by omega)]
    unfold bpr_
    refine ⟨?_, ?_, ?_, ?_, ?_⟩
    · rw [if_pos hh2]; exact hh h 0 hh2 (by omega)
    · rw [if_neg (by omega), if_neg (by omega), if_neg (by omega), if_neg (by omega)]; unfold zr_; rw [if_pos (by omega)]; decide
    · rw [if_neg (by omega), if_pos (by omega), Nat.add_sub_cancel_left]; exact hh h 1 hh2 (by omega)
    · rw [if_neg (by omega), if_neg (by omega), if_pos (by omega), Nat.add_sub_cancel_left]; exact hh h 2 hh2 (by omega)
    · rw [if_neg (by omega), if_neg (by omega), if_neg (by omega), if_pos (by omega), Nat.add_sub_cancel_left]; exact hh h 3 hh2 (by omega)
  · refine ⟨f, hf, ?_⟩
    unfold bg_
    rw [up_at]; exact ef
  · unfold bg_
    rw [up_ne (by omega), up_at]
    rcases d1 with d1 | ⟨p, hp, d1⟩
    · exact Or.inl (by rw [d1]; rfl)
    · refine Or.inr ⟨p, hp, ?_⟩
      rw [d1]
      exact if_neg (fun q => absurd ((nI_eq (a := p) (b := 8) (by omega) (by omega)).mp q) (by omega))
  · unfold bg_
    rw [up_ne (by omega), up_ne (by omega), up_at]
    exact ⟨c, by omega, ec⟩
  · unfold bg_
    rw [up_ne (by omega), up_ne (by omega), up_ne (by omega), bpr_z hn (by omega) (by omega)]
    exact ⟨0, by omega, rfl⟩
  · unfold bg_
    rw [up_ne (by omega), up_ne (by omega), up_ne (by omega)]
    unfold bpr_ zr_
    rw [if_neg (by omega), if_neg (by omega), if_neg (by omega), if_neg (by omega), if_neg (by omega)]
    exact R1
  · unfold bg_
    rw [up_ne (by omega), up_ne (by omega), up_ne (by omega)]
    unfold bpr_ zr_
    rw [if_neg (by omega), if_neg (by omega), if_neg (by omega), if_neg (by omega), if_neg (by omega)]
    exact R2 j hj
theorem up3_cg {f g : Nat → Int32} {x y z : Int32} {j : Nat} (h : f j = g j) : up_ (up_ (up_ f 41 x) 42 y) 43 z j = up_ (up_ (up_ g 41 x) 42 y) 43 z j := by
  unfold up_
  rw [h]
theorem bg_45 {s r : Nat → Int32} {n : Nat} (hn : n ≤ 8) : up_ (bg_ s n r) 45 0 = bg_ s n (up_ r 45 0) := by
  funext j
  unfold bg_
  by_cases e : j = 45
  · subst e
    rw [up_at, up_ne (by omega), up_ne (by omega), up_ne (by omega)]
    unfold bpr_ zr_
    rw [if_neg (by omega), if_neg (by omega), if_neg (by omega), if_neg (by omega), if_neg (by omega), up_at]
  · rw [up_ne e]
    have e2 : bpr_ s n r j = bpr_ s n (up_ r 45 0) j := by
      unfold bpr_ zr_
      rw [up_ne e]
    exact up3_cg e2
theorem bg_z45 {s r : Nat → Int32} {n : Nat} (hn : n ≤ 8) : bg_ s n (up_ r 45 0) 45 = 0 := by rw [← bg_45 hn, up_at]
theorem AV_N {A : AS} (VA : AV A) {n m : Nat} {s : Nat → Int32} (hn : n ≤ 8) (hm : m ≤ 6) (h1 : 1 < n) (H : OKT n m s) : AV (pt_N A n m s) := by
  obtain ⟨v1, v2, v3, v4, v5, v6⟩ := VA
  refine ⟨Nat.zero_le _, v2, ⟨hn, hm, fun _ => H, fun z => absurd z (by show ¬ n = 0; omega)⟩, ⟨OKF_bg2 hn H ⟨0, by decide, up_at _ _ _⟩ (fun j hj => by rw [up_ne (by omega)]; exact v4.1.2.2.2.2 j hj), Nat.zero_le _, fun r hr => absurd hr List.not_mem_nil, fun r hr => absurd hr (by show ¬ none = some r; simp)⟩, ⟨Nat.zero_le _, fun q hq => absurd hq List.not_mem_nil, Nat.zero_le _, fun q hq => absurd hq List.not_mem_nil⟩, fun z => absurd z (by show ¬ n = 0; omega)⟩
theorem AV_Wt {A : AS} (VA : AV A) {L : lwT} (h4 : (a_W A).length < 4) (h9 : lw9 L) : AV (pt_W A L) := by
  obtain ⟨v1, v2, v3, v4, v5, v6⟩ := VA
  refine ⟨Nat.zero_le _, ⟨?_, fun V hV => ?_, ?_⟩, v3, v4, v5, v6⟩
  · show (a_W A ++ [L]).length ≤ 4
    rw [List.length_append, List.length_singleton]
    omega
  · rcases List.mem_append.mp hV with z | z
    · exact v2.2.1 V z
    · rw [List.mem_singleton.mp z]
      exact ⟨h9.1, h9.2.1⟩
  · rcases v2.2.2 with z | ⟨k, hk, z⟩
    · exact Or.inl z
    · refine Or.inr ⟨k, ?_, z⟩
      show k < (a_W A ++ [L]).length
      rw [List.length_append]
      omega
theorem AV_text {A : AS} (VA : AV A) (x : Int32) : AV (q_text A x).2 := by
  unfold q_text
  by_cases h0 : x = 0
  · rw [if_pos h0]
    by_cases c : (str9 (a_T A)).1 = true
    · rw [if_pos c]
      obtain ⟨s1, s2⟩ := (stF_ok (T := a_T A) ((a_T A).length + 1) sr0 0 sr0_ok (Nat.zero_le _)).2 c
      exact AV_N VA s1.1 s1.2.1 s2.1 (sok_OKT s1 s2)
    · rw [if_neg c]
      exact VA
  · rw [if_neg h0]
    by_cases c : x = 1 ∧ (a_W A).length < 4 ∧ (law9 (a_T A)).1 = true
    · rw [if_pos c]
      exact AV_Wt VA c.2.1 ((law9_ok VA.1).1 c.2.2)
    · rw [if_neg c]
      exact VA
theorem sres_y {T : List Int32} (hT : T.length ≤ 240) (h : sres (str9 T) = -1) : (str9 T).1 = true := Classical.byContradiction (fun z => by
  have l := (stF_ok (T := T) (T.length + 1) sr0 0 sr0_ok (Nat.zero_le _)).1
  unfold sres at h
  rw [if_neg z] at h
  exact nI_nm1 (by show (stF T (T.length + 1) sr0 0).2.2 < 2 ^ 31; omega) h)
theorem sres_n {T : List Int32} (h : ¬ sres (str9 T) = -1) : ¬ (str9 T).1 = true := fun z => h (if_pos z)
theorem lres_y {T : List Int32} (hT : T.length ≤ 240) (h : lres (law9 T) = -1) : (law9 T).1 = true := Classical.byContradiction (fun z => by
  have l := (law9_ok hT).2
  unfold lres at h
  rw [if_neg z] at h
  exact nI_nm1 (by omega) h)
theorem lres_n {T : List Int32} (h : ¬ lres (law9 T) = -1) : ¬ (law9 T).1 = true := fun z => h (if_pos z)
set_option maxHeartbeats 2000000 in
set_option maxRecDepth 20000 in
theorem CR_new {A : AS} {w v : hpW} {t : Nat} {x : srT} (VA : AV A) (H : CR A w) (ht : a2_ t) (hq : sQ9 (108 - t) x w) (hx : sok x) (hB : ly_B v) (i17 : hp_i v 17 1 = nI 0) (io : ∀ b j, b < 57 ∨ 63 < b → ¬ (b = 17 ∧ j = 1) → ¬ (b = 75 ∧ j = 2) → ¬ (b = 357 ∧ j = 2) → ¬ (b = 369 ∧ j = 3) → ¬ (b = 373 ∧ j = 3) → hp_i v b j = hp_i w b j) (hv : vw_ x.2.1 (hp_i v) 57 (bg_ x.2.2.2 x.2.1 (up_ (a_r A) 45 0))) (htm : tm_ x.2.1 (hp_i v) 57 (z_m x.2.2.2)) (h12 : hp_i v 57 12 = nI 0) (r4 : hp_r v 16 4 = some (108 - t)) (r5 : hp_r v 16 5 = some t) (r57 : hp_r v 57 0 = some (108 - t)) (z75 : hp_i v 75 2 = nI 0) (z357 : hp_i v 357 2 = 0) (z369 : hp_i v 369 3 = nI 0) (z373 : hp_i v 373 3 = nI 0) : CR (pt_N A x.2.1 x.2.2.1 x.2.2.2) v := by
  have t2 := ht
  unfold a2_ at t2
  have cs := hq.2.2
  obtain ⟨-, c1, c2, t0, g0, c3, c4, c5, c6, c7, c9, c11, c12⟩ := id H
  obtain ⟨p0, hp0, hp1, -, -⟩ := id c5
  have hrg : rg_ (hp_i v) 71 0 (bg_ x.2.2.2 x.2.1 (up_ (a_r A) 45 0)) := ⟨Nat.zero_le _, by rw [bg_z45 hx.1, if_pos (by decide)]; rfl, fun i hi => absurd hi (by rw [if_pos (by decide)]; exact Nat.not_lt_zero i)⟩
  refine ⟨hB, ⟨Nat.zero_le _, i17, fun k hk => absurd hk (Nat.not_lt_zero k)⟩, Claws_mv VA.2.1.1 (fun i j hi hj => by funext q; exact io _ q (by omega) (by omega) (by omega) (by omega) (by omega) (by omega)) (by funext q; exact io 20 q (by omega) (by omega) (by omega) (by omega) (by omega) (by omega)) c2, (108 - t), 0, ⟨r4, ?_, a2_sp ht, ?_, ?_, fun j hj => ?_, fun j hj => ?_, fun j hj => ?_⟩, ⟨r57, hv.2.1, hv.2.2.2.2.2, h12, hrg, fun _ => ⟨r57, hv, htm, h12, hrg⟩⟩, ⟨p0, hp0, ?_, z75, fun _ => 0, ⟨fun z => absurd z (Nat.not_lt_zero 0), fun i hi => absurd hi (Nat.not_lt_zero _)⟩, fun i r hr => absurd hr (by show ¬ ([] : List (Nat → Int32))[i]? = some r; simp)⟩, ⟨z357, fun r hr => absurd hr (by show ¬ none = some r; simp)⟩, ⟨z369, fun i q hi => absurd hi (by show ¬ ([] : List n3T)[i]? = some q; simp)⟩, ⟨z373, fun i q hi => absurd hi (by show ¬ ([] : List n3T)[i]? = some q; simp)⟩, fun j hj => ?_, ?_⟩
  · rw [r5]; exact congrArg some (by omega)
  · rw [io _ _ (by omega) (by omega) (by omega) (by omega) (by omega) (by omega)]; exact hq.1
  · rw [io _ _ (by omega) (by omega) (by omega) (by omega) (by omega) (by omega)]; exact hq.2.1
  · rw [io _ _ (by omega) (by omega) (by omega) (by omega) (by omega) (by omega)]; exact cs.1 j hj
  · rw [io _ _ (by omega) (by omega) (by omega) (by omega) (by omega) (by omega)]; exact cs.2.1 j hj
  · rw [io _ _ (by omega) (by omega) (by omega) (by omega) (by omega) (by omega)]; exact cs.2.2 j hj
  · rw [io 75 1 (by omega) (by omega) (by omega) (by omega) (by omega) (by omega)]; exact hp1
  · rw [io 377 j (by omega) (by omega) (by omega) (by omega) (by omega) (by omega)]; exact c11 j hj
  · rw [io 16 14 (by omega) (by omega) (by omega) (by omega) (by omega) (by omega)]; exact c12
set_option maxHeartbeats 2000000 in
set_option maxRecDepth 20000 in
theorem k_bst {E : sxE} {A : AS} {w : hpW} {t : Nat} {x : srT} {Q : Option Value → hpW → Prop} (VA : AV A) (H : CR A w) (ht : a2_ t) (h4 : hp_r w 16 4 = some t) (h5 : hp_r w 16 5 = some (108 - t)) (hq : sQ9 (108 - t) x w) (hx : sok x) (h : ∀ w', CR (pt_N A x.2.1 x.2.2.1 x.2.2.2) w' → fR w w' → Q (some (.int (nI x.2.1))) w') : sx_C E mX11_beginStreet 4 0 0 [.ref 16] w Q := by
  have hB := H.1
  have t2 := ht
  unfold a2_ at t2
  have hA : ly_B (hp_sr (hp_sr w 16 5 (some t)) 16 4 (some (108 - t))) := ly_sr (ly_sr hB rfl) rfl
  have hBB : ly_B (hp_si (hp_sr (hp_sr w 16 5 (some t)) 16 4 (some (108 - t))) 17 1 0) := hA
  have r4b : hp_r (hp_si (hp_sr (hp_sr w 16 5 (some t)) 16 4 (some (108 - t))) 17 1 0) 16 4 = some (108 - t) := by
    show hp_u (hp_u (hp_r w) 16 5 (some t)) 16 4 (some (108 - t)) 16 4 = _
    rw [hp_u_at]
  have cs := hq.2.2
  have hs57 := ss_57 hBB
  have hst := a2_St hBB (a2_sp ht)
  have cs1 : ∀ j, j < 4 → hp_i (hp_si (hp_sr (hp_sr w 16 5 (some t)) 16 4 (some (108 - t))) 17 1 0) ((108 - t) + 1) j = x.2.2.2 j := fun j hj => (si_p (by omega)).trans (cs.1 j hj)
  have cs2 : ∀ j, j < 4 * x.2.1 → hp_i (hp_si (hp_sr (hp_sr w 16 5 (some t)) 16 4 (some (108 - t))) 17 1 0) ((108 - t) + 1) (4 + j) = x.2.2.2 (4 + j) := fun j hj => (si_p (by omega)).trans (cs.2.1 j hj)
  refine C_of (by decide +kernel) (Nat.le_of_ble_eq_true rfl) ?_
  refine V_aload_n (i := 0) (sx_di dX11_beginStreet 0 rfl) rfl rfl ?_
  refine V_getR (sx_di dX11_beginStreet 1 rfl) fX11_52 (fun _ => rfl) (by first | exact hB.k _ rfl | exact hA.k _ rfl | exact hBB.k _ rfl) (h5) ?_
  refine V_astore_n (i := 1) (sx_di dX11_beginStreet 2 rfl) rfl (by decide) (rfl) ?_
  refine V_aload_n (i := 0) (sx_di dX11_beginStreet 3 rfl) rfl rfl ?_
  refine V_aload_n (i := 0) (sx_di dX11_beginStreet 4 rfl) rfl rfl ?_
  refine V_getR (sx_di dX11_beginStreet 5 rfl) fX11_48 (fun _ => rfl) (by first | exact hB.k _ rfl | exact hA.k _ rfl | exact hBB.k _ rfl) (h4) ?_
  refine V_putR (sx_di dX11_beginStreet 6 rfl) fX11_52 (fun _ => rfl) rfl (by first | exact hB.k _ rfl | exact hA.k _ rfl | exact hBB.k _ rfl) (fun _ => rfl) (fun _ => rfl) ?_
  refine V_aload_n (i := 0) (sx_di dX11_beginStreet 7 rfl) rfl rfl ?_
  refine V_aload_n (i := 1) (sx_di dX11_beginStreet 8 rfl) rfl rfl ?_
  refine V_putR (sx_di dX11_beginStreet 9 rfl) fX11_48 (fun _ => rfl) rfl (by first | exact hB.k _ rfl | exact hA.k _ rfl | exact hBB.k _ rfl) (fun _ => rfl) (fun _ => rfl) ?_
  refine V_aload_n (i := 0) (sx_di dX11_beginStreet 10 rfl) rfl rfl ?_
  refine V_getR (sx_di dX11_beginStreet 11 rfl) fX11_12 (fun _ => rfl) (by first | exact hB.k _ rfl | exact hA.k _ rfl | exact hBB.k _ rfl) (by first | exact hB.r _ _ rfl | exact hA.r _ _ rfl | exact hBB.r _ _ rfl) ?_
  refine V_iconst (v := 0) (sx_di dX11_beginStreet 12 rfl) (by decide) ?_
  refine V_putI (sx_di dX11_beginStreet 13 rfl) fX11_115 (fun _ => rfl) rfl (by first | exact hB.k _ rfl | exact hA.k _ rfl | exact hBB.k _ rfl) (rfl) (rfl) ?_
  refine V_aload_n (i := 0) (sx_di dX11_beginStreet 14 rfl) rfl rfl ?_
  refine V_getR (sx_di dX11_beginStreet 15 rfl) fX11_60 (fun _ => rfl) (by first | exact hB.k _ rfl | exact hA.k _ rfl | exact hBB.k _ rfl) (by first | exact hB.r _ _ rfl | exact hA.r _ _ rfl | exact hBB.r _ _ rfl) ?_
  refine V_aload_n (i := 0) (sx_di dX11_beginStreet 16 rfl) rfl rfl ?_
  refine V_getR (sx_di dX11_beginStreet 17 rfl) fX11_48 (fun _ => rfl) (by first | exact hB.k _ rfl | exact hA.k _ rfl | exact hBB.k _ rfl) (r4b) ?_
  refine V_cV1 (mc' := 0) (ms' := 0) (M' := mX7_begin) 3 (sx_di dX11_beginStreet 18 rfl) lX11_140 vX7_begin (by first | exact hB.k _ rfl | exact hA.k _ rfl | exact hBB.k _ rfl) (by decide) rfl (Nat.le_of_ble_eq_true rfl) ⟨Nat.le_of_ble_eq_true rfl, Nat.le_of_ble_eq_true rfl⟩ ⟨Nat.le_refl _, Nat.le_refl _⟩ ?_
  refine e_begin (a := 57) (t := (108 - t)) (n := x.2.1) (s := x.2.2.2) hs57 hst (by decide) (a2_sp ht) hx.1 cs1 cs2 (fun J hJ1 hJ2 hJ3 hJ4 => ?_)
  have hC : ly_B (bgw_ (hp_si (hp_sr (hp_sr w 16 5 (some t)) 16 4 (some (108 - t))) 17 1 0) 57 (108 - t) J) := ly_wi (ly_sr hBB rfl) J
  have i17 : hp_i (bgw_ (hp_si (hp_sr (hp_sr w 16 5 (some t)) 16 4 (some (108 - t))) 17 1 0) 57 (108 - t) J) 17 1 = nI 0 := by
    show J 17 1 = _
    rw [hJ1 17 (by omega), hp_i_si, if_pos ⟨rfl, rfl⟩]
    rfl
  have io : ∀ b j, b < 57 ∨ 63 < b → ¬ (b = 17 ∧ j = 1) → hp_i (bgw_ (hp_si (hp_sr (hp_sr w 16 5 (some t)) 16 4 (some (108 - t))) 17 1 0) 57 (108 - t) J) b j = hp_i w b j := fun b j z z1 => by
    show J b j = _
    rw [hJ1 b z]
    exact si_p z1
  have v57 : vw_ x.2.1 (hp_i (bgw_ (hp_si (hp_sr (hp_sr w 16 5 (some t)) 16 4 (some (108 - t))) 17 1 0) 57 (108 - t) J)) 57 (bg_ x.2.2.2 x.2.1 (up_ (a_r A) 45 0)) := hJ2 _
  have m57 : tm_ x.2.1 (hp_i (bgw_ (hp_si (hp_sr (hp_sr w 16 5 (some t)) 16 4 (some (108 - t))) 17 1 0) 57 (108 - t) J)) 57 (z_m x.2.2.2) := hJ3
  have h12 : hp_i (bgw_ (hp_si (hp_sr (hp_sr w 16 5 (some t)) 16 4 (some (108 - t))) 17 1 0) 57 (108 - t) J) 57 12 = nI 0 := hJ4
  have er : ∀ b j, ¬ (b = 16 ∧ j = 5) → ¬ (b = 16 ∧ j = 4) → ¬ (b = 57 ∧ j = 0) → hp_r (bgw_ (hp_si (hp_sr (hp_sr w 16 5 (some t)) 16 4 (some (108 - t))) 17 1 0) 57 (108 - t) J) b j = hp_r w b j := fun b j z1 z2 z3 => by
    show hp_u (hp_u (hp_u (hp_r w) 16 5 (some t)) 16 4 (some (108 - t))) 57 0 (some (108 - t)) b j = _
    rw [hp_u_nk _ _ z3, hp_u_nk _ _ z2, hp_u_nk _ _ z1]
  have q4 : hp_r (bgw_ (hp_si (hp_sr (hp_sr w 16 5 (some t)) 16 4 (some (108 - t))) 17 1 0) 57 (108 - t) J) 16 4 = some (108 - t) := by
    show hp_u (hp_u (hp_u (hp_r w) 16 5 (some t)) 16 4 (some (108 - t))) 57 0 (some (108 - t)) 16 4 = _
    rw [hp_u_nk _ _ (by omega), hp_u_at]
  have q5 : hp_r (bgw_ (hp_si (hp_sr (hp_sr w 16 5 (some t)) 16 4 (some (108 - t))) 17 1 0) 57 (108 - t) J) 16 5 = some t := by
    show hp_u (hp_u (hp_u (hp_r w) 16 5 (some t)) 16 4 (some (108 - t))) 57 0 (some (108 - t)) 16 5 = _
    rw [hp_u_nk _ _ (by omega), hp_u_nk _ _ (by omega), hp_u_at]
  have q57 : hp_r (bgw_ (hp_si (hp_sr (hp_sr w 16 5 (some t)) 16 4 (some (108 - t))) 17 1 0) 57 (108 - t) J) 57 0 = some (108 - t) := by
    show hp_u (hp_u (hp_u (hp_r w) 16 5 (some t)) 16 4 (some (108 - t))) 57 0 (some (108 - t)) 57 0 = _
    rw [hp_u_at]
  have qn : hp_n (bgw_ (hp_si (hp_sr (hp_sr w 16 5 (some t)) 16 4 (some (108 - t))) 17 1 0) 57 (108 - t) J) = hp_n w ∧ hp_k (bgw_ (hp_si (hp_sr (hp_sr w 16 5 (some t)) 16 4 (some (108 - t))) 17 1 0) 57 (108 - t) J) = hp_k w ∧ hp_j (bgw_ (hp_si (hp_sr (hp_sr w 16 5 (some t)) 16 4 (some (108 - t))) 17 1 0) 57 (108 - t) J) = hp_j w := ⟨rfl, rfl, rfl⟩
  generalize bgw_ (hp_si (hp_sr (hp_sr w 16 5 (some t)) 16 4 (some (108 - t))) 17 1 0) 57 (108 - t) J = v at hC i17 io v57 m57 h12 er q4 q5 q57 qn ⊢
  refine V_aload_n (i := 0) (sx_di dX11_beginStreet 19 rfl) rfl rfl ?_
  refine V_getR (sx_di dX11_beginStreet 20 rfl) fX11_77 (fun _ => rfl) (hC.k _ rfl) (hC.r _ _ rfl) ?_
  refine V_cV0 (mc' := 0) (ms' := 0) (M' := mX6_forget) 1 (sx_di dX11_beginStreet 21 rfl) lX11_143 vX6_forget (hC.k _ rfl) (by decide) rfl (Nat.le_of_ble_eq_true rfl) ⟨Nat.le_of_ble_eq_true rfl, Nat.le_of_ble_eq_true rfl⟩ ⟨Nat.le_refl _, Nat.le_refl _⟩ ?_
  refine c_X6_forget hC ?_
  refine V_aload_n (i := 0) (sx_di dX11_beginStreet 22 rfl) rfl rfl ?_
  refine V_getR (sx_di dX11_beginStreet 23 rfl) fX11_84 (fun _ => rfl) (hC.k _ rfl) (hC.r _ _ rfl) ?_
  refine V_iconst (v := 0) (sx_di dX11_beginStreet 24 rfl) (by decide) ?_
  refine V_putI (sx_di dX11_beginStreet 25 rfl) fX11_146 (fun _ => rfl) rfl (hC.k _ rfl) (rfl) (rfl) ?_
  refine V_aload_n (i := 0) (sx_di dX11_beginStreet 26 rfl) rfl rfl ?_
  refine V_getR (sx_di dX11_beginStreet 27 rfl) fX11_91 (fun _ => rfl) (hC.k _ rfl) (hC.r _ _ rfl) ?_
  refine V_iconst (v := 0) (sx_di dX11_beginStreet 28 rfl) (by decide) ?_
  refine V_putI (sx_di dX11_beginStreet 29 rfl) fX11_150 (fun _ => rfl) rfl (hC.k _ rfl) (rfl) (rfl) ?_
  refine V_aload_n (i := 0) (sx_di dX11_beginStreet 30 rfl) rfl rfl ?_
  refine V_getR (sx_di dX11_beginStreet 31 rfl) fX11_95 (fun _ => rfl) (hC.k _ rfl) (hC.r _ _ rfl) ?_
  refine V_iconst (v := 0) (sx_di dX11_beginStreet 32 rfl) (by decide) ?_
  refine V_putI (sx_di dX11_beginStreet 33 rfl) fX11_150 (fun _ => rfl) rfl (hC.k _ rfl) (rfl) (rfl) ?_
  refine V_aload_n (i := 0) (sx_di dX11_beginStreet 34 rfl) rfl rfl ?_
  refine V_getR (sx_di dX11_beginStreet 35 rfl) fX11_48 (fun _ => rfl) (hC.k _ rfl) (q4) ?_
  refine V_getI (sx_di dX11_beginStreet 36 rfl) fX11_151 (fun _ => rfl) ((a2_St (w := hp_si (hp_si (hp_si (hp_si v 75 2 0) 357 2 0) 369 3 0) 373 3 0) hC (a2_sp ht)).1) ?_
  refine V_iv (y := nI x.2.1) (by rw [si_p (by omega), si_p (by omega), si_p (by omega), si_p (by omega)]; exact (io _ _ (by omega) (by omega)).trans hq.1) ?_
  refine V_iret (sx_di dX11_beginStreet 37 rfl) rfl (Nat.le_refl _) (Nat.le_refl _) ?_
  have eD : ∀ b j, ¬ (b = 75 ∧ j = 2) → ¬ (b = 357 ∧ j = 2) → ¬ (b = 369 ∧ j = 3) → ¬ (b = 373 ∧ j = 3) → hp_i (hp_si (hp_si (hp_si (hp_si v 75 2 0) 357 2 0) 369 3 0) 373 3 0) b j = hp_i v b j := fun b j z2 z3 z4 z5 => by rw [si_p z5, si_p z4, si_p z3, si_p z2]
  refine h (hp_si (hp_si (hp_si (hp_si v 75 2 0) 357 2 0) 369 3 0) 373 3 0) (CR_new VA H ht hq hx hC ?_ (fun b j z z1 z2 z3 z4 z5 => (eD b j z2 z3 z4 z5).trans (io b j z z1)) ?_ ?_ ?_ q4 q5 q57 ?_ ?_ ?_ ?_) ⟨qn.1, fun b hb => ⟨?_, ?_, ?_⟩, fun b => ?_⟩
  · rw [eD _ _ (by omega) (by omega) (by omega) (by omega)]; exact i17
  · exact vw_mv v57 (fun b b1 b2 => by funext j; exact eD b j (by omega) (by omega) (by omega) (by omega))
  · exact tm_mv (by funext j; exact eD 58 j (by omega) (by omega) (by omega) (by omega)) m57
  · rw [eD _ _ (by omega) (by omega) (by omega) (by omega)]; exact h12
  · rw [si_p (by omega), si_p (by omega), si_p (by omega), hp_i_si, if_pos ⟨rfl, rfl⟩]; rfl
  · rw [si_p (by omega), si_p (by omega), hp_i_si, if_pos ⟨rfl, rfl⟩]
  · rw [si_p (by omega), hp_i_si, if_pos ⟨rfl, rfl⟩]; rfl
  · rw [hp_i_si, if_pos ⟨rfl, rfl⟩]; rfl
  · funext j; rw [eD b j (by omega) (by omega) (by omega) (by omega)]; exact io b j (by omega) (by omega)
  · funext j; exact er b j (by omega) (by omega) (by omega)
  · exact congrFun qn.2.2 b
  · exact congrFun qn.2.1 b
set_option maxHeartbeats 2000000 in
set_option maxRecDepth 20000 in
theorem oC_text {E : sxE} {A : AS} {w : hpW} (hX : XO E) (VA : AV A) (H : CR A w) (x : Int32) : oC E mX11_text 41 [.ref 16, .int x] w A (q_text A x).1 (q_text A x).2 := by
  intro Q h
  have hB := H.1
  have hT := H.2.1
  have hW := VA.2.1.1
  obtain ⟨t, ht, h4, h5⟩ := CR_t9 H
  have hn := H.2.2.1.1
  unfold q_text at h
  refine C_of (by decide +kernel) (Nat.le_of_ble_eq_true rfl) ?_
  refine V_iload_n (i := 1) (sx_di dX11_text 0 rfl) rfl rfl ?_
  refine V_if_ne (tgt := 28) (sx_di dX11_text 1 rfl) (by decide) (fun h1 => ?_) (fun h1 => ?_)
  · rw [if_neg h1] at h
    refine V_iload_n (i := 1) (sx_di dX11_text 14 rfl) rfl rfl ?_
    refine V_iconst (v := 1) (sx_di dX11_text 15 rfl) (by decide) ?_
    refine V_icmp_ne (tgt := 62) (sx_di dX11_text 16 rfl) (by decide) (fun h30 => ?_) (fun h30 => ?_)
    · refine V_iconst (v := -1) (sx_di dX11_text 30 rfl) (by decide) ?_
      refine V_iret (sx_di dX11_text 31 rfl) rfl (Nat.le_refl _) (Nat.le_refl _) ?_
      rw [if_neg (fun z => h30 z.1)] at h
      exact h w H fR_rf
    · refine V_aload_n (i := 0) (sx_di dX11_text 17 rfl) rfl rfl ?_
      refine V_getR (sx_di dX11_text 18 rfl) fX11_28 (fun _ => rfl) (by first | exact hB.k _ rfl | exact B1.k _ rfl | exact B2.k _ rfl) (by first | exact hB.r _ _ rfl | exact B1.r _ _ rfl | exact B2.r _ _ rfl | exact h5) ?_
      refine V_getI (sx_di dX11_text 19 rfl) fX11_134 (fun _ => rfl) (by first | exact hB.k _ rfl | exact B1.k _ rfl | exact B2.k _ rfl) ?_
      refine V_iv (y := nI (a_W A).length) (hn) ?_
      refine V_iconst (v := 4) (sx_di dX11_text 20 rfl) (by decide) ?_
      refine V_icN_ge (a := (a_W A).length) (b := 4) (rfl) (rfl) (by omega) (by omega) (tgt := 62) (sx_di dX11_text 21 rfl) (by decide) (fun h41 => ?_) (fun h41 => ?_)
      · refine V_iconst (v := -1) (sx_di dX11_text 30 rfl) (by decide) ?_
        refine V_iret (sx_di dX11_text 31 rfl) rfl (Nat.le_refl _) (Nat.le_refl _) ?_
        rw [if_neg (fun z => by have := z.2.1; omega)] at h
        exact h w H fR_rf
      · have c41 : (a_W A).length < 4 := by omega
        refine V_aload_n (i := 0) (sx_di dX11_text 22 rfl) rfl rfl ?_
        refine V_getR (sx_di dX11_text 23 rfl) fX11_41 (fun _ => rfl) (by first | exact hB.k _ rfl | exact B1.k _ rfl | exact B2.k _ rfl) (by first | exact hB.r _ _ rfl | exact B1.r _ _ rfl | exact B2.r _ _ rfl | exact h5) ?_
        refine V_aload_n (i := 0) (sx_di dX11_text 24 rfl) rfl rfl ?_
        refine V_getR (sx_di dX11_text 25 rfl) fX11_28 (fun _ => rfl) (by first | exact hB.k _ rfl | exact B1.k _ rfl | exact B2.k _ rfl) (by first | exact hB.r _ _ rfl | exact B1.r _ _ rfl | exact B2.r _ _ rfl | exact h5) ?_
        refine V_cV0 (mc' := 0) (ms' := 0) (M' := mX2_next) 1 (sx_di dX11_text 26 rfl) lX11_34 vX2_next (by first | exact hB.k _ rfl | exact B1.k _ rfl | exact B2.k _ rfl) (by decide) rfl (Nat.le_of_ble_eq_true rfl) ⟨by show 1 + 1 ≤ 41; omega, by show 64 + 64 * (1) ≤ 64 * (41); omega⟩ ⟨Nat.le_refl _, Nat.le_refl _⟩ ?_
        refine c_X2_next hB hn hW ?_
        refine V_cV1 (mc' := 0) (ms' := 0) (M' := mX3_read) 40 (sx_di dX11_text 27 rfl) lX11_127 vX3_read (by first | exact hB.k _ rfl | exact B1.k _ rfl | exact B2.k _ rfl) (by decide) rfl (Nat.le_of_ble_eq_true rfl) ⟨by show 40 + 1 ≤ 41; omega, by show 64 + 64 * (40) ≤ 64 * (41); omega⟩ ⟨Nat.le_refl _, Nat.le_refl _⟩ ?_
        refine c_rdLaw hX (show (a_W A).length < 5 by omega) hB hT (fun w1 B1 t1 f1 s1 => ?_)
        have H1 := fK_CR H VA B1 t1 f1
        refine V_iconst (v := -1) (sx_di dX11_text 28 rfl) (by decide) ?_
        refine V_icmp_eq (tgt := 64) (sx_di dX11_text 29 rfl) (by decide) (fun h59 => ?_) (fun h59 => ?_)
        · have y9 := lres_y VA.1 h59
          rw [if_pos ⟨h30, c41, y9⟩] at h
          refine V_aload_n (i := 0) (sx_di dX11_text 32 rfl) rfl rfl ?_
          refine V_getR (sx_di dX11_text 33 rfl) fX11_12 (fun _ => rfl) (by first | exact hB.k _ rfl | exact B1.k _ rfl | exact B2.k _ rfl) (by first | exact hB.r _ _ rfl | exact B1.r _ _ rfl | exact B2.r _ _ rfl | exact h5) ?_
          refine V_iconst (v := 0) (sx_di dX11_text 34 rfl) (by decide) ?_
          refine V_putI (sx_di dX11_text 35 rfl) fX11_115 (fun _ => rfl) rfl (by first | exact hB.k _ rfl | exact B1.k _ rfl | exact B2.k _ rfl) (rfl) (rfl) ?_
          refine V_aload_n (i := 0) (sx_di dX11_text 36 rfl) rfl rfl ?_
          refine V_getR (sx_di dX11_text 37 rfl) fX11_28 (fun _ => rfl) (by first | exact hB.k _ rfl | exact B1.k _ rfl | exact B2.k _ rfl) (by first | exact hB.r _ _ rfl | exact B1.r _ _ rfl | exact B2.r _ _ rfl | exact h5) ?_
          refine V_cV0 (mc' := 0) (ms' := 0) (M' := mX2_take) 1 (sx_di dX11_text 38 rfl) lX11_137 vX2_take (by first | exact hB.k _ rfl | exact B1.k _ rfl | exact B2.k _ rfl) (by decide) rfl (Nat.le_of_ble_eq_true rfl) ⟨by show 1 + 1 ≤ 41; omega, by show 64 + 64 * (1) ≤ 64 * (41); omega⟩ ⟨Nat.le_refl _, Nat.le_refl _⟩ ?_
          have B2 : ly_B (hp_si w1 17 1 0) := B1
          refine c_X2_take B2 (n := (a_W A).length) ((si_p (by omega)).trans H1.2.2.1.1) c41 ?_
          refine V_iret (sx_di dX11_text 39 rfl) rfl (Nat.le_refl _) (Nat.le_refl _) ?_
          have e9 : ∀ b j, ¬ (b = 20 ∧ j = 1) → ¬ (b = 17 ∧ j = 1) → hp_i (hp_si (hp_si w1 17 1 0) 20 1 (nI ((a_W A).length + 1))) b j = hp_i w1 b j := fun b j z1 z2 => by rw [si_p z1, si_p z2]
          have er : ∀ b, b ≠ 20 → b ≠ 17 → hp_i (hp_si (hp_si w1 17 1 0) 20 1 (nI ((a_W A).length + 1))) b = hp_i w1 b := fun b z1 z2 => by funext j; exact e9 b j (fun z => z1 z.1) (fun z => z2 z.1)
          obtain ⟨-, c1, c2, t0, g0, c3, c4, c5, c6, ⟨c7, c8⟩, ⟨c9, c10⟩, c11, c12⟩ := id H1
          have t3 := c3.2.2.1
          refine h _ ⟨B2, ⟨Nat.zero_le _, ?_, fun k hk => absurd hk (Nat.not_lt_zero k)⟩, ⟨?_, ?_, fun k V hV => ?_⟩, t0, g0, Cstr_mv (w := w1) rfl (fun b b1 b2 => er b (by omega) (by omega)) c3, Cnow_mv (w := w1) rfl (fun b b1 b2 => er b (by omega) (by omega)) (fun b b1 b2 => er b (by omega) (by omega)) c4, Cpast_mv (w := w1) (fun b b1 b2 => rfl) (fun b b1 b2 => er b (by omega) (by omega)) c5, Cimg_mv (w := w1) rfl (fun b b1 b2 => er b (by omega) (by omega)) c6, ⟨by rw [er 369 (by omega) (by omega)]; exact c7, nts_mv (er 370 (by omega) (by omega)) (er 371 (by omega) (by omega)) (er 372 (by omega) (by omega)) c8⟩, ⟨by rw [er 373 (by omega) (by omega)]; exact c9, nts_mv (er 374 (by omega) (by omega)) (er 375 (by omega) (by omega)) (er 376 (by omega) (by omega)) c10⟩, fun j hj => by rw [er 377 (by omega) (by omega)]; exact c11 j hj, by rw [er 16 (by omega) (by omega)]; exact c12⟩ (fR_tr (fK_fR hW f1) ⟨rfl, fun b hb => ⟨er b (by omega) (by omega), rfl, rfl⟩, fun b => rfl⟩)
          · rw [si_p (by omega), hp_i_si, if_pos ⟨rfl, rfl⟩]; rfl
          · rw [hp_i_si, if_pos ⟨rfl, rfl⟩]
            show _ = nI (a_W A ++ [(law9 (a_T A)).2.1]).length
            rw [List.length_append, List.length_singleton]
          · rw [e9 20 2 (by omega) (by omega)]; exact c2.2.1
          · have hk9 := (List.getElem?_eq_some_iff.mp hV).1
            have hk8 : k < (a_W A).length + 1 := by
              have q : k < (a_W A ++ [(law9 (a_T A)).2.1]).length := hk9
              rw [List.length_append, List.length_singleton] at q
              exact q
            have hV2 : (a_W A ++ [(law9 (a_T A)).2.1])[k]? = some V := hV
            refine cl_mv (fun j hj => er _ (by omega) (by omega)) ?_
            rcases Nat.lt_or_ge k (a_W A).length with q | q
            · rw [List.getElem?_append_left q] at hV2
              exact c2.2.2 k V hV2
            · have e : k = (a_W A).length := by omega
              subst e
              rw [List.getElem?_append_right (Nat.le_refl _), Nat.sub_self] at hV2
              have e2 : (law9 (a_T A)).2.1 = V := Option.some.inj hV2
              rw [← e2]
              exact s1 y9
        · rw [if_neg (fun z => lres_n h59 z.2.2)] at h
          refine V_iconst (v := -1) (sx_di dX11_text 30 rfl) (by decide) ?_
          refine V_iret (sx_di dX11_text 31 rfl) rfl (Nat.le_refl _) (Nat.le_refl _) ?_
          exact h w1 H1 (fK_fR hW f1)
  · rw [if_pos h1] at h
    refine V_aload_n (i := 0) (sx_di dX11_text 2 rfl) rfl rfl ?_
    refine V_getR (sx_di dX11_text 3 rfl) fX11_21 (fun _ => rfl) (by first | exact hB.k _ rfl | exact B1.k _ rfl | exact B2.k _ rfl) (by first | exact hB.r _ _ rfl | exact B1.r _ _ rfl | exact B2.r _ _ rfl | exact h5) ?_
    refine V_aload_n (i := 0) (sx_di dX11_text 4 rfl) rfl rfl ?_
    refine V_getR (sx_di dX11_text 5 rfl) fX11_52 (fun _ => rfl) (by first | exact hB.k _ rfl | exact B1.k _ rfl | exact B2.k _ rfl) (by first | exact hB.r _ _ rfl | exact B1.r _ _ rfl | exact B2.r _ _ rfl | exact h5) ?_
    refine V_cV1 (mc' := 0) (ms' := 0) (M' := mX9_read) 10 (sx_di dX11_text 6 rfl) lX11_123 vX9_read (by first | exact hB.k _ rfl | exact B1.k _ rfl | exact B2.k _ rfl) (by decide) rfl (Nat.le_of_ble_eq_true rfl) ⟨by show 10 + 1 ≤ 41; omega, by show 64 + 64 * (10) ≤ 64 * (41); omega⟩ ⟨Nat.le_refl _, Nat.le_refl _⟩ ?_
    refine c_rdStreet hX (a2_sp ht) hB hT (fun w1 B1 t1 f1 s1 => ?_)
    have H1 := fS_CR H ht h4 B1 t1 f1 VA
    refine V_iconst (v := -1) (sx_di dX11_text 7 rfl) (by decide) ?_
    refine V_icmp_ne (tgt := 26) (sx_di dX11_text 8 rfl) (by decide) (fun h16 => ?_) (fun h16 => ?_)
    · rw [if_neg (sres_n h16)] at h
      refine V_iconst (v := -1) (sx_di dX11_text 12 rfl) (by decide) ?_
      refine V_iret (sx_di dX11_text 13 rfl) rfl (Nat.le_refl _) (Nat.le_refl _) ?_
      exact h w1 H1 (fS_fR (a2_sp ht) f1)
    · refine V_aload_n (i := 0) (sx_di dX11_text 9 rfl) rfl rfl ?_
      refine V_cV0 (mc' := 0) (ms' := 0) (M' := mX11_beginStreet) 4 (sx_di dX11_text 10 rfl) lX11_130 vX11_beginStreet (by first | exact hB.k _ rfl | exact B1.k _ rfl | exact B2.k _ rfl) (by decide) rfl (Nat.le_of_ble_eq_true rfl) ⟨by show 4 + 1 ≤ 41; omega, by show 64 + 64 * (4) ≤ 64 * (41); omega⟩ ⟨Nat.le_refl _, Nat.le_refl _⟩ ?_
      have y9 := sres_y VA.1 h16
      rw [if_pos y9] at h
      obtain ⟨sk, sw⟩ := (stF_ok (T := a_T A) ((a_T A).length + 1) sr0 0 sr0_ok (Nat.zero_le _)).2 y9
      refine k_bst VA H1 ht (by rw [f1.1]; exact h4) (by rw [f1.1]; exact h5) (s1 y9) sk (fun w2 H2 f2 => ?_)
      refine V_goto (tgt := 27) (sx_di dX11_text 11 rfl) (by decide) ?_
      refine V_iret (sx_di dX11_text 13 rfl) rfl (Nat.le_refl _) (Nat.le_refl _) ?_
      exact h w2 H2 (fR_tr (fS_fR (a2_sp ht) f1) f2)

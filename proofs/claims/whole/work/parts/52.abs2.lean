/-! from what both sides hold to what the contracts ask -/
theorem z_s_n (s : Nat → Int32) {f : Nat} (h : f < 2 ^ 31) : z_s s (nI f) = s (36 + 2 * f) := by unfold z_s; rw [nI_clamp h]
theorem z_f_n (s : Nat → Int32) {f : Nat} (h : f < 2 ^ 31) : z_f s (nI f) = s (36 + 2 * f + 1) := by unfold z_f; rw [nI_clamp h]
theorem z_F_0 (W : List lwT) : z_F W (-1) = wf0 := by unfold z_F; rw [if_pos rfl]
theorem z_F_k {W : List lwT} {k : Nat} {V : lwT} (h : W[k]? = some V) (hk : k < 2 ^ 31) : z_F W (nI k) = wfL V := by
  unfold z_F
  rw [if_neg (nI_m1 hk), nI_clamp hk, List.getD_eq_getElem?_getD, h]
  rfl
def F_ (A : AS) : wF := z_F (a_W A) (a_h A)
theorem RQ_of {A : AS} {w : hpW} (V : AV A) (H : RR A w) : RQ w (a_n A) (a_m A) (F_ A) (z_s (a_s A)) (z_f (a_s A)) (a_s A 0) (z_m (a_s A)) (a_r A) := by
  obtain ⟨_, ⟨vW, vW2, vh⟩, ⟨vn, vm, vt, vz⟩, ⟨vr, _⟩, _⟩ := V
  obtain ⟨hB, _, ⟨l1, l2, l3⟩, ⟨s1, s2, s3, s4, s5⟩, hr, _⟩ := H
  refine ⟨hB, ⟨s1, vn, s2, vm, fun f hf => ?_, s3 0 (by omega), fun h0 => (vt h0).2.1, fun h hh => ?_⟩, ?_, vr.1, hr⟩
  · have h0 : 0 < a_n A := by
      rcases Nat.eq_zero_or_pos (a_n A) with z | z
      · have := vz z; omega
      · exact z
    obtain ⟨⟨k, k1, k2⟩, g, g1, g2⟩ := (vt h0).2.2.2.2.2.2 f hf
    rw [z_s_n _ (by omega), z_f_n _ (by omega), s5 (2 * f) (by omega), s5 (2 * f + 1) (by omega)]
    refine ⟨rfl, rfl, ⟨g, g1, g2⟩, ?_⟩
    rw [k2]; exact bn_k k1
  · obtain ⟨k, k1, k2⟩ := (vt (by omega)).2.2.2.2.2.1 h 0 hh (by omega)
    exact ⟨by rw [s4 (4 * h) (by omega)]; rfl, k, k1, k2⟩
  · unfold F_
    rcases vh with e | ⟨k, hk, e⟩
    · exact Or.inl ⟨l2.trans e, by rw [e]; exact z_F_0 _⟩
    · have hV : (a_W A)[k]? = some (a_W A)[k] := List.getElem?_eq_getElem hk
      exact Or.inr ⟨k, (a_W A)[k], by omega, l2.trans e, l3 k _ hV, by rw [e]; exact z_F_k hV (by omega)⟩
theorem nts_mv {I J : Nat → Nat → Int32} {x y z : Nat} {L : List n3T} (hx : J x = I x) (hy : J y = I y) (hz : J z = I z) (h : nts_ I x y z L) : nts_ J x y z L := fun i q hq => by rw [hx, hy, hz]; exact h i q hq
theorem tp_mv {w w' : hpW} {a j b : Nat} {T : List Int32} (h1 : hp_i w' a j = hp_i w a j) (h2 : hp_i w' b = hp_i w b) (h : tp_ w a j b T) : tp_ w' a j b T := ⟨h.1, h1.trans h.2.1, fun k hk => by rw [h2]; exact h.2.2 k hk⟩
theorem Rlaws_mv {I J : Nat → Nat → Int32} {W : List lwT} {h : Int32} (g : ∀ b, 383 ≤ b → b ≤ 389 → J b = I b) (h1 : J 381 13 = I 381 13) (h2 : J 381 29 = I 381 29) (H : Rlaws I W h) : Rlaws J W h := ⟨h1.trans H.1, h2.trans H.2.1, fun k V hV => rl_mv g (H.2.2 k V hV)⟩
theorem Rstr_mv {I J : Nat → Nat → Int32} {n m : Nat} {s : Nat → Int32} (h1 : J 381 25 = I 381 25) (h2 : J 381 26 = I 381 26) (h5 : J 395 = I 395) (h6 : J 396 = I 396) (h7 : J 397 = I 397) (H : Rstr I n m s) : Rstr J n m s := by
  unfold Rstr
  rw [h1, h2, h5, h6, h7]
  exact H
theorem Rkept_mv {I J : Nat → Nat → Int32} {K : List (Nat → Int32)} (h1 : J 381 32 = I 381 32) (h2 : J 400 = I 400) (H : Rkept I K) : Rkept J K := by
  unfold Rkept
  rw [h1, h2]
  exact H
theorem Rimg_mv {I J : Nat → Nat → Int32} {o : Option (Nat → Int32)} (h1 : J 381 47 = I 381 47) (h2 : J 409 = I 409) (H : Rimg I o) : Rimg J o := by
  unfold Rimg
  rw [h1, h2]
  exact H
/-- the reference's cells that say what it holds are the same -/
theorem RR_mv {A : AS} {w w' : hpW} (hB : ly_B w') (g : ∀ b, 382 ≤ b → b ≤ 409 → b ≠ 390 → b ≠ 391 → b ≠ 401 → b ≠ 405 → hp_i w' b = hp_i w b) (g1 : ∀ j, j = 2 ∨ j = 13 ∨ j = 25 ∨ j = 26 ∨ j = 29 ∨ j = 30 ∨ j = 32 ∨ j = 40 ∨ j = 45 ∨ j = 47 → hp_i w' 381 j = hp_i w 381 j) (H : RR A w) : RR A w' := by
  obtain ⟨_, h1, h2, h3, h4, h5, h6, ⟨h7, h8⟩, ⟨h9, h10⟩, h11, h12⟩ := H
  have e : ∀ b, 382 ≤ b ∧ b ≤ 409 ∧ b ≠ 390 ∧ b ≠ 391 ∧ b ≠ 401 ∧ b ≠ 405 → hp_i w' b = hp_i w b := fun b z => g b z.1 z.2.1 z.2.2.1 z.2.2.2.1 z.2.2.2.2.1 z.2.2.2.2.2
  exact ⟨hB, tp_mv (g1 2 (by omega)) (e 382 (by omega)) h1, Rlaws_mv (fun b b1 b2 => e b (by omega)) (g1 13 (by omega)) (g1 29 (by omega)) h2, Rstr_mv (g1 25 (by omega)) (g1 26 (by omega)) (e 395 (by omega)) (e 396 (by omega)) (e 397 (by omega)) h3, (e 398 (by omega)).trans h4, Rkept_mv (g1 32 (by omega)) (e 400 (by omega)) h5, Rimg_mv (g1 47 (by omega)) (e 409 (by omega)) h6, ⟨(g1 40 (by omega)).trans h7, nts_mv (e 402 (by omega)) (e 403 (by omega)) (e 404 (by omega)) h8⟩, ⟨(g1 45 (by omega)).trans h9, nts_mv (e 406 (by omega)) (e 407 (by omega)) (e 408 (by omega)) h10⟩, fun j hj => by rw [e 399 (by omega)]; exact h11 j hj, (g1 30 (by omega)).trans h12⟩
/-- the class's part is the same -/
def fC (w w' : hpW) : Prop := hp_n w' = hp_n w ∧ (∀ b, b < 381 → hp_i w' b = hp_i w b ∧ hp_r w' b = hp_r w b ∧ hp_j w' b = hp_j w b) ∧ (∀ b, hp_k w' b = hp_k w b) ∧ hp_r w' 381 = hp_r w 381
theorem RR_q {A : AS} {w : hpW} {I : Nat → Nat → Int32} (f : FQ w I) (H : RR A w) : RR A (hp_wi w I) := RR_mv (ly_wi H.1 I) (fun b h1 h2 h3 h4 h5 h6 => f.1 b (by unfold rS_; omega)) (fun j hj => f.2 j (by omega) (by omega) (by omega)) H
theorem fC_q {w : hpW} {I : Nat → Nat → Int32} (f : FQ w I) : fC w (hp_wi w I) := ⟨rfl, fun b hb => ⟨f.1 b (by unfold rS_; omega), rfl, rfl⟩, fun _ => rfl, rfl⟩
theorem fC_wi {w : hpW} {I : Nat → Nat → Int32} (f : ∀ b, b < 381 → I b = hp_i w b) : fC w (hp_wi w I) := ⟨rfl, fun b hb => ⟨f b hb, rfl, rfl⟩, fun _ => rfl, rfl⟩
/-! the class's laws -/
theorem rk_fold {C L : Nat → Int32} : ∀ (T : List Int32) (k : Nat) (st : List Int32), (∀ j x, T[j]? = some x → C (k + j) = x) → k + T.length ≤ 240 → rk_ C L k T.length st = T.foldl (rs_ L) st
  | [], _, _, _, _ => rfl
  | c :: T, k, st, h, hl => by
    rw [List.length_cons] at hl ⊢
    have e : C k = c := by simpa using h 0 c (by simp)
    rw [rk_, if_pos (by omega), e, List.foldl_cons]
    exact rk_fold T (k + 1) _ (fun j x hx => by rw [Nat.add_assoc, Nat.add_comm 1 j]; exact h (j + 1) x (by simpa using hx)) (by omega)
theorem wc_lwv {I : Nat → Nat → Int32} {a : Nat} {V : lwT} {L : Nat → Int32} {sz : Nat} {cd sm : Nat → Nat} (hd : ld_ I a V.length sz cd sm) (hq : ∀ c q, V[c]? = some q → sm c = cd c + q.1.length ∧ (if c + 1 < V.length then cd (c + 1) else sz) = sm c + q.2.length ∧ (∀ j x, q.1[j]? = some x → I (a + 1) (cd c + j) = x) ∧ ∀ j x, q.2[j]? = some x → I (a + 1) (sm c + j) = x) : ∀ m c, c + m = V.length → wc_ (I (a + 1)) L V.length sz cd sm c m = lwv_ L (V.drop c)
  | 0, c, h => by rw [List.drop_eq_nil_of_le (by omega)]; rfl
  | m + 1, c, h => by
    have hc : c < V.length := by omega
    obtain ⟨e1, e2, e3, e4⟩ := hq c V[c] (List.getElem?_eq_getElem hc)
    obtain ⟨_, _, _, d4, d5⟩ := hd.2.2.2.2 c hc
    rw [List.drop_eq_getElem_cons hc]
    rw [wc_, wc_lwv hd hq m (c + 1) (by omega)]
    rw [e2] at d5 ⊢
    have a1 : rk_ (I (a + 1)) L (cd c) (sm c - cd c) [] = V[c].1.foldl (rs_ L) [] := by rw [e1, Nat.add_sub_cancel_left]; exact rk_fold _ _ _ e3 (by omega)
    have a2 : rk_ (I (a + 1)) L (sm c) (sm c + V[c].2.length - sm c) [] = V[c].2.foldl (rs_ L) [] := by rw [Nat.add_sub_cancel_left]; exact rk_fold _ _ _ e4 (by omega)
    have a3 : cd c = sm c ↔ V[c].1 = [] := by rw [e1, ← List.length_eq_zero_iff]; omega
    rw [a1, a2]
    show _ = lwv_ L ((V[c].1, V[c].2) :: V.drop (c + 1))
    rw [lwv_]
    simp only [a3]
theorem cl_wf {I : Nat → Nat → Int32} {a : Nat} {V : lwT} (h : cl_ I a V) : ∃ sz cd sm, ld_ I a V.length sz cd sm ∧ wfL V = wf1 I a V.length sz cd sm := by
  obtain ⟨sz, cd, sm, hd, hq⟩ := h
  refine ⟨sz, cd, sm, hd, ?_⟩
  funext mi sh wh ha pe s f
  show lwv_ _ V = wo_ _ _ _ _ _ _ _ _ _ _ _ _
  unfold wo_
  rw [wc_lwv hd hq V.length 0 (by omega), List.drop_zero]
theorem hd_of {A : AS} {I : Nat → Nat → Int32} (V : AV A) (H : Claws I (a_W A) (a_h A)) : hd_ I (F_ A) := by
  obtain ⟨_, ⟨vW, vW2, vh⟩, _⟩ := V
  obtain ⟨l1, l2, l3⟩ := H
  unfold hd_ F_
  rw [l1, l2]
  rcases vh with e | ⟨k, hk, e⟩
  · rw [e]
    exact ⟨fun _ => z_F_0 _, fun k hk z => absurd z.symm (nI_m1 (by omega))⟩
  · have hV : (a_W A)[k]? = some (a_W A)[k] := List.getElem?_eq_getElem hk
    rw [e]
    refine ⟨fun z => ?_, fun k2 hk2 z _ => ?_⟩
    · rcases z with z | z | z
      · exact absurd z (nI_pos (by omega))
      · exact absurd ((nI_leI (by omega) (by omega)).mp z) (by omega)
      · exact absurd ((nI_leI (a := 4) (by omega) (by omega)).mp z) (by omega)
    · have ek : k = k2 := (nI_eq (by omega) (by omega)).mp z
      subst ek
      obtain ⟨sz, cd, sm, hd, hw⟩ := cl_wf (l3 k _ hV)
      exact ⟨_, sz, cd, sm, hd, by rw [z_F_k hV (by omega)]; exact hw⟩
/-! sizes and followers are asked of forms that there are -/
theorem go_cg {F : wF} {sz sz2 : Int32 → Int32} {n : Nat} {s : Nat → Int32} (h : sz (s 43) = sz2 (s 43)) : go_ F sz n s = go_ F sz2 n s := by
  unfold go_ gl_
  rw [gs_cg n (fun k _ => show mv_ F sz s k = mv_ F sz2 s k by unfold mv_; rw [h])]
theorem dv_cg {F : wF} {sz fo sz2 fo2 : Int32 → Int32} {bt : Int32} {n : Nat} {m0 m1 s : Nat → Int32} (h1 : sz (s 43) = sz2 (s 43)) (h2 : fo (s 43) = fo2 (s 43)) (hn : n ≤ 8) (hm : ∀ h, h < n → m0 h = m1 h) : dv_ F sz fo bt n m0 s = dv_ F sz2 fo2 bt n m1 s := by
  have e1 : d1_ n m0 s = d1_ n m1 s := by
    funext k
    unfold d1_
    by_cases h44 : k = 44
    · rw [if_pos h44, if_pos h44]
    · rw [if_neg h44, if_neg h44]
      by_cases hk : k < n
      · rw [if_pos hk, if_pos hk, hm k hk]
      · rw [if_neg hk, if_neg hk]
  have e43 : d1_ n m1 s 43 = s 43 := by unfold d1_; rw [if_neg (by omega), if_neg (by omega)]
  unfold dv_
  rw [e1]
  have e2 : d2_ F sz fo n (d1_ n m1 s) = d2_ F sz2 fo2 n (d1_ n m1 s) := by
    unfold d2_
    rw [go_cg (sz2 := sz2) (by rw [e43]; exact h1), e43, h2]
  rw [e2]
theorem dm_ok {F : wF} {sz fo : Int32 → Int32} {bt : Int32} {n m : Nat} {m0 s : Nat → Int32} (hn : n ≤ 8) (hO : OKS n m s) (hm : ∀ h, h < n → ∃ k, k ≤ 9 ∧ m0 h = nI k) (hf : ∀ f, f < m → ∃ g, g < m ∧ fo (nI f) = nI g) : ∀ k, OKS n m (dm_ F sz fo bt n m0 s k)
  | 0 => hO
  | k + 1 => OKS_dv hn (dm_ok hn hO hm hf k) hm hf
theorem dm_cg {F : wF} {sz fo sz2 fo2 : Int32 → Int32} {bt : Int32} {n m : Nat} {m0 m1 s : Nat → Int32} (h0 : 0 < n) (hn : n ≤ 8) (hO : OKS n m s) (hm : ∀ h, h < n → ∃ k, k ≤ 9 ∧ m0 h = nI k) (hf : ∀ f, f < m → ∃ g, g < m ∧ fo (nI f) = nI g) (h1 : ∀ f, f < m → sz (nI f) = sz2 (nI f)) (h2 : ∀ f, f < m → fo (nI f) = fo2 (nI f)) (he : ∀ h, h < n → m0 h = m1 h) : ∀ k, dm_ F sz fo bt n m0 s k = dm_ F sz2 fo2 bt n m1 s k
  | 0 => rfl
  | k + 1 => by
    rw [dm_, dm_, ← dm_cg h0 hn hO hm hf h1 h2 he k]
    obtain ⟨f, f1, f2⟩ := (dm_ok (F := F) (sz := sz) (bt := bt) hn hO hm hf k).2.1 h0
    exact dv_cg (by rw [f2]; exact h1 f f1) (by rw [f2]; exact h2 f f1) hn he

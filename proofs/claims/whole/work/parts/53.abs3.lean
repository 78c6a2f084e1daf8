/-! the class: from what it holds to what its contracts ask; what stays -/
/-- the reference's part is the same -/
def fR (w w' : hpW) : Prop := hp_n w' = hp_n w ∧ (∀ b, 381 ≤ b → hp_i w' b = hp_i w b ∧ hp_r w' b = hp_r w b ∧ hp_j w' b = hp_j w b) ∧ ∀ b, hp_k w' b = hp_k w b
theorem ly_fC {w w' : hpW} (f : fC w w') (h : ly_B w) (h2 : ∀ b, 381 < b → hp_r w' b = hp_r w b) : ly_B w' := by
  refine ⟨fun a h1 h3 => (f.2.2.1 a).trans (h.1 a h1 h3), fun a j t ht => ?_⟩
  rw [← h.2 a j t ht]
  rcases Nat.lt_trichotomy a 381 with z | z | z
  · exact congrFun (f.2.1 a z).2.1 j
  · rw [z]; exact congrFun f.2.2.2 j
  · exact congrFun (h2 a z) j
/-- places in which the class reckons -/
def QT (b : Nat) : Prop := QS b ∨ b = 378 ∨ b = 379 ∨ b = 380
theorem QT_no {b : Nat} (h : b < 22 ∨ (52 ≤ b ∧ b < 64) ∨ (71 ≤ b ∧ b < 378)) : ¬ QT b := fun z => z.elim (QS_no (by omega)) (by omega)
theorem QT_lw {i j : Nat} (hi : i < 5) (hj : j < 4) : ¬ QT (22 + 6 * i + j) := fun z => z.elim (fun z => z.elim (by omega) (sc_lw hj)) (by omega)
theorem ld_mv {I J : Nat → Nat → Int32} {a n sz : Nat} {cd sm : Nat → Nat} (h0 : J a = I a) (h2 : J (a + 2) = I (a + 2)) (h3 : J (a + 3) = I (a + 3)) (h : ld_ I a n sz cd sm) : ld_ J a n sz cd sm := by
  unfold ld_
  rw [h0, h2, h3]
  exact h
theorem cl_mv {I J : Nat → Nat → Int32} {a : Nat} {V : lwT} (h : ∀ j, j < 4 → J (a + j) = I (a + j)) (H : cl_ I a V) : cl_ J a V := by
  obtain ⟨sz, cd, sm, hd, hq⟩ := H
  refine ⟨sz, cd, sm, ld_mv (h 0 (by omega)) (h 2 (by omega)) (h 3 (by omega)) hd, ?_⟩
  rw [h 1 (by omega)]
  exact hq
theorem Claws_mv {I J : Nat → Nat → Int32} {W : List lwT} {h : Int32} (hW : W.length ≤ 4) (g : ∀ i j, i < 5 → j < 4 → J (22 + 6 * i + j) = I (22 + 6 * i + j)) (h0 : J 20 = I 20) (H : Claws I W h) : Claws J W h := by
  refine ⟨by rw [h0]; exact H.1, by rw [h0]; exact H.2.1, fun k V hV => cl_mv (fun j hj => g k j ?_ hj) (H.2.2 k V hV)⟩
  have := (List.getElem?_eq_some_iff.mp hV).1
  omega
theorem Cstr_mv {w w' : hpW} {t n m : Nat} {s : Nat → Int32} (h1 : hp_r w' 16 = hp_r w 16) (h2 : ∀ b, 53 ≤ b → b ≤ 56 → hp_i w' b = hp_i w b) (H : Cstr w t n m s) : Cstr w' t n m s := by
  have ht := H.2.2.1
  unfold Cstr
  rw [h1, h2 t (by omega) (by omega), h2 (t + 1) (by omega) (by omega)]
  exact H
theorem rg_mv {I J : Nat → Nat → Int32} {L g : Nat} {r : Nat → Int32} (h1 : J (L + 1) = I (L + 1)) (h2 : J (L + 2) = I (L + 2)) (h3 : J (L + 3) = I (L + 3)) (H : rg_ I L g r) : rg_ J L g r := by
  unfold rg_
  rw [h1, h2, h3]
  exact H
theorem tm_mv {I J : Nat → Nat → Int32} {n a : Nat} {m0 : Nat → Int32} (h : J (a + 1) = I (a + 1)) (H : tm_ n I a m0) : tm_ n J a m0 := by
  unfold tm_
  rw [h]
  exact H
theorem Cst_mv {w w' : hpW} {t n : Nat} {s : Nat → Int32} {a L g : Nat} {r : Nat → Int32} (h0 : hp_r w' a 0 = hp_r w a 0) (h1 : ∀ b, a ≤ b → b ≤ a + 6 → hp_i w' b = hp_i w b) (h2 : ∀ b, L + 1 ≤ b → b ≤ L + 3 → hp_i w' b = hp_i w b) (H : Cst w t n s a L g r) : Cst w' t n s a L g r := ⟨h0.trans H.1, vw_mv H.2.1 h1, tm_mv (h1 _ (by omega) (by omega)) H.2.2.1, by rw [h1 a (by omega) (by omega)]; exact H.2.2.2.1, rg_mv (h2 _ (by omega) (by omega)) (h2 _ (by omega) (by omega)) (h2 _ (by omega) (by omega)) H.2.2.2.2⟩
theorem Cnow_mv {w w' : hpW} {t n : Nat} {s : Nat → Int32} {g : Nat} {r : Nat → Int32} (h0 : hp_r w' 57 0 = hp_r w 57 0) (h1 : ∀ b, 57 ≤ b → b ≤ 63 → hp_i w' b = hp_i w b) (h2 : ∀ b, 72 ≤ b → b ≤ 74 → hp_i w' b = hp_i w b) (H : Cnow w t n s g r) : Cnow w' t n s g r := by
  obtain ⟨a, b, c, d, e, f⟩ := H
  exact ⟨h0.trans a, by rw [h1 57 (by omega) (by omega)]; exact b, by rw [h1 57 (by omega) (by omega)]; exact c, by rw [h1 57 (by omega) (by omega)]; exact d, rg_mv (h2 _ (by omega) (by omega)) (h2 _ (by omega) (by omega)) (h2 _ (by omega) (by omega)) e, fun h => Cst_mv h0 h1 h2 (f h)⟩
theorem Cpast_mv {w w' : hpW} {t n : Nat} {s : Nat → Int32} {g : Nat} {K : List (Nat → Int32)} (h0 : ∀ b, 77 ≤ b → b ≤ 356 → hp_r w' b = hp_r w b) (h1 : ∀ b, 71 ≤ b → b ≤ 356 → hp_i w' b = hp_i w b) (H : Cpast w t n s g K) : Cpast w' t n s g K := by
  obtain ⟨p, hp, a, b, G, hG, c⟩ := H
  refine ⟨p, hp, by rw [h1 75 (by omega) (by omega)]; exact a, by rw [h1 75 (by omega) (by omega)]; exact b, G, hG, fun i r hr => ?_⟩
  have hq : (p + 39 - i) % 40 < 40 := Nat.mod_lt _ (by omega)
  exact Cst_mv (by rw [h0 _ (by omega) (by omega)]) (fun b b1 b2 => h1 b (by omega) (by omega)) (fun b b1 b2 => h1 b (by omega) (by omega)) (c i r hr)
theorem Cimg_mv {w w' : hpW} {t n : Nat} {s : Nat → Int32} {o : Option (Nat → Int32)} (h0 : hp_r w' 362 = hp_r w 362) (h1 : ∀ b, 357 ≤ b → b ≤ 368 → hp_i w' b = hp_i w b) (H : Cimg w t n s o) : Cimg w' t n s o := by
  refine ⟨by rw [h1 357 (by omega) (by omega)]; exact H.1, fun r hr => ?_⟩
  obtain ⟨g, z⟩ := H.2 r hr
  exact ⟨g, Cst_mv (by rw [h0]) (fun b b1 b2 => h1 b (by omega) (by omega)) (fun b b1 b2 => h1 b (by omega) (by omega)) z⟩
theorem CR_mv {A : AS} {w w' : hpW} (hW : (a_W A).length ≤ 4) (hB : ly_B w') (h0 : ∀ b, b ≠ 64 → b < 381 → hp_r w' b = hp_r w b) (h1 : ∀ b, b < 381 → ¬ QT b → hp_i w' b = hp_i w b) (H : CR A w) : CR A w' := by
  obtain ⟨_, c1, c2, t, g, c3, c4, c5, c6, ⟨c7, c8⟩, ⟨c9, c10⟩, c11, c12⟩ := H
  have e : ∀ b, b < 22 ∨ (52 ≤ b ∧ b < 64) ∨ (71 ≤ b ∧ b < 378) → hp_i w' b = hp_i w b := fun b hb => h1 b (by omega) (QT_no hb)
  have er : ∀ b, b ≠ 64 ∧ b < 381 → hp_r w' b = hp_r w b := fun b hb => h0 b hb.1 hb.2
  exact ⟨hB, tp_mv (by rw [e 17 (by omega)]) (e 18 (by omega)) c1, Claws_mv hW (fun i j hi hj => h1 _ (by omega) (QT_lw hi hj)) (e 20 (by omega)) c2, t, g, Cstr_mv (er 16 (by omega)) (fun b b1 b2 => e b (by omega)) c3, Cnow_mv (by rw [er 57 (by omega)]) (fun b b1 b2 => e b (by omega)) (fun b b1 b2 => e b (by omega)) c4, Cpast_mv (fun b b1 b2 => er b (by omega)) (fun b b1 b2 => e b (by omega)) c5, Cimg_mv (er 362 (by omega)) (fun b b1 b2 => e b (by omega)) c6, ⟨by rw [e 369 (by omega)]; exact c7, nts_mv (e 370 (by omega)) (e 371 (by omega)) (e 372 (by omega)) c8⟩, ⟨by rw [e 373 (by omega)]; exact c9, nts_mv (e 374 (by omega)) (e 375 (by omega)) (e 376 (by omega)) c10⟩, fun j hj => by rw [e 377 (by omega)]; exact c11 j hj, by rw [e 16 (by omega)]; exact c12⟩
theorem CR_fC {A : AS} {w w' : hpW} (V : AV A) (f : fC w w') (hB : ly_B w') (H : CR A w) : CR A w' := CR_mv V.2.1.1 hB (fun b _ hb => (f.2.1 b hb).2.1) (fun b hb _ => (f.2.1 b hb).1) H
theorem RR_fR {A : AS} {w w' : hpW} (f : fR w w') (hB : ly_B w') (H : RR A w) : RR A w' := RR_mv hB (fun b h1 _ _ _ _ _ => (f.2.1 b (by omega)).1) (fun j _ => by rw [(f.2.1 381 (by omega)).1]) H
/-- after a question of the class -/
theorem CR_q {A : AS} {w : hpW} {J : Nat → Nat → Int32} (V : AV A) (t : Nat) (f : fr_ w J QT) (H : CR A w) : CR A (hp_wr w (ra_ w t) J) := CR_mv V.2.1.1 (ra_B H.1 t J) (fun b hb _ => by
  funext j
  exact hp_u_nk _ _ (fun z => hb z.1)) (fun b _ hq => f b hq) H
theorem CR_q0 {A : AS} {w : hpW} {J : Nat → Nat → Int32} (V : AV A) (f : fr_ w J QT) (H : CR A w) : CR A (hp_wi w J) := CR_mv (w := w) V.2.1.1 (ly_wi H.1 J) (fun b hb _ => rfl) (fun b _ hq => f b hq) H
theorem fR_q {w : hpW} {J : Nat → Nat → Int32} (t : Nat) (f : fr_ w J QT) : fR w (hp_wr w (ra_ w t) J) := ⟨rfl, fun b hb => ⟨f b (fun z => z.elim (fun z => QS_no (by omega) z) (by omega)), by funext j; exact hp_u_nk _ _ (by omega), rfl⟩, fun _ => rfl⟩
theorem fR_q0 {w : hpW} {J : Nat → Nat → Int32} (f : fr_ w J QT) : fR w (hp_wi w J) := ⟨rfl, fun b hb => ⟨f b (fun z => z.elim (fun z => QS_no (by omega) z) (by omega)), rfl, rfl⟩, fun _ => rfl⟩
theorem fR_rf {w : hpW} : fR w w := ⟨rfl, fun _ _ => ⟨rfl, rfl, rfl⟩, fun _ => rfl⟩
theorem fC_rf {w : hpW} : fC w w := ⟨rfl, fun _ _ => ⟨rfl, rfl, rfl⟩, fun _ => rfl, rfl⟩
theorem QS_QT {w : hpW} {J : Nat → Nat → Int32} (f : fr_ w J QS) : fr_ w J QT := fun b hb => f b (fun z => hb (Or.inl z))
theorem sc_QT {w : hpW} {J : Nat → Nat → Int32} (f : fr_ w J sc_) : fr_ w J QT := fun b hb => f b (fun z => hb (Or.inl (Or.inr z)))
/-- what a street of the class says of forms, days -/
theorem sl_n {I : Nat → Nat → Int32} {t k : Nat} (h : k < 48) : sl_ I t (nI k) = I (t + 1) k := by
  unfold sl_
  rw [if_neg (by
    rintro (z | z)
    · exact nI_pos (by omega) z
    · exact absurd ((nI_leI (a := 48) (b := k) (by omega) (by omega)).mp z) (by omega)), nI_clamp (by omega)]
theorem fs_n {w : hpW} {t n m : Nat} {s : Nat → Int32} (H : Cstr w t n m s) (hm : m ≤ 6) {f : Nat} (hf : f < m) : fs_ (hp_i w) t (nI f) = z_s s (nI f) := by
  rw [z_s_n _ (by omega)]
  unfold fs_
  rw [show (36 : Int32) + 2 * nI f = nI (36 + 2 * f) from nx_add rfl (nx_mul rfl rfl), sl_n (by omega)]
  exact H.2.2.2.2.2.2.2 (2 * f) (by omega)
theorem fo_n {w : hpW} {t n m : Nat} {s : Nat → Int32} (H : Cstr w t n m s) (hm : m ≤ 6) {f : Nat} (hf : f < m) : fo_ (hp_i w) t (nI f) = z_f s (nI f) := by
  rw [z_f_n _ (by omega)]
  unfold fo_
  rw [show (36 : Int32) + 2 * nI f + 1 = nI (36 + 2 * f + 1) from nx_add (nx_add rfl (nx_mul rfl rfl)) rfl, sl_n (by omega)]
  exact H.2.2.2.2.2.2.2 (2 * f + 1) (by omega)
theorem bt_n {w : hpW} {t n m : Nat} {s : Nat → Int32} (H : Cstr w t n m s) : sl_ (hp_i w) t 0 = s 0 := (sl_n (k := 0) (by omega)).trans (H.2.2.2.2.2.1 0 (by omega))
/-- the State's numbers in a row -/
def cs_ (I : Nat → Nat → Int32) : Nat → Int32 := fun k => if k = 40 then I 57 7 else if k = 41 then I 57 8 else if k = 42 then I 57 9 else if k = 43 then I 57 10 else I 57 11
theorem CQ_of {A : AS} {w : hpW} (V : AV A) (H : CR A w) : ∃ t s2, CQ w t (a_n A) (F_ A) (z_m (a_s A)) s2 ∧ (0 < a_n A → s2 = a_r A) ∧ Cstr w t (a_n A) (a_m A) (a_s A) := by
  have hd := hd_of V H.2.2.1
  obtain ⟨hB, c1, c2, t, g, c3, c4, c5, _⟩ := id H
  have hst : is_St w t := by
    rcases c3.2.2.1 with rfl | rfl
    · exact st_53 hB
    · exact st_55 hB
  rcases Nat.eq_zero_or_pos (a_n A) with h0 | h0
  · exact ⟨t, cs_ (hp_i w), ⟨hB, c3.1, hst, c3.2.2.2.1, V.2.2.1.1, c4.1, c3.2.2.1, hd, ⟨fun h hh => absurd hh (by omega), rfl, rfl, rfl, rfl, rfl⟩, fun h hh => absurd hh (by omega)⟩, fun z => absurd h0 (by omega), c3⟩
  · have z := c4.2.2.2.2.2 h0
    exact ⟨t, a_r A, ⟨hB, c3.1, hst, c3.2.2.2.1, V.2.2.1.1, c4.1, c3.2.2.1, hd, z.2.1, z.2.2.1⟩, fun _ => rfl, c3⟩
/-- the days ahead, of both -/
noncomputable def D_ (A : AS) : Nat → Nat → Int32 := dm_ (F_ A) (z_s (a_s A)) (z_f (a_s A)) (a_s A 0) (a_n A) (z_m (a_s A)) (a_r A)
noncomputable def G_ (A : AS) : Int32 := go_ (F_ A) (z_s (a_s A)) (a_n A) (a_r A)
theorem OKT_m {A : AS} (V : AV A) (h0 : 0 < a_n A) : ∀ h, h < a_n A → ∃ k, k ≤ 9 ∧ z_m (a_s A) h = nI k := fun h hh => (V.2.2.1.2.2.1 h0).2.2.2.2.2.1 h 0 hh (by omega)
theorem OKT_f {A : AS} (V : AV A) (h0 : 0 < a_n A) : ∀ f, f < a_m A → ∃ g, g < a_m A ∧ z_f (a_s A) (nI f) = nI g := fun f hf => by
  have hm := V.2.2.1.2.1
  rw [z_f_n _ (by omega)]
  exact ((V.2.2.1.2.2.1 h0).2.2.2.2.2.2 f hf).2
theorem dn_D {A : AS} {w : hpW} {t : Nat} (V : AV A) (h0 : 0 < a_n A) (C : Cstr w t (a_n A) (a_m A) (a_s A)) (k : Nat) : dn_ (F_ A) (hp_i w) t (a_n A) (z_m (a_s A)) (a_r A) k = D_ A k := by
  have hm := V.2.2.1.2.1
  rw [dn_dm, bt_n C]
  refine dm_cg (m := a_m A) h0 V.2.2.1.1 V.2.2.2.1.1.1 (OKT_m V h0) (fun f hf => ?_) (fun f hf => fs_n C hm hf) (fun f hf => fo_n C hm hf) (fun _ _ => rfl) k
  rw [fo_n C hm hf]
  exact OKT_f V h0 f hf
theorem go_G {A : AS} {w : hpW} {t : Nat} (V : AV A) (h0 : 0 < a_n A) (C : Cstr w t (a_n A) (a_m A) (a_s A)) : go_ (F_ A) (fs_ (hp_i w) t) (a_n A) (a_r A) = G_ A := by
  obtain ⟨f, f1, f2⟩ := V.2.2.2.1.1.1.2.1 h0
  exact go_cg (by rw [f2]; exact fs_n C V.2.2.1.2.1 f1)

/-! acts, by what both sides hold -/
def up_ (r : Nat → Int32) (k : Nat) (v : Int32) : Nat → Int32 := fun j => if j = k then v else r j
def kK (K : List (Nat → Int32)) (r : Nat → Int32) : List (Nat → Int32) := (r :: K).take 40
def rj_ (A : AS) (why : Int32) : AS := pt_c A (fun j => if j = why.toNatClampNeg then a_c A j + 1 else a_c A j)
theorem up_at (r : Nat → Int32) (k : Nat) (v : Int32) : up_ r k v k = v := if_pos rfl
theorem up_ne {r : Nat → Int32} {k j : Nat} {v : Int32} (h : j ≠ k) : up_ r k v j = r j := if_neg h
theorem hp_u398 (I : Nat → Nat → Int32) (k : Nat) (v : Int32) : hp_u I 398 k v 398 = up_ (I 398) k v := by
  funext j
  unfold hp_u up_
  by_cases h : j = k
  · rw [if_pos ⟨rfl, h⟩, if_pos h]
  · rw [if_neg (fun z => h z.2), if_neg h]
theorem kK_len (K : List (Nat → Int32)) (r : Nat → Int32) (h : K.length ≤ 40) : (kK K r).length = if K.length < 40 then K.length + 1 else 40 := by
  unfold kK
  rw [List.length_take, List.length_cons]
  split <;> omega
theorem kK_at {K : List (Nat → Int32)} {r q : Nat → Int32} {i : Nat} (h : (kK K r)[i]? = some q) : i < 40 ∧ ((i = 0 ∧ q = r) ∨ ∃ j, i = j + 1 ∧ K[j]? = some q) := by
  unfold kK at h
  rw [List.getElem?_take] at h
  split at h
  · next hi =>
    refine ⟨hi, ?_⟩
    cases i with
    | zero => exact Or.inl ⟨rfl, by simpa using h.symm⟩
    | succ j => exact Or.inr ⟨j, rfl, by simpa using h⟩
  · simp at h
theorem kK_mem {K : List (Nat → Int32)} {r q : Nat → Int32} (h : q ∈ kK K r) : q = r ∨ q ∈ K := by
  have := List.mem_of_mem_take h
  simpa using this
theorem RR_rj {A : AS} {w : hpW} (H : RR A w) {why : Int32} : RR (rj_ A why) (rfR_ w why.toNatClampNeg) := by
  obtain ⟨hB, h1, h2, h3, h4, h5, h6, ⟨h7, h8⟩, ⟨h9, h10⟩, h11, h12⟩ := id H
  have hB2 : ly_B (rfR_ w why.toNatClampNeg) := ly_wi hB _
  have e : ∀ b, b ≠ 399 → hp_i (rfR_ w why.toNatClampNeg) b = hp_i w b := fun b z => by funext j; exact hp_u_nk _ _ (fun y => z y.1)
  have g1 : ∀ j, j ≠ 100 → hp_i (rfR_ w why.toNatClampNeg) 381 j = hp_i w 381 j := fun j _ => by rw [e 381 (by omega)]
  exact ⟨hB2, tp_mv (g1 2 (by omega)) (e 382 (by omega)) h1, Rlaws_mv (fun b b1 b2 => e b (by omega)) (g1 13 (by omega)) (g1 29 (by omega)) h2, Rstr_mv (g1 25 (by omega)) (g1 26 (by omega)) (e 395 (by omega)) (e 396 (by omega)) (e 397 (by omega)) h3, (e 398 (by omega)).trans h4, Rkept_mv (g1 32 (by omega)) (e 400 (by omega)) h5, Rimg_mv (g1 47 (by omega)) (e 409 (by omega)) h6, ⟨(g1 40 (by omega)).trans h7, nts_mv (e 402 (by omega)) (e 403 (by omega)) (e 404 (by omega)) h8⟩, ⟨(g1 45 (by omega)).trans h9, nts_mv (e 406 (by omega)) (e 407 (by omega)) (e 408 (by omega)) h10⟩, fun j hj => by show hp_u (hp_i w) 399 why.toNatClampNeg _ 399 j = if j = why.toNatClampNeg then a_c A j + 1 else a_c A j; by_cases z : j = why.toNatClampNeg; (rw [if_pos z, z, hp_u_at, ← h11 _ (by omega)]); (rw [if_neg z, hp_u_nk _ _ (fun y => z y.2)]; exact h11 j hj), (g1 30 (by omega)).trans h12⟩
theorem fC_rj {w : hpW} {k : Nat} : fC w (rfR_ w k) := fC_wi (fun b hb => by funext j; exact hp_u_nk _ _ (by omega))
theorem CR_rj {A : AS} {w : hpW} (V : AV A) (H : CR A w) {why : Int32} : CR (rj_ A why) (rf_ w why.toNatClampNeg) := by
  obtain ⟨hB, c1, c2, t, g, c3, c4, c5, c6, ⟨c7, c8⟩, ⟨c9, c10⟩, c11, c12⟩ := id H
  have hB2 : ly_B (rf_ w why.toNatClampNeg) := ly_wi hB _
  have e : ∀ b, b ≠ 377 → hp_i (rf_ w why.toNatClampNeg) b = hp_i w b := fun b z => by funext j; exact hp_u_nk _ _ (fun y => z y.1)
  have er : ∀ b, b < 381 → hp_r (rf_ w why.toNatClampNeg) b = hp_r w b := fun b _ => rfl
  have hW := V.2.1.1
  exact ⟨hB2, tp_mv (by rw [e 17 (by omega)]) (e 18 (by omega)) c1, Claws_mv V.2.1.1 (fun i j hi hj => e _ (by omega)) (e 20 (by omega)) c2, t, g, Cstr_mv (er 16 (by omega)) (fun b b1 b2 => e b (by omega)) c3, Cnow_mv (by rw [er 57 (by omega)]) (fun b b1 b2 => e b (by omega)) (fun b b1 b2 => e b (by omega)) c4, Cpast_mv (fun b b1 b2 => er b (by omega)) (fun b b1 b2 => e b (by omega)) c5, Cimg_mv (er 362 (by omega)) (fun b b1 b2 => e b (by omega)) c6, ⟨by rw [e 369 (by omega)]; exact c7, nts_mv (e 370 (by omega)) (e 371 (by omega)) (e 372 (by omega)) c8⟩, ⟨by rw [e 373 (by omega)]; exact c9, nts_mv (e 374 (by omega)) (e 375 (by omega)) (e 376 (by omega)) c10⟩, fun j hj => by show hp_u (hp_i w) 377 why.toNatClampNeg _ 377 j = if j = why.toNatClampNeg then a_c A j + 1 else a_c A j; by_cases z : j = why.toNatClampNeg; (rw [if_pos z, z, hp_u_at, ← c11 _ (by omega)]); (rw [if_neg z, hp_u_nk _ _ (fun y => z y.2)]; exact c11 j hj), by rw [e 16 (by omega)]; exact c12⟩
theorem fR_rj {w : hpW} {k : Nat} : fR w (rf_ w k) := fR_wi (fun b hb => by funext j; exact hp_u_nk _ _ (by omega))
theorem AV_rj {A : AS} (V : AV A) {why : Int32} : AV (rj_ A why) := V
/-- kept, the state changed to r2 -/
theorem RR_kp {A : AS} {w : hpW} (V : AV A) (H : RR A w) {I J : Nat → Nat → Int32} (hI : KP w (a_K A).length I) {r2 : Nat → Int32} (hJ : ∀ b, b ≠ 398 → J b = I b) (hr : J 398 = r2) : RR (pt_rK A r2 (kK (a_K A) (a_r A))) (hp_wi w J) ∧ fC w (hp_wi w J) := by
  obtain ⟨hB, h1, h2, h3, h4, h5, h6, ⟨h7, h8⟩, ⟨h9, h10⟩, h11, h12⟩ := id H
  have hK := V.2.2.2.1.2.1
  have hB2 : ly_B (hp_wi w J) := ly_wi hB _
  have e : ∀ b, b ≠ 398 ∧ b ≠ 381 ∧ b ≠ 400 → hp_i (hp_wi w J) b = hp_i w b := fun b z => (hJ b z.1).trans (hI.1 b z.2.1 z.2.2)
  have g1 : ∀ j, j ≠ 32 → hp_i (hp_wi w J) 381 j = hp_i w 381 j := fun j z => (congrFun (hJ 381 (by omega)) j).trans (hI.2.1 j z)
  have h400 : ∀ j, hp_i (hp_wi w J) 400 j = I 400 j := fun j => congrFun (hJ 400 (by omega)) j
  have hk : Rkept (hp_i (hp_wi w J)) (kK (a_K A) (a_r A)) := by
    refine ⟨?_, fun i q hq j hj => ?_⟩
    · rw [kK_len _ _ hK]
      exact (congrFun (hJ 381 (by omega)) 32).trans hI.2.2.1
    · obtain ⟨hi, hq⟩ := kK_at hq
      rw [h400, kK_len _ _ hK]
      rcases hq with ⟨rfl, rfl⟩ | ⟨i2, rfl, hq3⟩
      · have z := hI.2.2.2.2 j hj
        rw [h4] at z
        rw [← z]
        by_cases h4 : (a_K A).length < 40
        · rw [if_pos h4, if_pos h4, show (a_K A).length + 1 - 1 - 0 = (a_K A).length by omega]
        · rw [if_neg h4, if_neg h4]
      · have hl := (List.getElem?_eq_some_iff.mp hq3).1
        have z := hI.2.2.2.1 ((if (a_K A).length < 40 then (a_K A).length + 1 else 40) - 1 - (i2 + 1)) j hj (by split <;> omega)
        rw [z, ← h5.2 i2 q hq3 j hj]
        by_cases h4 : (a_K A).length < 40
        · rw [if_pos h4, if_pos h4, show (a_K A).length + 1 - 1 - (i2 + 1) = (a_K A).length - 1 - i2 by omega]
        · rw [if_neg h4, if_neg h4, show 40 - 1 - (i2 + 1) + 1 = (a_K A).length - 1 - i2 by omega]
  exact ⟨⟨hB2, tp_mv (g1 2 (by omega)) (e 382 (by omega)) h1, Rlaws_mv (fun b b1 b2 => e b (by omega)) (g1 13 (by omega)) (g1 29 (by omega)) h2, Rstr_mv (g1 25 (by omega)) (g1 26 (by omega)) (e 395 (by omega)) (e 396 (by omega)) (e 397 (by omega)) h3, hr, hk, Rimg_mv (g1 47 (by omega)) (e 409 (by omega)) h6, ⟨(g1 40 (by omega)).trans h7, nts_mv (e 402 (by omega)) (e 403 (by omega)) (e 404 (by omega)) h8⟩, ⟨(g1 45 (by omega)).trans h9, nts_mv (e 406 (by omega)) (e 407 (by omega)) (e 408 (by omega)) h10⟩, fun j hj => by rw [e 399 (by omega)]; exact h11 j hj, (g1 30 (by omega)).trans h12⟩, fC_wi (fun b hb => e b (by omega))⟩
/-! the class keeps -/
theorem kp_o (I : Nat → Nat → Int32) (p z : Nat) {b : Nat} (h1 : b ≠ 75) (h2 : b < 77 + 7 * p ∨ 77 + 7 * p + 6 < b) : kp_ I p z b = I b := by
  funext j
  unfold kp_
  rw [hp_u_nk _ _ (by omega), hp_u_nk _ _ (by omega), cp_o h2]
theorem rg_cg {I : Nat → Nat → Int32} {L g : Nat} {r r2 : Nat → Int32} (h : ∀ j, 44 ≤ j → r2 j = r j) (H : rg_ I L g r) : rg_ I L g r2 := by
  unfold rg_
  rw [h 44 (by omega), h 45 (by omega)]
  refine ⟨H.1, H.2.1, fun i hi => ?_⟩
  rw [h _ (by omega), h _ (by omega), h _ (by omega)]
  exact H.2.2 i hi
/-- those kept, where none was written since -/
def CpK (w : hpW) (t n : Nat) (s : Nat → Int32) (g : Nat) (K : List (Nat → Int32)) : Prop := ∃ p, p < 40 ∧ hp_i w 75 1 = nI p ∧ hp_i w 75 2 = nI K.length ∧ ∃ G, (gc_ g G K.length ∧ gc_ (g + 1) G K.length) ∧ ∀ i r, K[i]? = some r → Cst w t n s (77 + 7 * ((p + 39 - i) % 40)) 71 (G i) r
theorem Cp_kp {w : hpW} {t n p g : Nat} {s r : Nat → Int32} {K : List (Nat → Int32)} (hn : n ≤ 8) (hK : K.length ≤ 40) (hp : p < 40) (hp1 : hp_i w 75 1 = nI p) (hN : Cst w t n s 57 71 g r) {G : Nat → Nat} (hG : gc_ g G K.length) (hc : ∀ i q, K[i]? = some q → Cst w t n s (77 + 7 * ((p + 39 - i) % 40)) 71 (G i) q) {J : Nat → Nat → Int32} (hJ : ∀ b, 64 ≤ b → J b = kp_ (hp_i w) p K.length b) : CpK (kq_ w t p J) t n s g (kK K r) := by
  have hm : (p + 1) % 40 < 40 := Nat.mod_lt _ (by omega)
  have h75 : J 75 = kp_ (hp_i w) p K.length 75 := hJ 75 (by omega)
  have hJo : ∀ b, 64 ≤ b → b ≠ 75 → b < 77 + 7 * p ∨ 77 + 7 * p + 6 < b → J b = hp_i w b := fun b b1 b2 b3 => (hJ b b1).trans (kp_o _ _ _ b2 b3)
  have hJi : ∀ b, 77 + 7 * p ≤ b → b ≤ 77 + 7 * p + 6 → J b = cp_ (hp_i w) (77 + 7 * p) 57 6 13 b := fun b b1 b2 => by
    rw [hJ b (by omega)]
    funext j
    unfold kp_
    rw [hp_u_nk _ _ (by omega), hp_u_nk _ _ (by omega)]
  have hgc : ∀ g3, g ≤ g3 → g3 ≤ g + 1 → gc_ g3 (fun i => if i = 0 then g else G (i - 1)) (kK K r).length := fun g3 hg1 hg2 => by
   refine ⟨fun _ => ?_, fun i hi => ?_⟩
   · show (if 0 = 0 then g else G (0 - 1)) ≤ g3 ∧ g3 ≤ (if 0 = 0 then g else G (0 - 1)) + 1
     rw [if_pos rfl]
     exact ⟨hg1, hg2⟩
   · show (if i + 1 = 0 then g else G (i + 1 - 1)) ≤ (if i = 0 then g else G (i - 1)) ∧ (if i = 0 then g else G (i - 1)) ≤ (if i + 1 = 0 then g else G (i + 1 - 1)) + 1
     rw [if_neg (by omega), Nat.add_sub_cancel]
     have hl := kK_len K r hK
     rw [hl] at hi
     by_cases h0 : i = 0
     · rw [if_pos h0, h0]
       have := hG.1 (by split at hi <;> omega)
       omega
     · rw [if_neg h0]
       have := hG.2 (i - 1) (by split at hi <;> omega)
       rw [show i - 1 + 1 = i by omega] at this
       exact this
  refine ⟨(p + 1) % 40, hm, ?_, ?_, fun i => if i = 0 then g else G (i - 1), ⟨hgc g (by omega) (by omega), hgc (g + 1) (by omega) (by omega)⟩, fun i q hq => ?_⟩
  · show J 75 1 = _
    rw [h75]
    unfold kp_
    rw [hp_u_nk _ _ (by omega), hp_u_at]
  · show J 75 2 = _
    rw [h75, kK_len _ _ hK]
    unfold kp_
    rw [hp_u_at]
  · obtain ⟨hi, hq⟩ := kK_at hq
    rcases hq with ⟨rfl, rfl⟩ | ⟨i2, rfl, hq3⟩
    · show Cst _ t n s _ 71 (if 0 = 0 then g else G (0 - 1)) q
      rw [if_pos rfl, show ((p + 1) % 40 + 39 - 0) % 40 = p by omega]
      have hv : vw_ n (cp_ (hp_i w) (77 + 7 * p) 57 6 13) (77 + 7 * p) q := vw_cp hn hN.2.1
      have ht : tm_ n (cp_ (hp_i w) (77 + 7 * p) 57 6 13) (77 + 7 * p) (z_m s) := tm_cp hn hN.2.2.1
      refine ⟨?_, vw_mv hv hJi, tm_mv (hJi _ (by omega) (by omega)) ht, ?_, rg_mv (hJo _ (by omega) (by omega) (by omega)) (hJo _ (by omega) (by omega) (by omega)) (hJo _ (by omega) (by omega) (by omega)) hN.2.2.2.2⟩
      · show hp_u (hp_r w) (77 + 7 * p) 0 (some t) (77 + 7 * p) 0 = some t
        exact hp_u_at _ _ _ _
      · show J (77 + 7 * p) 12 = nI g
        rw [hJi _ (by omega) (by omega), ← hN.2.2.2.1]
        unfold cp_
        rw [if_pos ⟨rfl, by omega, by omega⟩]
    · have hl := (List.getElem?_eq_some_iff.mp hq3).1
      have x3 := hc i2 q hq3
      show Cst _ t n s _ 71 (if i2 + 1 = 0 then g else G (i2 + 1 - 1)) q
      rw [if_neg (by omega), Nat.add_sub_cancel, show ((p + 1) % 40 + 39 - (i2 + 1)) % 40 = (p + 39 - i2) % 40 by omega]
      have hq1 : (p + 39 - i2) % 40 < 40 := Nat.mod_lt _ (by omega)
      have hq2 : (p + 39 - i2) % 40 ≠ p := by omega
      refine Cst_mv ?_ (fun b b1 b2 => hJo b (by omega) (by omega) (by omega)) (fun b b1 b2 => hJo b (by omega) (by omega) (by omega)) x3
      exact hp_u_nk _ _ (by omega)
theorem CN_of {A : AS} {w : hpW} (V : AV A) (H : CR A w) : ∃ t p, CN w t (a_n A) p (a_K A).length ∧ Cstr w t (a_n A) (a_m A) (a_s A) := by
  obtain ⟨hB, c1, c2, t, g, c3, c4, c5, _⟩ := id H
  obtain ⟨p, hp, p1, p2, p3⟩ := c5
  have hst : is_St w t := by
    rcases c3.2.2.1 with rfl | rfl
    · exact st_53 hB
    · exact st_55 hB
  exact ⟨t, p, ⟨hB, c3.1, hst, c3.2.2.2.1, V.2.2.1.1, p1, hp, p2, V.2.2.2.1.2.1, c4.1, c3.2.2.1⟩, c3⟩
/-- as CR, just kept -/
def CK (A : AS) (w : hpW) : Prop := ly_B w ∧ tp_ w 17 1 18 (a_T A) ∧ Claws (hp_i w) (a_W A) (a_h A) ∧ ∃ t g, Cstr w t (a_n A) (a_m A) (a_s A) ∧ Cnow w t (a_n A) (a_s A) g (a_r A) ∧ CpK w t (a_n A) (a_s A) g (a_K A) ∧ Cimg w t (a_n A) (a_s A) (a_I A) ∧ (hp_i w 369 3 = nI (a_S A).length ∧ nts_ (hp_i w) 370 371 372 (a_S A)) ∧ (hp_i w 373 3 = nI (a_Q A).length ∧ nts_ (hp_i w) 374 375 376 (a_Q A)) ∧ (∀ j, j < 5 → hp_i w 377 j = a_c A j) ∧ hp_i w 16 14 = a_d A
theorem CK_CR {A : AS} {w : hpW} (H : CK A w) : CR A w := by
  obtain ⟨hB, c1, c2, t, g, c3, c4, c5, c6⟩ := H
  obtain ⟨p, hp, p1, p2, G, hG, p3⟩ := c5
  exact ⟨hB, c1, c2, t, g, c3, c4, ⟨p, hp, p1, p2, G, hG.1, p3⟩, c6⟩
theorem CR_kp {A : AS} {w : hpW} {t p : Nat} (V : AV A) (H : CR A w) (C : CN w t (a_n A) p (a_K A).length) (h0 : 0 < a_n A) {J : Nat → Nat → Int32} {r2 : Nat → Int32} (hJ : ∀ b, b < 57 ∨ 64 ≤ b → J b = kp_ (hp_i w) p (a_K A).length b) (h58 : J 58 = hp_i w 58) (h12 : J 57 12 = hp_i w 57 12) (hv : vw_ (a_n A) J 57 r2) (hr : ∀ j, 44 ≤ j → r2 j = a_r A j) : CK (pt_rK A r2 (kK (a_K A) (a_r A))) (kq_ w t p J) ∧ fR w (kq_ w t p J) := by
  obtain ⟨hB, c1, c2, t2, g, c3, c4, c5, c6, ⟨c7, c8⟩, ⟨c9, c10⟩, c11, c12⟩ := id H
  have hp4 := C.2.2.2.2.2.2.1
  have et : t2 = t := by
    have z := c3.1
    rw [C.2.1] at z
    exact (Option.some.inj z).symm
  subst et
  have hn := V.2.2.1.1
  have hW := V.2.1.1
  have hB2 : ly_B (kq_ w t2 p J) := kq_B hB hp4 t2 J
  have e : ∀ b, (b < 57 ∨ 64 ≤ b) ∧ b ≠ 75 ∧ (b < 77 ∨ 357 ≤ b) → hp_i (kq_ w t2 p J) b = hp_i w b := fun b z => (hJ b z.1).trans (kp_o _ _ _ z.2.1 (by omega))
  have er : ∀ b, b < 77 ∨ 357 ≤ b → hp_r (kq_ w t2 p J) b = hp_r w b := fun b z => by
    funext j
    exact hp_u_nk _ _ (by omega)
  have hN := c4.2.2.2.2.2 h0
  obtain ⟨p2, hp2, p3, p4, G, hG, p5⟩ := c5
  have ep : p2 = p := (nI_eq (by omega) (by omega)).mp (p3.symm.trans C.2.2.2.2.2.1)
  subst ep
  have hpast := Cp_kp hn V.2.2.2.1.2.1 hp2 p3 hN hG p5 (J := J) (fun b hb => hJ b (Or.inr hb))
  have hN2 : Cst (kq_ w t2 p2 J) t2 (a_n A) (a_s A) 57 71 g r2 := ⟨by rw [er 57 (by omega)]; exact hN.1, hv, tm_mv h58 hN.2.2.1, h12.trans hN.2.2.2.1, rg_cg hr (rg_mv (e 72 (by omega)) (e 73 (by omega)) (e 74 (by omega)) hN.2.2.2.2)⟩
  have hnow : Cnow (kq_ w t2 p2 J) t2 (a_n A) (a_s A) g r2 := ⟨hN2.1, hN2.2.1.2.1, hN2.2.1.2.2.2.2.2, hN2.2.2.2.1, hN2.2.2.2.2, fun _ => hN2⟩
  refine ⟨⟨hB2, tp_mv (by rw [e 17 (by omega)]) (e 18 (by omega)) c1, Claws_mv V.2.1.1 (fun i j hi hj => e _ (by omega)) (e 20 (by omega)) c2, t2, g, Cstr_mv (er 16 (by omega)) (fun b b1 b2 => e b (by omega)) c3, hnow, hpast, Cimg_mv (er 362 (by omega)) (fun b b1 b2 => e b (by omega)) c6, ⟨by rw [e 369 (by omega)]; exact c7, nts_mv (e 370 (by omega)) (e 371 (by omega)) (e 372 (by omega)) c8⟩, ⟨by rw [e 373 (by omega)]; exact c9, nts_mv (e 374 (by omega)) (e 375 (by omega)) (e 376 (by omega)) c10⟩, fun j hj => by rw [e 377 (by omega)]; exact c11 j hj, by rw [e 16 (by omega)]; exact c12⟩, rfl, fun b hb => ⟨e b (by omega), er b (by omega), rfl⟩, fun _ => rfl⟩
theorem vw_u2 {n a : Nat} {I : Nat → Nat → Int32} {s : Nat → Int32} {h : Nat} (hn : n ≤ 8) (hh : h < n) (v : Int32) (H : vw_ n I a s) : vw_ n (hp_u I (a + 2) h v) a (up_ s (0 + h) v) := by
  obtain ⟨h0, h7, h8, h9, h10, h11⟩ := H
  refine ⟨fun k hk => ?_, ?_, ?_, ?_, ?_, ?_⟩
  · obtain ⟨e2, e3, e4, e5, e6⟩ := h0 k hk
    refine ⟨?_, ?_, ?_, ?_, ?_⟩
    all_goals first | (rw [hp_u_nk _ _ (by omega), up_ne (by omega)]; assumption) | (by_cases hkh : k = h; (subst hkh; rw [hp_u_at]; unfold up_; rw [if_pos (by omega)]); (rw [hp_u_nk _ _ (by omega), up_ne (by omega)]; assumption))
  all_goals (rw [hp_u_nk _ _ (by omega), up_ne (by omega)]; assumption)
theorem vw_u3 {n a : Nat} {I : Nat → Nat → Int32} {s : Nat → Int32} {h : Nat} (hn : n ≤ 8) (hh : h < n) (v : Int32) (H : vw_ n I a s) : vw_ n (hp_u I (a + 3) h v) a (up_ s (8 + h) v) := by
  obtain ⟨h0, h7, h8, h9, h10, h11⟩ := H
  refine ⟨fun k hk => ?_, ?_, ?_, ?_, ?_, ?_⟩
  · obtain ⟨e2, e3, e4, e5, e6⟩ := h0 k hk
    refine ⟨?_, ?_, ?_, ?_, ?_⟩
    all_goals first | (rw [hp_u_nk _ _ (by omega), up_ne (by omega)]; assumption) | (by_cases hkh : k = h; (subst hkh; rw [hp_u_at]; unfold up_; rw [if_pos (by omega)]); (rw [hp_u_nk _ _ (by omega), up_ne (by omega)]; assumption))
  all_goals (rw [hp_u_nk _ _ (by omega), up_ne (by omega)]; assumption)
theorem vw_u4 {n a : Nat} {I : Nat → Nat → Int32} {s : Nat → Int32} {h : Nat} (hn : n ≤ 8) (hh : h < n) (v : Int32) (H : vw_ n I a s) : vw_ n (hp_u I (a + 4) h v) a (up_ s (16 + h) v) := by
  obtain ⟨h0, h7, h8, h9, h10, h11⟩ := H
  refine ⟨fun k hk => ?_, ?_, ?_, ?_, ?_, ?_⟩
  · obtain ⟨e2, e3, e4, e5, e6⟩ := h0 k hk
    refine ⟨?_, ?_, ?_, ?_, ?_⟩
    all_goals first | (rw [hp_u_nk _ _ (by omega), up_ne (by omega)]; assumption) | (by_cases hkh : k = h; (subst hkh; rw [hp_u_at]; unfold up_; rw [if_pos (by omega)]); (rw [hp_u_nk _ _ (by omega), up_ne (by omega)]; assumption))
  all_goals (rw [hp_u_nk _ _ (by omega), up_ne (by omega)]; assumption)
theorem vw_u5 {n a : Nat} {I : Nat → Nat → Int32} {s : Nat → Int32} {h : Nat} (hn : n ≤ 8) (hh : h < n) (v : Int32) (H : vw_ n I a s) : vw_ n (hp_u I (a + 5) h v) a (up_ s (24 + h) v) := by
  obtain ⟨h0, h7, h8, h9, h10, h11⟩ := H
  refine ⟨fun k hk => ?_, ?_, ?_, ?_, ?_, ?_⟩
  · obtain ⟨e2, e3, e4, e5, e6⟩ := h0 k hk
    refine ⟨?_, ?_, ?_, ?_, ?_⟩
    all_goals first | (rw [hp_u_nk _ _ (by omega), up_ne (by omega)]; assumption) | (by_cases hkh : k = h; (subst hkh; rw [hp_u_at]; unfold up_; rw [if_pos (by omega)]); (rw [hp_u_nk _ _ (by omega), up_ne (by omega)]; assumption))
  all_goals (rw [hp_u_nk _ _ (by omega), up_ne (by omega)]; assumption)
theorem vw_u6 {n a : Nat} {I : Nat → Nat → Int32} {s : Nat → Int32} {h : Nat} (hn : n ≤ 8) (hh : h < n) (v : Int32) (H : vw_ n I a s) : vw_ n (hp_u I (a + 6) h v) a (up_ s (32 + h) v) := by
  obtain ⟨h0, h7, h8, h9, h10, h11⟩ := H
  refine ⟨fun k hk => ?_, ?_, ?_, ?_, ?_, ?_⟩
  · obtain ⟨e2, e3, e4, e5, e6⟩ := h0 k hk
    refine ⟨?_, ?_, ?_, ?_, ?_⟩
    all_goals first | (rw [hp_u_nk _ _ (by omega), up_ne (by omega)]; assumption) | (by_cases hkh : k = h; (subst hkh; rw [hp_u_at]; unfold up_; rw [if_pos (by omega)]); (rw [hp_u_nk _ _ (by omega), up_ne (by omega)]; assumption))
  all_goals (rw [hp_u_nk _ _ (by omega), up_ne (by omega)]; assumption)
theorem vw_f7 {n a : Nat} {I : Nat → Nat → Int32} {s : Nat → Int32} (hn : n ≤ 8) (v : Int32) (H : vw_ n I a s) : vw_ n (hp_u I a 7 v) a (up_ s 40 v) := by
  obtain ⟨h0, h7, h8, h9, h10, h11⟩ := H
  refine ⟨fun k hk => ?_, ?_, ?_, ?_, ?_, ?_⟩
  · obtain ⟨e2, e3, e4, e5, e6⟩ := h0 k hk
    refine ⟨?_, ?_, ?_, ?_, ?_⟩ <;> (rw [hp_u_nk _ _ (by omega), up_ne (by omega)]; assumption)
  all_goals first | (rw [hp_u_at, up_at]) | (rw [hp_u_nk _ _ (by omega), up_ne (by omega)]; assumption)
theorem vw_f8 {n a : Nat} {I : Nat → Nat → Int32} {s : Nat → Int32} (hn : n ≤ 8) (v : Int32) (H : vw_ n I a s) : vw_ n (hp_u I a 8 v) a (up_ s 41 v) := by
  obtain ⟨h0, h7, h8, h9, h10, h11⟩ := H
  refine ⟨fun k hk => ?_, ?_, ?_, ?_, ?_, ?_⟩
  · obtain ⟨e2, e3, e4, e5, e6⟩ := h0 k hk
    refine ⟨?_, ?_, ?_, ?_, ?_⟩ <;> (rw [hp_u_nk _ _ (by omega), up_ne (by omega)]; assumption)
  all_goals first | (rw [hp_u_at, up_at]) | (rw [hp_u_nk _ _ (by omega), up_ne (by omega)]; assumption)

/-! the State set apart (class), the state changed for a while (reference) -/
def tb3 (w w' : hpW) : Prop := ∀ b, 378 ≤ b → b ≤ 380 → hp_i w' b = hp_i w b
theorem tb3_rf {w : hpW} : tb3 w w := fun _ _ _ => rfl
theorem tb3_tr {w w1 w2 : hpW} (h : tb3 w w1) (h2 : tb3 w1 w2) : tb3 w w2 := fun b b1 b2 => (h2 b b1 b2).trans (h b b1 b2)
def AW (A : AS) (w : hpW) (m0 r2 : Nat → Int32) : Prop := ∃ t, hp_r w 16 4 = some t ∧ hp_r w 64 0 = some t ∧ vw_ (a_n A) (hp_i w) 64 r2 ∧ tm_ (a_n A) (hp_i w) 64 m0
noncomputable def go2 (A : AS) (r : Nat → Int32) : Int32 := go_ (F_ A) (z_s (a_s A)) (a_n A) r
noncomputable def mv2 (A : AS) (r : Nat → Int32) (h : Nat) : Int32 := mv_ (F_ A) (z_s (a_s A)) r h
theorem AW_mv {A : AS} {w w' : hpW} {m0 r : Nat → Int32} (h0 : hp_r w' = hp_r w) (h1 : ∀ b, 64 ≤ b → b ≤ 70 → hp_i w' b = hp_i w b) (H : AW A w m0 r) : AW A w' m0 r := by
  obtain ⟨t, a, b, c, d⟩ := H
  exact ⟨t, by rw [h0]; exact a, by rw [h0]; exact b, vw_mv c h1, tm_mv (h1 _ (by omega) (by omega)) d⟩
theorem k_copyFrom {E : sxE} {Q : Option Value → hpW → Prop} {A : AS} {w : hpW} (V : AV A) (H : CR A w) (h0 : 0 < a_n A) (h : ∀ w', CR A w' → fR w w' → tb3 w w' → AW A w' (z_m (a_s A)) (a_r A) → Q none w') : sx_C E mX7_copyFrom 2 0 0 [.ref 64, .ref 57] w Q := by
  obtain ⟨t, s2, C, e0, c3⟩ := CQ_of V H
  have e1 := e0 h0
  subst e1
  refine c_X7_copyFrom (ss_64 H.1) (ss_57 H.1) (by omega) C.2.2.2.2.2.1 ?_
  have hA := AP_0 C
  refine h _ (CR_q V t (QS_QT hA.1) H) (fR_q t (QS_QT hA.1)) (fun b b1 b2 => hA.1 b (QS_no (by omega))) ⟨t, ?_, ra_64 w t _, hA.2.1, hA.2.2⟩
  show hp_u (hp_r w) 64 0 (some t) 16 4 = some t
  rw [hp_u_nk _ _ (by omega)]
  exact C.2.1
theorem CR_t {A : AS} {w : hpW} {t : Nat} (V : AV A) (H : CR A w) (ht : hp_r w 16 4 = some t) : is_St w t ∧ hp_i w t 0 = nI (a_n A) ∧ Cstr w t (a_n A) (a_m A) (a_s A) ∧ (t = 53 ∨ t = 55) := by
  obtain ⟨t2, p, C, c3⟩ := CN_of V H
  have e : t2 = t := Option.some.inj (C.2.1.symm.trans ht)
  subst e
  exact ⟨C.2.2.1, C.2.2.2.1, c3, C.2.2.2.2.2.2.2.2.2.2⟩
theorem k_goalA {E : sxE} {Q : Option Value → hpW → Prop} {A : AS} {w : hpW} {lv : Value} {m0 r : Nat → Int32} (V : AV A) (H : CR A w) (h0 : 0 < a_n A) (hA : AW A w m0 r) (hO : OKS (a_n A) (a_m A) r) (hl : lw_ok w lv (F_ A)) (hq : ∀ w', CR A w' → fR w w' → tb3 w w' → AW A w' m0 r → Q (some (.int (go2 A r))) w') : sx_C E mX7_goal 5 0 0 [.ref 64, lv] w Q := by
  obtain ⟨t, ht, h64, hv, hm⟩ := id hA
  obtain ⟨hst, hn, c3, ht2⟩ := CR_t V H ht
  obtain ⟨f, hf, ef⟩ := hO.2.1 h0
  refine c_X7_goal (ss_64 H.1) h64 hst hl (by omega) (by omega) hn V.2.2.1.1 (fun I fI => ?_)
  rw [gl_v hv, go_cg (sz2 := z_s (a_s A)) (by rw [ef]; exact fs_n c3 V.2.2.1.2.1 hf)]
  exact hq _ (CR_q0 V (sc_QT fI) H) (fR_q0 (sc_QT fI)) (fun b b1 b2 => fI b (sc_no (by omega))) (AW_mv (w := w) rfl (fun b b1 b2 => fI b (sc_no (by omega))) hA)
theorem k_mindedA {E : sxE} {Q : Option Value → hpW → Prop} {A : AS} {w : hpW} {lv : Value} {m0 r : Nat → Int32} (V : AV A) (H : CR A w) {h : Nat} (hh : h < a_n A) (hA : AW A w m0 r) (hO : OKS (a_n A) (a_m A) r) (hl : lw_ok w lv (F_ A)) (hq : ∀ w', CR A w' → fR w w' → tb3 w w' → AW A w' m0 r → Q (some (.int (mv2 A r h))) w') : sx_C E mX7_minded 4 0 0 [.ref 64, .int (nI h), lv] w Q := by
  obtain ⟨t, ht, h64, hv, hm⟩ := id hA
  obtain ⟨hst, hn, c3, ht2⟩ := CR_t V H ht
  have hn8 := V.2.2.1.1
  obtain ⟨f, hf, ef⟩ := hO.2.1 (by omega)
  refine c_X7_minded (ss_64 H.1) h64 hst hl (by omega) (fun I fI => ?_)
  rw [mC_v hv _ hh, mv_cg (sz2 := z_s (a_s A)) (by rw [ef]; exact fs_n c3 V.2.2.1.2.1 hf)]
  exact hq _ (CR_q0 V (sc_QT fI) H) (fR_q0 (sc_QT fI)) (fun b b1 b2 => fI b (sc_no (by omega))) (AW_mv (w := w) rfl (fun b b1 b2 => fI b (sc_no (by omega))) hA)
theorem k_minded {E : sxE} {Q : Option Value → hpW → Prop} {A : AS} {w : hpW} {lv : Value} {m0 r : Nat → Int32} (V : AV A) (H : CR A w) {h : Nat} (hh : h < a_n A) (hA : AW A w m0 r) (hl : lw_ok w lv (F_ A)) (hq : ∀ w', CR A w' → fR w w' → tb3 w w' → AW A w' m0 r → Q (some (.int (mv2 A (a_r A) h))) w') : sx_C E mX7_minded 4 0 0 [.ref 57, .int (nI h), lv] w Q := by
  obtain ⟨t, s2, C, e0, c3⟩ := CQ_of V H
  have h0 : 0 < a_n A := by omega
  have e1 := e0 h0
  subst e1
  obtain ⟨f, hf, ef⟩ := V.2.2.2.1.1.1.2.1 h0
  have hn8 := V.2.2.1.1
  refine c_X7_minded (ss_57 H.1) C.2.2.2.2.2.1 C.2.2.1 hl (by omega) (fun I fI => ?_)
  rw [mC_v C.2.2.2.2.2.2.2.2.1 _ hh, mv_cg (sz2 := z_s (a_s A)) (by rw [ef]; exact fs_n c3 V.2.2.1.2.1 hf)]
  exact hq _ (CR_q0 V (sc_QT fI) H) (fR_q0 (sc_QT fI)) (fun b b1 b2 => fI b (sc_no (by omega))) (AW_mv (w := w) rfl (fun b b1 b2 => fI b (sc_no (by omega))) hA)
theorem k_passA {E : sxE} {Q : Option Value → hpW → Prop} {A : AS} {w : hpW} {lv : Value} {m0 r : Nat → Int32} (V : AV A) (H : CR A w) (h0 : 0 < a_n A) (hA : AW A w m0 r) (hO : OKS (a_n A) (a_m A) r) (hl : lw_ok w lv (F_ A)) (hq : ∀ w' x, CR A w' → fR w w' → tb3 w w' → AW A w' m0 (dv_ (F_ A) (z_s (a_s A)) (z_f (a_s A)) (a_s A 0) (a_n A) m0 r) → Q (some (.int x)) w') : sx_C E mX7_passDay 6 0 0 [.ref 64, lv] w Q := by
  obtain ⟨t, ht, h64, hv, hm⟩ := id hA
  obtain ⟨hst, hn, c3, ht2⟩ := CR_t V H ht
  obtain ⟨f, hf, ef⟩ := hO.2.1 h0
  have hS : ∀ b, ¬ QT b → ¬ day_S 64 b := fun b hb q => hb (q.elim (fun q => Or.inl (Or.inl (by omega))) (fun q => q.elim (fun q => Or.inl (Or.inl (by omega))) (fun q => Or.inl (Or.inr q))))
  refine e_passDay (ss_64 H.1) h64 hst hl (by omega) (by omega) hn V.2.2.1.1 hv hm (fun I x fI hv2 hm2 _ _ => ?_)
  rw [bt_n c3, dv_cg (sz2 := z_s (a_s A)) (fo2 := z_f (a_s A)) (m1 := m0) (by rw [ef]; exact fs_n c3 V.2.2.1.2.1 hf) (by rw [ef]; exact fo_n c3 V.2.2.1.2.1 hf) V.2.2.1.1 (fun _ _ => rfl)] at hv2
  have fQ : fr_ w I QT := fun b hb => fI b (hS b hb)
  exact hq _ x (CR_q0 V fQ H) (fR_q0 fQ) (fun b b1 b2 => fI b (fun q => q.elim (by omega) (fun q => q.elim (by omega) (sc_no (by omega))))) ⟨t, ht, h64, hv2, hm2⟩
theorem AW_st {A : AS} {w : hpW} {m0 r : Nat → Int32} {b k j : Nat} {x : Int32} (V : AV A) (H : CR A w) (hA : AW A w m0 r) (hb : QT b) (hb2 : b ≠ 378 ∧ b ≠ 379 ∧ b ≠ 380) (hv : ∀ n, n = a_n A → vw_ n (hp_i w) 64 r → vw_ n (hp_u (hp_i w) b k x) 64 (up_ r j x)) (ht : ∀ n, n = a_n A → tm_ n (hp_i w) 64 m0 → tm_ n (hp_u (hp_i w) b k x) 64 m0) : CR A (hp_si w b k x) ∧ fR w (hp_si w b k x) ∧ tb3 w (hp_si w b k x) ∧ AW A (hp_si w b k x) m0 (up_ r j x) := by
  have fQ : fr_ w (hp_u (hp_i w) b k x) QT := fun q hq => by
    funext i
    exact hp_u_nk _ _ (fun z => hq (by rw [z.1]; exact hb))
  obtain ⟨t, a, c, d, e⟩ := hA
  exact ⟨CR_q0 V fQ H, fR_q0 fQ, fun q q1 q2 => by
    funext i
    exact hp_u_nk _ _ (fun z => by omega), t, a, c, hv _ rfl d, ht _ rfl e⟩
theorem AW_sham {A : AS} {w : hpW} {m0 r : Nat → Int32} {h : Nat} {x : Int32} (V : AV A) (H : CR A w) (hA : AW A w m0 r) (hh : h < a_n A) : CR A (hp_si w 67 h x) ∧ fR w (hp_si w 67 h x) ∧ tb3 w (hp_si w 67 h x) ∧ AW A (hp_si w 67 h x) m0 (up_ r (8 + h) x) := AW_st V H hA (Or.inl (Or.inl (by omega))) (by omega) (fun n e hv => vw_u3 (by subst e; exact V.2.2.1.1) (by omega) x hv) (fun n e ht => tm_mv (by funext i; exact hp_u_nk _ _ (by omega)) ht)
theorem AW_white {A : AS} {w : hpW} {m0 r : Nat → Int32} {h : Nat} {x : Int32} (V : AV A) (H : CR A w) (hA : AW A w m0 r) (hh : h < a_n A) : CR A (hp_si w 68 h x) ∧ fR w (hp_si w 68 h x) ∧ tb3 w (hp_si w 68 h x) ∧ AW A (hp_si w 68 h x) m0 (up_ r (16 + h) x) := AW_st V H hA (Or.inl (Or.inl (by omega))) (by omega) (fun n e hv => vw_u4 (by subst e; exact V.2.2.1.1) (by omega) x hv) (fun n e ht => tm_mv (by funext i; exact hp_u_nk _ _ (by omega)) ht)
theorem AW_mind {A : AS} {w : hpW} {m0 r : Nat → Int32} {h : Nat} {x : Int32} (V : AV A) (H : CR A w) (hA : AW A w m0 r) (hh : h < a_n A) : CR A (hp_si w 66 h x) ∧ fR w (hp_si w 66 h x) ∧ tb3 w (hp_si w 66 h x) ∧ AW A (hp_si w 66 h x) m0 (up_ r h x) := AW_st V H hA (Or.inl (Or.inl (by omega))) (by omega) (fun n e hv => by have z := vw_u2 (by subst e; exact V.2.2.1.1) (by omega) x hv (h := h); rw [Nat.zero_add] at z; exact z) (fun n e ht => tm_mv (by funext i; exact hp_u_nk _ _ (by omega)) ht)
/-! the reference -/
theorem pt_r_self (A : AS) : pt_r A (a_r A) = A := rfl
theorem pt_r_r (A : AS) (r r2 : Nat → Int32) : pt_r (pt_r A r) r2 = pt_r A r2 := rfl
theorem e_wouldGo {E : sxE} {Q : Option Value → hpW → Prop} {A : AS} {w : hpW} {r : Nat → Int32} (V : AV A) (hO : OKF (a_n A) (a_m A) r) (H : RR (pt_r A r) w) (hq : ∀ w', RR (pt_r A r) w' → fC w w' → Q (some (.int (go2 A r))) w') : sx_C E mX12_wouldGo 7 0 0 [.ref 381] w Q := c_X12_wouldGo (RQ_of (AV_r V hO) H) (fun I f => hq _ (RR_q (RX_FQ f) H) (fC_q (RX_FQ f)))
theorem e_mindedOf2 {E : sxE} {Q : Option Value → hpW → Prop} {A : AS} {w : hpW} {r : Nat → Int32} (V : AV A) (hO : OKF (a_n A) (a_m A) r) (H : RR (pt_r A r) w) {h : Nat} (hh : h < a_n A) (hq : ∀ w', RR (pt_r A r) w' → fC w w' → Q (some (.int (mv2 A r h))) w') : sx_C E mX12_mindedOf 6 0 0 [.ref 381, .int (nI h)] w Q := c_X12_mindedOf (RQ_of (AV_r V hO) H) hh (fun I f => hq _ (RR_q (RX_FQ f) H) (fC_q (RX_FQ f)))
theorem RR_st {A : AS} {w : hpW} {r : Nat → Int32} (H : RR (pt_r A r) w) (k : Nat) (x : Int32) : RR (pt_r A (up_ r k x)) (hp_si w 398 k x) ∧ fC w (hp_si w 398 k x) := by
  have z : RR (pt_r (pt_r A r) (up_ r k x)) (hp_si w 398 k x) := RR_w H (show ly_B (hp_si w 398 k x) from H.1) (fun b hb => by funext j; exact hp_u_nk _ _ (fun q => hb q.1)) (by
    show hp_u (hp_i w) 398 k x 398 = _
    rw [hp_u398]
    exact congrArg (fun q => up_ q k x) H.2.2.2.2.1)
  exact ⟨z, fC_wi (fun b hb => by funext j; exact hp_u_nk _ _ (by omega))⟩
theorem up_id (r : Nat → Int32) (k : Nat) : up_ r k (r k) = r := by
  funext j
  unfold up_
  split
  · next h => rw [h]
  · rfl
theorem up_up (r : Nat → Int32) (k : Nat) (x y : Int32) : up_ (up_ r k x) k y = up_ r k y := by
  funext j
  unfold up_
  split
  · rfl
  · rfl
theorem OKF_sh {n m : Nat} {r : Nat → Int32} {h : Nat} {x : Int32} (hn : n ≤ 8) (hh : h < n) (H : OKF n m r) (h1 : -9 ≤ x.toInt) (h2 : x.toInt ≤ 9) : OKF n m (up_ r (8 + h) x) := OKF_up H (by omega) (by omega) (by omega) (by omega) (fun k hk => ⟨by omega, fun _ => ⟨h1, h2⟩, by omega, by omega, by omega⟩)
theorem OKF_wh {n m : Nat} {r : Nat → Int32} {h k : Nat} (hn : n ≤ 8) (hh : h < n) (H : OKF n m r) (hk : k ≤ 9) : OKF n m (up_ r (16 + h) (nI k)) := OKF_up H (by omega) (by omega) (by omega) (by omega) (fun q hq => ⟨by omega, by omega, fun _ => ⟨k, hk, rfl⟩, by omega, by omega⟩)
theorem OKF_mi {n m : Nat} {r : Nat → Int32} {h k : Nat} (hn : n ≤ 8) (hh : h < n) (H : OKF n m r) (hk : k ≤ 9) : OKF n m (up_ r h (nI k)) := OKF_up H (by omega) (by omega) (by omega) (by omega) (fun q hq => ⟨fun _ => ⟨k, hk, rfl⟩, by omega, by omega, by omega, by omega⟩)

/-! the six acts -/
theorem OKS_up {n m : Nat} {r : Nat → Int32} {k : Nat} {v : Int32} (H : OKS n m r) (h42 : k ≠ 42) (h43 : k ≠ 43) (h0 : ∀ h, h < n → (k = h → ∃ q, q ≤ 9 ∧ v = nI q) ∧ (k = 8 + h → -9 ≤ v.toInt ∧ v.toInt ≤ 9) ∧ (k = 16 + h → ∃ q, q ≤ 9 ∧ v = nI q) ∧ (k = 24 + h → ∃ q, q ≤ 9 ∧ v = nI q) ∧ (k = 32 + h → ∃ q, q ≤ 9 ∧ v = nI q)) : OKS n m (up_ r k v) := by
  refine ⟨fun h hh => ?_, fun z => ?_, fun z => ?_⟩
  · obtain ⟨a, b, c, d, e⟩ := H.1 h hh
    obtain ⟨a1, b1, c1, d1, e1⟩ := h0 h hh
    unfold up_
    refine ⟨?_, ?_, ?_, ?_, ?_⟩
    · split
      · next q => exact a1 q.symm
      · exact a
    · split
      · next q => exact b1 q.symm
      · exact b
    · split
      · next q => exact c1 q.symm
      · exact c
    · split
      · next q => exact d1 q.symm
      · exact d
    · split
      · next q => exact e1 q.symm
      · exact e
  · rw [up_ne (Ne.symm h43)]; exact H.2.1 z
  · rw [up_ne (Ne.symm h42)]; exact H.2.2 z
theorem OKF_up {n m : Nat} {r : Nat → Int32} {k : Nat} {v : Int32} (H : OKF n m r) (hk : k < 44) (h42 : k ≠ 42) (h43 : k ≠ 43) (h41 : k = 41 → ∃ c, c ≤ 999 ∧ v = nI c) (h0 : ∀ h, h < n → (k = h → ∃ q, q ≤ 9 ∧ v = nI q) ∧ (k = 8 + h → -9 ≤ v.toInt ∧ v.toInt ≤ 9) ∧ (k = 16 + h → ∃ q, q ≤ 9 ∧ v = nI q) ∧ (k = 24 + h → ∃ q, q ≤ 9 ∧ v = nI q) ∧ (k = 32 + h → ∃ q, q ≤ 9 ∧ v = nI q)) : OKF n m (up_ r k v) := by
  refine ⟨OKS_up H.1 h42 h43 h0, ?_, by rw [up_ne (by omega)]; exact H.2.2.1, by rw [up_ne (by omega)]; exact H.2.2.2.1, fun j hj => by rw [up_ne (by omega)]; exact H.2.2.2.2 j hj⟩
  by_cases z : k = 41
  · rw [z, up_at]; exact h41 z
  · rw [up_ne (Ne.symm z)]; exact H.2.1
theorem AV_kp {A : AS} (V : AV A) (h0 : 0 < a_n A) {r2 : Nat → Int32} (h : OKF (a_n A) (a_m A) r2) : AV (pt_rK A r2 (kK (a_K A) (a_r A))) := by
  obtain ⟨v1, v2, v3, ⟨v4, v5, v6, v7⟩, v8, v9⟩ := V
  refine ⟨v1, v2, v3, ⟨h, ?_, fun r hr => ?_, v7⟩, v8, fun z => absurd z (by show ¬ a_n A = 0; omega)⟩
  · show (kK (a_K A) (a_r A)).length ≤ 40
    rw [kK_len _ _ v5]; split <;> omega
  · rcases kK_mem hr with rfl | hr
    · exact v4
    · exact v6 r hr
theorem kp_vw {I : Nat → Nat → Int32} {p z n : Nat} {r : Nat → Int32} (hv : vw_ n I 57 r) : vw_ n (kp_ I p z) 57 r := vw_mv hv (fun b b1 b2 => kp_o _ _ _ (by omega) (by omega))
theorem up_cm (r : Nat → Int32) {j k : Nat} (x y : Int32) (h : j ≠ k) : up_ (up_ r j x) k y = up_ (up_ r k y) j x := by
  funext q
  unfold up_
  by_cases h1 : q = k
  · rw [if_pos h1, if_neg (by omega), if_pos h1]
  · rw [if_neg h1]
    by_cases h2 : q = j
    · rw [if_pos h2, if_pos h2]
    · rw [if_neg h2, if_neg h2, if_neg h1]
theorem CR_vw {A : AS} {w : hpW} (H : CR A w) (h0 : 0 < a_n A) : vw_ (a_n A) (hp_i w) 57 (a_r A) := by
  obtain ⟨hB, c1, c2, t, g, c3, c4, _⟩ := H
  exact (c4.2.2.2.2.2 h0).2.1
theorem ih_cl {n : Nat} {x : Int32} (hn : n ≤ 8) (h : ¬ ih_ n x = 0) : x.toNatClampNeg < n ∧ x = nI x.toNatClampNeg := by
  obtain ⟨k, hk, rfl⟩ := ih_ye (by omega) h
  rw [nI_clamp (by omega)]
  exact ⟨hk, rfl⟩
theorem wsham_cg {n : Nat} {x v c d : Int32} (h : ¬ ih_ n x = 0 → c = d) : wsham n x v c = wsham n x v d := by
  unfold wsham
  by_cases z : ih_ n x = 0
  · rw [if_pos z, if_pos z]
  · rw [h z]
theorem whang_cg {n : Nat} {x v c d e f : Int32} (h : ¬ ih_ n x = 0 → c = d ∧ e = f) : whang n x v c e = whang n x v d f := by
  unfold whang
  by_cases z : ih_ n x = 0
  · rw [if_pos z, if_pos z]
  · rw [(h z).1, (h z).2]
theorem wwhit_cg {n : Nat} {x c d e f : Int32} (h : ¬ ih_ n x = 0 → c = d ∧ e = f) : wwhit n x c e = wwhit n x d f := by
  unfold wwhit
  by_cases z : ih_ n x = 0
  · rw [if_pos z, if_pos z]
  · rw [(h z).1, (h z).2]
theorem wpian_cg {n : Nat} {x c d e f : Int32} (h : ¬ ih_ n x = 0 → c = d ∧ e = f) : wpian n x c e = wpian n x d f := by
  unfold wpian
  by_cases z : ih_ n x = 0
  · rw [if_pos z, if_pos z]
  · rw [(h z).1, (h z).2]
theorem wgive_cg {n : Nat} {v e f : Int32} (h : 0 < n → e = f) : wgive n v e = wgive n v f := by
  unfold wgive
  by_cases z : n = 0
  · rw [if_pos z, if_pos z]
  · rw [h (by omega)]
theorem wmove_cg {n : Nat} {x y c d e f : Int32} (h : ¬ ih_ n x = 0 → ¬ ih_ n y = 0 → c = d ∧ e = f) : wmove n x y c e = wmove n x y d f := by
  unfold wmove
  by_cases z : ih_ n x = 0 ∨ ih_ n y = 0
  · rw [if_pos z, if_pos z]
  · have q := h (fun y => z (Or.inl y)) (fun y => z (Or.inr y))
    rw [q.1, q.2]
theorem RR_kpq {Q : Option Value → hpW → Prop} {v : Option Value} {A : AS} {w : hpW} (V : AV A) (H : RR A w) {I J : Nat → Nat → Int32} (hI : KP w (a_K A).length I) {r2 : Nat → Int32} (hQ : ∀ w', RR (pt_rK A r2 (kK (a_K A) (a_r A))) w' → fC w w' → Q v w') (hJ : ∀ b, b ≠ 398 → J b = I b) (hr : J 398 = r2) : Q v (hp_wi w J) := hQ _ (RR_kp V H hI hJ hr).1 (RR_kp V H hI hJ hr).2
theorem CR_kpq {Q : Option Value → hpW → Prop} {v : Option Value} {A : AS} {w : hpW} {t p : Nat} (V : AV A) (H : CR A w) (C : CN w t (a_n A) p (a_K A).length) (h0 : 0 < a_n A) {J : Nat → Nat → Int32} {r2 : Nat → Int32} (hQ : ∀ w', CR (pt_rK A r2 (kK (a_K A) (a_r A))) w' → fR w w' → Q v w') (hJ : ∀ b, b < 57 ∨ 64 ≤ b → J b = kp_ (hp_i w) p (a_K A).length b) (h58 : J 58 = hp_i w 58) (h12 : J 57 12 = hp_i w 57 12) (hv : vw_ (a_n A) J 57 r2) (hr : ∀ j, 44 ≤ j → r2 j = a_r A j) : Q v (kq_ w t p J) := hQ _ (CK_CR (CR_kp V H C h0 hJ h58 h12 hv hr).1) (CR_kp V H C h0 hJ h58 h12 hv hr).2
noncomputable def q_sham (A : AS) (x v : Int32) : Int32 × AS := if wsham (a_n A) x v (a_r A (8 + x.toNatClampNeg)) = -1 then (v, pt_rK A (up_ (a_r A) (8 + x.toNatClampNeg) v) (kK (a_K A) (a_r A))) else (-1000000, rj_ A (wsham (a_n A) x v (a_r A (8 + x.toNatClampNeg))))
noncomputable def q_hang (A : AS) (x v : Int32) : Int32 × AS := if whang (a_n A) x v (a_r A (24 + x.toNatClampNeg)) (a_r A 41) = -1 then (a_r A 41 - mx_ 0 (v - a_r A (24 + x.toNatClampNeg)), pt_rK A (up_ (up_ (a_r A) 41 (a_r A 41 - mx_ 0 (v - a_r A (24 + x.toNatClampNeg)))) (24 + x.toNatClampNeg) v) (kK (a_K A) (a_r A))) else (-1, rj_ A (whang (a_n A) x v (a_r A (24 + x.toNatClampNeg)) (a_r A 41)))
noncomputable def q_whiten (A : AS) (x : Int32) : Int32 × AS := if wwhit (a_n A) x (a_r A (16 + x.toNatClampNeg)) (a_r A 41) = -1 then (a_r A 41 - 2, pt_rK A (up_ (up_ (a_r A) (16 + x.toNatClampNeg) (a_r A (16 + x.toNatClampNeg) + 1)) 41 (a_r A 41 - 2)) (kK (a_K A) (a_r A))) else (-1, rj_ A (wwhit (a_n A) x (a_r A (16 + x.toNatClampNeg)) (a_r A 41)))
noncomputable def q_piano (A : AS) (x : Int32) : Int32 × AS := if wpian (a_n A) x (a_r A 40) (a_r A 41) = -1 then (a_r A 41 - 3, pt_rK A (up_ (up_ (a_r A) 40 (a_r A 40 ||| 1 <<< (nI x.toNatClampNeg &&& 31))) 41 (a_r A 41 - 3)) (kK (a_K A) (a_r A))) else (-1, rj_ A (wpian (a_n A) x (a_r A 40) (a_r A 41)))
noncomputable def q_give (A : AS) (v : Int32) : Int32 × AS := if wgive (a_n A) v (a_r A 41) = -1 then (a_r A 41 + v, pt_rK A (up_ (a_r A) 41 (a_r A 41 + v)) (kK (a_K A) (a_r A))) else (-1, rj_ A (wgive (a_n A) v (a_r A 41)))
noncomputable def q_move (A : AS) (x y : Int32) : Int32 × AS := if wmove (a_n A) x y (a_r A (32 + y.toNatClampNeg)) (a_r A (32 + x.toNatClampNeg)) = -1 then (a_r A (32 + y.toNatClampNeg) + 1, pt_rK A (up_ (up_ (a_r A) (32 + x.toNatClampNeg) (a_r A (32 + x.toNatClampNeg) - 1)) (32 + y.toNatClampNeg) (a_r A (32 + y.toNatClampNeg) + 1)) (kK (a_K A) (a_r A))) else (-1, rj_ A (wmove (a_n A) x y (a_r A (32 + y.toNatClampNeg)) (a_r A (32 + x.toNatClampNeg))))
theorem oR_sham {E : sxE} {A : AS} {w : hpW} (V : AV A) (H : RR A w) (x v : Int32) : oR E mX12_sham 3 [.ref 381, .int x, .int v] w A (q_sham A x v).1 (q_sham A x v).2 := by
  intro Q h2
  have hn8 := V.2.2.1.1
  have h38 : hp_i w 398 = a_r A := H.2.2.2.2.1
  refine c_X12_sham (RQ_of V H) H.2.2.2.2.2.1.1 V.2.2.2.1.2.1 (fun hw => ?_) (fun hw h hh e1 I hI => ?_)
  · rw [q_sham, if_neg hw] at h2
    exact h2 _ (RR_rj H) fC_rj
  · rw [q_sham, if_pos hw] at h2
    subst e1
    rw [nI_clamp (by omega)] at h2
    have h3 : I 398 = a_r A := (hI.1 398 (by omega) (by omega)).trans h38
    refine RR_kpq V H hI h2 (fun b hb => ?_) ?_
    · funext j; exact hp_u_nk _ _ (fun z => hb z.1)
    · rw [hp_u398, h3]
theorem oR_hang {E : sxE} {A : AS} {w : hpW} (V : AV A) (H : RR A w) (x v : Int32) : oR E mX12_hang 3 [.ref 381, .int x, .int v] w A (q_hang A x v).1 (q_hang A x v).2 := by
  intro Q h2
  have hn8 := V.2.2.1.1
  have h38 : hp_i w 398 = a_r A := H.2.2.2.2.1
  refine c_X12_hang (RQ_of V H) H.2.2.2.2.2.1.1 V.2.2.2.1.2.1 V.2.2.2.1.1.2.1 (fun hw => ?_) (fun hw h hh e1 I hI => ?_)
  · rw [q_hang, if_neg hw] at h2
    exact h2 _ (RR_rj H) fC_rj
  · rw [q_hang, if_pos hw] at h2
    subst e1
    rw [nI_clamp (by omega)] at h2
    have h3 : I 398 = a_r A := (hI.1 398 (by omega) (by omega)).trans h38
    refine RR_kpq V H hI h2 (fun b hb => ?_) ?_
    · funext j; rw [hp_u_nk _ _ (fun z => hb z.1), hp_u_nk _ _ (fun z => hb z.1)]
    · rw [hp_u398, hp_u398, h3]
theorem oR_whiten {E : sxE} {A : AS} {w : hpW} (V : AV A) (H : RR A w) (x : Int32) : oR E mX12_whiten 3 [.ref 381, .int x] w A (q_whiten A x).1 (q_whiten A x).2 := by
  intro Q h2
  have hn8 := V.2.2.1.1
  have h38 : hp_i w 398 = a_r A := H.2.2.2.2.1
  refine c_X12_whiten (RQ_of V H) H.2.2.2.2.2.1.1 V.2.2.2.1.2.1 (fun hw => ?_) (fun hw h hh e1 I hI => ?_)
  · rw [q_whiten, if_neg hw] at h2
    exact h2 _ (RR_rj H) fC_rj
  · rw [q_whiten, if_pos hw] at h2
    subst e1
    rw [nI_clamp (by omega)] at h2
    have h3 : I 398 = a_r A := (hI.1 398 (by omega) (by omega)).trans h38
    refine RR_kpq V H hI h2 (fun b hb => ?_) ?_
    · funext j; rw [hp_u_nk _ _ (fun z => hb z.1), hp_u_nk _ _ (fun z => hb z.1)]
    · rw [hp_u398, hp_u398, h3]
theorem oR_piano {E : sxE} {A : AS} {w : hpW} (V : AV A) (H : RR A w) (x : Int32) : oR E mX12_piano 3 [.ref 381, .int x] w A (q_piano A x).1 (q_piano A x).2 := by
  intro Q h2
  have hn8 := V.2.2.1.1
  have h38 : hp_i w 398 = a_r A := H.2.2.2.2.1
  refine c_X12_piano (RQ_of V H) H.2.2.2.2.2.1.1 V.2.2.2.1.2.1 (fun hw => ?_) (fun hw h hh e1 I hI => ?_)
  · rw [q_piano, if_neg hw] at h2
    exact h2 _ (RR_rj H) fC_rj
  · rw [q_piano, if_pos hw] at h2
    subst e1
    rw [nI_clamp (by omega)] at h2
    have h3 : I 398 = a_r A := (hI.1 398 (by omega) (by omega)).trans h38
    refine RR_kpq V H hI h2 (fun b hb => ?_) ?_
    · funext j; rw [hp_u_nk _ _ (fun z => hb z.1), hp_u_nk _ _ (fun z => hb z.1)]
    · rw [hp_u398, hp_u398, h3]
theorem oR_give {E : sxE} {A : AS} {w : hpW} (V : AV A) (H : RR A w) (v : Int32) : oR E mX12_give 2 [.ref 381, .int v] w A (q_give A v).1 (q_give A v).2 := by
  intro Q h2
  have hn8 := V.2.2.1.1
  have h38 : hp_i w 398 = a_r A := H.2.2.2.2.1
  refine c_X12_give (RQ_of V H) H.2.2.2.2.2.1.1 V.2.2.2.1.2.1 (fun hw => ?_) (fun hw I hI => ?_)
  · rw [q_give, if_neg hw] at h2
    exact h2 _ (RR_rj H) fC_rj
  · rw [q_give, if_pos hw] at h2
    have h3 : I 398 = a_r A := (hI.1 398 (by omega) (by omega)).trans h38
    refine RR_kpq V H hI h2 (fun b hb => ?_) ?_
    · funext j; exact hp_u_nk _ _ (fun z => hb z.1)
    · rw [hp_u398, h3]
theorem oR_move {E : sxE} {A : AS} {w : hpW} (V : AV A) (H : RR A w) (x y : Int32) : oR E mX12_move 3 [.ref 381, .int x, .int y] w A (q_move A x y).1 (q_move A x y).2 := by
  intro Q h2
  have hn8 := V.2.2.1.1
  have h38 : hp_i w 398 = a_r A := H.2.2.2.2.1
  refine c_X12_move (RQ_of V H) H.2.2.2.2.2.1.1 V.2.2.2.1.2.1 (fun hw => ?_) (fun hw h o hh ho hne e1 e2 I hI => ?_)
  · rw [q_move, if_neg hw] at h2
    exact h2 _ (RR_rj H) fC_rj
  · rw [q_move, if_pos hw] at h2
    subst e1 e2
    rw [nI_clamp (by omega), nI_clamp (by omega)] at h2
    have h3 : I 398 = a_r A := (hI.1 398 (by omega) (by omega)).trans h38
    refine RR_kpq V H hI h2 (fun b hb => ?_) ?_
    · funext j; rw [hp_u_nk _ _ (fun z => hb z.1), hp_u_nk _ _ (fun z => hb z.1)]
    · rw [hp_u398, hp_u398, h3]
theorem oC_sham {E : sxE} {A : AS} {w : hpW} (V : AV A) (H : CR A w) (x v : Int32) : oC E mX11_sham 4 [.ref 16, .int x, .int v] w A (q_sham A x v).1 (q_sham A x v).2 := by
  intro Q h2
  have hn8 := V.2.2.1.1
  obtain ⟨t, p, C, c3⟩ := CN_of V H
  have hp4 := C.2.2.2.2.2.2.1
  have ew : wsham (a_n A) x v (hp_i w 60 x.toNatClampNeg) = wsham (a_n A) x v (a_r A (8 + x.toNatClampNeg)) := wsham_cg (fun z => by
    have hv := CR_vw H (ih_pos hn8 z)
    exact (hv.1 _ (ih_cl hn8 z).1).2.1)
  refine c_X11_sham C (fun hw => ?_) (fun hw h hh e1 => ?_)
  · rw [ew] at hw ⊢
    rw [q_sham, if_neg hw] at h2
    exact h2 _ (CR_rj V H) fR_rj
  · rw [ew] at hw
    rw [q_sham, if_pos hw] at h2
    subst e1
    rw [nI_clamp (by omega)] at h2
    have h0 : 0 < a_n A := by omega
    have hv := CR_vw H h0
    refine CR_kpq V H C h0 h2 (fun b hb => ?_) ?_ ?_ (vw_u3 hn8 hh _ (kp_vw hv)) (fun j hj => ?_)
    · funext j; rw [hp_u_nk _ _ (by omega)]
    · funext j; rw [hp_u_nk _ _ (by omega)]; exact congrFun (kp_o _ _ _ (by omega) (by omega)) j
    · rw [hp_u_nk _ _ (by omega)]; exact congrFun (kp_o _ _ _ (by omega) (by omega)) 12
    · rw [up_ne (by omega)]
theorem oC_hang {E : sxE} {A : AS} {w : hpW} (V : AV A) (H : CR A w) (x v : Int32) : oC E mX11_hang 4 [.ref 16, .int x, .int v] w A (q_hang A x v).1 (q_hang A x v).2 := by
  intro Q h2
  have hn8 := V.2.2.1.1
  obtain ⟨t, p, C, c3⟩ := CN_of V H
  have hp4 := C.2.2.2.2.2.2.1
  have ew : whang (a_n A) x v (hp_i w 62 x.toNatClampNeg) (hp_i w 57 8) = whang (a_n A) x v (a_r A (24 + x.toNatClampNeg)) (a_r A 41) := whang_cg (fun z => by
    have hv := CR_vw H (ih_pos hn8 z)
    exact ⟨(hv.1 _ (ih_cl hn8 z).1).2.2.2.1, hv.2.2.1⟩)
  refine c_X11_hang C (fun hw => ?_) (fun hw h hh e1 => ?_)
  · rw [ew] at hw ⊢
    rw [q_hang, if_neg hw] at h2
    exact h2 _ (CR_rj V H) fR_rj
  · rw [ew] at hw
    rw [q_hang, if_pos hw] at h2
    subst e1
    rw [nI_clamp (by omega)] at h2
    have h0 : 0 < a_n A := by omega
    have hv := CR_vw H h0
    rw [(hv.1 h hh).2.2.2.1, hv.2.2.1]
    refine CR_kpq V H C h0 h2 (fun b hb => ?_) ?_ ?_ (by rw [up_cm _ _ _ (by omega)]; exact vw_f8 hn8 _ (vw_u5 hn8 hh _ (kp_vw hv))) (fun j hj => ?_)
    · funext j; rw [hp_u_nk _ _ (by omega), hp_u_nk _ _ (by omega)]
    · funext j; rw [hp_u_nk _ _ (by omega), hp_u_nk _ _ (by omega)]; exact congrFun (kp_o _ _ _ (by omega) (by omega)) j
    · rw [hp_u_nk _ _ (by omega), hp_u_nk _ _ (by omega)]; exact congrFun (kp_o _ _ _ (by omega) (by omega)) 12
    · rw [up_ne (by omega), up_ne (by omega)]
theorem oC_whiten {E : sxE} {A : AS} {w : hpW} (V : AV A) (H : CR A w) (x : Int32) : oC E mX11_whiten 4 [.ref 16, .int x] w A (q_whiten A x).1 (q_whiten A x).2 := by
  intro Q h2
  have hn8 := V.2.2.1.1
  obtain ⟨t, p, C, c3⟩ := CN_of V H
  have hp4 := C.2.2.2.2.2.2.1
  have ew : wwhit (a_n A) x (hp_i w 61 x.toNatClampNeg) (hp_i w 57 8) = wwhit (a_n A) x (a_r A (16 + x.toNatClampNeg)) (a_r A 41) := wwhit_cg (fun z => by
    have hv := CR_vw H (ih_pos hn8 z)
    exact ⟨(hv.1 _ (ih_cl hn8 z).1).2.2.1, hv.2.2.1⟩)
  refine c_X11_whiten C (fun hw => ?_) (fun hw h hh e1 => ?_)
  · rw [ew] at hw ⊢
    rw [q_whiten, if_neg hw] at h2
    exact h2 _ (CR_rj V H) fR_rj
  · rw [ew] at hw
    rw [q_whiten, if_pos hw] at h2
    subst e1
    rw [nI_clamp (by omega)] at h2
    have h0 : 0 < a_n A := by omega
    have hv := CR_vw H h0
    rw [(hv.1 h hh).2.2.1, hv.2.2.1]
    refine CR_kpq V H C h0 h2 (fun b hb => ?_) ?_ ?_ (vw_f8 hn8 _ (vw_u4 hn8 hh _ (kp_vw hv))) (fun j hj => ?_)
    · funext j; rw [hp_u_nk _ _ (by omega), hp_u_nk _ _ (by omega)]
    · funext j; rw [hp_u_nk _ _ (by omega), hp_u_nk _ _ (by omega)]; exact congrFun (kp_o _ _ _ (by omega) (by omega)) j
    · rw [hp_u_nk _ _ (by omega), hp_u_nk _ _ (by omega)]; exact congrFun (kp_o _ _ _ (by omega) (by omega)) 12
    · rw [up_ne (by omega), up_ne (by omega)]
theorem oC_piano {E : sxE} {A : AS} {w : hpW} (V : AV A) (H : CR A w) (x : Int32) : oC E mX11_piano 4 [.ref 16, .int x] w A (q_piano A x).1 (q_piano A x).2 := by
  intro Q h2
  have hn8 := V.2.2.1.1
  obtain ⟨t, p, C, c3⟩ := CN_of V H
  have hp4 := C.2.2.2.2.2.2.1
  have ew : wpian (a_n A) x (hp_i w 57 7) (hp_i w 57 8) = wpian (a_n A) x (a_r A 40) (a_r A 41) := wpian_cg (fun z => by
    have hv := CR_vw H (ih_pos hn8 z)
    exact ⟨hv.2.1, hv.2.2.1⟩)
  refine c_X11_piano C (fun hw => ?_) (fun hw h hh e1 => ?_)
  · rw [ew] at hw ⊢
    rw [q_piano, if_neg hw] at h2
    exact h2 _ (CR_rj V H) fR_rj
  · rw [ew] at hw
    rw [q_piano, if_pos hw] at h2
    subst e1
    rw [nI_clamp (by omega)] at h2
    have h0 : 0 < a_n A := by omega
    have hv := CR_vw H h0
    rw [hv.2.1, hv.2.2.1]
    refine CR_kpq V H C h0 h2 (fun b hb => ?_) ?_ ?_ (vw_f8 hn8 _ (vw_f7 hn8 _ (kp_vw hv))) (fun j hj => ?_)
    · funext j; rw [hp_u_nk _ _ (by omega), hp_u_nk _ _ (by omega)]
    · funext j; rw [hp_u_nk _ _ (by omega), hp_u_nk _ _ (by omega)]; exact congrFun (kp_o _ _ _ (by omega) (by omega)) j
    · rw [hp_u_nk _ _ (by omega), hp_u_nk _ _ (by omega)]; exact congrFun (kp_o _ _ _ (by omega) (by omega)) 12
    · rw [up_ne (by omega), up_ne (by omega)]
theorem oC_give {E : sxE} {A : AS} {w : hpW} (V : AV A) (H : CR A w) (v : Int32) : oC E mX11_give 4 [.ref 16, .int v] w A (q_give A v).1 (q_give A v).2 := by
  intro Q h2
  have hn8 := V.2.2.1.1
  obtain ⟨t, p, C, c3⟩ := CN_of V H
  have hp4 := C.2.2.2.2.2.2.1
  have ew : wgive (a_n A) v (hp_i w 57 8) = wgive (a_n A) v (a_r A 41) := wgive_cg (fun z => by
    exact (CR_vw H z).2.2.1)
  refine c_X11_give C (fun hw => ?_) (fun hw => ?_)
  · rw [ew] at hw ⊢
    rw [q_give, if_neg hw] at h2
    exact h2 _ (CR_rj V H) fR_rj
  · rw [ew] at hw
    rw [q_give, if_pos hw] at h2
    have h0 : 0 < a_n A := (by rcases Nat.eq_zero_or_pos (a_n A) with z | z; (exfalso; rw [wgive, if_pos z] at hw; exact absurd hw (by decide)); exact z)
    have hv := CR_vw H h0
    rw [hv.2.2.1]
    refine CR_kpq V H C h0 h2 (fun b hb => ?_) ?_ ?_ (vw_f8 hn8 _ (kp_vw hv)) (fun j hj => ?_)
    · funext j; rw [hp_u_nk _ _ (by omega)]
    · funext j; rw [hp_u_nk _ _ (by omega)]; exact congrFun (kp_o _ _ _ (by omega) (by omega)) j
    · rw [hp_u_nk _ _ (by omega)]; exact congrFun (kp_o _ _ _ (by omega) (by omega)) 12
    · rw [up_ne (by omega)]
theorem oC_move {E : sxE} {A : AS} {w : hpW} (V : AV A) (H : CR A w) (x y : Int32) : oC E mX11_move 4 [.ref 16, .int x, .int y] w A (q_move A x y).1 (q_move A x y).2 := by
  intro Q h2
  have hn8 := V.2.2.1.1
  obtain ⟨t, p, C, c3⟩ := CN_of V H
  have hp4 := C.2.2.2.2.2.2.1
  have ew : wmove (a_n A) x y (hp_i w 63 y.toNatClampNeg) (hp_i w 63 x.toNatClampNeg) = wmove (a_n A) x y (a_r A (32 + y.toNatClampNeg)) (a_r A (32 + x.toNatClampNeg)) := wmove_cg (fun z y => by
    have hv := CR_vw H (ih_pos hn8 z)
    exact ⟨(hv.1 _ (ih_cl hn8 y).1).2.2.2.2, (hv.1 _ (ih_cl hn8 z).1).2.2.2.2⟩)
  refine c_X11_move C (fun hw => ?_) (fun hw h o hh ho hne e1 e2 => ?_)
  · rw [ew] at hw ⊢
    rw [q_move, if_neg hw] at h2
    exact h2 _ (CR_rj V H) fR_rj
  · rw [ew] at hw
    rw [q_move, if_pos hw] at h2
    subst e1 e2
    rw [nI_clamp (by omega), nI_clamp (by omega)] at h2
    have h0 : 0 < a_n A := by omega
    have hv := CR_vw H h0
    rw [(hv.1 h hh).2.2.2.2, (hv.1 o ho).2.2.2.2]
    refine CR_kpq V H C h0 h2 (fun b hb => ?_) ?_ ?_ (vw_u6 hn8 ho _ (vw_u6 hn8 hh _ (kp_vw hv))) (fun j hj => ?_)
    · funext j; rw [hp_u_nk _ _ (by omega), hp_u_nk _ _ (by omega)]
    · funext j; rw [hp_u_nk _ _ (by omega), hp_u_nk _ _ (by omega)]; exact congrFun (kp_o _ _ _ (by omega) (by omega)) j
    · rw [hp_u_nk _ _ (by omega), hp_u_nk _ _ (by omega)]; exact congrFun (kp_o _ _ _ (by omega) (by omega)) 12
    · rw [up_ne (by omega), up_ne (by omega)]

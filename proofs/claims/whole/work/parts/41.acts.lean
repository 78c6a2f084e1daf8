/-! the acts of the class -/
/-- what a call of the class begins with: layout, the street told at t with n houses, the ring of acts at p with z kept -/
def CN (w : hpW) (t n p z : Nat) : Prop := ly_B w ∧ hp_r w 16 4 = some t ∧ is_St w t ∧ hp_i w t 0 = nI n ∧ n ≤ 8 ∧ hp_i w 75 1 = nI p ∧ p < 40 ∧ hp_i w 75 2 = nI z ∧ z ≤ 40 ∧ hp_r w 57 0 = some t ∧ (t = 53 ∨ t = 55)
/-- refused for reason k: one more of it -/
def rf_ (w : hpW) (k : Nat) : hpW := hp_wi w (hp_u (hp_i w) 377 k (hp_i w 377 k + 1))
/-- kept, then changed to I -/
def kq_ (w : hpW) (t p : Nat) (I : Nat → Nat → Int32) : hpW := hp_wr w (hp_u (hp_r w) (77 + 7 * p) 0 (some t)) I
theorem kq_B {w : hpW} (hB : ly_B w) {p : Nat} (hp : p < 40) (t : Nat) (I : Nat → Nat → Int32) : ly_B (kq_ w t p I) := ly_wr hB (ly_ru hB.2 (ly_p0 p hp) _) _
theorem kp_i (I : Nat → Nat → Int32) (p z : Nat) {b : Nat} (h1 : 57 ≤ b) (h2 : b ≤ 63) (j : Nat) : kp_ I p z b j = I b j := by
  unfold kp_
  rw [hp_u_nk _ _ (by omega), hp_u_nk _ _ (by omega)]
  unfold cp_
  rw [if_neg (by omega), if_neg (by omega)]
def wsham (n : Nat) (x v cur : Int32) : Int32 := if ih_ n x = 0 then 0 else if v < -9 ∨ 9 < v then 1 else if cur = v then 2 else -1
def whang (n : Nat) (x v cur co : Int32) : Int32 := if ih_ n x = 0 then 0 else if v < 0 ∨ 9 < v then 1 else if cur = v then 2 else if co < mx_ 0 (v - cur) then 3 else -1
def wwhit (n : Nat) (x cur co : Int32) : Int32 := if ih_ n x = 0 then 0 else if 9 ≤ cur then 2 else if co < 2 then 3 else -1
def wpian (n : Nat) (x pi co : Int32) : Int32 := if ih_ n x = 0 then 0 else if ¬ (pi >>> (x &&& 31)) &&& 1 = 0 then 2 else if co < 3 then 3 else -1
def wgive (n : Nat) (v co : Int32) : Int32 := if n = 0 then 0 else if v < 1 ∨ 50 < v ∨ 999 < co + v then 1 else -1
set_option maxHeartbeats 2000000 in
set_option maxRecDepth 20000 in
theorem c_X11_sham {E : sxE} {w : hpW} {Q : Option Value → hpW → Prop} {t n p z : Nat} (C : CN w t n p z) {x v : Int32} (h0 : ¬ wsham n x v (hp_i w 60 x.toNatClampNeg) = -1 → Q (some (.int (-1000000))) (rf_ w (wsham n x v (hp_i w 60 x.toNatClampNeg)).toNatClampNeg)) (h1 : wsham n x v (hp_i w 60 x.toNatClampNeg) = -1 → ∀ h, h < n → x = nI h → Q (some (.int v)) (kq_ w t p (hp_u (kp_ (hp_i w) p z) 60 h v))) : sx_C E mX11_sham 4 0 0 [.ref 16, .int x, .int v] w Q := by
  obtain ⟨hB, ht, hst, hn, hn8, hp, hp4, hz, hz4, ht57, ht2⟩ := C
  refine C_of (by decide +kernel) (Nat.le_of_ble_eq_true rfl) ?_
  refine V_aload_n (i := 0) (sx_di dX11_sham 0 rfl) rfl rfl ?_
  refine V_iload_n (i := 1) (sx_di dX11_sham 1 rfl) rfl rfl ?_
  refine V_cV1 (mc' := 0) (ms' := 0) (M' := mX11_isHouse) 1 (sx_di dX11_sham 2 rfl) lX11_170 vX11_isHouse (hB.k _ rfl) (by decide) rfl (Nat.le_of_ble_eq_true rfl) ⟨Nat.le_of_ble_eq_true rfl, Nat.le_of_ble_eq_true rfl⟩ ⟨Nat.le_refl _, Nat.le_refl _⟩ ?_
  refine c_X11_isHouse hB ht hst hn hn8 ?_
  refine V_if_ne (tgt := 16) (sx_di dX11_sham 3 rfl) (by decide) (fun h5 => ?_) (fun h5 => ?_)
  · obtain ⟨h, hh, rfl⟩ := ih_ye (by omega) h5
    have hi : vp_in (nI h) 8 := vp_in_nI (by omega) (by decide)
    have hc : (nI h).toNatClampNeg = h := nI_clamp (by omega)
    refine V_iload_n (i := 2) (sx_di dX11_sham 9 rfl) rfl rfl ?_
    refine V_bipush (v := -9) (sx_di dX11_sham 10 rfl) (by decide) ?_
    refine V_icmp_lt (tgt := 28) (sx_di dX11_sham 11 rfl) (by decide) (fun h19 => ?_) (fun h19 => ?_)
    · refine V_aload_n (i := 0) (sx_di dX11_sham 15 rfl) rfl rfl ?_
      refine V_iconst (v := 1) (sx_di dX11_sham 16 rfl) (by decide) ?_
      refine V_ldc (sx_di dX11_sham 17 rfl) kX11_217 ?_
      refine V_cV2 (mc' := 0) (ms' := 0) (M' := mX11_refused) 1 (sx_di dX11_sham 18 rfl) lX11_249 vX11_refused (hB.k _ rfl) (by decide) rfl (Nat.le_of_ble_eq_true rfl) ⟨Nat.le_of_ble_eq_true rfl, Nat.le_of_ble_eq_true rfl⟩ ⟨Nat.le_refl _, Nat.le_refl _⟩ ?_
      refine c_X11_refused hB (k := 1) (by decide) ?_
      refine V_iret (sx_di dX11_sham 19 rfl) rfl (Nat.le_refl _) (Nat.le_refl _) ?_
      have e : wsham n (nI h) v (hp_i w 60 (nI h).toNatClampNeg) = 1 := by rw [wsham, if_neg h5, if_pos (Or.inl h19)]
      have q := h0 (by rw [e]; decide)
      rw [e] at q
      exact q
    · refine V_iload_n (i := 2) (sx_di dX11_sham 12 rfl) rfl rfl ?_
      refine V_bipush (v := 9) (sx_di dX11_sham 13 rfl) (by decide) ?_
      refine V_icmp_le (tgt := 36) (sx_di dX11_sham 14 rfl) (by decide) (fun h25 => ?_) (fun h25 => ?_)
      · have h25 : ¬ (v < -9 ∨ 9 < v) := fun q => q.elim h19 (Int32.not_lt.mpr h25)
        refine V_aload_n (i := 0) (sx_di dX11_sham 20 rfl) rfl rfl ?_
        refine V_getR (sx_di dX11_sham 21 rfl) fX11_60 (fun _ => rfl) (hB.k _ rfl) (hB.r _ _ rfl) ?_
        refine V_getR (sx_di dX11_sham 22 rfl) fX11_189 (fun _ => rfl) (hB.k _ rfl) (hB.r _ _ rfl) ?_
        refine V_iload_n (i := 1) (sx_di dX11_sham 23 rfl) rfl rfl ?_
        refine V_iald (sx_di dX11_sham 24 rfl) (hB.k _ rfl) (hi) ?_
        refine V_iload_n (i := 2) (sx_di dX11_sham 25 rfl) rfl rfl ?_
        refine V_icmp_ne (tgt := 57) (sx_di dX11_sham 26 rfl) (by decide) (fun h46 => ?_) (fun h46 => ?_)
        · refine V_aload_n (i := 0) (sx_di dX11_sham 32 rfl) rfl rfl ?_
          refine V_getR (sx_di dX11_sham 33 rfl) fX11_77 (fun _ => rfl) (hB.k _ rfl) (hB.r _ _ rfl) ?_
          refine V_aload_n (i := 0) (sx_di dX11_sham 34 rfl) rfl rfl ?_
          refine V_getR (sx_di dX11_sham 35 rfl) fX11_60 (fun _ => rfl) (hB.k _ rfl) (hB.r _ _ rfl) ?_
          refine V_cV1 (mc' := 0) (ms' := 0) (M' := mX6_keep) 3 (sx_di dX11_sham 36 rfl) lX11_252 vX6_keep (hB.k _ rfl) (by decide) rfl (Nat.le_of_ble_eq_true rfl) ⟨Nat.le_of_ble_eq_true rfl, Nat.le_of_ble_eq_true rfl⟩ ⟨Nat.le_refl _, Nat.le_refl _⟩ ?_
          refine c_X6_keep hB hp hp4 hz hz4 ht57 ?_
          refine V_eq (w' := kq_ w t p (kp_ (hp_i w) p z)) rfl rfl rfl rfl ?_
          have hB2 : ly_B (kq_ w t p (kp_ (hp_i w) p z)) := kq_B hB hp4 t _
          refine V_aload_n (i := 0) (sx_di dX11_sham 37 rfl) rfl rfl ?_
          refine V_getR (sx_di dX11_sham 38 rfl) fX11_60 (fun _ => rfl) (hB2.k _ rfl) (hB2.r _ _ rfl) ?_
          refine V_getR (sx_di dX11_sham 39 rfl) fX11_189 (fun _ => rfl) (hB2.k _ rfl) (hB2.r _ _ rfl) ?_
          refine V_iload_n (i := 1) (sx_di dX11_sham 40 rfl) rfl rfl ?_
          refine V_iload_n (i := 2) (sx_di dX11_sham 41 rfl) rfl rfl ?_
          refine V_iast (sx_di dX11_sham 42 rfl) (hB2.k _ rfl) (hi) ?_
          rw [hc]
          refine V_iload_n (i := 2) (sx_di dX11_sham 43 rfl) rfl rfl ?_
          refine V_iret (sx_di dX11_sham 44 rfl) rfl (Nat.le_refl _) (Nat.le_refl _) ?_
          have e : wsham n (nI h) v (hp_i w 60 (nI h).toNatClampNeg) = -1 := by rw [wsham, if_neg h5, if_neg h25, if_neg h46]
          have q := h1 e h hh rfl
          exact q
        · refine V_aload_n (i := 0) (sx_di dX11_sham 27 rfl) rfl rfl ?_
          refine V_iconst (v := 2) (sx_di dX11_sham 28 rfl) (by decide) ?_
          refine V_ldc (sx_di dX11_sham 29 rfl) kX11_217 ?_
          refine V_cV2 (mc' := 0) (ms' := 0) (M' := mX11_refused) 1 (sx_di dX11_sham 30 rfl) lX11_249 vX11_refused (hB.k _ rfl) (by decide) rfl (Nat.le_of_ble_eq_true rfl) ⟨Nat.le_of_ble_eq_true rfl, Nat.le_of_ble_eq_true rfl⟩ ⟨Nat.le_refl _, Nat.le_refl _⟩ ?_
          refine c_X11_refused hB (k := 2) (by decide) ?_
          refine V_iret (sx_di dX11_sham 31 rfl) rfl (Nat.le_refl _) (Nat.le_refl _) ?_
          have e : wsham n (nI h) v (hp_i w 60 (nI h).toNatClampNeg) = 2 := by rw [wsham, if_neg h5, if_neg h25, if_pos h46]
          have q := h0 (by rw [e]; decide)
          rw [e] at q
          exact q
      · refine V_aload_n (i := 0) (sx_di dX11_sham 15 rfl) rfl rfl ?_
        refine V_iconst (v := 1) (sx_di dX11_sham 16 rfl) (by decide) ?_
        refine V_ldc (sx_di dX11_sham 17 rfl) kX11_217 ?_
        refine V_cV2 (mc' := 0) (ms' := 0) (M' := mX11_refused) 1 (sx_di dX11_sham 18 rfl) lX11_249 vX11_refused (hB.k _ rfl) (by decide) rfl (Nat.le_of_ble_eq_true rfl) ⟨Nat.le_of_ble_eq_true rfl, Nat.le_of_ble_eq_true rfl⟩ ⟨Nat.le_refl _, Nat.le_refl _⟩ ?_
        refine c_X11_refused hB (k := 1) (by decide) ?_
        refine V_iret (sx_di dX11_sham 19 rfl) rfl (Nat.le_refl _) (Nat.le_refl _) ?_
        have e : wsham n (nI h) v (hp_i w 60 (nI h).toNatClampNeg) = 1 := by rw [wsham, if_neg h5, if_pos (Or.inr (Int32.not_le.mp h25))]
        have q := h0 (by rw [e]; decide)
        rw [e] at q
        exact q
  · refine V_aload_n (i := 0) (sx_di dX11_sham 4 rfl) rfl rfl ?_
    refine V_iconst (v := 0) (sx_di dX11_sham 5 rfl) (by decide) ?_
    refine V_ldc (sx_di dX11_sham 6 rfl) kX11_217 ?_
    refine V_cV2 (mc' := 0) (ms' := 0) (M' := mX11_refused) 1 (sx_di dX11_sham 7 rfl) lX11_249 vX11_refused (hB.k _ rfl) (by decide) rfl (Nat.le_of_ble_eq_true rfl) ⟨Nat.le_of_ble_eq_true rfl, Nat.le_of_ble_eq_true rfl⟩ ⟨Nat.le_refl _, Nat.le_refl _⟩ ?_
    refine c_X11_refused hB (k := 0) (by decide) ?_
    refine V_iret (sx_di dX11_sham 8 rfl) rfl (Nat.le_refl _) (Nat.le_refl _) ?_
    have e : wsham n x v (hp_i w 60 x.toNatClampNeg) = 0 := by rw [wsham, if_pos (show ih_ n x = 0 from h5)]
    have q := h0 (by rw [e]; decide)
    rw [e] at q
    exact q
theorem kq_i (w : hpW) (t p z : Nat) {b : Nat} (h : 57 ≤ b ∧ b ≤ 63) (j : Nat) : hp_i (kq_ w t p (kp_ (hp_i w) p z)) b j = hp_i w b j := kp_i (hp_i w) p z h.1 h.2 j
theorem hp_i_at (w : hpW) (a k : Nat) (x : Int32) : hp_i (hp_si w a k x) a k = x := by rw [hp_i_si, if_pos ⟨rfl, rfl⟩]
set_option maxHeartbeats 2000000 in
set_option maxRecDepth 20000 in
theorem c_X11_hang {E : sxE} {w : hpW} {Q : Option Value → hpW → Prop} {t n p z : Nat} (C : CN w t n p z) {x v : Int32} (h0 : ¬ whang n x v (hp_i w 62 x.toNatClampNeg) (hp_i w 57 8) = -1 → Q (some (.int (-1))) (rf_ w (whang n x v (hp_i w 62 x.toNatClampNeg) (hp_i w 57 8)).toNatClampNeg)) (h1 : whang n x v (hp_i w 62 x.toNatClampNeg) (hp_i w 57 8) = -1 → ∀ h, h < n → x = nI h → Q (some (.int (hp_i w 57 8 - mx_ 0 (v - hp_i w 62 h)))) (kq_ w t p (hp_u (hp_u (kp_ (hp_i w) p z) 62 h v) 57 8 (hp_i w 57 8 - mx_ 0 (v - hp_i w 62 h))))) : sx_C E mX11_hang 4 0 0 [.ref 16, .int x, .int v] w Q := by
  obtain ⟨hB, ht, hst, hn, hn8, hp, hp4, hz, hz4, ht57, ht2⟩ := C
  refine C_of (by decide +kernel) (Nat.le_of_ble_eq_true rfl) ?_
  refine V_aload_n (i := 0) (sx_di dX11_hang 0 rfl) rfl rfl ?_
  refine V_iload_n (i := 1) (sx_di dX11_hang 1 rfl) rfl rfl ?_
  refine V_cV1 (mc' := 0) (ms' := 0) (M' := mX11_isHouse) 1 (sx_di dX11_hang 2 rfl) lX11_170 vX11_isHouse (hB.k _ rfl) (by decide) rfl (Nat.le_of_ble_eq_true rfl) ⟨Nat.le_of_ble_eq_true rfl, Nat.le_of_ble_eq_true rfl⟩ ⟨Nat.le_refl _, Nat.le_refl _⟩ ?_
  refine c_X11_isHouse hB ht hst hn hn8 ?_
  refine V_if_ne (tgt := 15) (sx_di dX11_hang 3 rfl) (by decide) (fun h5 => ?_) (fun h5 => ?_)
  · obtain ⟨h, hh, rfl⟩ := ih_ye (by omega) h5
    have hi : vp_in (nI h) 8 := vp_in_nI (by omega) (by decide)
    have hc : (nI h).toNatClampNeg = h := nI_clamp (by omega)
    refine V_iload_n (i := 2) (sx_di dX11_hang 9 rfl) rfl rfl ?_
    refine V_if_lt (tgt := 25) (sx_di dX11_hang 10 rfl) (by decide) (fun h16 => ?_) (fun h16 => ?_)
    · refine V_aload_n (i := 0) (sx_di dX11_hang 14 rfl) rfl rfl ?_
      refine V_iconst (v := 1) (sx_di dX11_hang 15 rfl) (by decide) ?_
      refine V_iconst (v := -1) (sx_di dX11_hang 16 rfl) (by decide) ?_
      refine V_cV2 (mc' := 0) (ms' := 0) (M' := mX11_refused) 1 (sx_di dX11_hang 17 rfl) lX11_249 vX11_refused (hB.k _ rfl) (by decide) rfl (Nat.le_of_ble_eq_true rfl) ⟨Nat.le_of_ble_eq_true rfl, Nat.le_of_ble_eq_true rfl⟩ ⟨Nat.le_refl _, Nat.le_refl _⟩ ?_
      refine c_X11_refused hB (k := 1) (by decide) ?_
      refine V_iret (sx_di dX11_hang 18 rfl) rfl (Nat.le_refl _) (Nat.le_refl _) ?_
      have e : whang n (nI h) v (hp_i w 62 (nI h).toNatClampNeg) (hp_i w 57 8) = 1 := by rw [whang, if_neg h5, if_pos (Or.inl h16)]
      have q := h0 (by rw [e]; decide)
      rw [e] at q
      exact q
    · refine V_iload_n (i := 2) (sx_di dX11_hang 11 rfl) rfl rfl ?_
      refine V_bipush (v := 9) (sx_di dX11_hang 12 rfl) (by decide) ?_
      refine V_icmp_le (tgt := 32) (sx_di dX11_hang 13 rfl) (by decide) (fun h22 => ?_) (fun h22 => ?_)
      · have h23 : ¬ (v < 0 ∨ 9 < v) := fun q => q.elim h16 (Int32.not_lt.mpr h22)
        refine V_aload_n (i := 0) (sx_di dX11_hang 19 rfl) rfl rfl ?_
        refine V_getR (sx_di dX11_hang 20 rfl) fX11_60 (fun _ => rfl) (hB.k _ rfl) (hB.r _ _ rfl) ?_
        refine V_getR (sx_di dX11_hang 21 rfl) fX11_183 (fun _ => rfl) (hB.k _ rfl) (hB.r _ _ rfl) ?_
        refine V_iload_n (i := 1) (sx_di dX11_hang 22 rfl) rfl rfl ?_
        refine V_iald (sx_di dX11_hang 23 rfl) (hB.k _ rfl) (hi) ?_
        refine V_iload_n (i := 2) (sx_di dX11_hang 24 rfl) rfl rfl ?_
        refine V_icmp_ne (tgt := 52) (sx_di dX11_hang 25 rfl) (by decide) (fun h42 => ?_) (fun h42 => ?_)
        · refine V_iconst (v := 0) (sx_di dX11_hang 31 rfl) (by decide) ?_
          refine V_iload_n (i := 2) (sx_di dX11_hang 32 rfl) rfl rfl ?_
          refine V_aload_n (i := 0) (sx_di dX11_hang 33 rfl) rfl rfl ?_
          refine V_getR (sx_di dX11_hang 34 rfl) fX11_60 (fun _ => rfl) (hB.k _ rfl) (hB.r _ _ rfl) ?_
          refine V_getR (sx_di dX11_hang 35 rfl) fX11_183 (fun _ => rfl) (hB.k _ rfl) (hB.r _ _ rfl) ?_
          refine V_iload_n (i := 1) (sx_di dX11_hang 36 rfl) rfl rfl ?_
          refine V_iald (sx_di dX11_hang 37 rfl) (hB.k _ rfl) (hi) ?_
          refine V_isub (sx_di dX11_hang 38 rfl) ?_
          refine V_mmax (sx_di dX11_hang 39 rfl) (sx_a3 185 rfl rfl) (sx_a3 186 rfl rfl) (sx_a1 22 rfl rfl) (sx_a3 187 rfl rfl) ⟨Nat.le_of_ble_eq_true rfl, Nat.le_of_ble_eq_true rfl, Nat.le_refl _, Nat.le_refl _⟩ ?_
          refine V_istore_n (i := 3) (sx_di dX11_hang 40 rfl) rfl (by decide) (rfl) ?_
          refine V_aload_n (i := 0) (sx_di dX11_hang 41 rfl) rfl rfl ?_
          refine V_getR (sx_di dX11_hang 42 rfl) fX11_60 (fun _ => rfl) (hB.k _ rfl) (hB.r _ _ rfl) ?_
          refine V_getI (sx_di dX11_hang 43 rfl) fX11_167 (fun _ => rfl) (hB.k _ rfl) ?_
          refine V_iload_n (i := 3) (sx_di dX11_hang 44 rfl) rfl rfl ?_
          refine V_icmp_ge (tgt := 86) (sx_di dX11_hang 45 rfl) (by decide) (fun h76 => ?_) (fun h76 => ?_)
          · have h77 : ¬ hp_i w 57 8 < mx_ 0 (v - hp_i w 62 (nI h).toNatClampNeg) := Int32.not_lt.mpr h76
            rw [hc]
            have e8 : hp_i (hp_si (kq_ w t p (kp_ (hp_i w) p z)) 62 h v) 57 8 = hp_i w 57 8 := by rw [hp_i_si, if_neg (by omega)]; exact kq_i w t p z (by decide) 8
            refine V_aload_n (i := 0) (sx_di dX11_hang 51 rfl) rfl rfl ?_
            refine V_getR (sx_di dX11_hang 52 rfl) fX11_77 (fun _ => rfl) (hB.k _ rfl) (hB.r _ _ rfl) ?_
            refine V_aload_n (i := 0) (sx_di dX11_hang 53 rfl) rfl rfl ?_
            refine V_getR (sx_di dX11_hang 54 rfl) fX11_60 (fun _ => rfl) (hB.k _ rfl) (hB.r _ _ rfl) ?_
            refine V_cV1 (mc' := 0) (ms' := 0) (M' := mX6_keep) 3 (sx_di dX11_hang 55 rfl) lX11_252 vX6_keep (hB.k _ rfl) (by decide) rfl (Nat.le_of_ble_eq_true rfl) ⟨Nat.le_of_ble_eq_true rfl, Nat.le_of_ble_eq_true rfl⟩ ⟨Nat.le_refl _, Nat.le_refl _⟩ ?_
            refine c_X6_keep hB hp hp4 hz hz4 ht57 ?_
            refine V_eq (w' := kq_ w t p (kp_ (hp_i w) p z)) rfl rfl rfl rfl ?_
            have hB2 : ly_B (kq_ w t p (kp_ (hp_i w) p z)) := kq_B hB hp4 t _
            refine V_aload_n (i := 0) (sx_di dX11_hang 56 rfl) rfl rfl ?_
            refine V_getR (sx_di dX11_hang 57 rfl) fX11_60 (fun _ => rfl) (hB2.k _ rfl) (hB2.r _ _ rfl) ?_
            refine V_getR (sx_di dX11_hang 58 rfl) fX11_183 (fun _ => rfl) (hB2.k _ rfl) (hB2.r _ _ rfl) ?_
            refine V_iload_n (i := 1) (sx_di dX11_hang 59 rfl) rfl rfl ?_
            refine V_iload_n (i := 2) (sx_di dX11_hang 60 rfl) rfl rfl ?_
            refine V_iast (sx_di dX11_hang 61 rfl) (hB2.k _ rfl) (hi) ?_
            rw [hc]
            refine V_aload_n (i := 0) (sx_di dX11_hang 62 rfl) rfl rfl ?_
            refine V_getR (sx_di dX11_hang 63 rfl) fX11_60 (fun _ => rfl) (hB2.k _ rfl) (hB2.r _ _ rfl) ?_
            refine V_dup (sx_di dX11_hang 64 rfl) rfl ?_
            refine V_getI (sx_di dX11_hang 65 rfl) fX11_167 (fun _ => rfl) (hB2.k _ rfl) ?_
            rw [e8]
            refine V_iload_n (i := 3) (sx_di dX11_hang 66 rfl) rfl rfl ?_
            refine V_isub (sx_di dX11_hang 67 rfl) ?_
            refine V_putI (sx_di dX11_hang 68 rfl) fX11_167 (fun _ => rfl) rfl (hB2.k _ rfl) (rfl) (rfl) ?_
            refine V_aload_n (i := 0) (sx_di dX11_hang 69 rfl) rfl rfl ?_
            refine V_getR (sx_di dX11_hang 70 rfl) fX11_60 (fun _ => rfl) (hB2.k _ rfl) (hB2.r _ _ rfl) ?_
            refine V_getI (sx_di dX11_hang 71 rfl) fX11_167 (fun _ => rfl) (hB2.k _ rfl) ?_
            rw [hp_i_at]
            refine V_iret (sx_di dX11_hang 72 rfl) rfl (Nat.le_refl _) (Nat.le_refl _) ?_
            have e : whang n (nI h) v (hp_i w 62 (nI h).toNatClampNeg) (hp_i w 57 8) = -1 := by rw [whang, if_neg h5, if_neg h23, if_neg h42, if_neg h77]
            exact h1 e h hh rfl
          · refine V_aload_n (i := 0) (sx_di dX11_hang 46 rfl) rfl rfl ?_
            refine V_iconst (v := 3) (sx_di dX11_hang 47 rfl) (by decide) ?_
            refine V_iconst (v := -1) (sx_di dX11_hang 48 rfl) (by decide) ?_
            refine V_cV2 (mc' := 0) (ms' := 0) (M' := mX11_refused) 1 (sx_di dX11_hang 49 rfl) lX11_249 vX11_refused (hB.k _ rfl) (by decide) rfl (Nat.le_of_ble_eq_true rfl) ⟨Nat.le_of_ble_eq_true rfl, Nat.le_of_ble_eq_true rfl⟩ ⟨Nat.le_refl _, Nat.le_refl _⟩ ?_
            refine c_X11_refused hB (k := 3) (by decide) ?_
            refine V_iret (sx_di dX11_hang 50 rfl) rfl (Nat.le_refl _) (Nat.le_refl _) ?_
            have e : whang n (nI h) v (hp_i w 62 (nI h).toNatClampNeg) (hp_i w 57 8) = 3 := by rw [whang, if_neg h5, if_neg h23, if_neg h42, if_pos (Int32.not_le.mp h76)]
            have q := h0 (by rw [e]; decide)
            rw [e] at q
            exact q
        · refine V_aload_n (i := 0) (sx_di dX11_hang 26 rfl) rfl rfl ?_
          refine V_iconst (v := 2) (sx_di dX11_hang 27 rfl) (by decide) ?_
          refine V_iconst (v := -1) (sx_di dX11_hang 28 rfl) (by decide) ?_
          refine V_cV2 (mc' := 0) (ms' := 0) (M' := mX11_refused) 1 (sx_di dX11_hang 29 rfl) lX11_249 vX11_refused (hB.k _ rfl) (by decide) rfl (Nat.le_of_ble_eq_true rfl) ⟨Nat.le_of_ble_eq_true rfl, Nat.le_of_ble_eq_true rfl⟩ ⟨Nat.le_refl _, Nat.le_refl _⟩ ?_
          refine c_X11_refused hB (k := 2) (by decide) ?_
          refine V_iret (sx_di dX11_hang 30 rfl) rfl (Nat.le_refl _) (Nat.le_refl _) ?_
          have e : whang n (nI h) v (hp_i w 62 (nI h).toNatClampNeg) (hp_i w 57 8) = 2 := by rw [whang, if_neg h5, if_neg h23, if_pos h42]
          have q := h0 (by rw [e]; decide)
          rw [e] at q
          exact q
      · refine V_aload_n (i := 0) (sx_di dX11_hang 14 rfl) rfl rfl ?_
        refine V_iconst (v := 1) (sx_di dX11_hang 15 rfl) (by decide) ?_
        refine V_iconst (v := -1) (sx_di dX11_hang 16 rfl) (by decide) ?_
        refine V_cV2 (mc' := 0) (ms' := 0) (M' := mX11_refused) 1 (sx_di dX11_hang 17 rfl) lX11_249 vX11_refused (hB.k _ rfl) (by decide) rfl (Nat.le_of_ble_eq_true rfl) ⟨Nat.le_of_ble_eq_true rfl, Nat.le_of_ble_eq_true rfl⟩ ⟨Nat.le_refl _, Nat.le_refl _⟩ ?_
        refine c_X11_refused hB (k := 1) (by decide) ?_
        refine V_iret (sx_di dX11_hang 18 rfl) rfl (Nat.le_refl _) (Nat.le_refl _) ?_
        have e : whang n (nI h) v (hp_i w 62 (nI h).toNatClampNeg) (hp_i w 57 8) = 1 := by rw [whang, if_neg h5, if_pos (Or.inr (Int32.not_le.mp h22))]
        have q := h0 (by rw [e]; decide)
        rw [e] at q
        exact q
  · refine V_aload_n (i := 0) (sx_di dX11_hang 4 rfl) rfl rfl ?_
    refine V_iconst (v := 0) (sx_di dX11_hang 5 rfl) (by decide) ?_
    refine V_iconst (v := -1) (sx_di dX11_hang 6 rfl) (by decide) ?_
    refine V_cV2 (mc' := 0) (ms' := 0) (M' := mX11_refused) 1 (sx_di dX11_hang 7 rfl) lX11_249 vX11_refused (hB.k _ rfl) (by decide) rfl (Nat.le_of_ble_eq_true rfl) ⟨Nat.le_of_ble_eq_true rfl, Nat.le_of_ble_eq_true rfl⟩ ⟨Nat.le_refl _, Nat.le_refl _⟩ ?_
    refine c_X11_refused hB (k := 0) (by decide) ?_
    refine V_iret (sx_di dX11_hang 8 rfl) rfl (Nat.le_refl _) (Nat.le_refl _) ?_
    have e : whang n x v (hp_i w 62 x.toNatClampNeg) (hp_i w 57 8) = 0 := by rw [whang, if_pos (show ih_ n x = 0 from h5)]
    have q := h0 (by rw [e]; decide)
    rw [e] at q
    exact q
set_option maxHeartbeats 2000000 in
set_option maxRecDepth 20000 in
theorem c_X11_whiten {E : sxE} {w : hpW} {Q : Option Value → hpW → Prop} {t n p z : Nat} (C : CN w t n p z) {x : Int32} (h0 : ¬ wwhit n x (hp_i w 61 x.toNatClampNeg) (hp_i w 57 8) = -1 → Q (some (.int (-1))) (rf_ w (wwhit n x (hp_i w 61 x.toNatClampNeg) (hp_i w 57 8)).toNatClampNeg)) (h1 : wwhit n x (hp_i w 61 x.toNatClampNeg) (hp_i w 57 8) = -1 → ∀ h, h < n → x = nI h → Q (some (.int (hp_i w 57 8 - 2))) (kq_ w t p (hp_u (hp_u (kp_ (hp_i w) p z) 61 h (hp_i w 61 h + 1)) 57 8 (hp_i w 57 8 - 2)))) : sx_C E mX11_whiten 4 0 0 [.ref 16, .int x] w Q := by
  obtain ⟨hB, ht, hst, hn, hn8, hp, hp4, hz, hz4, ht57, ht2⟩ := C
  refine C_of (by decide +kernel) (Nat.le_of_ble_eq_true rfl) ?_
  refine V_aload_n (i := 0) (sx_di dX11_whiten 0 rfl) rfl rfl ?_
  refine V_iload_n (i := 1) (sx_di dX11_whiten 1 rfl) rfl rfl ?_
  refine V_cV1 (mc' := 0) (ms' := 0) (M' := mX11_isHouse) 1 (sx_di dX11_whiten 2 rfl) lX11_170 vX11_isHouse (hB.k _ rfl) (by decide) rfl (Nat.le_of_ble_eq_true rfl) ⟨Nat.le_of_ble_eq_true rfl, Nat.le_of_ble_eq_true rfl⟩ ⟨Nat.le_refl _, Nat.le_refl _⟩ ?_
  refine c_X11_isHouse hB ht hst hn hn8 ?_
  refine V_if_ne (tgt := 15) (sx_di dX11_whiten 3 rfl) (by decide) (fun h5 => ?_) (fun h5 => ?_)
  · obtain ⟨h, hh, rfl⟩ := ih_ye (by omega) h5
    have hi : vp_in (nI h) 8 := vp_in_nI (by omega) (by decide)
    have hc : (nI h).toNatClampNeg = h := nI_clamp (by omega)
    refine V_aload_n (i := 0) (sx_di dX11_whiten 9 rfl) rfl rfl ?_
    refine V_getR (sx_di dX11_whiten 10 rfl) fX11_60 (fun _ => rfl) (hB.k _ rfl) (hB.r _ _ rfl) ?_
    refine V_getR (sx_di dX11_whiten 11 rfl) fX11_180 (fun _ => rfl) (hB.k _ rfl) (hB.r _ _ rfl) ?_
    refine V_iload_n (i := 1) (sx_di dX11_whiten 12 rfl) rfl rfl ?_
    refine V_iald (sx_di dX11_whiten 13 rfl) (hB.k _ rfl) (hi) ?_
    refine V_bipush (v := 9) (sx_di dX11_whiten 14 rfl) (by decide) ?_
    refine V_icmp_lt (tgt := 36) (sx_di dX11_whiten 15 rfl) (by decide) (fun h26 => ?_) (fun h26 => ?_)
    · have h27 := Int32.not_le.mpr h26
      refine V_aload_n (i := 0) (sx_di dX11_whiten 21 rfl) rfl rfl ?_
      refine V_getR (sx_di dX11_whiten 22 rfl) fX11_60 (fun _ => rfl) (hB.k _ rfl) (hB.r _ _ rfl) ?_
      refine V_getI (sx_di dX11_whiten 23 rfl) fX11_167 (fun _ => rfl) (hB.k _ rfl) ?_
      refine V_iconst (v := 2) (sx_di dX11_whiten 24 rfl) (by decide) ?_
      refine V_icmp_ge (tgt := 54) (sx_di dX11_whiten 25 rfl) (by decide) (fun h44 => ?_) (fun h44 => ?_)
      · have e7 : hp_i (kq_ w t p (kp_ (hp_i w) p z)) 61 h = hp_i w 61 h := kq_i w t p z (by decide) h
        have e8 : hp_i (hp_si (kq_ w t p (kp_ (hp_i w) p z)) 61 h (hp_i w 61 h + 1)) 57 8 = hp_i w 57 8 := by rw [hp_i_si, if_neg (by omega)]; exact kq_i w t p z (by decide) 8
        refine V_aload_n (i := 0) (sx_di dX11_whiten 31 rfl) rfl rfl ?_
        refine V_getR (sx_di dX11_whiten 32 rfl) fX11_77 (fun _ => rfl) (hB.k _ rfl) (hB.r _ _ rfl) ?_
        refine V_aload_n (i := 0) (sx_di dX11_whiten 33 rfl) rfl rfl ?_
        refine V_getR (sx_di dX11_whiten 34 rfl) fX11_60 (fun _ => rfl) (hB.k _ rfl) (hB.r _ _ rfl) ?_
        refine V_cV1 (mc' := 0) (ms' := 0) (M' := mX6_keep) 3 (sx_di dX11_whiten 35 rfl) lX11_252 vX6_keep (hB.k _ rfl) (by decide) rfl (Nat.le_of_ble_eq_true rfl) ⟨Nat.le_of_ble_eq_true rfl, Nat.le_of_ble_eq_true rfl⟩ ⟨Nat.le_refl _, Nat.le_refl _⟩ ?_
        refine c_X6_keep hB hp hp4 hz hz4 ht57 ?_
        refine V_eq (w' := kq_ w t p (kp_ (hp_i w) p z)) rfl rfl rfl rfl ?_
        have hB2 : ly_B (kq_ w t p (kp_ (hp_i w) p z)) := kq_B hB hp4 t _
        refine V_aload_n (i := 0) (sx_di dX11_whiten 36 rfl) rfl rfl ?_
        refine V_getR (sx_di dX11_whiten 37 rfl) fX11_60 (fun _ => rfl) (hB2.k _ rfl) (hB2.r _ _ rfl) ?_
        refine V_getR (sx_di dX11_whiten 38 rfl) fX11_180 (fun _ => rfl) (hB2.k _ rfl) (hB2.r _ _ rfl) ?_
        refine V_iload_n (i := 1) (sx_di dX11_whiten 39 rfl) rfl rfl ?_
        refine V_dup2 (sx_di dX11_whiten 40 rfl) rfl rfl ?_
        refine V_iald (sx_di dX11_whiten 41 rfl) (hB2.k _ rfl) (hi) ?_
        refine V_iconst (v := 1) (sx_di dX11_whiten 42 rfl) (by decide) ?_
        refine V_iadd (sx_di dX11_whiten 43 rfl) ?_
        refine V_iast (sx_di dX11_whiten 44 rfl) (hB2.k _ rfl) (hi) ?_
        rw [hc, e7]
        refine V_aload_n (i := 0) (sx_di dX11_whiten 45 rfl) rfl rfl ?_
        refine V_getR (sx_di dX11_whiten 46 rfl) fX11_60 (fun _ => rfl) (hB2.k _ rfl) (hB2.r _ _ rfl) ?_
        refine V_dup (sx_di dX11_whiten 47 rfl) rfl ?_
        refine V_getI (sx_di dX11_whiten 48 rfl) fX11_167 (fun _ => rfl) (hB2.k _ rfl) ?_
        rw [e8]
        refine V_iconst (v := 2) (sx_di dX11_whiten 49 rfl) (by decide) ?_
        refine V_isub (sx_di dX11_whiten 50 rfl) ?_
        refine V_putI (sx_di dX11_whiten 51 rfl) fX11_167 (fun _ => rfl) rfl (hB2.k _ rfl) (rfl) (rfl) ?_
        refine V_aload_n (i := 0) (sx_di dX11_whiten 52 rfl) rfl rfl ?_
        refine V_getR (sx_di dX11_whiten 53 rfl) fX11_60 (fun _ => rfl) (hB2.k _ rfl) (hB2.r _ _ rfl) ?_
        refine V_getI (sx_di dX11_whiten 54 rfl) fX11_167 (fun _ => rfl) (hB2.k _ rfl) ?_
        rw [hp_i_at]
        refine V_iret (sx_di dX11_whiten 55 rfl) rfl (Nat.le_refl _) (Nat.le_refl _) ?_
        have e : wwhit n (nI h) (hp_i w 61 (nI h).toNatClampNeg) (hp_i w 57 8) = -1 := by rw [wwhit, if_neg h5, if_neg h27, if_neg (Int32.not_lt.mpr h44)]
        exact h1 e h hh rfl
      · refine V_aload_n (i := 0) (sx_di dX11_whiten 26 rfl) rfl rfl ?_
        refine V_iconst (v := 3) (sx_di dX11_whiten 27 rfl) (by decide) ?_
        refine V_iconst (v := -1) (sx_di dX11_whiten 28 rfl) (by decide) ?_
        refine V_cV2 (mc' := 0) (ms' := 0) (M' := mX11_refused) 1 (sx_di dX11_whiten 29 rfl) lX11_249 vX11_refused (hB.k _ rfl) (by decide) rfl (Nat.le_of_ble_eq_true rfl) ⟨Nat.le_of_ble_eq_true rfl, Nat.le_of_ble_eq_true rfl⟩ ⟨Nat.le_refl _, Nat.le_refl _⟩ ?_
        refine c_X11_refused hB (k := 3) (by decide) ?_
        refine V_iret (sx_di dX11_whiten 30 rfl) rfl (Nat.le_refl _) (Nat.le_refl _) ?_
        have e : wwhit n (nI h) (hp_i w 61 (nI h).toNatClampNeg) (hp_i w 57 8) = 3 := by rw [wwhit, if_neg h5, if_neg h27, if_pos (Int32.not_le.mp h44)]
        have q := h0 (by rw [e]; decide)
        rw [e] at q
        exact q
    · refine V_aload_n (i := 0) (sx_di dX11_whiten 16 rfl) rfl rfl ?_
      refine V_iconst (v := 2) (sx_di dX11_whiten 17 rfl) (by decide) ?_
      refine V_iconst (v := -1) (sx_di dX11_whiten 18 rfl) (by decide) ?_
      refine V_cV2 (mc' := 0) (ms' := 0) (M' := mX11_refused) 1 (sx_di dX11_whiten 19 rfl) lX11_249 vX11_refused (hB.k _ rfl) (by decide) rfl (Nat.le_of_ble_eq_true rfl) ⟨Nat.le_of_ble_eq_true rfl, Nat.le_of_ble_eq_true rfl⟩ ⟨Nat.le_refl _, Nat.le_refl _⟩ ?_
      refine c_X11_refused hB (k := 2) (by decide) ?_
      refine V_iret (sx_di dX11_whiten 20 rfl) rfl (Nat.le_refl _) (Nat.le_refl _) ?_
      have e : wwhit n (nI h) (hp_i w 61 (nI h).toNatClampNeg) (hp_i w 57 8) = 2 := by rw [wwhit, if_neg h5, if_pos (Int32.not_lt.mp h26)]
      have q := h0 (by rw [e]; decide)
      rw [e] at q
      exact q
  · refine V_aload_n (i := 0) (sx_di dX11_whiten 4 rfl) rfl rfl ?_
    refine V_iconst (v := 0) (sx_di dX11_whiten 5 rfl) (by decide) ?_
    refine V_iconst (v := -1) (sx_di dX11_whiten 6 rfl) (by decide) ?_
    refine V_cV2 (mc' := 0) (ms' := 0) (M' := mX11_refused) 1 (sx_di dX11_whiten 7 rfl) lX11_249 vX11_refused (hB.k _ rfl) (by decide) rfl (Nat.le_of_ble_eq_true rfl) ⟨Nat.le_of_ble_eq_true rfl, Nat.le_of_ble_eq_true rfl⟩ ⟨Nat.le_refl _, Nat.le_refl _⟩ ?_
    refine c_X11_refused hB (k := 0) (by decide) ?_
    refine V_iret (sx_di dX11_whiten 8 rfl) rfl (Nat.le_refl _) (Nat.le_refl _) ?_
    have e : wwhit n x (hp_i w 61 x.toNatClampNeg) (hp_i w 57 8) = 0 := by rw [wwhit, if_pos (show ih_ n x = 0 from h5)]
    have q := h0 (by rw [e]; decide)
    rw [e] at q
    exact q
set_option maxHeartbeats 2000000 in
set_option maxRecDepth 20000 in
theorem c_X11_piano {E : sxE} {w : hpW} {Q : Option Value → hpW → Prop} {t n p z : Nat} (C : CN w t n p z) {x : Int32} (h0 : ¬ wpian n x (hp_i w 57 7) (hp_i w 57 8) = -1 → Q (some (.int (-1))) (rf_ w (wpian n x (hp_i w 57 7) (hp_i w 57 8)).toNatClampNeg)) (h1 : wpian n x (hp_i w 57 7) (hp_i w 57 8) = -1 → ∀ h, h < n → x = nI h → Q (some (.int (hp_i w 57 8 - 3))) (kq_ w t p (hp_u (hp_u (kp_ (hp_i w) p z) 57 7 (hp_i w 57 7 ||| 1 <<< (nI h &&& 31))) 57 8 (hp_i w 57 8 - 3)))) : sx_C E mX11_piano 4 0 0 [.ref 16, .int x] w Q := by
  obtain ⟨hB, ht, hst, hn, hn8, hp, hp4, hz, hz4, ht57, ht2⟩ := C
  refine C_of (by decide +kernel) (Nat.le_of_ble_eq_true rfl) ?_
  refine V_aload_n (i := 0) (sx_di dX11_piano 0 rfl) rfl rfl ?_
  refine V_iload_n (i := 1) (sx_di dX11_piano 1 rfl) rfl rfl ?_
  refine V_cV1 (mc' := 0) (ms' := 0) (M' := mX11_isHouse) 1 (sx_di dX11_piano 2 rfl) lX11_170 vX11_isHouse (hB.k _ rfl) (by decide) rfl (Nat.le_of_ble_eq_true rfl) ⟨Nat.le_of_ble_eq_true rfl, Nat.le_of_ble_eq_true rfl⟩ ⟨Nat.le_refl _, Nat.le_refl _⟩ ?_
  refine c_X11_isHouse hB ht hst hn hn8 ?_
  refine V_if_ne (tgt := 15) (sx_di dX11_piano 3 rfl) (by decide) (fun h5 => ?_) (fun h5 => ?_)
  · obtain ⟨h, hh, rfl⟩ := ih_ye (by omega) h5
    have hi : vp_in (nI h) 8 := vp_in_nI (by omega) (by decide)
    have hc : (nI h).toNatClampNeg = h := nI_clamp (by omega)
    refine V_aload_n (i := 0) (sx_di dX11_piano 9 rfl) rfl rfl ?_
    refine V_getR (sx_di dX11_piano 10 rfl) fX11_60 (fun _ => rfl) (hB.k _ rfl) (hB.r _ _ rfl) ?_
    refine V_iload_n (i := 1) (sx_di dX11_piano 11 rfl) rfl rfl ?_
    refine V_cV1 (mc' := 0) (ms' := 0) (M' := mX7_hasPiano) 1 (sx_di dX11_piano 12 rfl) lX11_192 vX7_hasPiano (hB.k _ rfl) (by decide) rfl (Nat.le_of_ble_eq_true rfl) ⟨Nat.le_of_ble_eq_true rfl, Nat.le_of_ble_eq_true rfl⟩ ⟨Nat.le_refl _, Nat.le_refl _⟩ ?_
    refine c_X7_hasPiano (ss_57 hB) ?_
    refine V_if_eq (tgt := 33) (sx_di dX11_piano 13 rfl) (by decide) (fun h23 => ?_) (fun h23 => ?_)
    · have h24 : ¬ ¬ (hp_i w 57 7 >>> (nI h &&& 31)) &&& 1 = 0 := fun q => by rw [if_neg q] at h23; exact absurd h23 (by decide)
      refine V_aload_n (i := 0) (sx_di dX11_piano 19 rfl) rfl rfl ?_
      refine V_getR (sx_di dX11_piano 20 rfl) fX11_60 (fun _ => rfl) (hB.k _ rfl) (hB.r _ _ rfl) ?_
      refine V_getI (sx_di dX11_piano 21 rfl) fX11_167 (fun _ => rfl) (hB.k _ rfl) ?_
      refine V_iconst (v := 3) (sx_di dX11_piano 22 rfl) (by decide) ?_
      refine V_icmp_ge (tgt := 51) (sx_di dX11_piano 23 rfl) (by decide) (fun h41 => ?_) (fun h41 => ?_)
      · have e7 : hp_i (kq_ w t p (kp_ (hp_i w) p z)) 57 7 = hp_i w 57 7 := kq_i w t p z (by decide) 7
        have e8 : hp_i (hp_si (kq_ w t p (kp_ (hp_i w) p z)) 57 7 (hp_i w 57 7 ||| 1 <<< (nI h &&& 31))) 57 8 = hp_i w 57 8 := by rw [hp_i_si, if_neg (by omega)]; exact kq_i w t p z (by decide) 8
        refine V_aload_n (i := 0) (sx_di dX11_piano 29 rfl) rfl rfl ?_
        refine V_getR (sx_di dX11_piano 30 rfl) fX11_77 (fun _ => rfl) (hB.k _ rfl) (hB.r _ _ rfl) ?_
        refine V_aload_n (i := 0) (sx_di dX11_piano 31 rfl) rfl rfl ?_
        refine V_getR (sx_di dX11_piano 32 rfl) fX11_60 (fun _ => rfl) (hB.k _ rfl) (hB.r _ _ rfl) ?_
        refine V_cV1 (mc' := 0) (ms' := 0) (M' := mX6_keep) 3 (sx_di dX11_piano 33 rfl) lX11_252 vX6_keep (hB.k _ rfl) (by decide) rfl (Nat.le_of_ble_eq_true rfl) ⟨Nat.le_of_ble_eq_true rfl, Nat.le_of_ble_eq_true rfl⟩ ⟨Nat.le_refl _, Nat.le_refl _⟩ ?_
        refine c_X6_keep hB hp hp4 hz hz4 ht57 ?_
        refine V_eq (w' := kq_ w t p (kp_ (hp_i w) p z)) rfl rfl rfl rfl ?_
        have hB2 : ly_B (kq_ w t p (kp_ (hp_i w) p z)) := kq_B hB hp4 t _
        refine V_aload_n (i := 0) (sx_di dX11_piano 34 rfl) rfl rfl ?_
        refine V_getR (sx_di dX11_piano 35 rfl) fX11_60 (fun _ => rfl) (hB2.k _ rfl) (hB2.r _ _ rfl) ?_
        refine V_dup (sx_di dX11_piano 36 rfl) rfl ?_
        refine V_getI (sx_di dX11_piano 37 rfl) fX11_239 (fun _ => rfl) (hB2.k _ rfl) ?_
        rw [e7]
        refine V_iconst (v := 1) (sx_di dX11_piano 38 rfl) (by decide) ?_
        refine V_iload_n (i := 1) (sx_di dX11_piano 39 rfl) rfl rfl ?_
        refine V_ishl (sx_di dX11_piano 40 rfl) ?_
        refine V_ior (sx_di dX11_piano 41 rfl) ?_
        refine V_putI (sx_di dX11_piano 42 rfl) fX11_239 (fun _ => rfl) rfl (hB2.k _ rfl) (rfl) (rfl) ?_
        refine V_aload_n (i := 0) (sx_di dX11_piano 43 rfl) rfl rfl ?_
        refine V_getR (sx_di dX11_piano 44 rfl) fX11_60 (fun _ => rfl) (hB2.k _ rfl) (hB2.r _ _ rfl) ?_
        refine V_dup (sx_di dX11_piano 45 rfl) rfl ?_
        refine V_getI (sx_di dX11_piano 46 rfl) fX11_167 (fun _ => rfl) (hB2.k _ rfl) ?_
        rw [e8]
        refine V_iconst (v := 3) (sx_di dX11_piano 47 rfl) (by decide) ?_
        refine V_isub (sx_di dX11_piano 48 rfl) ?_
        refine V_putI (sx_di dX11_piano 49 rfl) fX11_167 (fun _ => rfl) rfl (hB2.k _ rfl) (rfl) (rfl) ?_
        refine V_aload_n (i := 0) (sx_di dX11_piano 50 rfl) rfl rfl ?_
        refine V_getR (sx_di dX11_piano 51 rfl) fX11_60 (fun _ => rfl) (hB2.k _ rfl) (hB2.r _ _ rfl) ?_
        refine V_getI (sx_di dX11_piano 52 rfl) fX11_167 (fun _ => rfl) (hB2.k _ rfl) ?_
        rw [hp_i_at]
        refine V_iret (sx_di dX11_piano 53 rfl) rfl (Nat.le_refl _) (Nat.le_refl _) ?_
        have e : wpian n (nI h) (hp_i w 57 7) (hp_i w 57 8) = -1 := by rw [wpian, if_neg h5, if_neg h24, if_neg (Int32.not_lt.mpr h41)]
        exact h1 e h hh rfl
      · refine V_aload_n (i := 0) (sx_di dX11_piano 24 rfl) rfl rfl ?_
        refine V_iconst (v := 3) (sx_di dX11_piano 25 rfl) (by decide) ?_
        refine V_iconst (v := -1) (sx_di dX11_piano 26 rfl) (by decide) ?_
        refine V_cV2 (mc' := 0) (ms' := 0) (M' := mX11_refused) 1 (sx_di dX11_piano 27 rfl) lX11_249 vX11_refused (hB.k _ rfl) (by decide) rfl (Nat.le_of_ble_eq_true rfl) ⟨Nat.le_of_ble_eq_true rfl, Nat.le_of_ble_eq_true rfl⟩ ⟨Nat.le_refl _, Nat.le_refl _⟩ ?_
        refine c_X11_refused hB (k := 3) (by decide) ?_
        refine V_iret (sx_di dX11_piano 28 rfl) rfl (Nat.le_refl _) (Nat.le_refl _) ?_
        have e : wpian n (nI h) (hp_i w 57 7) (hp_i w 57 8) = 3 := by rw [wpian, if_neg h5, if_neg h24, if_pos (Int32.not_le.mp h41)]
        have q := h0 (by rw [e]; decide)
        rw [e] at q
        exact q
    · have h24 : ¬ (hp_i w 57 7 >>> (nI h &&& 31)) &&& 1 = 0 := fun q => h23 (if_pos q)
      refine V_aload_n (i := 0) (sx_di dX11_piano 14 rfl) rfl rfl ?_
      refine V_iconst (v := 2) (sx_di dX11_piano 15 rfl) (by decide) ?_
      refine V_iconst (v := -1) (sx_di dX11_piano 16 rfl) (by decide) ?_
      refine V_cV2 (mc' := 0) (ms' := 0) (M' := mX11_refused) 1 (sx_di dX11_piano 17 rfl) lX11_249 vX11_refused (hB.k _ rfl) (by decide) rfl (Nat.le_of_ble_eq_true rfl) ⟨Nat.le_of_ble_eq_true rfl, Nat.le_of_ble_eq_true rfl⟩ ⟨Nat.le_refl _, Nat.le_refl _⟩ ?_
      refine c_X11_refused hB (k := 2) (by decide) ?_
      refine V_iret (sx_di dX11_piano 18 rfl) rfl (Nat.le_refl _) (Nat.le_refl _) ?_
      have e : wpian n (nI h) (hp_i w 57 7) (hp_i w 57 8) = 2 := by rw [wpian, if_neg h5, if_pos h24]
      have q := h0 (by rw [e]; decide)
      rw [e] at q
      exact q
  · refine V_aload_n (i := 0) (sx_di dX11_piano 4 rfl) rfl rfl ?_
    refine V_iconst (v := 0) (sx_di dX11_piano 5 rfl) (by decide) ?_
    refine V_iconst (v := -1) (sx_di dX11_piano 6 rfl) (by decide) ?_
    refine V_cV2 (mc' := 0) (ms' := 0) (M' := mX11_refused) 1 (sx_di dX11_piano 7 rfl) lX11_249 vX11_refused (hB.k _ rfl) (by decide) rfl (Nat.le_of_ble_eq_true rfl) ⟨Nat.le_of_ble_eq_true rfl, Nat.le_of_ble_eq_true rfl⟩ ⟨Nat.le_refl _, Nat.le_refl _⟩ ?_
    refine c_X11_refused hB (k := 0) (by decide) ?_
    refine V_iret (sx_di dX11_piano 8 rfl) rfl (Nat.le_refl _) (Nat.le_refl _) ?_
    have e : wpian n x (hp_i w 57 7) (hp_i w 57 8) = 0 := by rw [wpian, if_pos (show ih_ n x = 0 from h5)]
    have q := h0 (by rw [e]; decide)
    rw [e] at q
    exact q
set_option maxHeartbeats 2000000 in
set_option maxRecDepth 20000 in
theorem c_X11_give {E : sxE} {w : hpW} {Q : Option Value → hpW → Prop} {t n p z : Nat} (C : CN w t n p z) {v : Int32} (h0 : ¬ wgive n v (hp_i w 57 8) = -1 → Q (some (.int (-1))) (rf_ w (wgive n v (hp_i w 57 8)).toNatClampNeg)) (h1 : wgive n v (hp_i w 57 8) = -1 → Q (some (.int (hp_i w 57 8 + v))) (kq_ w t p (hp_u (kp_ (hp_i w) p z) 57 8 (hp_i w 57 8 + v)))) : sx_C E mX11_give 4 0 0 [.ref 16, .int v] w Q := by
  obtain ⟨hB, ht, hst, hn, hn8, hp, hp4, hz, hz4, ht57, ht2⟩ := C
  refine C_of (by decide +kernel) (Nat.le_of_ble_eq_true rfl) ?_
  refine V_aload_n (i := 0) (sx_di dX11_give 0 rfl) rfl rfl ?_
  refine V_cV0 (mc' := 0) (ms' := 0) (M' := mX11_isStreet) 1 (sx_di dX11_give 1 rfl) lX11_154 vX11_isStreet (hB.k _ rfl) (by decide) rfl (Nat.le_of_ble_eq_true rfl) ⟨Nat.le_of_ble_eq_true rfl, Nat.le_of_ble_eq_true rfl⟩ ⟨Nat.le_refl _, Nat.le_refl _⟩ ?_
  refine c_X11_isStreet hB ht hst hn hn8 ?_
  refine V_if_ne (tgt := 14) (sx_di dX11_give 2 rfl) (by decide) (fun h4 => ?_) (fun h4 => ?_)
  · have h5 : ¬ n = 0 := fun q => h4 (if_pos q)
    refine V_iload_n (i := 1) (sx_di dX11_give 8 rfl) rfl rfl ?_
    refine V_iconst (v := 1) (sx_di dX11_give 9 rfl) (by decide) ?_
    refine V_icmp_lt (tgt := 40) (sx_di dX11_give 10 rfl) (by decide) (fun h16 => ?_) (fun h16 => ?_)
    · refine V_aload_n (i := 0) (sx_di dX11_give 21 rfl) rfl rfl ?_
      refine V_iconst (v := 1) (sx_di dX11_give 22 rfl) (by decide) ?_
      refine V_iconst (v := -1) (sx_di dX11_give 23 rfl) (by decide) ?_
      refine V_cV2 (mc' := 0) (ms' := 0) (M' := mX11_refused) 1 (sx_di dX11_give 24 rfl) lX11_249 vX11_refused (hB.k _ rfl) (by decide) rfl (Nat.le_of_ble_eq_true rfl) ⟨Nat.le_of_ble_eq_true rfl, Nat.le_of_ble_eq_true rfl⟩ ⟨Nat.le_refl _, Nat.le_refl _⟩ ?_
      refine c_X11_refused hB (k := 1) (by decide) ?_
      refine V_iret (sx_di dX11_give 25 rfl) rfl (Nat.le_refl _) (Nat.le_refl _) ?_
      have e : wgive n v (hp_i w 57 8) = 1 := by rw [wgive, if_neg h5, if_pos (Or.inl h16)]
      have q := h0 (by rw [e]; decide)
      rw [e] at q
      exact q
    · refine V_iload_n (i := 1) (sx_di dX11_give 11 rfl) rfl rfl ?_
      refine V_bipush (v := 50) (sx_di dX11_give 12 rfl) (by decide) ?_
      refine V_icmp_gt (tgt := 40) (sx_di dX11_give 13 rfl) (by decide) (fun h22 => ?_) (fun h22 => ?_)
      · refine V_aload_n (i := 0) (sx_di dX11_give 21 rfl) rfl rfl ?_
        refine V_iconst (v := 1) (sx_di dX11_give 22 rfl) (by decide) ?_
        refine V_iconst (v := -1) (sx_di dX11_give 23 rfl) (by decide) ?_
        refine V_cV2 (mc' := 0) (ms' := 0) (M' := mX11_refused) 1 (sx_di dX11_give 24 rfl) lX11_249 vX11_refused (hB.k _ rfl) (by decide) rfl (Nat.le_of_ble_eq_true rfl) ⟨Nat.le_of_ble_eq_true rfl, Nat.le_of_ble_eq_true rfl⟩ ⟨Nat.le_refl _, Nat.le_refl _⟩ ?_
        refine c_X11_refused hB (k := 1) (by decide) ?_
        refine V_iret (sx_di dX11_give 25 rfl) rfl (Nat.le_refl _) (Nat.le_refl _) ?_
        have e : wgive n v (hp_i w 57 8) = 1 := by rw [wgive, if_neg h5, if_pos (Or.inr (Or.inl h22))]
        have q := h0 (by rw [e]; decide)
        rw [e] at q
        exact q
      · refine V_aload_n (i := 0) (sx_di dX11_give 14 rfl) rfl rfl ?_
        refine V_getR (sx_di dX11_give 15 rfl) fX11_60 (fun _ => rfl) (hB.k _ rfl) (hB.r _ _ rfl) ?_
        refine V_getI (sx_di dX11_give 16 rfl) fX11_167 (fun _ => rfl) (hB.k _ rfl) ?_
        refine V_iload_n (i := 1) (sx_di dX11_give 17 rfl) rfl rfl ?_
        refine V_iadd (sx_di dX11_give 18 rfl) ?_
        refine V_sipush (v := 999) (sx_di dX11_give 19 rfl) (by decide) ?_
        refine V_icmp_le (tgt := 47) (sx_di dX11_give 20 rfl) (by decide) (fun h37 => ?_) (fun h37 => ?_)
        · have e8 : hp_i (kq_ w t p (kp_ (hp_i w) p z)) 57 8 = hp_i w 57 8 := kq_i w t p z (by decide) 8
          refine V_aload_n (i := 0) (sx_di dX11_give 26 rfl) rfl rfl ?_
          refine V_getR (sx_di dX11_give 27 rfl) fX11_77 (fun _ => rfl) (hB.k _ rfl) (hB.r _ _ rfl) ?_
          refine V_aload_n (i := 0) (sx_di dX11_give 28 rfl) rfl rfl ?_
          refine V_getR (sx_di dX11_give 29 rfl) fX11_60 (fun _ => rfl) (hB.k _ rfl) (hB.r _ _ rfl) ?_
          refine V_cV1 (mc' := 0) (ms' := 0) (M' := mX6_keep) 3 (sx_di dX11_give 30 rfl) lX11_252 vX6_keep (hB.k _ rfl) (by decide) rfl (Nat.le_of_ble_eq_true rfl) ⟨Nat.le_of_ble_eq_true rfl, Nat.le_of_ble_eq_true rfl⟩ ⟨Nat.le_refl _, Nat.le_refl _⟩ ?_
          refine c_X6_keep hB hp hp4 hz hz4 ht57 ?_
          refine V_eq (w' := kq_ w t p (kp_ (hp_i w) p z)) rfl rfl rfl rfl ?_
          have hB2 : ly_B (kq_ w t p (kp_ (hp_i w) p z)) := kq_B hB hp4 t _
          refine V_aload_n (i := 0) (sx_di dX11_give 31 rfl) rfl rfl ?_
          refine V_getR (sx_di dX11_give 32 rfl) fX11_60 (fun _ => rfl) (hB2.k _ rfl) (hB2.r _ _ rfl) ?_
          refine V_dup (sx_di dX11_give 33 rfl) rfl ?_
          refine V_getI (sx_di dX11_give 34 rfl) fX11_167 (fun _ => rfl) (hB2.k _ rfl) ?_
          rw [e8]
          refine V_iload_n (i := 1) (sx_di dX11_give 35 rfl) rfl rfl ?_
          refine V_iadd (sx_di dX11_give 36 rfl) ?_
          refine V_putI (sx_di dX11_give 37 rfl) fX11_167 (fun _ => rfl) rfl (hB2.k _ rfl) (rfl) (rfl) ?_
          refine V_aload_n (i := 0) (sx_di dX11_give 38 rfl) rfl rfl ?_
          refine V_getR (sx_di dX11_give 39 rfl) fX11_60 (fun _ => rfl) (hB2.k _ rfl) (hB2.r _ _ rfl) ?_
          refine V_getI (sx_di dX11_give 40 rfl) fX11_167 (fun _ => rfl) (hB2.k _ rfl) ?_
          rw [hp_i_at]
          refine V_iret (sx_di dX11_give 41 rfl) rfl (Nat.le_refl _) (Nat.le_refl _) ?_
          have e : wgive n v (hp_i w 57 8) = -1 := by rw [wgive, if_neg h5, if_neg (fun q => q.elim h16 (fun q => q.elim h22 (Int32.not_lt.mpr h37)))]
          exact h1 e
        · refine V_aload_n (i := 0) (sx_di dX11_give 21 rfl) rfl rfl ?_
          refine V_iconst (v := 1) (sx_di dX11_give 22 rfl) (by decide) ?_
          refine V_iconst (v := -1) (sx_di dX11_give 23 rfl) (by decide) ?_
          refine V_cV2 (mc' := 0) (ms' := 0) (M' := mX11_refused) 1 (sx_di dX11_give 24 rfl) lX11_249 vX11_refused (hB.k _ rfl) (by decide) rfl (Nat.le_of_ble_eq_true rfl) ⟨Nat.le_of_ble_eq_true rfl, Nat.le_of_ble_eq_true rfl⟩ ⟨Nat.le_refl _, Nat.le_refl _⟩ ?_
          refine c_X11_refused hB (k := 1) (by decide) ?_
          refine V_iret (sx_di dX11_give 25 rfl) rfl (Nat.le_refl _) (Nat.le_refl _) ?_
          have e : wgive n v (hp_i w 57 8) = 1 := by rw [wgive, if_neg h5, if_pos (Or.inr (Or.inr (Int32.not_le.mp h37)))]
          have q := h0 (by rw [e]; decide)
          rw [e] at q
          exact q
  · have h5 : n = 0 := by
      rcases Classical.em (n = 0) with q | q
      · exact q
      · rw [if_neg q] at h4; exact absurd h4 (by decide)
    refine V_aload_n (i := 0) (sx_di dX11_give 3 rfl) rfl rfl ?_
    refine V_iconst (v := 0) (sx_di dX11_give 4 rfl) (by decide) ?_
    refine V_iconst (v := -1) (sx_di dX11_give 5 rfl) (by decide) ?_
    refine V_cV2 (mc' := 0) (ms' := 0) (M' := mX11_refused) 1 (sx_di dX11_give 6 rfl) lX11_249 vX11_refused (hB.k _ rfl) (by decide) rfl (Nat.le_of_ble_eq_true rfl) ⟨Nat.le_of_ble_eq_true rfl, Nat.le_of_ble_eq_true rfl⟩ ⟨Nat.le_refl _, Nat.le_refl _⟩ ?_
    refine c_X11_refused hB (k := 0) (by decide) ?_
    refine V_iret (sx_di dX11_give 7 rfl) rfl (Nat.le_refl _) (Nat.le_refl _) ?_
    have e : wgive n v (hp_i w 57 8) = 0 := by rw [wgive, if_pos h5]
    have q := h0 (by rw [e]; decide)
    rw [e] at q
    exact q
def wmove (n : Nat) (x y po ph : Int32) : Int32 := if ih_ n x = 0 ∨ ih_ n y = 0 then 0 else if x = y then 1 else if 9 ≤ po then 2 else if ph < 1 then 3 else -1
set_option maxHeartbeats 2000000 in
set_option maxRecDepth 20000 in
theorem c_X11_move {E : sxE} {w : hpW} {Q : Option Value → hpW → Prop} {t n p z : Nat} (C : CN w t n p z) {x y : Int32} (h0 : ¬ wmove n x y (hp_i w 63 y.toNatClampNeg) (hp_i w 63 x.toNatClampNeg) = -1 → Q (some (.int (-1))) (rf_ w (wmove n x y (hp_i w 63 y.toNatClampNeg) (hp_i w 63 x.toNatClampNeg)).toNatClampNeg)) (h1 : wmove n x y (hp_i w 63 y.toNatClampNeg) (hp_i w 63 x.toNatClampNeg) = -1 → ∀ h o, h < n → o < n → h ≠ o → x = nI h → y = nI o → Q (some (.int (hp_i w 63 o + 1))) (kq_ w t p (hp_u (hp_u (kp_ (hp_i w) p z) 63 h (hp_i w 63 h - 1)) 63 o (hp_i w 63 o + 1)))) : sx_C E mX11_move 4 0 0 [.ref 16, .int x, .int y] w Q := by
  obtain ⟨hB, ht, hst, hn, hn8, hp, hp4, hz, hz4, ht57, ht2⟩ := C
  refine C_of (by decide +kernel) (Nat.le_of_ble_eq_true rfl) ?_
  refine V_aload_n (i := 0) (sx_di dX11_move 0 rfl) rfl rfl ?_
  refine V_iload_n (i := 1) (sx_di dX11_move 1 rfl) rfl rfl ?_
  refine V_cV1 (mc' := 0) (ms' := 0) (M' := mX11_isHouse) 1 (sx_di dX11_move 2 rfl) lX11_170 vX11_isHouse (hB.k _ rfl) (by decide) rfl (Nat.le_of_ble_eq_true rfl) ⟨Nat.le_of_ble_eq_true rfl, Nat.le_of_ble_eq_true rfl⟩ ⟨Nat.le_refl _, Nat.le_refl _⟩ ?_
  refine c_X11_isHouse hB ht hst hn hn8 ?_
  refine V_if_eq (tgt := 16) (sx_di dX11_move 3 rfl) (by decide) (fun h5 => ?_) (fun h5 => ?_)
  · refine V_aload_n (i := 0) (sx_di dX11_move 8 rfl) rfl rfl ?_
    refine V_iconst (v := 0) (sx_di dX11_move 9 rfl) (by decide) ?_
    refine V_iconst (v := -1) (sx_di dX11_move 10 rfl) (by decide) ?_
    refine V_cV2 (mc' := 0) (ms' := 0) (M' := mX11_refused) 1 (sx_di dX11_move 11 rfl) lX11_249 vX11_refused (hB.k _ rfl) (by decide) rfl (Nat.le_of_ble_eq_true rfl) ⟨Nat.le_of_ble_eq_true rfl, Nat.le_of_ble_eq_true rfl⟩ ⟨Nat.le_refl _, Nat.le_refl _⟩ ?_
    refine c_X11_refused hB (k := 0) (by decide) ?_
    refine V_iret (sx_di dX11_move 12 rfl) rfl (Nat.le_refl _) (Nat.le_refl _) ?_
    have e : wmove n x y (hp_i w 63 y.toNatClampNeg) (hp_i w 63 x.toNatClampNeg) = 0 := by rw [wmove, if_pos (Or.inl h5)]
    have q := h0 (by rw [e]; decide)
    rw [e] at q
    exact q
  · obtain ⟨h, hh, rfl⟩ := ih_ye (by omega) h5
    have hi : vp_in (nI h) 8 := vp_in_nI (by omega) (by decide)
    have hc : (nI h).toNatClampNeg = h := nI_clamp (by omega)
    refine V_aload_n (i := 0) (sx_di dX11_move 4 rfl) rfl rfl ?_
    refine V_iload_n (i := 2) (sx_di dX11_move 5 rfl) rfl rfl ?_
    refine V_cV1 (mc' := 0) (ms' := 0) (M' := mX11_isHouse) 1 (sx_di dX11_move 6 rfl) lX11_170 vX11_isHouse (hB.k _ rfl) (by decide) rfl (Nat.le_of_ble_eq_true rfl) ⟨Nat.le_of_ble_eq_true rfl, Nat.le_of_ble_eq_true rfl⟩ ⟨Nat.le_refl _, Nat.le_refl _⟩ ?_
    refine c_X11_isHouse hB ht hst hn hn8 ?_
    refine V_if_ne (tgt := 23) (sx_di dX11_move 7 rfl) (by decide) (fun h13 => ?_) (fun h13 => ?_)
    · obtain ⟨o, ho, rfl⟩ := ih_ye (by omega) h13
      have oi : vp_in (nI o) 8 := vp_in_nI (by omega) (by decide)
      have oc : (nI o).toNatClampNeg = o := nI_clamp (by omega)
      have h14 : ¬ (ih_ n (nI h) = 0 ∨ ih_ n (nI o) = 0) := fun q => q.elim h5 h13
      refine V_iload_n (i := 1) (sx_di dX11_move 13 rfl) rfl rfl ?_
      refine V_iload_n (i := 2) (sx_di dX11_move 14 rfl) rfl rfl ?_
      refine V_icmp_ne (tgt := 35) (sx_di dX11_move 15 rfl) (by decide) (fun h25 => ?_) (fun h25 => ?_)
      · have hne : h ≠ o := fun q => h25 (by rw [q])
        refine V_aload_n (i := 0) (sx_di dX11_move 21 rfl) rfl rfl ?_
        refine V_getR (sx_di dX11_move 22 rfl) fX11_60 (fun _ => rfl) (hB.k _ rfl) (hB.r _ _ rfl) ?_
        refine V_getR (sx_di dX11_move 23 rfl) fX11_186 (fun _ => rfl) (hB.k _ rfl) (hB.r _ _ rfl) ?_
        refine V_iload_n (i := 2) (sx_di dX11_move 24 rfl) rfl rfl ?_
        refine V_iald (sx_di dX11_move 25 rfl) (hB.k _ rfl) (oi) ?_
        refine V_bipush (v := 9) (sx_di dX11_move 26 rfl) (by decide) ?_
        refine V_icmp_lt (tgt := 56) (sx_di dX11_move 27 rfl) (by decide) (fun h46 => ?_) (fun h46 => ?_)
        · have h47 := Int32.not_le.mpr h46
          refine V_aload_n (i := 0) (sx_di dX11_move 33 rfl) rfl rfl ?_
          refine V_getR (sx_di dX11_move 34 rfl) fX11_60 (fun _ => rfl) (hB.k _ rfl) (hB.r _ _ rfl) ?_
          refine V_getR (sx_di dX11_move 35 rfl) fX11_186 (fun _ => rfl) (hB.k _ rfl) (hB.r _ _ rfl) ?_
          refine V_iload_n (i := 1) (sx_di dX11_move 36 rfl) rfl rfl ?_
          refine V_iald (sx_di dX11_move 37 rfl) (hB.k _ rfl) (hi) ?_
          refine V_iconst (v := 1) (sx_di dX11_move 38 rfl) (by decide) ?_
          refine V_icmp_ge (tgt := 76) (sx_di dX11_move 39 rfl) (by decide) (fun h66 => ?_) (fun h66 => ?_)
          · have e7 : hp_i (kq_ w t p (kp_ (hp_i w) p z)) 63 h = hp_i w 63 h := kq_i w t p z (by decide) h
            have e8 : hp_i (hp_si (kq_ w t p (kp_ (hp_i w) p z)) 63 h (hp_i w 63 h - 1)) 63 o = hp_i w 63 o := by rw [hp_i_si, if_neg (fun q => hne q.2.symm)]; exact kq_i w t p z (by decide) o
            refine V_aload_n (i := 0) (sx_di dX11_move 45 rfl) rfl rfl ?_
            refine V_getR (sx_di dX11_move 46 rfl) fX11_77 (fun _ => rfl) (hB.k _ rfl) (hB.r _ _ rfl) ?_
            refine V_aload_n (i := 0) (sx_di dX11_move 47 rfl) rfl rfl ?_
            refine V_getR (sx_di dX11_move 48 rfl) fX11_60 (fun _ => rfl) (hB.k _ rfl) (hB.r _ _ rfl) ?_
            refine V_cV1 (mc' := 0) (ms' := 0) (M' := mX6_keep) 3 (sx_di dX11_move 49 rfl) lX11_252 vX6_keep (hB.k _ rfl) (by decide) rfl (Nat.le_of_ble_eq_true rfl) ⟨Nat.le_of_ble_eq_true rfl, Nat.le_of_ble_eq_true rfl⟩ ⟨Nat.le_refl _, Nat.le_refl _⟩ ?_
            refine c_X6_keep hB hp hp4 hz hz4 ht57 ?_
            refine V_eq (w' := kq_ w t p (kp_ (hp_i w) p z)) rfl rfl rfl rfl ?_
            have hB2 : ly_B (kq_ w t p (kp_ (hp_i w) p z)) := kq_B hB hp4 t _
            refine V_aload_n (i := 0) (sx_di dX11_move 50 rfl) rfl rfl ?_
            refine V_getR (sx_di dX11_move 51 rfl) fX11_60 (fun _ => rfl) (hB2.k _ rfl) (hB2.r _ _ rfl) ?_
            refine V_getR (sx_di dX11_move 52 rfl) fX11_186 (fun _ => rfl) (hB2.k _ rfl) (hB2.r _ _ rfl) ?_
            refine V_iload_n (i := 1) (sx_di dX11_move 53 rfl) rfl rfl ?_
            refine V_dup2 (sx_di dX11_move 54 rfl) rfl rfl ?_
            refine V_iald (sx_di dX11_move 55 rfl) (hB2.k _ rfl) (hi) ?_
            refine V_iconst (v := 1) (sx_di dX11_move 56 rfl) (by decide) ?_
            refine V_isub (sx_di dX11_move 57 rfl) ?_
            refine V_iast (sx_di dX11_move 58 rfl) (hB2.k _ rfl) (hi) ?_
            rw [hc, e7]
            refine V_aload_n (i := 0) (sx_di dX11_move 59 rfl) rfl rfl ?_
            refine V_getR (sx_di dX11_move 60 rfl) fX11_60 (fun _ => rfl) (hB2.k _ rfl) (hB2.r _ _ rfl) ?_
            refine V_getR (sx_di dX11_move 61 rfl) fX11_186 (fun _ => rfl) (hB2.k _ rfl) (hB2.r _ _ rfl) ?_
            refine V_iload_n (i := 2) (sx_di dX11_move 62 rfl) rfl rfl ?_
            refine V_dup2 (sx_di dX11_move 63 rfl) rfl rfl ?_
            refine V_iald (sx_di dX11_move 64 rfl) (hB2.k _ rfl) (oi) ?_
            refine V_iconst (v := 1) (sx_di dX11_move 65 rfl) (by decide) ?_
            refine V_iadd (sx_di dX11_move 66 rfl) ?_
            refine V_iast (sx_di dX11_move 67 rfl) (hB2.k _ rfl) (oi) ?_
            rw [oc, e8]
            refine V_aload_n (i := 0) (sx_di dX11_move 68 rfl) rfl rfl ?_
            refine V_getR (sx_di dX11_move 69 rfl) fX11_60 (fun _ => rfl) (hB2.k _ rfl) (hB2.r _ _ rfl) ?_
            refine V_getR (sx_di dX11_move 70 rfl) fX11_186 (fun _ => rfl) (hB2.k _ rfl) (hB2.r _ _ rfl) ?_
            refine V_iload_n (i := 2) (sx_di dX11_move 71 rfl) rfl rfl ?_
            refine V_iald (sx_di dX11_move 72 rfl) (hB2.k _ rfl) (oi) ?_
            rw [oc, hp_i_at]
            refine V_iret (sx_di dX11_move 73 rfl) rfl (Nat.le_refl _) (Nat.le_refl _) ?_
            have e : wmove n (nI h) (nI o) (hp_i w 63 (nI o).toNatClampNeg) (hp_i w 63 (nI h).toNatClampNeg) = -1 := by rw [wmove, if_neg h14, if_neg h25, if_neg h47, if_neg (Int32.not_lt.mpr h66)]
            exact h1 e h o hh ho hne rfl rfl
          · refine V_aload_n (i := 0) (sx_di dX11_move 40 rfl) rfl rfl ?_
            refine V_iconst (v := 3) (sx_di dX11_move 41 rfl) (by decide) ?_
            refine V_iconst (v := -1) (sx_di dX11_move 42 rfl) (by decide) ?_
            refine V_cV2 (mc' := 0) (ms' := 0) (M' := mX11_refused) 1 (sx_di dX11_move 43 rfl) lX11_249 vX11_refused (hB.k _ rfl) (by decide) rfl (Nat.le_of_ble_eq_true rfl) ⟨Nat.le_of_ble_eq_true rfl, Nat.le_of_ble_eq_true rfl⟩ ⟨Nat.le_refl _, Nat.le_refl _⟩ ?_
            refine c_X11_refused hB (k := 3) (by decide) ?_
            refine V_iret (sx_di dX11_move 44 rfl) rfl (Nat.le_refl _) (Nat.le_refl _) ?_
            have e : wmove n (nI h) (nI o) (hp_i w 63 (nI o).toNatClampNeg) (hp_i w 63 (nI h).toNatClampNeg) = 3 := by rw [wmove, if_neg h14, if_neg h25, if_neg h47, if_pos (Int32.not_le.mp h66)]
            have q := h0 (by rw [e]; decide)
            rw [e] at q
            exact q
        · refine V_aload_n (i := 0) (sx_di dX11_move 28 rfl) rfl rfl ?_
          refine V_iconst (v := 2) (sx_di dX11_move 29 rfl) (by decide) ?_
          refine V_iconst (v := -1) (sx_di dX11_move 30 rfl) (by decide) ?_
          refine V_cV2 (mc' := 0) (ms' := 0) (M' := mX11_refused) 1 (sx_di dX11_move 31 rfl) lX11_249 vX11_refused (hB.k _ rfl) (by decide) rfl (Nat.le_of_ble_eq_true rfl) ⟨Nat.le_of_ble_eq_true rfl, Nat.le_of_ble_eq_true rfl⟩ ⟨Nat.le_refl _, Nat.le_refl _⟩ ?_
          refine c_X11_refused hB (k := 2) (by decide) ?_
          refine V_iret (sx_di dX11_move 32 rfl) rfl (Nat.le_refl _) (Nat.le_refl _) ?_
          have e : wmove n (nI h) (nI o) (hp_i w 63 (nI o).toNatClampNeg) (hp_i w 63 (nI h).toNatClampNeg) = 2 := by rw [wmove, if_neg h14, if_neg h25, if_pos (Int32.not_lt.mp h46)]
          have q := h0 (by rw [e]; decide)
          rw [e] at q
          exact q
      · refine V_aload_n (i := 0) (sx_di dX11_move 16 rfl) rfl rfl ?_
        refine V_iconst (v := 1) (sx_di dX11_move 17 rfl) (by decide) ?_
        refine V_iconst (v := -1) (sx_di dX11_move 18 rfl) (by decide) ?_
        refine V_cV2 (mc' := 0) (ms' := 0) (M' := mX11_refused) 1 (sx_di dX11_move 19 rfl) lX11_249 vX11_refused (hB.k _ rfl) (by decide) rfl (Nat.le_of_ble_eq_true rfl) ⟨Nat.le_of_ble_eq_true rfl, Nat.le_of_ble_eq_true rfl⟩ ⟨Nat.le_refl _, Nat.le_refl _⟩ ?_
        refine c_X11_refused hB (k := 1) (by decide) ?_
        refine V_iret (sx_di dX11_move 20 rfl) rfl (Nat.le_refl _) (Nat.le_refl _) ?_
        have e : wmove n (nI h) (nI o) (hp_i w 63 (nI o).toNatClampNeg) (hp_i w 63 (nI h).toNatClampNeg) = 1 := by rw [wmove, if_neg h14, if_pos h25]
        have q := h0 (by rw [e]; decide)
        rw [e] at q
        exact q
    · refine V_aload_n (i := 0) (sx_di dX11_move 8 rfl) rfl rfl ?_
      refine V_iconst (v := 0) (sx_di dX11_move 9 rfl) (by decide) ?_
      refine V_iconst (v := -1) (sx_di dX11_move 10 rfl) (by decide) ?_
      refine V_cV2 (mc' := 0) (ms' := 0) (M' := mX11_refused) 1 (sx_di dX11_move 11 rfl) lX11_249 vX11_refused (hB.k _ rfl) (by decide) rfl (Nat.le_of_ble_eq_true rfl) ⟨Nat.le_of_ble_eq_true rfl, Nat.le_of_ble_eq_true rfl⟩ ⟨Nat.le_refl _, Nat.le_refl _⟩ ?_
      refine c_X11_refused hB (k := 0) (by decide) ?_
      refine V_iret (sx_di dX11_move 12 rfl) rfl (Nat.le_refl _) (Nat.le_refl _) ?_
      have e : wmove n (nI h) y (hp_i w 63 y.toNatClampNeg) (hp_i w 63 (nI h).toNatClampNeg) = 0 := by rw [wmove, if_pos (Or.inr h13)]
      have q := h0 (by rw [e]; decide)
      rw [e] at q
      exact q

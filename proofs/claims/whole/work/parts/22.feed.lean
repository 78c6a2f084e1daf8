/-! feed and end, of the class and of the reference -/
def fd_ (T : List Int32) (a b c d e : Int32) : List Int32 := a4_ (a4_ (a4_ (a4_ (a4_ T a) b) c) d) e
theorem ap_len (T : List Int32) (b : Int32) : nI (ap_ T b).length = cb_ (nI T.length) b := by
  unfold ap_ cb_
  split
  · rfl
  · rw [nI_1]; simp
theorem ap_le1 (T : List Int32) (b : Int32) : (ap_ T b).length ≤ T.length + 1 := by
  unfold ap_
  split <;> simp
theorem cb_add (c d b : Int32) : cb_ (c + d) b = c + cb_ d b := by
  unfold cb_
  split
  · rfl
  · rw [Int32.add_assoc]
theorem a4_len (T : List Int32) (x : Int32) : nI (a4_ T x).length = nI T.length + sg_ x := by
  unfold a4_ sg_
  rw [ap_len, ap_len, ap_len, ap_len, ← cb_add, ← cb_add, ← cb_add, ← cb_add, Int32.add_zero]
theorem a4_le (T : List Int32) (x : Int32) : T.length ≤ (a4_ T x).length := Nat.le_trans (Nat.le_trans (Nat.le_trans (ap_le _ _) (ap_le _ _)) (ap_le _ _)) (ap_le _ _)
theorem a4_le4 (T : List Int32) (x : Int32) : (a4_ T x).length ≤ T.length + 4 := by
  unfold a4_
  have h1 := ap_le1 T (b_at x 24)
  have h2 := ap_le1 (ap_ T (b_at x 24)) (b_at x 16)
  have h3 := ap_le1 (ap_ (ap_ T (b_at x 24)) (b_at x 16)) (b_at x 8)
  have h4 := ap_le1 (ap_ (ap_ (ap_ T (b_at x 24)) (b_at x 16)) (b_at x 8)) (b_at x 0)
  omega
theorem fd_len (T : List Int32) (a b c d e : Int32) : nI (fd_ T a b c d e).length = nI T.length + (sg_ a + sg_ b + sg_ c + sg_ d + sg_ e) := by
  unfold fd_
  rw [a4_len, a4_len, a4_len, a4_len, a4_len]
  simp only [Int32.add_assoc]
theorem fd_le (T : List Int32) (a b c d e : Int32) : (fd_ T a b c d e).length ≤ T.length + 20 := by
  unfold fd_
  have h1 := a4_le4 T a
  have h2 := a4_le4 (a4_ T a) b
  have h3 := a4_le4 (a4_ (a4_ T a) b) c
  have h4 := a4_le4 (a4_ (a4_ (a4_ T a) b) c) d
  have h5 := a4_le4 (a4_ (a4_ (a4_ (a4_ T a) b) c) d) e
  omega
set_option maxHeartbeats 2000000 in
set_option maxRecDepth 20000 in
theorem c_X11_feed {E : sxE} {w : hpW} {Q : Option Value → hpW → Prop} {a b c d e : Int32} (hB : ly_B w) (T : List Int32) (hT : tp_ w 17 1 18 T) (h0 : 240 < (fd_ T a b c d e).length → Q (some (.int (-1))) w) (h1 : (fd_ T a b c d e).length ≤ 240 → ∀ I, fr_ w I (fun b => b = 17 ∨ b = 18) → tp_ (hp_wi w I) 17 1 18 (fd_ T a b c d e) → Q (some (.int (nI (fd_ T a b c d e).length))) (hp_wi w I)) : sx_C E mX11_feed 2 0 0 [.ref 16, .int a, .int b, .int c, .int d, .int e] w Q := by
  have hlen : hp_i w 17 1 = nI T.length := hT.2.1
  have hfl := fd_le T a b c d e
  have hT1 := hT.1
  have e0 := fd_len T a b c d e
  refine C_of (by decide +kernel) (Nat.le_of_ble_eq_true rfl) ?_
  refine V_iload_n (i := 1) (sx_di dX11_feed 0 rfl) rfl rfl ?_
  refine V_cS1 (mc' := 0) (ms' := 0) (M' := mX10_signsIn) 1 (sx_di dX11_feed 1 rfl) lX11_111 vX10_signsIn (Nat.le_of_ble_eq_true rfl) ⟨Nat.le_of_ble_eq_true rfl, Nat.le_of_ble_eq_true rfl⟩ ⟨Nat.le_refl _, Nat.le_refl _⟩ ?_
  refine c_X10_signsIn ?_
  refine V_iload_n (i := 2) (sx_di dX11_feed 2 rfl) rfl rfl ?_
  refine V_cS1 (mc' := 0) (ms' := 0) (M' := mX10_signsIn) 1 (sx_di dX11_feed 3 rfl) lX11_111 vX10_signsIn (Nat.le_of_ble_eq_true rfl) ⟨Nat.le_of_ble_eq_true rfl, Nat.le_of_ble_eq_true rfl⟩ ⟨Nat.le_refl _, Nat.le_refl _⟩ ?_
  refine c_X10_signsIn ?_
  refine V_iadd (sx_di dX11_feed 4 rfl) ?_
  refine V_iload_n (i := 3) (sx_di dX11_feed 5 rfl) rfl rfl ?_
  refine V_cS1 (mc' := 0) (ms' := 0) (M' := mX10_signsIn) 1 (sx_di dX11_feed 6 rfl) lX11_111 vX10_signsIn (Nat.le_of_ble_eq_true rfl) ⟨Nat.le_of_ble_eq_true rfl, Nat.le_of_ble_eq_true rfl⟩ ⟨Nat.le_refl _, Nat.le_refl _⟩ ?_
  refine c_X10_signsIn ?_
  refine V_iadd (sx_di dX11_feed 7 rfl) ?_
  refine V_iload (sx_di dX11_feed 8 rfl) rfl ?_
  refine V_cS1 (mc' := 0) (ms' := 0) (M' := mX10_signsIn) 1 (sx_di dX11_feed 9 rfl) lX11_111 vX10_signsIn (Nat.le_of_ble_eq_true rfl) ⟨Nat.le_of_ble_eq_true rfl, Nat.le_of_ble_eq_true rfl⟩ ⟨Nat.le_refl _, Nat.le_refl _⟩ ?_
  refine c_X10_signsIn ?_
  refine V_iadd (sx_di dX11_feed 10 rfl) ?_
  refine V_iload (sx_di dX11_feed 11 rfl) rfl ?_
  refine V_cS1 (mc' := 0) (ms' := 0) (M' := mX10_signsIn) 1 (sx_di dX11_feed 12 rfl) lX11_111 vX10_signsIn (Nat.le_of_ble_eq_true rfl) ⟨Nat.le_of_ble_eq_true rfl, Nat.le_of_ble_eq_true rfl⟩ ⟨Nat.le_refl _, Nat.le_refl _⟩ ?_
  refine c_X10_signsIn ?_
  refine V_iadd (sx_di dX11_feed 13 rfl) ?_
  refine V_istore (sx_di dX11_feed 14 rfl) (by decide) (rfl) ?_
  refine V_aload_n (i := 0) (sx_di dX11_feed 15 rfl) rfl rfl ?_
  refine V_getR (sx_di dX11_feed 16 rfl) fX11_12 (fun _ => rfl) (hB.k _ rfl) (hB.r _ _ rfl) ?_
  refine V_getI (sx_di dX11_feed 17 rfl) fX11_115 (fun _ => rfl) (hB.k _ rfl) ?_
  refine V_iload (sx_di dX11_feed 18 rfl) rfl ?_
  refine V_iadd (sx_di dX11_feed 19 rfl) ?_
  refine V_sipush (v := 240) (sx_di dX11_feed 20 rfl) (by decide) ?_
  refine V_icmp_le (tgt := 46) (sx_di dX11_feed 21 rfl) (by decide) (fun h41 => ?_) (fun h41 => ?_)
  · rw [hlen, ← e0] at h41
    have l5 : (fd_ T a b c d e).length ≤ 240 := (nI_leI (by omega) (by decide)).mp h41
    have l4 := Nat.le_trans (a4_le (a4_ (a4_ (a4_ (a4_ T a) b) c) d) e) l5
    have l3 := Nat.le_trans (a4_le (a4_ (a4_ (a4_ T a) b) c) d) l4
    have l2 := Nat.le_trans (a4_le (a4_ (a4_ T a) b) c) l3
    have l1 := Nat.le_trans (a4_le (a4_ T a) b) l2
    refine V_aload_n (i := 0) (sx_di dX11_feed 24 rfl) rfl rfl ?_
    refine V_getR (sx_di dX11_feed 25 rfl) fX11_12 (fun _ => rfl) (hB.k _ rfl) (hB.r _ _ rfl) ?_
    refine V_iload_n (i := 1) (sx_di dX11_feed 26 rfl) rfl rfl ?_
    refine V_cV1 (mc' := 0) (ms' := 0) (M' := mX10_add) 1 (sx_di dX11_feed 27 rfl) lX11_119 vX10_add (hB.k _ rfl) (by decide) rfl (Nat.le_of_ble_eq_true rfl) ⟨Nat.le_of_ble_eq_true rfl, Nat.le_of_ble_eq_true rfl⟩ ⟨Nat.le_refl _, Nat.le_refl _⟩ ?_
    refine c_X10_add (w := w) hB (T) hT l1 (fun I1 f1 t1 => ?_)
    refine V_aload_n (i := 0) (sx_di dX11_feed 28 rfl) rfl rfl ?_
    refine V_getR (sx_di dX11_feed 29 rfl) fX11_12 (fun _ => rfl) (hB.k _ rfl) (hB.r _ _ rfl) ?_
    refine V_iload_n (i := 2) (sx_di dX11_feed 30 rfl) rfl rfl ?_
    refine V_cV1 (mc' := 0) (ms' := 0) (M' := mX10_add) 1 (sx_di dX11_feed 31 rfl) lX11_119 vX10_add (hB.k _ rfl) (by decide) rfl (Nat.le_of_ble_eq_true rfl) ⟨Nat.le_of_ble_eq_true rfl, Nat.le_of_ble_eq_true rfl⟩ ⟨Nat.le_refl _, Nat.le_refl _⟩ ?_
    refine c_X10_add (w := hp_wi w I1) hB (a4_ T a) t1 l2 (fun I2 f2 t2 => ?_)
    refine V_aload_n (i := 0) (sx_di dX11_feed 32 rfl) rfl rfl ?_
    refine V_getR (sx_di dX11_feed 33 rfl) fX11_12 (fun _ => rfl) (hB.k _ rfl) (hB.r _ _ rfl) ?_
    refine V_iload_n (i := 3) (sx_di dX11_feed 34 rfl) rfl rfl ?_
    refine V_cV1 (mc' := 0) (ms' := 0) (M' := mX10_add) 1 (sx_di dX11_feed 35 rfl) lX11_119 vX10_add (hB.k _ rfl) (by decide) rfl (Nat.le_of_ble_eq_true rfl) ⟨Nat.le_of_ble_eq_true rfl, Nat.le_of_ble_eq_true rfl⟩ ⟨Nat.le_refl _, Nat.le_refl _⟩ ?_
    refine c_X10_add (w := hp_wi w I2) hB (a4_ (a4_ T a) b) t2 l3 (fun I3 f3 t3 => ?_)
    refine V_aload_n (i := 0) (sx_di dX11_feed 36 rfl) rfl rfl ?_
    refine V_getR (sx_di dX11_feed 37 rfl) fX11_12 (fun _ => rfl) (hB.k _ rfl) (hB.r _ _ rfl) ?_
    refine V_iload (sx_di dX11_feed 38 rfl) rfl ?_
    refine V_cV1 (mc' := 0) (ms' := 0) (M' := mX10_add) 1 (sx_di dX11_feed 39 rfl) lX11_119 vX10_add (hB.k _ rfl) (by decide) rfl (Nat.le_of_ble_eq_true rfl) ⟨Nat.le_of_ble_eq_true rfl, Nat.le_of_ble_eq_true rfl⟩ ⟨Nat.le_refl _, Nat.le_refl _⟩ ?_
    refine c_X10_add (w := hp_wi w I3) hB (a4_ (a4_ (a4_ T a) b) c) t3 l4 (fun I4 f4 t4 => ?_)
    refine V_aload_n (i := 0) (sx_di dX11_feed 40 rfl) rfl rfl ?_
    refine V_getR (sx_di dX11_feed 41 rfl) fX11_12 (fun _ => rfl) (hB.k _ rfl) (hB.r _ _ rfl) ?_
    refine V_iload (sx_di dX11_feed 42 rfl) rfl ?_
    refine V_cV1 (mc' := 0) (ms' := 0) (M' := mX10_add) 1 (sx_di dX11_feed 43 rfl) lX11_119 vX10_add (hB.k _ rfl) (by decide) rfl (Nat.le_of_ble_eq_true rfl) ⟨Nat.le_of_ble_eq_true rfl, Nat.le_of_ble_eq_true rfl⟩ ⟨Nat.le_refl _, Nat.le_refl _⟩ ?_
    refine c_X10_add (w := hp_wi w I4) hB (a4_ (a4_ (a4_ (a4_ T a) b) c) d) t4 l5 (fun I5 f5 t5 => ?_)
    refine V_aload_n (i := 0) (sx_di dX11_feed 44 rfl) rfl rfl ?_
    refine V_getR (sx_di dX11_feed 45 rfl) fX11_12 (fun _ => rfl) (hB.k _ rfl) (hB.r _ _ rfl) ?_
    refine V_getI (sx_di dX11_feed 46 rfl) fX11_115 (fun _ => rfl) (hB.k _ rfl) ?_
    refine V_iret (sx_di dX11_feed 47 rfl) rfl (Nat.le_refl _) (Nat.le_refl _) ?_
    have e1 : hp_i (hp_wi w I5) 17 1 = nI (fd_ T a b c d e).length := t5.2.1
    show Q (some (.int (hp_i (hp_wi w I5) 17 1))) (hp_wi w I5)
    rw [e1]
    exact h1 l5 I5 (fr_tr (fr_tr (fr_tr (fr_tr f1 f2 (fun _ z => z)) f3 (fun _ z => z)) f4 (fun _ z => z)) f5 (fun _ z => z)) t5
  · rw [hlen, ← e0] at h41
    have l6 : 240 < (fd_ T a b c d e).length := by
      rcases Nat.lt_or_ge 240 (fd_ T a b c d e).length with q | q
      · exact q
      · exact absurd (nI_le q (by decide)) h41
    refine V_iconst (v := -1) (sx_di dX11_feed 22 rfl) (by decide) ?_
    refine V_iret (sx_di dX11_feed 23 rfl) rfl (Nat.le_refl _) (Nat.le_refl _) ?_
    exact h0 l6
theorem tp_cut {w : hpW} {a j b : Nat} {T : List Int32} (h : tp_ w a j b T) (hab : b ≠ a) {n : Nat} (hn : n ≤ T.length) : tp_ (hp_si w a j (nI n)) a j b (T.take n) := by
  have hl : (T.take n).length = n := by simp; omega
  refine ⟨by rw [hl]; have := h.1; omega, by rw [hp_i_si, if_pos ⟨rfl, rfl⟩, hl], fun k hk => ?_⟩
  rw [hl] at hk
  rw [hp_i_si, if_neg (fun z => hab z.1), h.2.2 k (by omega)]
  simp [List.getD, List.getElem?_take, hk]
set_option maxHeartbeats 2000000 in
set_option maxRecDepth 20000 in
theorem c_X11_end {E : sxE} {w : hpW} {Q : Option Value → hpW → Prop} (hB : ly_B w) {n : Int32} (T : List Int32) (hT : tp_ w 17 1 18 T) (h0 : (n < 0 ∨ nI T.length < n) → Q (some (.int 0)) w) (hn : ∀ k, k ≤ T.length → n = nI k → ∀ I, fr_ w I (fun b => b = 17) → tp_ (hp_wi w I) 17 1 18 (T.take k) → Q (some (.int 1)) (hp_wi w I)) : sx_C E mX11_end 1 0 0 [.ref 16, .int n] w Q := by
  have hlen : hp_i w 17 1 = nI T.length := hT.2.1
  have hT1 := hT.1
  refine C_of (by decide +kernel) (Nat.le_of_ble_eq_true rfl) ?_
  refine V_iload_n (i := 1) (sx_di dX11_end 0 rfl) rfl rfl ?_
  refine V_if_lt (tgt := 15) (sx_di dX11_end 1 rfl) (by decide) (fun h1 => ?_) (fun h1 => ?_)
  · refine V_iconst (v := 0) (sx_di dX11_end 7 rfl) (by decide) ?_
    refine V_zret (sx_di dX11_end 8 rfl) rfl (by first | rfl | decide) (Nat.le_refl _) (Nat.le_refl _) ?_
    first | exact h0 (Or.inl h1) | (rw [hlen] at h12; exact h0 (Or.inr (Int32.not_le.mp h12)))
  · refine V_iload_n (i := 1) (sx_di dX11_end 2 rfl) rfl rfl ?_
    refine V_aload_n (i := 0) (sx_di dX11_end 3 rfl) rfl rfl ?_
    refine V_getR (sx_di dX11_end 4 rfl) fX11_12 (fun _ => rfl) (hB.k _ rfl) (hB.r _ _ rfl) ?_
    refine V_getI (sx_di dX11_end 5 rfl) fX11_115 (fun _ => rfl) (hB.k _ rfl) ?_
    refine V_icmp_le (tgt := 17) (sx_di dX11_end 6 rfl) (by decide) (fun h12 => ?_) (fun h12 => ?_)
    · refine V_aload_n (i := 0) (sx_di dX11_end 9 rfl) rfl rfl ?_
      refine V_getR (sx_di dX11_end 10 rfl) fX11_12 (fun _ => rfl) (hB.k _ rfl) (hB.r _ _ rfl) ?_
      refine V_iload_n (i := 1) (sx_di dX11_end 11 rfl) rfl rfl ?_
      refine V_putI (sx_di dX11_end 12 rfl) fX11_115 (fun _ => rfl) rfl (hB.k _ rfl) (rfl) (rfl) ?_
      refine V_iconst (v := 1) (sx_di dX11_end 13 rfl) (by decide) ?_
      refine V_zret (sx_di dX11_end 14 rfl) rfl (by first | rfl | decide) (Nat.le_refl _) (Nat.le_refl _) ?_
      rw [hlen] at h12
      obtain ⟨k, hk, rfl⟩ := nI_of2 (M := nI T.length) (n := T.length) (nI_toInt (by omega)) h1 h12
      exact hn k hk rfl _ (fr_si fr_rf rfl) (tp_cut hT (by decide) hk)
    · refine V_iconst (v := 0) (sx_di dX11_end 7 rfl) (by decide) ?_
      refine V_zret (sx_di dX11_end 8 rfl) rfl (by first | rfl | decide) (Nat.le_refl _) (Nat.le_refl _) ?_
      first | exact h0 (Or.inl h1) | (rw [hlen] at h12; exact h0 (Or.inr (Int32.not_le.mp h12)))
set_option maxHeartbeats 2000000 in
set_option maxRecDepth 20000 in
theorem c_X12_end {E : sxE} {w : hpW} {Q : Option Value → hpW → Prop} (hB : ly_B w) {n : Int32} (T : List Int32) (hT : tp_ w 381 2 382 T) (h0 : (n < 0 ∨ nI T.length < n) → Q (some (.int 0)) w) (hn : ∀ k, k ≤ T.length → n = nI k → ∀ I, fr_ w I (fun b => b = 381) → tp_ (hp_wi w I) 381 2 382 (T.take k) → Q (some (.int 1)) (hp_wi w I)) : sx_C E mX12_end 1 0 0 [.ref 381, .int n] w Q := by
  have hlen : hp_i w 381 2 = nI T.length := hT.2.1
  have hT1 := hT.1
  refine C_of (by decide +kernel) (Nat.le_of_ble_eq_true rfl) ?_
  refine V_iload_n (i := 1) (sx_di dX12_end 0 rfl) rfl rfl ?_
  refine V_if_lt (tgt := 12) (sx_di dX12_end 1 rfl) (by decide) (fun h1 => ?_) (fun h1 => ?_)
  · refine V_iconst (v := 0) (sx_di dX12_end 6 rfl) (by decide) ?_
    refine V_zret (sx_di dX12_end 7 rfl) rfl (by first | rfl | decide) (Nat.le_refl _) (Nat.le_refl _) ?_
    first | exact h0 (Or.inl h1) | (rw [hlen] at h9; exact h0 (Or.inr (Int32.not_le.mp h9)))
  · refine V_iload_n (i := 1) (sx_di dX12_end 2 rfl) rfl rfl ?_
    refine V_aload_n (i := 0) (sx_di dX12_end 3 rfl) rfl rfl ?_
    refine V_getI (sx_di dX12_end 4 rfl) fX12_106 (fun _ => rfl) (hB.k _ rfl) ?_
    refine V_icmp_le (tgt := 14) (sx_di dX12_end 5 rfl) (by decide) (fun h9 => ?_) (fun h9 => ?_)
    · refine V_aload_n (i := 0) (sx_di dX12_end 8 rfl) rfl rfl ?_
      refine V_iload_n (i := 1) (sx_di dX12_end 9 rfl) rfl rfl ?_
      refine V_putI (sx_di dX12_end 10 rfl) fX12_106 (fun _ => rfl) rfl (hB.k _ rfl) (rfl) (rfl) ?_
      refine V_iconst (v := 1) (sx_di dX12_end 11 rfl) (by decide) ?_
      refine V_zret (sx_di dX12_end 12 rfl) rfl (by first | rfl | decide) (Nat.le_refl _) (Nat.le_refl _) ?_
      rw [hlen] at h9
      obtain ⟨k, hk, rfl⟩ := nI_of2 (M := nI T.length) (n := T.length) (nI_toInt (by omega)) h1 h9
      exact hn k hk rfl _ (fr_si fr_rf rfl) (tp_cut hT (by decide) hk)
    · refine V_iconst (v := 0) (sx_di dX12_end 6 rfl) (by decide) ?_
      refine V_zret (sx_di dX12_end 7 rfl) rfl (by first | rfl | decide) (Nat.le_refl _) (Nat.le_refl _) ?_
      first | exact h0 (Or.inl h1) | (rw [hlen] at h9; exact h0 (Or.inr (Int32.not_le.mp h9)))
def bw_ (a b c d e : Int32) (k : Nat) : Int32 := if k < 4 then a else if k < 8 then b else if k < 12 then c else if k < 16 then d else e
def bo_ (a b c d e : Int32) (k : Nat) : Int32 := b_at (bw_ a b c d e k) (nI (24 - 8 * (k % 4)))
theorem b_sh (x : Int32) {n : Nat} (hn : n ≤ 24) : (x >>> (nI n &&& 31)) &&& 255 = b_at x (nI n) := by
  unfold b_at
  apply b_ext
  intro i hi
  rw [b_and, b_and, b_255]
  by_cases h8 : i < 8
  · rw [b_sshr n (by omega) x hi, b_ushr n (by omega), if_pos (by omega)]
  · simp [h8]
theorem bo_sh (x : Int32) {k : Nat} (hk : k < 20) : (x >>> ((24 - 8 * (nI k - nI k / 4 * 4)) &&& 31)) &&& 255 = b_at x (nI (24 - 8 * (k % 4))) := by
  have e1 : nI k - nI k / 4 * 4 = nI (k % 4) := pk_rem (d := 4) (by omega) (by decide) (by decide)
  rw [e1, show (8 : Int32) = nI 8 from rfl, pk_mul, show (24 : Int32) = nI 24 from rfl, pk_sub (by omega)]
  exact b_sh x (by omega)
set_option maxHeartbeats 2000000 in
set_option maxRecDepth 20000 in
theorem c_X12_byteOf {E : sxE} {w : hpW} {Q : Option Value → hpW → Prop} {a b c d e : Int32} {k : Nat} (hk : k < 20) (h : Q (some (.int (bo_ a b c d e k))) w) : sx_C E mX12_byteOf 1 0 0 [.int a, .int b, .int c, .int d, .int e, .int (nI k)] w Q := by
  have g4 : (4 : Int32) ≤ nI k ↔ 4 ≤ k := nI_leI (a := 4) (by decide) (by omega)
  have g8 : (8 : Int32) ≤ nI k ↔ 8 ≤ k := nI_leI (a := 8) (by decide) (by omega)
  have g12 : (12 : Int32) ≤ nI k ↔ 12 ≤ k := nI_leI (a := 12) (by decide) (by omega)
  have g16 : (16 : Int32) ≤ nI k ↔ 16 ≤ k := nI_leI (a := 16) (by decide) (by omega)
  refine C_of (by decide +kernel) (Nat.le_of_ble_eq_true rfl) ?_
  refine V_iload (sx_di dX12_byteOf 0 rfl) rfl ?_
  refine V_iconst (v := 4) (sx_di dX12_byteOf 1 rfl) (by decide) ?_
  refine V_icmp_ge (tgt := 10) (sx_di dX12_byteOf 2 rfl) (by decide) (fun h3 => ?_) (fun h3 => ?_)
  · rw [g4] at h3
    refine V_iload (sx_di dX12_byteOf 5 rfl) rfl ?_
    refine V_bipush (v := 8) (sx_di dX12_byteOf 6 rfl) (by decide) ?_
    refine V_icmp_ge (tgt := 21) (sx_di dX12_byteOf 7 rfl) (by decide) (fun h14 => ?_) (fun h14 => ?_)
    · rw [g8] at h14
      refine V_iload (sx_di dX12_byteOf 10 rfl) rfl ?_
      refine V_bipush (v := 12) (sx_di dX12_byteOf 11 rfl) (by decide) ?_
      refine V_icmp_ge (tgt := 32) (sx_di dX12_byteOf 12 rfl) (by decide) (fun h25 => ?_) (fun h25 => ?_)
      · rw [g12] at h25
        refine V_iload (sx_di dX12_byteOf 15 rfl) rfl ?_
        refine V_bipush (v := 16) (sx_di dX12_byteOf 16 rfl) (by decide) ?_
        refine V_icmp_ge (tgt := 43) (sx_di dX12_byteOf 17 rfl) (by decide) (fun h36 => ?_) (fun h36 => ?_)
        · rw [g16] at h36
          refine V_iload (sx_di dX12_byteOf 20 rfl) rfl ?_
          refine V_istore (sx_di dX12_byteOf 21 rfl) (by decide) (rfl) ?_
          refine V_iload (sx_di dX12_byteOf 22 rfl) rfl ?_
          refine V_bipush (v := 24) (sx_di dX12_byteOf 23 rfl) (by decide) ?_
          refine V_bipush (v := 8) (sx_di dX12_byteOf 24 rfl) (by decide) ?_
          refine V_iload (sx_di dX12_byteOf 25 rfl) rfl ?_
          refine V_iconst (v := 4) (sx_di dX12_byteOf 26 rfl) (by decide) ?_
          refine V_irem (sx_di dX12_byteOf 27 rfl) (by decide) ?_
          refine V_imul (sx_di dX12_byteOf 28 rfl) ?_
          refine V_isub (sx_di dX12_byteOf 29 rfl) ?_
          refine V_ishr (sx_di dX12_byteOf 30 rfl) ?_
          refine V_sipush (v := 255) (sx_di dX12_byteOf 31 rfl) (by decide) ?_
          refine V_iand (sx_di dX12_byteOf 32 rfl) ?_
          refine V_iret (sx_di dX12_byteOf 33 rfl) rfl (Nat.le_refl _) (Nat.le_refl _) ?_
          rw [bo_sh _ hk]
          have e9 : bo_ a b c d e k = b_at _ (nI (24 - 8 * (k % 4))) := congrArg (fun z => b_at z (nI (24 - 8 * (k % 4)))) (by unfold bw_; first | rw [if_pos (by omega)] | rw [if_neg (by omega), if_pos (by omega)] | rw [if_neg (by omega), if_neg (by omega), if_pos (by omega)] | rw [if_neg (by omega), if_neg (by omega), if_neg (by omega), if_pos (by omega)] | rw [if_neg (by omega), if_neg (by omega), if_neg (by omega), if_neg (by omega)])
          rw [← e9]
          exact h
        · rw [g16] at h36
          refine V_iload_n (i := 3) (sx_di dX12_byteOf 18 rfl) rfl rfl ?_
          refine V_goto (tgt := 45) (sx_di dX12_byteOf 19 rfl) (by decide) ?_
          refine V_istore (sx_di dX12_byteOf 21 rfl) (by decide) (rfl) ?_
          refine V_iload (sx_di dX12_byteOf 22 rfl) rfl ?_
          refine V_bipush (v := 24) (sx_di dX12_byteOf 23 rfl) (by decide) ?_
          refine V_bipush (v := 8) (sx_di dX12_byteOf 24 rfl) (by decide) ?_
          refine V_iload (sx_di dX12_byteOf 25 rfl) rfl ?_
          refine V_iconst (v := 4) (sx_di dX12_byteOf 26 rfl) (by decide) ?_
          refine V_irem (sx_di dX12_byteOf 27 rfl) (by decide) ?_
          refine V_imul (sx_di dX12_byteOf 28 rfl) ?_
          refine V_isub (sx_di dX12_byteOf 29 rfl) ?_
          refine V_ishr (sx_di dX12_byteOf 30 rfl) ?_
          refine V_sipush (v := 255) (sx_di dX12_byteOf 31 rfl) (by decide) ?_
          refine V_iand (sx_di dX12_byteOf 32 rfl) ?_
          refine V_iret (sx_di dX12_byteOf 33 rfl) rfl (Nat.le_refl _) (Nat.le_refl _) ?_
          rw [bo_sh _ hk]
          have e9 : bo_ a b c d e k = b_at _ (nI (24 - 8 * (k % 4))) := congrArg (fun z => b_at z (nI (24 - 8 * (k % 4)))) (by unfold bw_; first | rw [if_pos (by omega)] | rw [if_neg (by omega), if_pos (by omega)] | rw [if_neg (by omega), if_neg (by omega), if_pos (by omega)] | rw [if_neg (by omega), if_neg (by omega), if_neg (by omega), if_pos (by omega)] | rw [if_neg (by omega), if_neg (by omega), if_neg (by omega), if_neg (by omega)])
          rw [← e9]
          exact h
      · rw [g12] at h25
        refine V_iload_n (i := 2) (sx_di dX12_byteOf 13 rfl) rfl rfl ?_
        refine V_goto (tgt := 45) (sx_di dX12_byteOf 14 rfl) (by decide) ?_
        refine V_istore (sx_di dX12_byteOf 21 rfl) (by decide) (rfl) ?_
        refine V_iload (sx_di dX12_byteOf 22 rfl) rfl ?_
        refine V_bipush (v := 24) (sx_di dX12_byteOf 23 rfl) (by decide) ?_
        refine V_bipush (v := 8) (sx_di dX12_byteOf 24 rfl) (by decide) ?_
        refine V_iload (sx_di dX12_byteOf 25 rfl) rfl ?_
        refine V_iconst (v := 4) (sx_di dX12_byteOf 26 rfl) (by decide) ?_
        refine V_irem (sx_di dX12_byteOf 27 rfl) (by decide) ?_
        refine V_imul (sx_di dX12_byteOf 28 rfl) ?_
        refine V_isub (sx_di dX12_byteOf 29 rfl) ?_
        refine V_ishr (sx_di dX12_byteOf 30 rfl) ?_
        refine V_sipush (v := 255) (sx_di dX12_byteOf 31 rfl) (by decide) ?_
        refine V_iand (sx_di dX12_byteOf 32 rfl) ?_
        refine V_iret (sx_di dX12_byteOf 33 rfl) rfl (Nat.le_refl _) (Nat.le_refl _) ?_
        rw [bo_sh _ hk]
        have e9 : bo_ a b c d e k = b_at _ (nI (24 - 8 * (k % 4))) := congrArg (fun z => b_at z (nI (24 - 8 * (k % 4)))) (by unfold bw_; first | rw [if_pos (by omega)] | rw [if_neg (by omega), if_pos (by omega)] | rw [if_neg (by omega), if_neg (by omega), if_pos (by omega)] | rw [if_neg (by omega), if_neg (by omega), if_neg (by omega), if_pos (by omega)] | rw [if_neg (by omega), if_neg (by omega), if_neg (by omega), if_neg (by omega)])
        rw [← e9]
        exact h
    · rw [g8] at h14
      refine V_iload_n (i := 1) (sx_di dX12_byteOf 8 rfl) rfl rfl ?_
      refine V_goto (tgt := 45) (sx_di dX12_byteOf 9 rfl) (by decide) ?_
      refine V_istore (sx_di dX12_byteOf 21 rfl) (by decide) (rfl) ?_
      refine V_iload (sx_di dX12_byteOf 22 rfl) rfl ?_
      refine V_bipush (v := 24) (sx_di dX12_byteOf 23 rfl) (by decide) ?_
      refine V_bipush (v := 8) (sx_di dX12_byteOf 24 rfl) (by decide) ?_
      refine V_iload (sx_di dX12_byteOf 25 rfl) rfl ?_
      refine V_iconst (v := 4) (sx_di dX12_byteOf 26 rfl) (by decide) ?_
      refine V_irem (sx_di dX12_byteOf 27 rfl) (by decide) ?_
      refine V_imul (sx_di dX12_byteOf 28 rfl) ?_
      refine V_isub (sx_di dX12_byteOf 29 rfl) ?_
      refine V_ishr (sx_di dX12_byteOf 30 rfl) ?_
      refine V_sipush (v := 255) (sx_di dX12_byteOf 31 rfl) (by decide) ?_
      refine V_iand (sx_di dX12_byteOf 32 rfl) ?_
      refine V_iret (sx_di dX12_byteOf 33 rfl) rfl (Nat.le_refl _) (Nat.le_refl _) ?_
      rw [bo_sh _ hk]
      have e9 : bo_ a b c d e k = b_at _ (nI (24 - 8 * (k % 4))) := congrArg (fun z => b_at z (nI (24 - 8 * (k % 4)))) (by unfold bw_; first | rw [if_pos (by omega)] | rw [if_neg (by omega), if_pos (by omega)] | rw [if_neg (by omega), if_neg (by omega), if_pos (by omega)] | rw [if_neg (by omega), if_neg (by omega), if_neg (by omega), if_pos (by omega)] | rw [if_neg (by omega), if_neg (by omega), if_neg (by omega), if_neg (by omega)])
      rw [← e9]
      exact h
  · rw [g4] at h3
    refine V_iload_n (i := 0) (sx_di dX12_byteOf 3 rfl) rfl rfl ?_
    refine V_goto (tgt := 45) (sx_di dX12_byteOf 4 rfl) (by decide) ?_
    refine V_istore (sx_di dX12_byteOf 21 rfl) (by decide) (rfl) ?_
    refine V_iload (sx_di dX12_byteOf 22 rfl) rfl ?_
    refine V_bipush (v := 24) (sx_di dX12_byteOf 23 rfl) (by decide) ?_
    refine V_bipush (v := 8) (sx_di dX12_byteOf 24 rfl) (by decide) ?_
    refine V_iload (sx_di dX12_byteOf 25 rfl) rfl ?_
    refine V_iconst (v := 4) (sx_di dX12_byteOf 26 rfl) (by decide) ?_
    refine V_irem (sx_di dX12_byteOf 27 rfl) (by decide) ?_
    refine V_imul (sx_di dX12_byteOf 28 rfl) ?_
    refine V_isub (sx_di dX12_byteOf 29 rfl) ?_
    refine V_ishr (sx_di dX12_byteOf 30 rfl) ?_
    refine V_sipush (v := 255) (sx_di dX12_byteOf 31 rfl) (by decide) ?_
    refine V_iand (sx_di dX12_byteOf 32 rfl) ?_
    refine V_iret (sx_di dX12_byteOf 33 rfl) rfl (Nat.le_refl _) (Nat.le_refl _) ?_
    rw [bo_sh _ hk]
    have e9 : bo_ a b c d e k = b_at _ (nI (24 - 8 * (k % 4))) := congrArg (fun z => b_at z (nI (24 - 8 * (k % 4)))) (by unfold bw_; first | rw [if_pos (by omega)] | rw [if_neg (by omega), if_pos (by omega)] | rw [if_neg (by omega), if_neg (by omega), if_pos (by omega)] | rw [if_neg (by omega), if_neg (by omega), if_neg (by omega), if_pos (by omega)] | rw [if_neg (by omega), if_neg (by omega), if_neg (by omega), if_neg (by omega)])
    rw [← e9]
    exact h
/-- of the first k bytes: how many aren't 0, and those behind T -/
def ct_ (a b c d e : Int32) : Nat → Int32
  | 0 => 0
  | k + 1 => ct_ a b c d e k + (if bo_ a b c d e k = 0 then 0 else 1)
def tk_ (T : List Int32) (a b c d e : Int32) : Nat → List Int32
  | 0 => T
  | k + 1 => ap_ (tk_ T a b c d e k) (bo_ a b c d e k)
theorem tk_20 (T : List Int32) (a b c d e : Int32) : tk_ T a b c d e 20 = fd_ T a b c d e := rfl
theorem tk_len (T : List Int32) (a b c d e : Int32) : ∀ k, nI (tk_ T a b c d e k).length = nI T.length + ct_ a b c d e k
  | 0 => by simp [tk_, ct_]
  | k + 1 => by
    show nI (ap_ (tk_ T a b c d e k) (bo_ a b c d e k)).length = nI T.length + (ct_ a b c d e k + _)
    rw [ap_len, tk_len T a b c d e k, ← Int32.add_assoc]
    unfold cb_
    split
    · simp
    · rfl
theorem tk_mono (T : List Int32) (a b c d e : Int32) : ∀ n k, k + n = 20 → (tk_ T a b c d e k).length ≤ (tk_ T a b c d e 20).length
  | 0, k, h => by rw [show k = 20 by omega]; exact Nat.le_refl _
  | n + 1, k, h => Nat.le_trans (ap_le _ (bo_ a b c d e k)) (tk_mono T a b c d e n (k + 1) (by omega))
set_option maxHeartbeats 2000000 in
set_option maxRecDepth 20000 in
theorem fe_lp1 {E : sxE} {w : hpW} {Q : Option Value → hpW → Prop} {a b c d e : Int32} (kk : V E mX12_feed (sx_rm 2 0 0) 0 0 0 0 44 [(6, .int (ct_ a b c d e 20)), (5, .int e), (4, .int d), (3, .int c), (2, .int b), (1, .int a), (0, .ref 381)] [] w Q) : ∀ n k, k + n = 20 → V E mX12_feed (sx_rm 2 0 0) 0 0 0 0 6 [(7, .int (nI k)), (6, .int (ct_ a b c d e k)), (5, .int e), (4, .int d), (3, .int c), (2, .int b), (1, .int a), (0, .ref 381)] [] w Q := by
  intro n
  induction n with
  | zero =>
    intro k hk
    have e20 : k = 20 := by omega
    subst e20
    refine V_iload (sx_di dX12_feed 4 rfl) rfl ?_
    refine V_bipush (v := 20) (sx_di dX12_feed 5 rfl) (by decide) ?_
    refine V_icmp_ge (tgt := 44) (sx_di dX12_feed 6 rfl) (by decide) (fun _ => ?_) (fun h10 => absurd (Int32.le_refl _) h10)
    exact V_subk kk ⟨rfl, rfl, rfl, rfl, rfl, rfl, rfl, trivial⟩
  | succ n ih =>
    intro k hk
    have q0 := ih (k + 1) (by omega)
    rw [← nI_1] at q0
    have e1 : ct_ a b c d e (k + 1) = ct_ a b c d e k + (if bo_ a b c d e k = 0 then 0 else 1) := rfl
    rw [e1] at q0
    refine V_iload (sx_di dX12_feed 4 rfl) rfl ?_
    refine V_bipush (v := 20) (sx_di dX12_feed 5 rfl) (by decide) ?_
    refine V_icmp_ge (tgt := 44) (sx_di dX12_feed 6 rfl) (by decide) (fun h10 => absurd h10 (fun q => absurd ((nI_leI (a := 20) (by decide) (by omega)).mp q) (by omega))) (fun _ => ?_)
    refine V_iload (sx_di dX12_feed 7 rfl) rfl ?_
    refine V_iload_n (i := 1) (sx_di dX12_feed 8 rfl) rfl rfl ?_
    refine V_iload_n (i := 2) (sx_di dX12_feed 9 rfl) rfl rfl ?_
    refine V_iload_n (i := 3) (sx_di dX12_feed 10 rfl) rfl rfl ?_
    refine V_iload (sx_di dX12_feed 11 rfl) rfl ?_
    refine V_iload (sx_di dX12_feed 12 rfl) rfl ?_
    refine V_iload (sx_di dX12_feed 13 rfl) rfl ?_
    refine V_cS6 (mc' := 0) (ms' := 0) (M' := mX12_byteOf) 1 (sx_di dX12_feed 14 rfl) lX12_102 vX12_byteOf (Nat.le_of_ble_eq_true rfl) ⟨Nat.le_of_ble_eq_true rfl, Nat.le_of_ble_eq_true rfl⟩ ⟨Nat.le_refl _, Nat.le_refl _⟩ ?_
    refine c_X12_byteOf (by omega) ?_
    refine V_if_eq (tgt := 34) (sx_di dX12_feed 15 rfl) (by decide) (fun h27 => ?_) (fun h27 => ?_)
    · refine V_iconst (v := 0) (sx_di dX12_feed 18 rfl) (by decide) ?_
      refine V_iadd (sx_di dX12_feed 19 rfl) ?_
      refine V_istore (sx_di dX12_feed 20 rfl) (by decide) (rfl) ?_
      refine V_inc (c := 1) (sx_di dX12_feed 21 rfl) (by decide) rfl (by decide) (rfl) ?_
      refine V_goto (tgt := 6) (sx_di dX12_feed 22 rfl) (by decide) ?_
      first | (rw [if_pos h27] at q0; exact V_subk q0 ⟨rfl, rfl, rfl, rfl, rfl, rfl, rfl, rfl, trivial⟩) | (rw [if_neg h27] at q0; exact V_subk q0 ⟨rfl, rfl, rfl, rfl, rfl, rfl, rfl, rfl, trivial⟩)
    · refine V_iconst (v := 1) (sx_di dX12_feed 16 rfl) (by decide) ?_
      refine V_goto (tgt := 35) (sx_di dX12_feed 17 rfl) (by decide) ?_
      refine V_iadd (sx_di dX12_feed 19 rfl) ?_
      refine V_istore (sx_di dX12_feed 20 rfl) (by decide) (rfl) ?_
      refine V_inc (c := 1) (sx_di dX12_feed 21 rfl) (by decide) rfl (by decide) (rfl) ?_
      refine V_goto (tgt := 6) (sx_di dX12_feed 22 rfl) (by decide) ?_
      first | (rw [if_pos h27] at q0; exact V_subk q0 ⟨rfl, rfl, rfl, rfl, rfl, rfl, rfl, rfl, trivial⟩) | (rw [if_neg h27] at q0; exact V_subk q0 ⟨rfl, rfl, rfl, rfl, rfl, rfl, rfl, rfl, trivial⟩)
set_option maxHeartbeats 2000000 in
set_option maxRecDepth 20000 in
theorem fe_lp2 {E : sxE} {Q : Option Value → hpW → Prop} {a b c d e : Int32} (T : List Int32) (hl : (fd_ T a b c d e).length ≤ 240) : ∀ n k, k + n = 20 → ∀ w, ly_B w → tp_ w 381 2 382 (tk_ T a b c d e k) → (∀ I, fr_ w I (fun b => b = 381 ∨ b = 382) → tp_ (hp_wi w I) 381 2 382 (fd_ T a b c d e) → Q (some (.int (nI (fd_ T a b c d e).length))) (hp_wi w I)) → V E mX12_feed (sx_rm 2 0 0) 0 0 0 0 62 [(7, .int (nI k)), (5, .int e), (4, .int d), (3, .int c), (2, .int b), (1, .int a), (0, .ref 381)] [] w Q := by
  intro n
  induction n with
  | zero =>
    intro k hk w hB hT h
    have e20 : k = 20 := by omega
    subst e20
    rw [tk_20] at hT
    have hlen : hp_i w 381 2 = nI (fd_ T a b c d e).length := hT.2.1
    refine V_iload (sx_di dX12_feed 33 rfl) rfl ?_
    refine V_bipush (v := 20) (sx_di dX12_feed 34 rfl) (by decide) ?_
    refine V_icmp_ge (tgt := 115) (sx_di dX12_feed 35 rfl) (by decide) (fun _ => ?_) (fun h66 => absurd (Int32.le_refl _) h66)
    refine V_aload_n (i := 0) (sx_di dX12_feed 60 rfl) rfl rfl ?_
    refine V_getI (sx_di dX12_feed 61 rfl) fX12_106 (fun _ => rfl) (hB.k _ rfl) ?_
    refine V_iret (sx_di dX12_feed 62 rfl) rfl (Nat.le_refl _) (Nat.le_refl _) ?_
    rw [hlen]
    exact h (hp_i w) fr_rf hT
  | succ n ih =>
    intro k hk w hB hT h
    have hlen : hp_i w 381 2 = nI (tk_ T a b c d e k).length := hT.2.1
    have hm := tk_mono T a b c d e n (k + 1) (by omega)
    rw [tk_20] at hm
    have q := ih (k + 1) (by omega)
    rw [← nI_1] at q
    have hs : tk_ T a b c d e (k + 1) = ap_ (tk_ T a b c d e k) (bo_ a b c d e k) := rfl
    rw [hs] at q hm
    refine V_iload (sx_di dX12_feed 33 rfl) rfl ?_
    refine V_bipush (v := 20) (sx_di dX12_feed 34 rfl) (by decide) ?_
    refine V_icmp_ge (tgt := 115) (sx_di dX12_feed 35 rfl) (by decide) (fun h66 => absurd h66 (fun q => absurd ((nI_leI (a := 20) (by decide) (by omega)).mp q) (by omega))) (fun _ => ?_)
    refine V_iload_n (i := 1) (sx_di dX12_feed 36 rfl) rfl rfl ?_
    refine V_iload_n (i := 2) (sx_di dX12_feed 37 rfl) rfl rfl ?_
    refine V_iload_n (i := 3) (sx_di dX12_feed 38 rfl) rfl rfl ?_
    refine V_iload (sx_di dX12_feed 39 rfl) rfl ?_
    refine V_iload (sx_di dX12_feed 40 rfl) rfl ?_
    refine V_iload (sx_di dX12_feed 41 rfl) rfl ?_
    refine V_cS6 (mc' := 0) (ms' := 0) (M' := mX12_byteOf) 1 (sx_di dX12_feed 42 rfl) lX12_102 vX12_byteOf (Nat.le_of_ble_eq_true rfl) ⟨Nat.le_of_ble_eq_true rfl, Nat.le_of_ble_eq_true rfl⟩ ⟨Nat.le_refl _, Nat.le_refl _⟩ ?_
    refine c_X12_byteOf (by omega) ?_
    refine V_istore (sx_di dX12_feed 43 rfl) (by decide) (rfl) ?_
    refine V_iload (sx_di dX12_feed 44 rfl) rfl ?_
    refine V_if_eq (tgt := 109) (sx_di dX12_feed 45 rfl) (by decide) (fun h85 => ?_) (fun h85 => ?_)
    · have e1 : ap_ (tk_ T a b c d e k) (bo_ a b c d e k) = tk_ T a b c d e k := if_pos h85
      rw [e1] at q
      refine V_inc (c := 1) (sx_di dX12_feed 58 rfl) (by decide) rfl (by decide) (rfl) ?_
      refine V_goto (tgt := 62) (sx_di dX12_feed 59 rfl) (by decide) ?_
      first | exact V_subk (q w hB hT h) ⟨rfl, rfl, rfl, rfl, rfl, rfl, rfl, trivial⟩ | exact V_subk (q _ hB (tp_push hT hl2 (by decide)) (fun I f => h I (fr_tr (fr_si (fr_si fr_rf (Or.inr rfl)) (Or.inl rfl)) f (fun _ z => z)))) ⟨rfl, rfl, rfl, rfl, rfl, rfl, rfl, trivial⟩
    · have e1 : ap_ (tk_ T a b c d e k) (bo_ a b c d e k) = tk_ T a b c d e k ++ [bo_ a b c d e k] := if_neg h85
      rw [e1] at q hm
      have hl2 : (tk_ T a b c d e k).length < 240 := by simp at hm; omega
      refine V_aload_n (i := 0) (sx_di dX12_feed 46 rfl) rfl rfl ?_
      refine V_getR (sx_di dX12_feed 47 rfl) fX12_9 (fun _ => rfl) (hB.k _ rfl) (hB.r _ _ rfl) ?_
      refine V_aload_n (i := 0) (sx_di dX12_feed 48 rfl) rfl rfl ?_
      refine V_getI (sx_di dX12_feed 49 rfl) fX12_106 (fun _ => rfl) (hB.k _ rfl) ?_
      refine V_iload (sx_di dX12_feed 50 rfl) rfl ?_
      refine V_iast (sx_di dX12_feed 51 rfl) (hB.k _ rfl) (by rw [hlen]; exact vp_in_nI hl2 (by decide)) ?_
      refine V_aload_n (i := 0) (sx_di dX12_feed 52 rfl) rfl rfl ?_
      refine V_dup (sx_di dX12_feed 53 rfl) rfl ?_
      refine V_getI (sx_di dX12_feed 54 rfl) fX12_106 (fun _ => rfl) (hB.k _ rfl) ?_
      refine V_iconst (v := 1) (sx_di dX12_feed 55 rfl) (by decide) ?_
      refine V_iadd (sx_di dX12_feed 56 rfl) ?_
      refine V_putI (sx_di dX12_feed 57 rfl) fX12_106 (fun _ => rfl) rfl (hB.k _ rfl) (rfl) (rfl) ?_
      refine V_inc (c := 1) (sx_di dX12_feed 58 rfl) (by decide) rfl (by decide) (rfl) ?_
      refine V_goto (tgt := 62) (sx_di dX12_feed 59 rfl) (by decide) ?_
      first | exact V_subk (q w hB hT h) ⟨rfl, rfl, rfl, rfl, rfl, rfl, rfl, trivial⟩ | exact V_subk (q _ hB (tp_push hT hl2 (by decide)) (fun I f => h I (fr_tr (fr_si (fr_si fr_rf (Or.inr rfl)) (Or.inl rfl)) f (fun _ z => z)))) ⟨rfl, rfl, rfl, rfl, rfl, rfl, rfl, trivial⟩
set_option maxHeartbeats 2000000 in
set_option maxRecDepth 20000 in
theorem c_X12_feed {E : sxE} {w : hpW} {Q : Option Value → hpW → Prop} {a b c d e : Int32} (hB : ly_B w) (T : List Int32) (hT : tp_ w 381 2 382 T) (h0 : 240 < (fd_ T a b c d e).length → Q (some (.int (-1))) w) (h1 : (fd_ T a b c d e).length ≤ 240 → ∀ I, fr_ w I (fun b => b = 381 ∨ b = 382) → tp_ (hp_wi w I) 381 2 382 (fd_ T a b c d e) → Q (some (.int (nI (fd_ T a b c d e).length))) (hp_wi w I)) : sx_C E mX12_feed 2 0 0 [.ref 381, .int a, .int b, .int c, .int d, .int e] w Q := by
  have hlen : hp_i w 381 2 = nI T.length := hT.2.1
  have hfl := fd_le T a b c d e
  have hT1 := hT.1
  have e0 := tk_len T a b c d e 20
  rw [tk_20] at e0
  refine C_of (by decide +kernel) (Nat.le_of_ble_eq_true rfl) ?_
  refine V_iconst (v := 0) (sx_di dX12_feed 0 rfl) (by decide) ?_
  refine V_istore (sx_di dX12_feed 1 rfl) (by decide) (rfl) ?_
  refine V_iconst (v := 0) (sx_di dX12_feed 2 rfl) (by decide) ?_
  refine V_istore (sx_di dX12_feed 3 rfl) (by decide) (rfl) ?_
  refine V_sub (ls' := [(7, .int (nI 0)), (6, .int (ct_ a b c d e 0)), (5, .int e), (4, .int d), (3, .int c), (2, .int b), (1, .int a), (0, .ref 381)]) ⟨rfl, rfl, rfl, rfl, rfl, rfl, rfl, rfl, trivial⟩ ?_
  refine fe_lp1 ?_ 20 0 rfl
  refine V_aload_n (i := 0) (sx_di dX12_feed 23 rfl) rfl rfl ?_
  refine V_getI (sx_di dX12_feed 24 rfl) fX12_106 (fun _ => rfl) (hB.k _ rfl) ?_
  refine V_iload (sx_di dX12_feed 25 rfl) rfl ?_
  refine V_iadd (sx_di dX12_feed 26 rfl) ?_
  refine V_sipush (v := 240) (sx_di dX12_feed 27 rfl) (by decide) ?_
  refine V_icmp_le (tgt := 59) (sx_di dX12_feed 28 rfl) (by decide) (fun h54 => ?_) (fun h54 => ?_)
  · rw [hlen, ← e0] at h54
    have l5 : (fd_ T a b c d e).length ≤ 240 := (nI_leI (by omega) (by decide)).mp h54
    refine V_iconst (v := 0) (sx_di dX12_feed 31 rfl) (by decide) ?_
    refine V_istore (sx_di dX12_feed 32 rfl) (by decide) (rfl) ?_
    refine V_sub (ls' := [(7, .int (nI 0)), (5, .int e), (4, .int d), (3, .int c), (2, .int b), (1, .int a), (0, .ref 381)]) ⟨rfl, rfl, rfl, rfl, rfl, rfl, rfl, trivial⟩ ?_
    exact fe_lp2 T l5 20 0 rfl w hB hT (h1 l5)
  · rw [hlen, ← e0] at h54
    have l6 : 240 < (fd_ T a b c d e).length := by
      rcases Nat.lt_or_ge 240 (fd_ T a b c d e).length with q | q
      · exact q
      · exact absurd (nI_le q (by decide)) h54
    refine V_iconst (v := -1) (sx_di dX12_feed 29 rfl) (by decide) ?_
    refine V_iret (sx_di dX12_feed 30 rfl) rfl (Nat.le_refl _) (Nat.le_refl _) ?_
    exact h0 l6

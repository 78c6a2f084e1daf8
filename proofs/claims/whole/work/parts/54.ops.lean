/-! calls, by what both sides hold -/
def oC (E : sxE) (M : sxM) (d : Nat) (av : List Value) (w : hpW) (A : AS) (x : Int32) (A2 : AS) : Prop := ∀ Q : Option Value → hpW → Prop, (∀ w', CR A2 w' → fR w w' → Q (some (.int x)) w') → sx_C E M d 0 0 av w Q
def oR (E : sxE) (M : sxM) (d : Nat) (av : List Value) (w : hpW) (A : AS) (x : Int32) (A2 : AS) : Prop := ∀ Q : Option Value → hpW → Prop, (∀ w', RR A2 w' → fC w w' → Q (some (.int x)) w') → sx_C E M d 0 0 av w Q
def pt_T (A : AS) (T : List Int32) : AS := ((T, A.1.2), A.2)
def pt_h (A : AS) (h : Int32) : AS := ((A.1.1, A.1.2.1, h), A.2)
def pt_rK (A : AS) (r : Nat → Int32) (K : List (Nat → Int32)) : AS := (A.1, A.2.1, (r, K, A.2.2.1.2.2), A.2.2.2)
def pt_c (A : AS) (c : Nat → Int32) : AS := (A.1, A.2.1, A.2.2.1, A.2.2.2.1, c, A.2.2.2.2.2)
def pt_d (A : AS) (d : Int32) : AS := (A.1, A.2.1, A.2.2.1, A.2.2.2.1, A.2.2.2.2.1, d)
def pt_S (A : AS) (S : List n3T) : AS := (A.1, A.2.1, A.2.2.1, (S, A.2.2.2.1.2), A.2.2.2.2)
def pt_Q (A : AS) (S : List n3T) : AS := (A.1, A.2.1, A.2.2.1, (A.2.2.2.1.1, S), A.2.2.2.2)
def pt_I (A : AS) (o : Option (Nat → Int32)) : AS := (A.1, A.2.1, (A.2.2.1.1, A.2.2.1.2.1, o), A.2.2.2)
theorem fR_wi {w : hpW} {I : Nat → Nat → Int32} (f : ∀ b, 381 ≤ b → I b = hp_i w b) : fR w (hp_wi w I) := ⟨rfl, fun b hb => ⟨f b hb, rfl, rfl⟩, fun _ => rfl⟩
def q_feed (A : AS) (a b c d e : Int32) : Int32 × AS := if 240 < (fd_ (a_T A) a b c d e).length then (-1, A) else (nI (fd_ (a_T A) a b c d e).length, pt_T A (fd_ (a_T A) a b c d e))
theorem CR_T {A : AS} {w : hpW} {I : Nat → Nat → Int32} {T : List Int32} (V : AV A) (H : CR A w) (f : ∀ b, b ≠ 17 → b ≠ 18 → I b = hp_i w b) (hT : tp_ (hp_wi w I) 17 1 18 T) : CR (pt_T A T) (hp_wi w I) := by
  obtain ⟨hB, c1, c2, t, g, c3, c4, c5, c6, ⟨c7, c8⟩, ⟨c9, c10⟩, c11, c12⟩ := id H
  have hB2 := ly_wi hB I
  have e : ∀ b, b < 381 ∧ b ≠ 17 ∧ b ≠ 18 → hp_i (hp_wi w I) b = hp_i w b := fun b z => f b z.2.1 z.2.2
  have er : ∀ b, b < 381 → hp_r (hp_wi w I) b = hp_r w b := fun b _ => rfl
  exact ⟨hB2, hT, Claws_mv V.2.1.1 (fun i j hi hj => e _ (by omega)) (e 20 (by omega)) c2, t, g, Cstr_mv (er 16 (by omega)) (fun b b1 b2 => e b (by omega)) c3, Cnow_mv (by rw [er 57 (by omega)]) (fun b b1 b2 => e b (by omega)) (fun b b1 b2 => e b (by omega)) c4, Cpast_mv (fun b b1 b2 => er b (by omega)) (fun b b1 b2 => e b (by omega)) c5, Cimg_mv (er 362 (by omega)) (fun b b1 b2 => e b (by omega)) c6, ⟨by rw [e 369 (by omega)]; exact c7, nts_mv (e 370 (by omega)) (e 371 (by omega)) (e 372 (by omega)) c8⟩, ⟨by rw [e 373 (by omega)]; exact c9, nts_mv (e 374 (by omega)) (e 375 (by omega)) (e 376 (by omega)) c10⟩, fun j hj => by rw [e 377 (by omega)]; exact c11 j hj, by rw [e 16 (by omega)]; exact c12⟩
theorem RR_T {A : AS} {w : hpW} {I : Nat → Nat → Int32} {T : List Int32} (H : RR A w) (f : ∀ b, b ≠ 381 → b ≠ 382 → I b = hp_i w b) (f1 : ∀ j, j ≠ 2 → I 381 j = hp_i w 381 j) (hT : tp_ (hp_wi w I) 381 2 382 T) : RR (pt_T A T) (hp_wi w I) := by
  obtain ⟨hB, h1, h2, h3, h4, h5, h6, ⟨h7, h8⟩, ⟨h9, h10⟩, h11, h12⟩ := id H
  have hB2 := ly_wi hB I
  have e : ∀ b, b ≠ 381 ∧ b ≠ 382 → hp_i (hp_wi w I) b = hp_i w b := fun b z => f b z.1 z.2
  have g1 : ∀ j, j ≠ 2 → hp_i (hp_wi w I) 381 j = hp_i w 381 j := f1
  exact ⟨hB2, hT, Rlaws_mv (fun b b1 b2 => e b (by omega)) (g1 13 (by omega)) (g1 29 (by omega)) h2, Rstr_mv (g1 25 (by omega)) (g1 26 (by omega)) (e 395 (by omega)) (e 396 (by omega)) (e 397 (by omega)) h3, (e 398 (by omega)).trans h4, Rkept_mv (g1 32 (by omega)) (e 400 (by omega)) h5, Rimg_mv (g1 47 (by omega)) (e 409 (by omega)) h6, ⟨(g1 40 (by omega)).trans h7, nts_mv (e 402 (by omega)) (e 403 (by omega)) (e 404 (by omega)) h8⟩, ⟨(g1 45 (by omega)).trans h9, nts_mv (e 406 (by omega)) (e 407 (by omega)) (e 408 (by omega)) h10⟩, fun j hj => by rw [e 399 (by omega)]; exact h11 j hj, (g1 30 (by omega)).trans h12⟩
theorem AV_T {A : AS} (V : AV A) {T : List Int32} (h : T.length ≤ 240) : AV (pt_T A T) := ⟨h, V.2⟩
/-- the reference's tape alone has changed -/
def fT (w : hpW) (I : Nat → Nat → Int32) : Prop := fr_ w I (fun b => b = 381 ∨ b = 382) ∧ ∀ j, j ≠ 2 → I 381 j = hp_i w 381 j
theorem fT_rf {w : hpW} : fT w (hp_i w) := ⟨fr_rf, fun _ _ => rfl⟩
theorem fT_st {w : hpW} {k : Nat} {x y : Int32} {I : Nat → Nat → Int32} (f : fT (hp_si (hp_si w 382 k x) 381 2 y) I) : fT w I := ⟨fr_tr (fr_si (fr_si fr_rf (Or.inr rfl)) (Or.inl rfl)) f.1 (fun _ z => z), fun j hj => (f.2 j hj).trans (by rw [hp_i_si, if_neg (fun z => hj z.2), hp_i_si, if_neg (by omega)])⟩
set_option maxHeartbeats 2000000 in
set_option maxRecDepth 20000 in
theorem fe_lp3 {E : sxE} {Q : Option Value → hpW → Prop} {a b c d e : Int32} (T : List Int32) (hl : (fd_ T a b c d e).length ≤ 240) : ∀ n k, k + n = 20 → ∀ w, ly_B w → tp_ w 381 2 382 (tk_ T a b c d e k) → (∀ I, fT w I → tp_ (hp_wi w I) 381 2 382 (fd_ T a b c d e) → Q (some (.int (nI (fd_ T a b c d e).length))) (hp_wi w I)) → V E mX12_feed (sx_rm 2 0 0) 0 0 0 0 62 [(7, .int (nI k)), (5, .int e), (4, .int d), (3, .int c), (2, .int b), (1, .int a), (0, .ref 381)] [] w Q := by
  intro n
  induction n with
  | zero =>
    intro k hk w hB hT h
    have e20 : k = 20 := by omega
    subst e20
    rw [tk_20] at hT
    have hlen : hp_i w 381 2 = nI (fd_ T a b c d e).length := hT.2.1
    refine V_iload (sx_di dX12_feed 33 rfl) rfl ?_
    refine V_bipush (v := 20) (sx_di dX12_feed 34 rfl) (by decide) ?_
    refine V_icmp_ge (tgt := 115) (sx_di dX12_feed 35 rfl) (by decide) (fun _ => ?_) (fun h66 => absurd (Int32.le_refl _) h66)
    refine V_aload_n (i := 0) (sx_di dX12_feed 60 rfl) rfl rfl ?_
    refine V_getI (sx_di dX12_feed 61 rfl) fX12_106 (fun _ => rfl) (hB.k _ rfl) ?_
    refine V_iret (sx_di dX12_feed 62 rfl) rfl (Nat.le_refl _) (Nat.le_refl _) ?_
    rw [hlen]
    exact h (hp_i w) fT_rf hT
  | succ n ih =>
    intro k hk w hB hT h
    have hlen : hp_i w 381 2 = nI (tk_ T a b c d e k).length := hT.2.1
    have hm := tk_mono T a b c d e n (k + 1) (by omega)
    rw [tk_20] at hm
    have q := ih (k + 1) (by omega)
    rw [← nI_1] at q
    have hs : tk_ T a b c d e (k + 1) = ap_ (tk_ T a b c d e k) (bo_ a b c d e k) := rfl
    rw [hs] at q hm
    refine V_iload (sx_di dX12_feed 33 rfl) rfl ?_
    refine V_bipush (v := 20) (sx_di dX12_feed 34 rfl) (by decide) ?_
    refine V_icmp_ge (tgt := 115) (sx_di dX12_feed 35 rfl) (by decide) (fun h66 => absurd h66 (fun q => absurd ((nI_leI (a := 20) (by decide) (by omega)).mp q) (by omega))) (fun _ => ?_)
    refine V_iload_n (i := 1) (sx_di dX12_feed 36 rfl) rfl rfl ?_
    refine V_iload_n (i := 2) (sx_di dX12_feed 37 rfl) rfl rfl ?_
    refine V_iload_n (i := 3) (sx_di dX12_feed 38 rfl) rfl rfl ?_
    refine V_iload (sx_di dX12_feed 39 rfl) rfl ?_
    refine V_iload (sx_di dX12_feed 40 rfl) rfl ?_
    refine V_iload (sx_di dX12_feed 41 rfl) rfl ?_
    refine V_cS6 (mc' := 0) (ms' := 0) (M' := mX12_byteOf) 1 (sx_di dX12_feed 42 rfl) lX12_102 vX12_byteOf (Nat.le_of_ble_eq_true rfl) ⟨Nat.le_of_ble_eq_true rfl, Nat.le_of_ble_eq_true rfl⟩ ⟨Nat.le_refl _, Nat.le_refl _⟩ ?_
    refine c_X12_byteOf (by omega) ?_
    refine V_istore (sx_di dX12_feed 43 rfl) (by decide) (rfl) ?_
    refine V_iload (sx_di dX12_feed 44 rfl) rfl ?_
    refine V_if_eq (tgt := 109) (sx_di dX12_feed 45 rfl) (by decide) (fun h85 => ?_) (fun h85 => ?_)
    · have e1 : ap_ (tk_ T a b c d e k) (bo_ a b c d e k) = tk_ T a b c d e k := if_pos h85
      rw [e1] at q
      refine V_inc (c := 1) (sx_di dX12_feed 58 rfl) (by decide) rfl (by decide) (rfl) ?_
      refine V_goto (tgt := 62) (sx_di dX12_feed 59 rfl) (by decide) ?_
      first | exact V_subk (q w hB hT h) ⟨rfl, rfl, rfl, rfl, rfl, rfl, rfl, trivial⟩ | exact V_subk (q _ hB (tp_push hT hl2 (by decide)) (fun I f => h I (fT_st f))) ⟨rfl, rfl, rfl, rfl, rfl, rfl, rfl, trivial⟩
    · have e1 : ap_ (tk_ T a b c d e k) (bo_ a b c d e k) = tk_ T a b c d e k ++ [bo_ a b c d e k] := if_neg h85
      rw [e1] at q hm
      have hl2 : (tk_ T a b c d e k).length < 240 := by simp at hm; omega
      refine V_aload_n (i := 0) (sx_di dX12_feed 46 rfl) rfl rfl ?_
      refine V_getR (sx_di dX12_feed 47 rfl) fX12_9 (fun _ => rfl) (hB.k _ rfl) (hB.r _ _ rfl) ?_
      refine V_aload_n (i := 0) (sx_di dX12_feed 48 rfl) rfl rfl ?_
      refine V_getI (sx_di dX12_feed 49 rfl) fX12_106 (fun _ => rfl) (hB.k _ rfl) ?_
      refine V_iload (sx_di dX12_feed 50 rfl) rfl ?_
      refine V_iast (sx_di dX12_feed 51 rfl) (hB.k _ rfl) (by rw [hlen]; exact vp_in_nI hl2 (by decide)) ?_
      refine V_aload_n (i := 0) (sx_di dX12_feed 52 rfl) rfl rfl ?_
      refine V_dup (sx_di dX12_feed 53 rfl) rfl ?_
      refine V_getI (sx_di dX12_feed 54 rfl) fX12_106 (fun _ => rfl) (hB.k _ rfl) ?_
      refine V_iconst (v := 1) (sx_di dX12_feed 55 rfl) (by decide) ?_
      refine V_iadd (sx_di dX12_feed 56 rfl) ?_
      refine V_putI (sx_di dX12_feed 57 rfl) fX12_106 (fun _ => rfl) rfl (hB.k _ rfl) (rfl) (rfl) ?_
      refine V_inc (c := 1) (sx_di dX12_feed 58 rfl) (by decide) rfl (by decide) (rfl) ?_
      refine V_goto (tgt := 62) (sx_di dX12_feed 59 rfl) (by decide) ?_
      first | exact V_subk (q w hB hT h) ⟨rfl, rfl, rfl, rfl, rfl, rfl, rfl, trivial⟩ | exact V_subk (q _ hB (tp_push hT hl2 (by decide)) (fun I f => h I (fT_st f))) ⟨rfl, rfl, rfl, rfl, rfl, rfl, rfl, trivial⟩
set_option maxHeartbeats 2000000 in
set_option maxRecDepth 20000 in
theorem d_X12_feed {E : sxE} {w : hpW} {Q : Option Value → hpW → Prop} {a b c d e : Int32} (hB : ly_B w) (T : List Int32) (hT : tp_ w 381 2 382 T) (h0 : 240 < (fd_ T a b c d e).length → Q (some (.int (-1))) w) (h1 : (fd_ T a b c d e).length ≤ 240 → ∀ I, fT w I → tp_ (hp_wi w I) 381 2 382 (fd_ T a b c d e) → Q (some (.int (nI (fd_ T a b c d e).length))) (hp_wi w I)) : sx_C E mX12_feed 2 0 0 [.ref 381, .int a, .int b, .int c, .int d, .int e] w Q := by
  have hlen : hp_i w 381 2 = nI T.length := hT.2.1
  have hfl := fd_le T a b c d e
  have hT1 := hT.1
  have e0 := tk_len T a b c d e 20
  rw [tk_20] at e0
  refine C_of (by decide +kernel) (Nat.le_of_ble_eq_true rfl) ?_
  refine V_iconst (v := 0) (sx_di dX12_feed 0 rfl) (by decide) ?_
  refine V_istore (sx_di dX12_feed 1 rfl) (by decide) (rfl) ?_
  refine V_iconst (v := 0) (sx_di dX12_feed 2 rfl) (by decide) ?_
  refine V_istore (sx_di dX12_feed 3 rfl) (by decide) (rfl) ?_
  refine V_sub (ls' := [(7, .int (nI 0)), (6, .int (ct_ a b c d e 0)), (5, .int e), (4, .int d), (3, .int c), (2, .int b), (1, .int a), (0, .ref 381)]) ⟨rfl, rfl, rfl, rfl, rfl, rfl, rfl, rfl, trivial⟩ ?_
  refine fe_lp1 ?_ 20 0 rfl
  refine V_aload_n (i := 0) (sx_di dX12_feed 23 rfl) rfl rfl ?_
  refine V_getI (sx_di dX12_feed 24 rfl) fX12_106 (fun _ => rfl) (hB.k _ rfl) ?_
  refine V_iload (sx_di dX12_feed 25 rfl) rfl ?_
  refine V_iadd (sx_di dX12_feed 26 rfl) ?_
  refine V_sipush (v := 240) (sx_di dX12_feed 27 rfl) (by decide) ?_
  refine V_icmp_le (tgt := 59) (sx_di dX12_feed 28 rfl) (by decide) (fun h54 => ?_) (fun h54 => ?_)
  · rw [hlen, ← e0] at h54
    have l5 : (fd_ T a b c d e).length ≤ 240 := (nI_leI (by omega) (by decide)).mp h54
    refine V_iconst (v := 0) (sx_di dX12_feed 31 rfl) (by decide) ?_
    refine V_istore (sx_di dX12_feed 32 rfl) (by decide) (rfl) ?_
    refine V_sub (ls' := [(7, .int (nI 0)), (5, .int e), (4, .int d), (3, .int c), (2, .int b), (1, .int a), (0, .ref 381)]) ⟨rfl, rfl, rfl, rfl, rfl, rfl, rfl, trivial⟩ ?_
    exact fe_lp3 T l5 20 0 rfl w hB hT (h1 l5)
  · rw [hlen, ← e0] at h54
    have l6 : 240 < (fd_ T a b c d e).length := by
      rcases Nat.lt_or_ge 240 (fd_ T a b c d e).length with q | q
      · exact q
      · exact absurd (nI_le q (by decide)) h54
    refine V_iconst (v := -1) (sx_di dX12_feed 29 rfl) (by decide) ?_
    refine V_iret (sx_di dX12_feed 30 rfl) rfl (Nat.le_refl _) (Nat.le_refl _) ?_
    exact h0 l6
set_option maxHeartbeats 2000000 in
set_option maxRecDepth 20000 in
theorem d_X12_end {E : sxE} {w : hpW} {Q : Option Value → hpW → Prop} (hB : ly_B w) {n : Int32} (T : List Int32) (hT : tp_ w 381 2 382 T) (h0 : (n < 0 ∨ nI T.length < n) → Q (some (.int 0)) w) (hn : ∀ k, k ≤ T.length → n = nI k → ∀ I, fT w I → tp_ (hp_wi w I) 381 2 382 (T.take k) → Q (some (.int 1)) (hp_wi w I)) : sx_C E mX12_end 1 0 0 [.ref 381, .int n] w Q := by
  have hlen : hp_i w 381 2 = nI T.length := hT.2.1
  have hT1 := hT.1
  refine C_of (by decide +kernel) (Nat.le_of_ble_eq_true rfl) ?_
  refine V_iload_n (i := 1) (sx_di dX12_end 0 rfl) rfl rfl ?_
  refine V_if_lt (tgt := 12) (sx_di dX12_end 1 rfl) (by decide) (fun h1 => ?_) (fun h1 => ?_)
  · refine V_iconst (v := 0) (sx_di dX12_end 6 rfl) (by decide) ?_
    refine V_zret (sx_di dX12_end 7 rfl) rfl (by first | rfl | decide) (Nat.le_refl _) (Nat.le_refl _) ?_
    first | exact h0 (Or.inl h1) | (rw [hlen] at h9; exact h0 (Or.inr (Int32.not_le.mp h9)))
  · refine V_iload_n (i := 1) (sx_di dX12_end 2 rfl) rfl rfl ?_
    refine V_aload_n (i := 0) (sx_di dX12_end 3 rfl) rfl rfl ?_
    refine V_getI (sx_di dX12_end 4 rfl) fX12_106 (fun _ => rfl) (hB.k _ rfl) ?_
    refine V_icmp_le (tgt := 14) (sx_di dX12_end 5 rfl) (by decide) (fun h9 => ?_) (fun h9 => ?_)
    · refine V_aload_n (i := 0) (sx_di dX12_end 8 rfl) rfl rfl ?_
      refine V_iload_n (i := 1) (sx_di dX12_end 9 rfl) rfl rfl ?_
      refine V_putI (sx_di dX12_end 10 rfl) fX12_106 (fun _ => rfl) rfl (hB.k _ rfl) (rfl) (rfl) ?_
      refine V_iconst (v := 1) (sx_di dX12_end 11 rfl) (by decide) ?_
      refine V_zret (sx_di dX12_end 12 rfl) rfl (by first | rfl | decide) (Nat.le_refl _) (Nat.le_refl _) ?_
      rw [hlen] at h9
      obtain ⟨k, hk, rfl⟩ := nI_of2 (M := nI T.length) (n := T.length) (nI_toInt (by omega)) h1 h9
      exact hn k hk rfl _ ⟨fr_si fr_rf (Or.inl rfl), fun j hj => hp_u_nk _ _ (fun z => hj z.2)⟩ (tp_cut hT (by decide) hk)
    · refine V_iconst (v := 0) (sx_di dX12_end 6 rfl) (by decide) ?_
      refine V_zret (sx_di dX12_end 7 rfl) rfl (by first | rfl | decide) (Nat.le_refl _) (Nat.le_refl _) ?_
      first | exact h0 (Or.inl h1) | (rw [hlen] at h9; exact h0 (Or.inr (Int32.not_le.mp h9)))
theorem oC_feed {E : sxE} {A : AS} {w : hpW} (V : AV A) (H : CR A w) (a b c d e : Int32) : oC E mX11_feed 2 [.ref 16, .int a, .int b, .int c, .int d, .int e] w A (q_feed A a b c d e).1 (q_feed A a b c d e).2 := by
  intro Q h
  refine c_X11_feed H.1 (a_T A) H.2.1 (fun hl => ?_) (fun hl I f hT => ?_)
  · rw [q_feed, if_pos hl] at h
    exact h w H fR_rf
  · rw [q_feed, if_neg (by omega)] at h
    exact h _ (CR_T V H (fun b h1 h2 => f b (fun z => z.elim h1 h2)) hT) (fR_wi (fun b hb => f b (by omega)))
theorem oR_feed {E : sxE} {A : AS} {w : hpW} (V : AV A) (H : RR A w) (a b c d e : Int32) : oR E mX12_feed 2 [.ref 381, .int a, .int b, .int c, .int d, .int e] w A (q_feed A a b c d e).1 (q_feed A a b c d e).2 := by
  intro Q h
  refine d_X12_feed H.1 (a_T A) H.2.1 (fun hl => ?_) (fun hl I f hT => ?_)
  · rw [q_feed, if_pos hl] at h
    exact h w H fC_rf
  · rw [q_feed, if_neg (by omega)] at h
    exact h _ (RR_T H (fun b h1 h2 => f.1 b (fun z => z.elim h1 h2)) f.2 hT) (fC_wi (fun b hb => f.1 b (by omega)))
theorem AV_feed {A : AS} (V : AV A) (a b c d e : Int32) : AV (q_feed A a b c d e).2 := by
  unfold q_feed
  split
  · exact V
  · exact AV_T V (by omega)
def q_end (A : AS) (n : Int32) : Int32 × AS := if n < 0 ∨ nI (a_T A).length < n then (0, A) else (1, pt_T A ((a_T A).take n.toNatClampNeg))
theorem oC_end {E : sxE} {A : AS} {w : hpW} (V : AV A) (H : CR A w) (n : Int32) : oC E mX11_end 1 [.ref 16, .int n] w A (q_end A n).1 (q_end A n).2 := by
  intro Q h
  have hl := V.1
  refine c_X11_end H.1 (a_T A) H.2.1 (fun hl => ?_) (fun k hk e I f hT => ?_)
  · rw [q_end, if_pos hl] at h
    exact h w H fR_rf
  · subst e
    rw [q_end, if_neg (fun z => z.elim (nI_pos (by omega)) (nI_nlt hk (by omega))), nI_clamp (by omega)] at h
    exact h _ (CR_T V H (fun b h1 h2 => f b h1) hT) (fR_wi (fun b hb => f b (by omega)))
theorem oR_end {E : sxE} {A : AS} {w : hpW} (V : AV A) (H : RR A w) (n : Int32) : oR E mX12_end 1 [.ref 381, .int n] w A (q_end A n).1 (q_end A n).2 := by
  intro Q h
  have hl := V.1
  refine d_X12_end H.1 (a_T A) H.2.1 (fun hl => ?_) (fun k hk e I f hT => ?_)
  · rw [q_end, if_pos hl] at h
    exact h w H fC_rf
  · subst e
    rw [q_end, if_neg (fun z => z.elim (nI_pos (by omega)) (nI_nlt hk (by omega))), nI_clamp (by omega)] at h
    exact h _ (RR_T H (fun b h1 h2 => f.1 b (fun z => z.elim h1 h2)) f.2 hT) (fC_wi (fun b hb => f.1 b (by omega)))
theorem AV_end {A : AS} (V : AV A) (n : Int32) : AV (q_end A n).2 := by
  unfold q_end
  split
  · exact V
  · exact AV_T V (Nat.le_trans (List.length_take_le' _ _) V.1)
def q_law (A : AS) (v : Int32) : Int32 × AS := if v < -1 ∨ nI (a_W A).length ≤ v then (0, A) else (1, pt_h A v)
theorem oC_law {E : sxE} {A : AS} {w : hpW} (V : AV A) (H : CR A w) (v : Int32) : oC E mX11_law 1 [.ref 16, .int v] w A (q_law A v).1 (q_law A v).2 := by
  intro Q h
  obtain ⟨hB, c1, c2, t, g, c3, c4, c5, c6, ⟨c7, c8⟩, ⟨c9, c10⟩, c11, c12⟩ := id H
  refine c_X11_law hB c2.1 V.2.1.1 (fun hl => ?_) (fun hl => ?_)
  · rw [q_law, if_pos hl] at h
    exact h w H fR_rf
  · rw [q_law, if_neg hl] at h
    have hB2 : ly_B (hp_si w 20 2 v) := hB
    have e : ∀ b, b ≠ 20 → hp_i (hp_si w 20 2 v) b = hp_i w b := fun b z => by funext j; exact hp_u_nk _ _ (fun y => z y.1)
    have er : ∀ b, b < 381 → hp_r (hp_si w 20 2 v) b = hp_r w b := fun b _ => rfl
    refine h _ ⟨hB2, tp_mv (by rw [e 17 (by omega)]) (e 18 (by omega)) c1, ⟨show hp_u (hp_i w) 20 2 v 20 1 = _ from (hp_u_nk _ _ (by omega)).trans c2.1, hp_i_at _ _ _ _, fun k W hW => cl_mv (fun j hj => e _ (by omega)) (c2.2.2 k W hW)⟩, t, g, Cstr_mv (er 16 (by omega)) (fun b b1 b2 => e b (by omega)) c3, Cnow_mv (by rw [er 57 (by omega)]) (fun b b1 b2 => e b (by omega)) (fun b b1 b2 => e b (by omega)) c4, Cpast_mv (fun b b1 b2 => er b (by omega)) (fun b b1 b2 => e b (by omega)) c5, Cimg_mv (er 362 (by omega)) (fun b b1 b2 => e b (by omega)) c6, ⟨by rw [e 369 (by omega)]; exact c7, nts_mv (e 370 (by omega)) (e 371 (by omega)) (e 372 (by omega)) c8⟩, ⟨by rw [e 373 (by omega)]; exact c9, nts_mv (e 374 (by omega)) (e 375 (by omega)) (e 376 (by omega)) c10⟩, fun j hj => by rw [e 377 (by omega)]; exact c11 j hj, by rw [e 16 (by omega)]; exact c12⟩ (fR_wi (fun b hb => e b (by omega)))
theorem oR_law {E : sxE} {A : AS} {w : hpW} (V : AV A) (H : RR A w) (v : Int32) : oR E mX12_law 2 [.ref 381, .int v] w A (q_law A v).1 (q_law A v).2 := by
  intro Q h
  obtain ⟨hB, h1, h2, h3, h4, h5, h6, ⟨h7, h8⟩, ⟨h9, h10⟩, h11, h12⟩ := id H
  refine c_X12_law hB h2.1 V.2.1.1 (fun hl => ?_) (fun hl => ?_)
  · rw [q_law, if_pos hl] at h
    exact h w H fC_rf
  · rw [q_law, if_neg hl] at h
    have hB2 : ly_B (hp_si w 381 29 v) := hB
    have e : ∀ b, b ≠ 381 → hp_i (hp_si w 381 29 v) b = hp_i w b := fun b z => by funext j; exact hp_u_nk _ _ (fun y => z y.1)
    have g1 : ∀ j, j ≠ 29 → hp_i (hp_si w 381 29 v) 381 j = hp_i w 381 j := fun j z => hp_u_nk _ _ (fun y => z y.2)
    refine h _ ⟨hB2, tp_mv (g1 2 (by omega)) (e 382 (by omega)) h1, ⟨(g1 13 (by omega)).trans h2.1, hp_i_at _ _ _ _, fun k W hW => rl_mv (fun b b1 b2 => e b (by omega)) (h2.2.2 k W hW)⟩, Rstr_mv (g1 25 (by omega)) (g1 26 (by omega)) (e 395 (by omega)) (e 396 (by omega)) (e 397 (by omega)) h3, (e 398 (by omega)).trans h4, Rkept_mv (g1 32 (by omega)) (e 400 (by omega)) h5, Rimg_mv (g1 47 (by omega)) (e 409 (by omega)) h6, ⟨(g1 40 (by omega)).trans h7, nts_mv (e 402 (by omega)) (e 403 (by omega)) (e 404 (by omega)) h8⟩, ⟨(g1 45 (by omega)).trans h9, nts_mv (e 406 (by omega)) (e 407 (by omega)) (e 408 (by omega)) h10⟩, fun j hj => by rw [e 399 (by omega)]; exact h11 j hj, (g1 30 (by omega)).trans h12⟩ (fC_wi (fun b hb => e b (by omega)))
theorem AV_law {A : AS} (V : AV A) (v : Int32) : AV (q_law A v).2 := by
  unfold q_law
  split
  · exact V
  · next hv =>
    refine ⟨V.1, ⟨V.2.1.1, V.2.1.2.1, ?_⟩, V.2.2⟩
    show v = -1 ∨ ∃ k, k < (a_W A).length ∧ v = nI k
    have hl := V.2.1.1
    by_cases h0 : v < 0
    · refine Or.inl ?_
      have h1 : ¬ v < -1 := fun z => hv (Or.inl z)
      rw [fa_lt] at h0 h1
      rw [fa_eq]
      have := ti_0; have := ti_m1
      omega
    · obtain ⟨j, hj, rfl⟩ := nI_of h0
      refine Or.inr ⟨j, ?_, rfl⟩
      rcases Nat.lt_or_ge j (a_W A).length with z | z
      · exact z
      · exact absurd (Or.inr (nI_le z hj)) hv
def q_moods (A : AS) (v : Int32) : Int32 × AS := if v < 0 ∨ 9 < v ∨ v = a_d A then (0, A) else (1, pt_d A v)
theorem oC_moods {E : sxE} {A : AS} {w : hpW} (V : AV A) (H : CR A w) (v : Int32) : oC E mX11_moods 1 [.ref 16, .int v] w A (q_moods A v).1 (q_moods A v).2 := by
  intro Q h
  obtain ⟨hB, c1, c2, t, g, c3, c4, c5, c6, ⟨c7, c8⟩, ⟨c9, c10⟩, c11, c12⟩ := id H
  refine c_X11_moods hB (fun hl => ?_) (fun hl => ?_) <;> rw [c12] at hl
  · rw [q_moods, if_pos hl] at h
    exact h w H fR_rf
  · rw [q_moods, if_neg hl] at h
    have hB2 : ly_B (hp_si w 16 14 v) := hB
    have e : ∀ b, b ≠ 16 → hp_i (hp_si w 16 14 v) b = hp_i w b := fun b z => by funext j; exact hp_u_nk _ _ (fun y => z y.1)
    have er : ∀ b, b < 381 → hp_r (hp_si w 16 14 v) b = hp_r w b := fun b _ => rfl
    refine h _ ⟨hB2, tp_mv (by rw [e 17 (by omega)]) (e 18 (by omega)) c1, Claws_mv V.2.1.1 (fun i j hi hj => e _ (by omega)) (e 20 (by omega)) c2, t, g, Cstr_mv (er 16 (by omega)) (fun b b1 b2 => e b (by omega)) c3, Cnow_mv (by rw [er 57 (by omega)]) (fun b b1 b2 => e b (by omega)) (fun b b1 b2 => e b (by omega)) c4, Cpast_mv (fun b b1 b2 => er b (by omega)) (fun b b1 b2 => e b (by omega)) c5, Cimg_mv (er 362 (by omega)) (fun b b1 b2 => e b (by omega)) c6, ⟨by rw [e 369 (by omega)]; exact c7, nts_mv (e 370 (by omega)) (e 371 (by omega)) (e 372 (by omega)) c8⟩, ⟨by rw [e 373 (by omega)]; exact c9, nts_mv (e 374 (by omega)) (e 375 (by omega)) (e 376 (by omega)) c10⟩, fun j hj => by rw [e 377 (by omega)]; exact c11 j hj, hp_i_at _ _ _ _⟩ (fR_wi (fun b hb => e b (by omega)))
theorem oR_moods {E : sxE} {A : AS} {w : hpW} (V : AV A) (H : RR A w) (v : Int32) : oR E mX12_moods 2 [.ref 381, .int v] w A (q_moods A v).1 (q_moods A v).2 := by
  intro Q h
  obtain ⟨hB, h1, h2, h3, h4, h5, h6, ⟨h7, h8⟩, ⟨h9, h10⟩, h11, h12⟩ := id H
  refine c_X12_moods hB (fun hl => ?_) (fun hl => ?_) <;> rw [h12] at hl
  · rw [q_moods, if_pos hl] at h
    exact h w H fC_rf
  · rw [q_moods, if_neg hl] at h
    have hB2 : ly_B (hp_si w 381 30 v) := hB
    have e : ∀ b, b ≠ 381 → hp_i (hp_si w 381 30 v) b = hp_i w b := fun b z => by funext j; exact hp_u_nk _ _ (fun y => z y.1)
    have g1 : ∀ j, j ≠ 30 → hp_i (hp_si w 381 30 v) 381 j = hp_i w 381 j := fun j z => hp_u_nk _ _ (fun y => z y.2)
    refine h _ ⟨hB2, tp_mv (g1 2 (by omega)) (e 382 (by omega)) h1, Rlaws_mv (fun b b1 b2 => e b (by omega)) (g1 13 (by omega)) (g1 29 (by omega)) h2, Rstr_mv (g1 25 (by omega)) (g1 26 (by omega)) (e 395 (by omega)) (e 396 (by omega)) (e 397 (by omega)) h3, (e 398 (by omega)).trans h4, Rkept_mv (g1 32 (by omega)) (e 400 (by omega)) h5, Rimg_mv (g1 47 (by omega)) (e 409 (by omega)) h6, ⟨(g1 40 (by omega)).trans h7, nts_mv (e 402 (by omega)) (e 403 (by omega)) (e 404 (by omega)) h8⟩, ⟨(g1 45 (by omega)).trans h9, nts_mv (e 406 (by omega)) (e 407 (by omega)) (e 408 (by omega)) h10⟩, fun j hj => by rw [e 399 (by omega)]; exact h11 j hj, hp_i_at _ _ _ _⟩ (fC_wi (fun b hb => e b (by omega)))
theorem AV_moods {A : AS} (V : AV A) (v : Int32) : AV (q_moods A v).2 := by
  unfold q_moods
  split
  · exact V
  · exact V
theorem so_cg {f g : Nat → Int32} (h : ∀ j, j < 5 → f j = g j) (x : Int32) : so_ f x = so_ g x := by
  unfold so_
  by_cases hx : x < 0 ∨ 5 ≤ x
  · rw [if_pos hx, if_pos hx]
  · rw [if_neg hx, if_neg hx]
    exact h _ (sx_in (sl_in (M := 5) (by decide) (fun z => hx (Or.inl z)) (fun z => hx (Or.inr z))))
theorem oC_status {E : sxE} {A : AS} {w : hpW} (V : AV A) (H : CR A w) (x : Int32) : oC E mX11_status 1 [.ref 16, .int x] w A (so_ (a_c A) x) A := by
  intro Q h
  obtain ⟨hB, c1, c2, t, g, c3, c4, c5, c6, ⟨c7, c8⟩, ⟨c9, c10⟩, c11, c12⟩ := id H
  refine c_X11_status hB ?_
  rw [so_cg c11]
  exact h w H fR_rf
theorem oR_status {E : sxE} {A : AS} {w : hpW} (V : AV A) (H : RR A w) (x : Int32) : oR E mX12_status 2 [.ref 381, .int x] w A (so_ (a_c A) x) A := by
  intro Q h
  obtain ⟨hB, h1, h2, h3, h4, h5, h6, ⟨h7, h8⟩, ⟨h9, h10⟩, h11, h12⟩ := id H
  refine c_X12_status hB ?_
  rw [so_cg h11]
  exact h w H fC_rf
theorem ax_dec (n : Nat) (x y : Int32) : ax_ n x y ∨ ¬ ax_ n x y := Classical.em _
noncomputable def q_ahead (A : AS) (x y : Int32) : Int32 := @ite _ (ax_ (a_n A) x y) (Classical.propDecidable _) (-1000000) ( if y = 0 then D_ A x.toNatClampNeg 42 else D_ A x.toNatClampNeg 43)
theorem oC_ahead {E : sxE} {A : AS} {w : hpW} (V : AV A) (H : CR A w) (x y : Int32) : oC E mX11_ahead 7 [.ref 16, .int x, .int y] w A (q_ahead A x y) A := by
  intro Q h
  obtain ⟨t, s2, C, e0, c3⟩ := CQ_of V H
  refine c_X11_ahead C (fun hx => ?_) (fun hx m hm e J f => ?_)
  · rw [q_ahead, if_pos hx] at h
    exact h w H fR_rf
  · have h0 : 0 < a_n A := Nat.pos_of_ne_zero (fun z => hx (Or.inl z))
    rw [q_ahead, if_neg hx, e, nI_clamp (by omega)] at h
    rw [e0 h0, dn_D V h0 c3]
    exact h _ (CR_q V t (QS_QT f) H) (fR_q t (QS_QT f))
theorem oR_ahead {E : sxE} {A : AS} {w : hpW} (V : AV A) (H : RR A w) (x y : Int32) : oR E mX12_ahead 9 [.ref 381, .int x, .int y] w A (q_ahead A x y) A := by
  intro Q h
  refine c_X12_ahead (RQ_of V H) (fun hx => ?_) (fun hx m hm e J f => ?_)
  · rw [q_ahead, if_pos hx] at h
    exact h w H fC_rf
  · rw [q_ahead, if_neg hx, e, nI_clamp (by omega)] at h
    exact h _ (RR_q f H) (fC_q f)
noncomputable def q_soon (A : AS) (x : Int32) : Int32 := if ih_ (a_n A) x = 0 then -1 else sn_ (D_ A) x 61 0
theorem ih_pos {n : Nat} {x : Int32} (hn : n ≤ 8) (h : ¬ ih_ n x = 0) : 0 < n := by
  obtain ⟨k, hk, _⟩ := ih_ye (by omega) h
  omega
theorem dn_Df {A : AS} {w : hpW} {t : Nat} (V : AV A) (h0 : 0 < a_n A) (C : Cstr w t (a_n A) (a_m A) (a_s A)) : dn_ (F_ A) (hp_i w) t (a_n A) (z_m (a_s A)) (a_r A) = D_ A := funext (fun k => dn_D V h0 C k)
theorem oC_soonest {E : sxE} {A : AS} {w : hpW} (V : AV A) (H : CR A w) (x : Int32) : oC E mX11_soonest 7 [.ref 16, .int x] w A (q_soon A x) A := by
  intro Q h
  obtain ⟨t, s2, C, e0, c3⟩ := CQ_of V H
  refine c_X11_soonest C (fun hx => ?_) (fun hx J f => ?_)
  · rw [q_soon, if_pos hx] at h
    exact h w H fR_rf
  · have h0 := ih_pos V.2.2.1.1 hx
    rw [q_soon, if_neg hx] at h
    rw [e0 h0, dn_Df V h0 c3]
    exact h _ (CR_q V t (QS_QT f) H) (fR_q t (QS_QT f))
theorem oR_soonest {E : sxE} {A : AS} {w : hpW} (V : AV A) (H : RR A w) (x : Int32) : oR E mX12_soonest 9 [.ref 381, .int x] w A (q_soon A x) A := by
  intro Q h
  refine c_X12_soonest (RQ_of V H) (fun hx => ?_) (fun hx J f => ?_)
  · rw [q_soon, if_pos hx] at h
    exact h w H fC_rf
  · rw [q_soon, if_neg hx] at h
    exact h _ (RR_q f H) (fC_q f)
noncomputable def q_goes (A : AS) : Int32 := if a_n A = 0 then -1000000 else G_ A
theorem oC_goesTo {E : sxE} {A : AS} {w : hpW} (V : AV A) (H : CR A w) : oC E mX11_goesTo 6 [.ref 16] w A (q_goes A) A := by
  intro Q h
  obtain ⟨t, s2, C, e0, c3⟩ := CQ_of V H
  refine c_X11_goesTo C (fun hx => ?_) (fun hx J f => ?_)
  · rw [q_goes, if_pos hx] at h
    exact h w H fR_rf
  · rw [q_goes, if_neg hx] at h
    have h0 : 0 < a_n A := Nat.pos_of_ne_zero hx
    rw [e0 h0, go_G V h0 c3]
    exact h _ (CR_q0 V (sc_QT f) H) (fR_q0 (sc_QT f))
theorem oR_goesTo {E : sxE} {A : AS} {w : hpW} (V : AV A) (H : RR A w) : oR E mX12_goesTo 8 [.ref 381] w A (q_goes A) A := by
  intro Q h
  refine c_X12_goesTo (RQ_of V H) (fun hx => ?_) (fun hx J f => ?_)
  · rw [q_goes, if_pos hx] at h
    exact h w H fC_rf
  · rw [q_goes, if_neg hx] at h
    exact h _ (RR_q (RX_FQ f) H) (fC_q (RX_FQ f))
noncomputable def q_visits (A : AS) (x : Int32) : Int32 := @ite _ (ay_ (a_n A) x) (Classical.propDecidable _) (-1) (vs_ (D_ A) x.toNatClampNeg)
theorem oC_visits {E : sxE} {A : AS} {w : hpW} (V : AV A) (H : CR A w) (x : Int32) : oC E mX11_visits 7 [.ref 16, .int x] w A (q_visits A x) A := by
  intro Q h
  obtain ⟨t, s2, C, e0, c3⟩ := CQ_of V H
  refine c_X11_visits C (fun hx => ?_) (fun hx m hm e J f => ?_)
  · rw [q_visits, if_pos hx] at h
    exact h w H fR_rf
  · have h0 : 0 < a_n A := Nat.pos_of_ne_zero (fun z => hx (Or.inl z))
    rw [q_visits, if_neg hx, e, nI_clamp (by omega)] at h
    rw [e0 h0, dn_Df V h0 c3]
    exact h _ (CR_q V t (QS_QT f) H) (fR_q t (QS_QT f))
theorem oR_visits {E : sxE} {A : AS} {w : hpW} (V : AV A) (H : RR A w) (x : Int32) : oR E mX12_visits 10 [.ref 381, .int x] w A (q_visits A x) A := by
  intro Q h
  refine c_X12_visits (RQ_of V H) (fun hx => ?_) (fun hx m hm e J f => ?_)
  · rw [q_visits, if_pos hx] at h
    exact h w H fC_rf
  · rw [q_visits, if_neg hx, e, nI_clamp (by omega)] at h
    exact h _ (RR_q f H) (fC_q f)
noncomputable def q_empty (A : AS) (x : Int32) : Int32 := @ite _ (ay_ (a_n A) x) (Classical.propDecidable _) (-1) (em_ (D_ A) x.toNatClampNeg)
theorem oC_empty {E : sxE} {A : AS} {w : hpW} (V : AV A) (H : CR A w) (x : Int32) : oC E mX11_empty 7 [.ref 16, .int x] w A (q_empty A x) A := by
  intro Q h
  obtain ⟨t, s2, C, e0, c3⟩ := CQ_of V H
  refine c_X11_empty C (fun hx => ?_) (fun hx m hm e J f => ?_)
  · rw [q_empty, if_pos hx] at h
    exact h w H fR_rf
  · have h0 : 0 < a_n A := Nat.pos_of_ne_zero (fun z => hx (Or.inl z))
    rw [q_empty, if_neg hx, e, nI_clamp (by omega)] at h
    rw [e0 h0, dn_Df V h0 c3]
    exact h _ (CR_q V t (QS_QT f) H) (fR_q t (QS_QT f))
theorem oR_empty {E : sxE} {A : AS} {w : hpW} (V : AV A) (H : RR A w) (x : Int32) : oR E mX12_empty 10 [.ref 381, .int x] w A (q_empty A x) A := by
  intro Q h
  refine c_X12_empty (RQ_of V H) (fun hx => ?_) (fun hx m hm e J f => ?_)
  · rw [q_empty, if_pos hx] at h
    exact h w H fC_rf
  · rw [q_empty, if_neg hx, e, nI_clamp (by omega)] at h
    exact h _ (RR_q f H) (fC_q f)

/-! the reference reads a law: the whole of it -/
theorem cb9_la {T : List Int32} {X : List Int32} {p : Nat} (hp : p ≤ T.length) : cb9_ T X p = la9 T hiC (lp_ T loC (uR T 6)) T.length (la9 T loC (uR T 6) T.length (cm_ T (smR T 6) X p)) := by
  obtain ⟨a1, a2, a3⟩ := cm_go (smR_go T 6) X hp
  unfold cb9_
  by_cases c : (cm_ T (smR T 6) X p).1 = true
  · have e := fl_lp hlC (by decide) (by decide) (by decide) (uR_go T 6) T.length 0 [] (cm_ T (smR T 6) X p).2.1 (cm_ T (smR T 6) X p).2.2 T.length T.length (by omega) (by omega) (by omega) a2
    rw [List.nil_append, wt_0, List.append_nil, List.nil_append] at e
    rw [if_pos c, e, la9_y c]
    rfl
  · rw [if_neg c, la9_n c]
    rfl
set_option maxHeartbeats 2000000 in
set_option maxRecDepth 20000 in
theorem c_clause9 {E : sxE} {T : List Int32} {n p : Nat} {Z : lwT} {w : hpW} {Q : Option Value → hpW → Prop} (hn : n < 5) (hZ : Z.length < 64) (H : rrP T n 0 p w) (hs : rwS n Z w) (hl : (fx_ Z).length ≤ p) (hp : p ≤ T.length) (h : ∀ w', C9 T n Z (cla_ T p) w' → fN n w w' → Q none w') : sx_C E mX12_clause 54 0 0 [.ref 381] w Q := by
  have hT := H.2.1.1
  have g1 := skp_ge T p
  have g2 := skq_le (T := T) hp
  have k71 : ∀ e w2, e ≤ 240 → R9 T n 0 242 (fx_ Z) (pf_ e) w2 → fM n w w2 → cla_ T p = pg_ e → V E mX12_clause (sx_rm 54 0 0) 0 0 0 0 71 [(1, .int (nI (140 * n + Z.length))), (0, .ref 381)] [] w2 Q := by
    intro e w2 he H2 f2 ec
    rw [ec] at h
    refine V_aload_n (i := 0) (sx_di dX12_clause 37 rfl) rfl rfl ?_
    refine V_dup (sx_di dX12_clause 38 rfl) rfl ?_
    refine V_getI (sx_di dX12_clause 39 rfl) fX12_109 (fun _ => rfl) (by first | exact H2.1.k _ rfl | exact H3.1.k _ rfl | exact H2.1.1.k _ rfl | exact H3.1.1.k _ rfl) ?_
    refine V_iconst (v := 1) (sx_di dX12_clause 40 rfl) (by decide) ?_
    refine V_iadd (sx_di dX12_clause 41 rfl) ?_
    refine V_putI (sx_di dX12_clause 42 rfl) fX12_109 (fun _ => rfl) rfl (by first | exact H2.1.k _ rfl | exact H3.1.k _ rfl | exact H2.1.1.k _ rfl | exact H3.1.1.k _ rfl) (rfl) (rfl) ?_
    refine V_atR H2 (fun w3 H3 f3 => ?_)
    refine V_aload_n (i := 0) (sx_di dX12_clause 43 rfl) rfl rfl ?_
    refine V_getI (sx_di dX12_clause 44 rfl) fX12_116 (fun _ => rfl) (by first | exact H2.1.k _ rfl | exact H3.1.k _ rfl | exact H2.1.1.k _ rfl | exact H3.1.1.k _ rfl) ?_
    refine V_iv (y := nI e) ((H3.2.2 Bool.false_ne_true).1) ?_
    refine V_iconst (v := -1) (sx_di dX12_clause 45 rfl) (by decide) ?_
    refine V_icmp_eq (tgt := 90) (sx_di dX12_clause 46 rfl) (by decide) (fun h86 => absurd h86 (nI_nm1 (by omega))) (fun _ => ?_)
    refine V_vret (sx_di dX12_clause 47 rfl) rfl (Nat.le_refl _) (Nat.le_refl _) ?_
    exact h w3 ⟨H3.1, fun z => absurd z Bool.false_ne_true, fun _ => (H3.2.2 Bool.false_ne_true).1⟩ (fN_tr (fM_fN f2) (fM_fN f3))
  have k90 : ∀ w2, rrP T n 0 (skp_ T (skp_ T p + 1) + 1) w2 → (∀ X, rrX n X w → rrX n X w2) → fM n w w2 → cz_ T p = 121 → cz_ T (skp_ T p + 1) = 58 → V E mX12_clause (sx_rm 54 0 0) 0 0 0 0 90 [(1, .int (nI (140 * n + Z.length))), (0, .ref 381)] [] w2 Q := by
    intro w2 H2 x2 f2 c1 c2
    have z1 := cz_p1 c1 (by decide)
    have z2 := cz_p1 c2 (by decide)
    have g3 := skp_ge T (skp_ T p + 1)
    have g4 := skp_ge T (skp_ T (skp_ T p + 1) + 1)
    have g5 := skq_le (T := T) z2
    have e9 : cla_ T p = cl9 T (skp_ T (skp_ T p + 1) + 1) := by unfold cla_; rw [if_pos c1, if_pos c2]
    rw [e9] at h
    unfold cl9 at h
    have hX2 := x2 _ hs.2.2
    have H3 := rrP_sj (a := 387) (j := (140 * n + Z.length)) (x := nI (fx_ Z).length) (by decide) H2
    have hX3 := rrX_sj (a := 387) (j := (140 * n + Z.length)) (x := nI (fx_ Z).length) (by decide) hX2
    have f3 : fN n w (hp_si w2 387 (140 * n + Z.length) (nI (fx_ Z).length)) := fN_tr (fM_fN f2) (fN_sj (Or.inr ⟨Or.inl rfl, by omega, by omega⟩))
    have m6 : hp_i (hp_si w2 387 (140 * n + Z.length) (nI (fx_ Z).length)) 386 n = nI Z.length := by rw [si_p (by omega), f2.2.1 386 (by decide) (by decide) (by decide) (by decide)]; exact hs.1
    have mt : tb8 n Z (hp_si w2 387 (140 * n + Z.length) (nI (fx_ Z).length)) := tb8_sj (Or.inr (Nat.le_refl _)) (tb8_fM f2 hs.2.1)
    have m7 : hp_i (hp_si w2 387 (140 * n + Z.length) (nI (fx_ Z).length)) 387 (140 * n + Z.length) = nI (fx_ Z).length := by rw [hp_i_si, if_pos ⟨rfl, rfl⟩]
    refine V_aload_n (i := 0) (sx_di dX12_clause 48 rfl) rfl rfl ?_
    refine V_getR (sx_di dX12_clause 49 rfl) fX12_25 (fun _ => rfl) (by first | exact H.1.k _ rfl | exact H0.1.k _ rfl | exact H1.1.k _ rfl | exact H2.1.k _ rfl | exact H3.1.k _ rfl | exact H4.1.k _ rfl | exact H5.1.k _ rfl | exact H6.1.k _ rfl | exact H7.1.k _ rfl | exact H8.1.k _ rfl | exact H.1.1.k _ rfl | exact H0.1.1.k _ rfl | exact H1.1.1.k _ rfl | exact H2.1.1.k _ rfl | exact H3.1.1.k _ rfl | exact H4.1.1.k _ rfl | exact H5.1.1.k _ rfl | exact H6.1.1.k _ rfl | exact H7.1.1.k _ rfl | exact H8.1.1.k _ rfl) (by first | exact H.1.r _ _ rfl | exact H0.1.r _ _ rfl | exact H1.1.r _ _ rfl | exact H2.1.r _ _ rfl | exact H3.1.r _ _ rfl | exact H4.1.r _ _ rfl | exact H5.1.r _ _ rfl | exact H6.1.r _ _ rfl | exact H7.1.r _ _ rfl | exact H8.1.r _ _ rfl | exact H.1.1.r _ _ rfl | exact H0.1.1.r _ _ rfl | exact H1.1.1.r _ _ rfl | exact H2.1.1.r _ _ rfl | exact H3.1.1.r _ _ rfl | exact H4.1.1.r _ _ rfl | exact H5.1.1.r _ _ rfl | exact H6.1.1.r _ _ rfl | exact H7.1.1.r _ _ rfl | exact H8.1.1.r _ _ rfl) ?_
    refine V_iload_n (i := 1) (sx_di dX12_clause 50 rfl) rfl rfl ?_
    refine V_aload_n (i := 0) (sx_di dX12_clause 51 rfl) rfl rfl ?_
    refine V_getR (sx_di dX12_clause 52 rfl) fX12_19 (fun _ => rfl) (by first | exact H.1.k _ rfl | exact H0.1.k _ rfl | exact H1.1.k _ rfl | exact H2.1.k _ rfl | exact H3.1.k _ rfl | exact H4.1.k _ rfl | exact H5.1.k _ rfl | exact H6.1.k _ rfl | exact H7.1.k _ rfl | exact H8.1.k _ rfl | exact H.1.1.k _ rfl | exact H0.1.1.k _ rfl | exact H1.1.1.k _ rfl | exact H2.1.1.k _ rfl | exact H3.1.1.k _ rfl | exact H4.1.1.k _ rfl | exact H5.1.1.k _ rfl | exact H6.1.1.k _ rfl | exact H7.1.1.k _ rfl | exact H8.1.1.k _ rfl) (by first | exact H.1.r _ _ rfl | exact H0.1.r _ _ rfl | exact H1.1.r _ _ rfl | exact H2.1.r _ _ rfl | exact H3.1.r _ _ rfl | exact H4.1.r _ _ rfl | exact H5.1.r _ _ rfl | exact H6.1.r _ _ rfl | exact H7.1.r _ _ rfl | exact H8.1.r _ _ rfl | exact H.1.1.r _ _ rfl | exact H0.1.1.r _ _ rfl | exact H1.1.1.r _ _ rfl | exact H2.1.1.r _ _ rfl | exact H3.1.1.r _ _ rfl | exact H4.1.1.r _ _ rfl | exact H5.1.1.r _ _ rfl | exact H6.1.1.r _ _ rfl | exact H7.1.1.r _ _ rfl | exact H8.1.1.r _ _ rfl) ?_
    refine V_aload_n (i := 0) (sx_di dX12_clause 53 rfl) rfl rfl ?_
    refine V_getI (sx_di dX12_clause 54 rfl) fX12_119 (fun _ => rfl) (by first | exact H.1.k _ rfl | exact H0.1.k _ rfl | exact H1.1.k _ rfl | exact H2.1.k _ rfl | exact H3.1.k _ rfl | exact H4.1.k _ rfl | exact H5.1.k _ rfl | exact H6.1.k _ rfl | exact H7.1.k _ rfl | exact H8.1.k _ rfl | exact H.1.1.k _ rfl | exact H0.1.1.k _ rfl | exact H1.1.1.k _ rfl | exact H2.1.1.k _ rfl | exact H3.1.1.k _ rfl | exact H4.1.1.k _ rfl | exact H5.1.1.k _ rfl | exact H6.1.1.k _ rfl | exact H7.1.1.k _ rfl | exact H8.1.1.k _ rfl) ?_
    refine V_iv (y := nI n) (H2.2.2.1) ?_
    refine V_ialdN (n := 5) (j := n) (sx_di dX12_clause 55 rfl) (by first | exact H.1.k _ rfl | exact H0.1.k _ rfl | exact H1.1.k _ rfl | exact H2.1.k _ rfl | exact H3.1.k _ rfl | exact H4.1.k _ rfl | exact H5.1.k _ rfl | exact H6.1.k _ rfl | exact H7.1.k _ rfl | exact H8.1.k _ rfl | exact H.1.1.k _ rfl | exact H0.1.1.k _ rfl | exact H1.1.1.k _ rfl | exact H2.1.1.k _ rfl | exact H3.1.1.k _ rfl | exact H4.1.1.k _ rfl | exact H5.1.1.k _ rfl | exact H6.1.1.k _ rfl | exact H7.1.1.k _ rfl | exact H8.1.1.k _ rfl) (rfl) (by omega) (by omega) ?_
    refine V_iv (y := nI (fx_ Z).length) (hX2.1) ?_
    refine V_iastN (n := 700) (j := (140 * n + Z.length)) (sx_di dX12_clause 56 rfl) (by first | exact H.1.k _ rfl | exact H0.1.k _ rfl | exact H1.1.k _ rfl | exact H2.1.k _ rfl | exact H3.1.k _ rfl | exact H4.1.k _ rfl | exact H5.1.k _ rfl | exact H6.1.k _ rfl | exact H7.1.k _ rfl | exact H8.1.k _ rfl | exact H.1.1.k _ rfl | exact H0.1.1.k _ rfl | exact H1.1.1.k _ rfl | exact H2.1.1.k _ rfl | exact H3.1.1.k _ rfl | exact H4.1.1.k _ rfl | exact H5.1.1.k _ rfl | exact H6.1.1.k _ rfl | exact H7.1.1.k _ rfl | exact H8.1.1.k _ rfl) (rfl) (by omega) (by omega) ?_
    have hCd : (cz_ T (skp_ T (skp_ T p + 1) + 1) = 33 ∨ cz_ T (skp_ T (skp_ T p + 1) + 1) = 40) → ∀ w5, rrP T n 0 (skp_ T (skp_ T (skp_ T p + 1) + 1)) w5 → rrX n (fx_ Z) w5 → fM n (hp_si w2 387 (140 * n + Z.length) (nI (fx_ Z).length)) w5 → V E mX12_clause (sx_rm 54 0 0) 0 0 0 0 123 [(1, .int (nI (140 * n + Z.length))), (0, .ref 381)] [] w5 Q := by
      intro hc w5 H5 x5 f5
      rw [if_pos hc] at h
      refine V_iconst (v := 1) (sx_di dX12_clause 65 rfl) (by decide) ?_
      refine V_goto (tgt := 128) (sx_di dX12_clause 66 rfl) (by decide) ?_
      refine V_istore_n (i := 2) (sx_di dX12_clause 68 rfl) rfl (by decide) (rfl) ?_
      refine V_iload_n (i := 2) (sx_di dX12_clause 69 rfl) rfl rfl ?_
      refine V_ifN_eq (a := 1) (rfl) (by omega) (tgt := 140) (sx_di dX12_clause 70 rfl) (by decide) (fun h130 => absurd h130 (by decide)) (fun _ => ?_)
      refine V_aload_n (i := 0) (sx_di dX12_clause 71 rfl) rfl rfl ?_
      refine V_cV0 (mc' := 0) (ms' := 0) (M' := mX12_condition) 53 (sx_di dX12_clause 72 rfl) lX12_168 vX12_condition (by first | exact H.1.k _ rfl | exact H0.1.k _ rfl | exact H1.1.k _ rfl | exact H2.1.k _ rfl | exact H3.1.k _ rfl | exact H4.1.k _ rfl | exact H5.1.k _ rfl | exact H6.1.k _ rfl | exact H7.1.k _ rfl | exact H8.1.k _ rfl | exact H.1.1.k _ rfl | exact H0.1.1.k _ rfl | exact H1.1.1.k _ rfl | exact H2.1.1.k _ rfl | exact H3.1.1.k _ rfl | exact H4.1.1.k _ rfl | exact H5.1.1.k _ rfl | exact H6.1.1.k _ rfl | exact H7.1.1.k _ rfl | exact H8.1.1.k _ rfl) (by decide) rfl (Nat.le_of_ble_eq_true rfl) ⟨by show 53 + 1 ≤ 54; omega, by show 64 + 64 * (53) ≤ 64 * (54); omega⟩ ⟨Nat.le_refl _, Nat.le_refl _⟩ ?_
      refine r_cond hn (fx_ Z) (skp_ T (skp_ T (skp_ T p + 1) + 1)) w5 _ H5 x5 (by omega) g5 (fun w6 H6 f6 => ?_)
      have hg := cdR_go T 6 (skp_ T (skp_ T (skp_ T p + 1) + 1)) g5
      refine V_goto (tgt := 184) (sx_di dX12_clause 73 rfl) (by decide) ?_
      refine V_sub (ls' := [(2, .int 1), (1, .int (nI (140 * n + Z.length))), (0, .ref 381)]) ⟨rfl, rfl, rfl, trivial⟩ ?_
      have f56 := fM_tr f5 f6
      exact t184A hn hZ (by rw [f56.2.1 386 (by decide) (by decide) (by decide) (by decide)]; exact m6) (tb8_fM f56 mt) (by rw [f56.2.1 387 (by decide) (by decide) (by decide) (by decide)]; exact m7) hg.2.1 (fun z => by rw [List.length_append]; have := hg.2.2 z; omega) H6 (fun w7 C7 f7 => h w7 C7 (fN_tr f3 (fN_tr (fM_fN f56) f7)))
    have hSm : ¬ (cz_ T (skp_ T (skp_ T p + 1) + 1) = 33 ∨ cz_ T (skp_ T (skp_ T p + 1) + 1) = 40) → ∀ w5, rrP T n 0 (skp_ T (skp_ T (skp_ T p + 1) + 1)) w5 → rrX n (fx_ Z) w5 → fM n (hp_si w2 387 (140 * n + Z.length) (nI (fx_ Z).length)) w5 → V E mX12_clause (sx_rm 54 0 0) 0 0 0 0 127 [(1, .int (nI (140 * n + Z.length))), (0, .ref 381)] [] w5 Q := by
      intro hc w5 H5 x5 f5
      rw [if_neg hc] at h
      have hg := smR_go T 6 (skp_ T (skp_ T (skp_ T p + 1) + 1)) g5
      refine V_iconst (v := 0) (sx_di dX12_clause 67 rfl) (by decide) ?_
      refine V_istore_n (i := 2) (sx_di dX12_clause 68 rfl) rfl (by decide) (rfl) ?_
      refine V_iload_n (i := 2) (sx_di dX12_clause 69 rfl) rfl rfl ?_
      refine V_ifN_eq (a := 0) (rfl) (by omega) (tgt := 140) (sx_di dX12_clause 70 rfl) (by decide) (fun _ => ?_) (fun h130 => absurd rfl h130)
      refine V_aload_n (i := 0) (sx_di dX12_clause 74 rfl) rfl rfl ?_
      refine V_cV0 (mc' := 0) (ms' := 0) (M' := mX12_sum) 24 (sx_di dX12_clause 75 rfl) lX12_149 vX12_sum (by first | exact H.1.k _ rfl | exact H0.1.k _ rfl | exact H1.1.k _ rfl | exact H2.1.k _ rfl | exact H3.1.k _ rfl | exact H4.1.k _ rfl | exact H5.1.k _ rfl | exact H6.1.k _ rfl | exact H7.1.k _ rfl | exact H8.1.k _ rfl | exact H9.1.k _ rfl | exact H10.1.k _ rfl | exact H.1.1.k _ rfl | exact H0.1.1.k _ rfl | exact H1.1.1.k _ rfl | exact H2.1.1.k _ rfl | exact H3.1.1.k _ rfl | exact H4.1.1.k _ rfl | exact H5.1.1.k _ rfl | exact H6.1.1.k _ rfl | exact H7.1.1.k _ rfl | exact H8.1.1.k _ rfl | exact H9.1.1.k _ rfl | exact H10.1.1.k _ rfl) (by decide) rfl (Nat.le_of_ble_eq_true rfl) ⟨by show 24 + 1 ≤ 54; omega, by show 64 + 64 * (24) ≤ 64 * (54); omega⟩ ⟨Nat.le_refl _, Nat.le_refl _⟩ ?_
      refine r_sum (r := 6) (d := 0) hn rfl (fx_ Z) (skp_ T (skp_ T (skp_ T p + 1) + 1)) w5 _ H5 x5 (by omega) g5 (fun w6 H6 f6 => ?_)
      refine V_aload_n (i := 0) (sx_di dX12_clause 76 rfl) rfl rfl ?_
      refine V_getI (sx_di dX12_clause 77 rfl) fX12_116 (fun _ => rfl) (by first | exact H.1.k _ rfl | exact H0.1.k _ rfl | exact H1.1.k _ rfl | exact H2.1.k _ rfl | exact H3.1.k _ rfl | exact H4.1.k _ rfl | exact H5.1.k _ rfl | exact H6.1.k _ rfl | exact H7.1.k _ rfl | exact H8.1.k _ rfl | exact H9.1.k _ rfl | exact H10.1.k _ rfl | exact H.1.1.k _ rfl | exact H0.1.1.k _ rfl | exact H1.1.1.k _ rfl | exact H2.1.1.k _ rfl | exact H3.1.1.k _ rfl | exact H4.1.1.k _ rfl | exact H5.1.1.k _ rfl | exact H6.1.1.k _ rfl | exact H7.1.1.k _ rfl | exact H8.1.1.k _ rfl | exact H9.1.1.k _ rfl | exact H10.1.1.k _ rfl) ?_
      refine V_iv (y := wv_ (smR T 6 (skp_ T (skp_ T (skp_ T p + 1) + 1)))) (R9_w H6) ?_
      refine V_iconst (v := -1) (sx_di dX12_clause 78 rfl) (by decide) ?_
      refine V_icmp_ne (tgt := 166) (sx_di dX12_clause 79 rfl) (by decide) (fun h149 => ?_) (fun h149 => ?_)
      · have b149 := wv_n h149
        rw [if_neg b149] at h
        refine V_iconst (v := 0) (sx_di dX12_clause 86 rfl) (by decide) ?_
        refine V_istore_n (i := 2) (sx_di dX12_clause 87 rfl) rfl (by decide) (rfl) ?_
        refine V_iload_n (i := 2) (sx_di dX12_clause 88 rfl) rfl rfl ?_
        refine V_ifN_eq (a := 0) (rfl) (by omega) (tgt := 184) (sx_di dX12_clause 89 rfl) (by decide) (fun _ => ?_) (fun h169 => absurd rfl h169)
        refine V_sub (ls' := [(2, .int 0), (1, .int (nI (140 * n + Z.length))), (0, .ref 381)]) ⟨rfl, rfl, rfl, trivial⟩ ?_
        have f56 := fM_tr f5 f6
        refine t184B hn hZ (x := (smR T 6 (skp_ T (skp_ T (skp_ T p + 1) + 1)))) (by rw [f56.2.1 386 (by decide) (by decide) (by decide) (by decide)]; exact m6) (tb8_fM f56 mt) (by rw [f56.2.1 387 (by decide) (by decide) (by decide) (by decide)]; exact m7) H6 (fun w7 C7 f7 => ?_)
        rw [if_neg b149] at C7
        exact h w7 C7 (fN_tr f3 (fN_tr (fM_fN f56) f7))
      · have b149 := wv_y (by omega) h149
        have H0 := R9_y H6 b149
        rw [if_pos b149] at h
        refine V_aload_n (i := 0) (sx_di dX12_clause 80 rfl) rfl rfl ?_
        refine V_cV0 (mc' := 0) (ms' := 0) (M' := mX12_look) 2 (sx_di dX12_clause 81 rfl) lX12_128 vX12_look (by first | exact H.1.k _ rfl | exact H0.1.k _ rfl | exact H1.1.k _ rfl | exact H2.1.k _ rfl | exact H3.1.k _ rfl | exact H4.1.k _ rfl | exact H5.1.k _ rfl | exact H6.1.k _ rfl | exact H7.1.k _ rfl | exact H8.1.k _ rfl | exact H9.1.k _ rfl | exact H10.1.k _ rfl | exact H.1.1.k _ rfl | exact H0.1.1.k _ rfl | exact H1.1.1.k _ rfl | exact H2.1.1.k _ rfl | exact H3.1.1.k _ rfl | exact H4.1.1.k _ rfl | exact H5.1.1.k _ rfl | exact H6.1.1.k _ rfl | exact H7.1.1.k _ rfl | exact H8.1.1.k _ rfl | exact H9.1.1.k _ rfl | exact H10.1.1.k _ rfl) (by decide) rfl (Nat.le_of_ble_eq_true rfl) ⟨by show 2 + 1 ≤ 54; omega, by show 64 + 64 * (2) ≤ 64 * (54); omega⟩ ⟨Nat.le_refl _, Nat.le_refl _⟩ ?_
        refine c_look9 H0.1 hg.2.1 (fun w7 H7 f7 x7 => ?_)
        refine V_cS1 (mc' := 0) (ms' := 0) (M' := mX12_isSign) 1 (sx_di dX12_clause 82 rfl) lX12_162 vX12_isSign (Nat.le_of_ble_eq_true rfl) ⟨by show 1 + 1 ≤ 54; omega, by show 64 + 64 * (1) ≤ 64 * (54); omega⟩ ⟨Nat.le_refl _, Nat.le_refl _⟩ ?_
        refine c_X12_isSign ?_
        refine V_if_eq (tgt := 166) (sx_di dX12_clause 83 rfl) (by decide) (fun h159 => ?_) (fun h159 => ?_)
        · rw [if_neg (bz9f h159)] at h
          refine V_iconst (v := 0) (sx_di dX12_clause 86 rfl) (by decide) ?_
          refine V_istore_n (i := 2) (sx_di dX12_clause 87 rfl) rfl (by decide) (rfl) ?_
          refine V_iload_n (i := 2) (sx_di dX12_clause 88 rfl) rfl rfl ?_
          refine V_ifN_eq (a := 0) (rfl) (by omega) (tgt := 184) (sx_di dX12_clause 89 rfl) (by decide) (fun _ => ?_) (fun h169 => absurd rfl h169)
          refine V_sub (ls' := [(2, .int 0), (1, .int (nI (140 * n + Z.length))), (0, .ref 381)]) ⟨rfl, rfl, rfl, trivial⟩ ?_
          have f57 := fM_tr f5 (fM_tr f6 f7)
          exact t184B hn hZ (x := (true, (smR T 6 (skp_ T (skp_ T (skp_ T p + 1) + 1))).2.1, skp_ T (smR T 6 (skp_ T (skp_ T (skp_ T p + 1) + 1))).2.2)) (B := 300) (by rw [f57.2.1 386 (by decide) (by decide) (by decide) (by decide)]; exact m6) (tb8_fM f57 mt) (by rw [f57.2.1 387 (by decide) (by decide) (by decide) (by decide)]; exact m7) (R9_of H7 (x7 _ H0.2)) (fun w8 C8 f8 => h w8 C8 (fN_tr f3 (fN_tr (fM_fN f57) f8)))
        · have b159 := bz9t h159
          rw [if_pos b159] at h
          refine V_iconst (v := 1) (sx_di dX12_clause 84 rfl) (by decide) ?_
          refine V_goto (tgt := 167) (sx_di dX12_clause 85 rfl) (by decide) ?_
          refine V_istore_n (i := 2) (sx_di dX12_clause 87 rfl) rfl (by decide) (rfl) ?_
          refine V_iload_n (i := 2) (sx_di dX12_clause 88 rfl) rfl rfl ?_
          refine V_ifN_eq (a := 1) (rfl) (by omega) (tgt := 184) (sx_di dX12_clause 89 rfl) (by decide) (fun h169 => absurd h169 (by decide)) (fun _ => ?_)
          refine V_aload_n (i := 0) (sx_di dX12_clause 90 rfl) rfl rfl ?_
          refine V_cV0 (mc' := 0) (ms' := 0) (M' := mX12_compare) 25 (sx_di dX12_clause 91 rfl) lX12_171 vX12_compare (by first | exact H.1.k _ rfl | exact H0.1.k _ rfl | exact H1.1.k _ rfl | exact H2.1.k _ rfl | exact H3.1.k _ rfl | exact H4.1.k _ rfl | exact H5.1.k _ rfl | exact H6.1.k _ rfl | exact H7.1.k _ rfl | exact H8.1.k _ rfl | exact H9.1.k _ rfl | exact H10.1.k _ rfl | exact H.1.1.k _ rfl | exact H0.1.1.k _ rfl | exact H1.1.1.k _ rfl | exact H2.1.1.k _ rfl | exact H3.1.1.k _ rfl | exact H4.1.1.k _ rfl | exact H5.1.1.k _ rfl | exact H6.1.1.k _ rfl | exact H7.1.1.k _ rfl | exact H8.1.1.k _ rfl | exact H9.1.1.k _ rfl | exact H10.1.1.k _ rfl) (by decide) rfl (Nat.le_of_ble_eq_true rfl) ⟨by show 25 + 1 ≤ 54; omega, by show 64 + 64 * (25) ≤ 64 * (54); omega⟩ ⟨Nat.le_refl _, Nat.le_refl _⟩ ?_
          have g8 := skp_ge T (smR T 6 (skp_ T (skp_ T (skp_ T p + 1) + 1))).2.2
          refine c_cmp9 (X := fx_ Z) (Y := (smR T 6 (skp_ T (skp_ T (skp_ T p + 1) + 1))).2.1) hn (by decide) (by decide) (by decide) (smR_go T 6) (r_sum (r := 6) (d := 0) hn rfl) H7 (x7 _ H0.2) (by rw [List.length_append]; have := hg.2.2 b149; omega) (skq_le hg.2.1) (fun w8 H8 f8 => ?_)
          rw [cm_skp] at H8
          have hgc := cm_go (smR_go T 6) (smR T 6 (skp_ T (skp_ T (skp_ T p + 1) + 1))).2.1 hg.2.1
          refine V_aload_n (i := 0) (sx_di dX12_clause 92 rfl) rfl rfl ?_
          refine V_cV0 (mc' := 0) (ms' := 0) (M' := mX12_goOnAnd) 51 (sx_di dX12_clause 93 rfl) lX12_174 vX12_goOnAnd (by first | exact H.1.k _ rfl | exact H0.1.k _ rfl | exact H1.1.k _ rfl | exact H2.1.k _ rfl | exact H3.1.k _ rfl | exact H4.1.k _ rfl | exact H5.1.k _ rfl | exact H6.1.k _ rfl | exact H7.1.k _ rfl | exact H8.1.k _ rfl | exact H9.1.k _ rfl | exact H10.1.k _ rfl | exact H.1.1.k _ rfl | exact H0.1.1.k _ rfl | exact H1.1.1.k _ rfl | exact H2.1.1.k _ rfl | exact H3.1.1.k _ rfl | exact H4.1.1.k _ rfl | exact H5.1.1.k _ rfl | exact H6.1.1.k _ rfl | exact H7.1.1.k _ rfl | exact H8.1.1.k _ rfl | exact H9.1.1.k _ rfl | exact H10.1.1.k _ rfl) (by decide) rfl (Nat.le_of_ble_eq_true rfl) ⟨by show 51 + 1 ≤ 54; omega, by show 64 + 64 * (51) ≤ 64 * (54); omega⟩ ⟨Nat.le_refl _, Nat.le_refl _⟩ ?_
          refine c_and9 (B := 282) hn (by decide) (by decide) (by decide) (uR_go T 6) (r_unit hn 6 0 rfl) hgc.2.1 (fun z => by rw [List.length_append]; have := hgc.2.2 z; have := hg.2.2 b149; omega) (R9_up (by decide) H8) (fun w9 H9 f9 => ?_)
          have hgl := la9_go (s := loC) (uR_go T 6) (by decide) hgc.2.1
          refine V_aload_n (i := 0) (sx_di dX12_clause 94 rfl) rfl rfl ?_
          refine V_cV0 (mc' := 0) (ms' := 0) (M' := mX12_goOnOr) 52 (sx_di dX12_clause 95 rfl) lX12_177 vX12_goOnOr (by first | exact H.1.k _ rfl | exact H0.1.k _ rfl | exact H1.1.k _ rfl | exact H2.1.k _ rfl | exact H3.1.k _ rfl | exact H4.1.k _ rfl | exact H5.1.k _ rfl | exact H6.1.k _ rfl | exact H7.1.k _ rfl | exact H8.1.k _ rfl | exact H9.1.k _ rfl | exact H10.1.k _ rfl | exact H.1.1.k _ rfl | exact H0.1.1.k _ rfl | exact H1.1.1.k _ rfl | exact H2.1.1.k _ rfl | exact H3.1.1.k _ rfl | exact H4.1.1.k _ rfl | exact H5.1.1.k _ rfl | exact H6.1.1.k _ rfl | exact H7.1.1.k _ rfl | exact H8.1.1.k _ rfl | exact H9.1.1.k _ rfl | exact H10.1.1.k _ rfl) (by decide) rfl (Nat.le_of_ble_eq_true rfl) ⟨by show 52 + 1 ≤ 54; omega, by show 64 + 64 * (52) ≤ 64 * (54); omega⟩ ⟨Nat.le_refl _, Nat.le_refl _⟩ ?_
          refine c_or9 (B := 282) hn (by decide) (by decide) (by decide) (uR_go T 6) (r_unit hn 6 0 rfl) hgl.1 (fun z => by rw [List.length_append]; have := hgl.2 z; have := hgc.2.2 this.1; have := hg.2.2 b149; omega) (R9_up (by decide) H9) (fun w10 H10 f10 => ?_)
          rw [← cb9_la hg.2.1] at H10
          have hgb := cb9_go (X := (smR T 6 (skp_ T (skp_ T (skp_ T p + 1) + 1))).2.1) hg.2.1
          refine V_sub (ls' := [(2, .int 1), (1, .int (nI (140 * n + Z.length))), (0, .ref 381)]) ⟨rfl, rfl, rfl, trivial⟩ ?_
          have f5a := fM_tr f5 (fM_tr f6 (fM_tr f7 (fM_tr f8 (fM_tr f9 f10))))
          exact t184A hn hZ (by rw [f5a.2.1 386 (by decide) (by decide) (by decide) (by decide)]; exact m6) (tb8_fM f5a mt) (by rw [f5a.2.1 387 (by decide) (by decide) (by decide) (by decide)]; exact m7) hgb.2.1 (fun z => by rw [List.length_append]; have := hgb.2.2 z; have := hg.2.2 b149; omega) H10 (fun w11 C11 f11 => h w11 C11 (fN_tr f3 (fN_tr (fM_fN f5a) f11)))
    refine V_aload_n (i := 0) (sx_di dX12_clause 57 rfl) rfl rfl ?_
    refine V_cV0 (mc' := 0) (ms' := 0) (M' := mX12_look) 2 (sx_di dX12_clause 58 rfl) lX12_128 vX12_look (by first | exact H.1.k _ rfl | exact H0.1.k _ rfl | exact H1.1.k _ rfl | exact H2.1.k _ rfl | exact H3.1.k _ rfl | exact H4.1.k _ rfl | exact H5.1.k _ rfl | exact H6.1.k _ rfl | exact H7.1.k _ rfl | exact H8.1.k _ rfl | exact H.1.1.k _ rfl | exact H0.1.1.k _ rfl | exact H1.1.1.k _ rfl | exact H2.1.1.k _ rfl | exact H3.1.1.k _ rfl | exact H4.1.1.k _ rfl | exact H5.1.1.k _ rfl | exact H6.1.1.k _ rfl | exact H7.1.1.k _ rfl | exact H8.1.1.k _ rfl) (by decide) rfl (Nat.le_of_ble_eq_true rfl) ⟨by show 2 + 1 ≤ 54; omega, by show 64 + 64 * (2) ≤ 64 * (54); omega⟩ ⟨Nat.le_refl _, Nat.le_refl _⟩ ?_
    refine c_look9 H3 z2 (fun w4 H4 f4 x4 => ?_)
    refine V_bipush (v := 33) (sx_di dX12_clause 59 rfl) (by decide) ?_
    refine V_icmp_eq (tgt := 123) (sx_di dX12_clause 60 rfl) (by decide) (fun h111 => ?_) (fun h111 => ?_)
    · exact V_subk (hCd (Or.inl h111) w4 H4 (x4 _ hX3) f4) ⟨rfl, rfl, trivial⟩
    · refine V_aload_n (i := 0) (sx_di dX12_clause 61 rfl) rfl rfl ?_
      refine V_cV0 (mc' := 0) (ms' := 0) (M' := mX12_look) 2 (sx_di dX12_clause 62 rfl) lX12_128 vX12_look (by first | exact H.1.k _ rfl | exact H0.1.k _ rfl | exact H1.1.k _ rfl | exact H2.1.k _ rfl | exact H3.1.k _ rfl | exact H4.1.k _ rfl | exact H5.1.k _ rfl | exact H6.1.k _ rfl | exact H7.1.k _ rfl | exact H8.1.k _ rfl | exact H.1.1.k _ rfl | exact H0.1.1.k _ rfl | exact H1.1.1.k _ rfl | exact H2.1.1.k _ rfl | exact H3.1.1.k _ rfl | exact H4.1.1.k _ rfl | exact H5.1.1.k _ rfl | exact H6.1.1.k _ rfl | exact H7.1.1.k _ rfl | exact H8.1.1.k _ rfl) (by decide) rfl (Nat.le_of_ble_eq_true rfl) ⟨by show 2 + 1 ≤ 54; omega, by show 64 + 64 * (2) ≤ 64 * (54); omega⟩ ⟨Nat.le_refl _, Nat.le_refl _⟩ ?_
      refine c_look9 H4 g5 (fun w5 H5 f5 x5 => ?_)
      rw [cz_id]
      rw [skp_id] at H5
      refine V_bipush (v := 40) (sx_di dX12_clause 63 rfl) (by decide) ?_
      refine V_icmp_ne (tgt := 127) (sx_di dX12_clause 64 rfl) (by decide) (fun h120 => ?_) (fun h120 => ?_)
      · exact V_subk (hSm (fun z => z.elim h111 h120) w5 H5 (x5 _ (x4 _ hX3)) (fM_tr f4 f5)) ⟨rfl, rfl, trivial⟩
      · exact V_subk (hCd (Or.inr h120) w5 H5 (x5 _ (x4 _ hX3)) (fM_tr f4 f5)) ⟨rfl, rfl, trivial⟩
  refine C_of (by decide +kernel) (Nat.le_of_ble_eq_true rfl) ?_
  refine V_sipush (v := 140) (sx_di dX12_clause 0 rfl) (by decide) ?_
  refine V_aload_n (i := 0) (sx_di dX12_clause 1 rfl) rfl rfl ?_
  refine V_getI (sx_di dX12_clause 2 rfl) fX12_119 (fun _ => rfl) (by first | exact H.1.k _ rfl | exact H0.1.k _ rfl | exact H1.1.k _ rfl | exact H2.1.k _ rfl | exact H3.1.k _ rfl | exact H4.1.k _ rfl | exact H5.1.k _ rfl | exact H6.1.k _ rfl | exact H7.1.k _ rfl | exact H8.1.k _ rfl | exact H.1.1.k _ rfl | exact H0.1.1.k _ rfl | exact H1.1.1.k _ rfl | exact H2.1.1.k _ rfl | exact H3.1.1.k _ rfl | exact H4.1.1.k _ rfl | exact H5.1.1.k _ rfl | exact H6.1.1.k _ rfl | exact H7.1.1.k _ rfl | exact H8.1.1.k _ rfl) ?_
  refine V_iv (y := nI n) (H.2.2.1) ?_
  refine V_imul (sx_di dX12_clause 3 rfl) ?_
  refine V_aload_n (i := 0) (sx_di dX12_clause 4 rfl) rfl rfl ?_
  refine V_getR (sx_di dX12_clause 5 rfl) fX12_22 (fun _ => rfl) (by first | exact H.1.k _ rfl | exact H0.1.k _ rfl | exact H1.1.k _ rfl | exact H2.1.k _ rfl | exact H3.1.k _ rfl | exact H4.1.k _ rfl | exact H5.1.k _ rfl | exact H6.1.k _ rfl | exact H7.1.k _ rfl | exact H8.1.k _ rfl | exact H.1.1.k _ rfl | exact H0.1.1.k _ rfl | exact H1.1.1.k _ rfl | exact H2.1.1.k _ rfl | exact H3.1.1.k _ rfl | exact H4.1.1.k _ rfl | exact H5.1.1.k _ rfl | exact H6.1.1.k _ rfl | exact H7.1.1.k _ rfl | exact H8.1.1.k _ rfl) (by first | exact H.1.r _ _ rfl | exact H0.1.r _ _ rfl | exact H1.1.r _ _ rfl | exact H2.1.r _ _ rfl | exact H3.1.r _ _ rfl | exact H4.1.r _ _ rfl | exact H5.1.r _ _ rfl | exact H6.1.r _ _ rfl | exact H7.1.r _ _ rfl | exact H8.1.r _ _ rfl | exact H.1.1.r _ _ rfl | exact H0.1.1.r _ _ rfl | exact H1.1.1.r _ _ rfl | exact H2.1.1.r _ _ rfl | exact H3.1.1.r _ _ rfl | exact H4.1.1.r _ _ rfl | exact H5.1.1.r _ _ rfl | exact H6.1.1.r _ _ rfl | exact H7.1.1.r _ _ rfl | exact H8.1.1.r _ _ rfl) ?_
  refine V_aload_n (i := 0) (sx_di dX12_clause 6 rfl) rfl rfl ?_
  refine V_getI (sx_di dX12_clause 7 rfl) fX12_119 (fun _ => rfl) (by first | exact H.1.k _ rfl | exact H0.1.k _ rfl | exact H1.1.k _ rfl | exact H2.1.k _ rfl | exact H3.1.k _ rfl | exact H4.1.k _ rfl | exact H5.1.k _ rfl | exact H6.1.k _ rfl | exact H7.1.k _ rfl | exact H8.1.k _ rfl | exact H.1.1.k _ rfl | exact H0.1.1.k _ rfl | exact H1.1.1.k _ rfl | exact H2.1.1.k _ rfl | exact H3.1.1.k _ rfl | exact H4.1.1.k _ rfl | exact H5.1.1.k _ rfl | exact H6.1.1.k _ rfl | exact H7.1.1.k _ rfl | exact H8.1.1.k _ rfl) ?_
  refine V_iv (y := nI n) (H.2.2.1) ?_
  refine V_ialdN (n := 5) (j := n) (sx_di dX12_clause 8 rfl) (by first | exact H.1.k _ rfl | exact H0.1.k _ rfl | exact H1.1.k _ rfl | exact H2.1.k _ rfl | exact H3.1.k _ rfl | exact H4.1.k _ rfl | exact H5.1.k _ rfl | exact H6.1.k _ rfl | exact H7.1.k _ rfl | exact H8.1.k _ rfl | exact H.1.1.k _ rfl | exact H0.1.1.k _ rfl | exact H1.1.1.k _ rfl | exact H2.1.1.k _ rfl | exact H3.1.1.k _ rfl | exact H4.1.1.k _ rfl | exact H5.1.1.k _ rfl | exact H6.1.1.k _ rfl | exact H7.1.1.k _ rfl | exact H8.1.1.k _ rfl) (rfl) (by omega) (by omega) ?_
  refine V_iv (y := nI Z.length) (hs.1) ?_
  refine V_iadd (sx_di dX12_clause 9 rfl) ?_
  refine V_iv (y := nI (140 * n + Z.length)) (nx_add (nx_mul (a := 140) rfl rfl) rfl) ?_
  refine V_istore_n (i := 1) (sx_di dX12_clause 10 rfl) rfl (by decide) (rfl) ?_
  refine V_aload_n (i := 0) (sx_di dX12_clause 11 rfl) rfl rfl ?_
  refine V_getI (sx_di dX12_clause 12 rfl) fX12_116 (fun _ => rfl) (by first | exact H.1.k _ rfl | exact H0.1.k _ rfl | exact H1.1.k _ rfl | exact H2.1.k _ rfl | exact H3.1.k _ rfl | exact H4.1.k _ rfl | exact H5.1.k _ rfl | exact H6.1.k _ rfl | exact H7.1.k _ rfl | exact H8.1.k _ rfl | exact H.1.1.k _ rfl | exact H0.1.1.k _ rfl | exact H1.1.1.k _ rfl | exact H2.1.1.k _ rfl | exact H3.1.1.k _ rfl | exact H4.1.1.k _ rfl | exact H5.1.1.k _ rfl | exact H6.1.1.k _ rfl | exact H7.1.1.k _ rfl | exact H8.1.1.k _ rfl) ?_
  refine V_iv (y := -1) (H.2.2.2.1) ?_
  refine V_iconst (v := -1) (sx_di dX12_clause 13 rfl) (by decide) ?_
  refine V_icmp_ne (tgt := 40) (sx_di dX12_clause 14 rfl) (by decide) (fun h24 => absurd rfl h24) (fun _ => ?_)
  refine V_aload_n (i := 0) (sx_di dX12_clause 15 rfl) rfl rfl ?_
  refine V_cV0 (mc' := 0) (ms' := 0) (M' := mX12_look) 2 (sx_di dX12_clause 16 rfl) lX12_128 vX12_look (by first | exact H.1.k _ rfl | exact H0.1.k _ rfl | exact H1.1.k _ rfl | exact H2.1.k _ rfl | exact H3.1.k _ rfl | exact H4.1.k _ rfl | exact H5.1.k _ rfl | exact H6.1.k _ rfl | exact H7.1.k _ rfl | exact H8.1.k _ rfl | exact H.1.1.k _ rfl | exact H0.1.1.k _ rfl | exact H1.1.1.k _ rfl | exact H2.1.1.k _ rfl | exact H3.1.1.k _ rfl | exact H4.1.1.k _ rfl | exact H5.1.1.k _ rfl | exact H6.1.1.k _ rfl | exact H7.1.1.k _ rfl | exact H8.1.1.k _ rfl) (by decide) rfl (Nat.le_of_ble_eq_true rfl) ⟨by show 2 + 1 ≤ 54; omega, by show 64 + 64 * (2) ≤ 64 * (54); omega⟩ ⟨Nat.le_refl _, Nat.le_refl _⟩ ?_
  refine c_look9 H hp (fun w1 H1 f1 x1 => ?_)
  refine V_bipush (v := 121) (sx_di dX12_clause 17 rfl) (by decide) ?_
  refine V_icmp_eq (tgt := 40) (sx_di dX12_clause 18 rfl) (by decide) (fun h33 => ?_) (fun h33 => ?_)
  · have z1 := cz_p1 h33 (by decide)
    have g3 := skp_ge T (skp_ T p + 1)
    have g4 := skq_le (T := T) z1
    refine V_aload_n (i := 0) (sx_di dX12_clause 21 rfl) rfl rfl ?_
    refine V_dup (sx_di dX12_clause 22 rfl) rfl ?_
    refine V_getI (sx_di dX12_clause 23 rfl) fX12_109 (fun _ => rfl) (by first | exact H.1.k _ rfl | exact H0.1.k _ rfl | exact H1.1.k _ rfl | exact H2.1.k _ rfl | exact H3.1.k _ rfl | exact H4.1.k _ rfl | exact H5.1.k _ rfl | exact H6.1.k _ rfl | exact H7.1.k _ rfl | exact H8.1.k _ rfl | exact H.1.1.k _ rfl | exact H0.1.1.k _ rfl | exact H1.1.1.k _ rfl | exact H2.1.1.k _ rfl | exact H3.1.1.k _ rfl | exact H4.1.1.k _ rfl | exact H5.1.1.k _ rfl | exact H6.1.1.k _ rfl | exact H7.1.1.k _ rfl | exact H8.1.1.k _ rfl) ?_
    refine V_iconst (v := 1) (sx_di dX12_clause 24 rfl) (by decide) ?_
    refine V_iadd (sx_di dX12_clause 25 rfl) ?_
    refine V_putI (sx_di dX12_clause 26 rfl) fX12_109 (fun _ => rfl) rfl (by first | exact H.1.k _ rfl | exact H0.1.k _ rfl | exact H1.1.k _ rfl | exact H2.1.k _ rfl | exact H3.1.k _ rfl | exact H4.1.k _ rfl | exact H5.1.k _ rfl | exact H6.1.k _ rfl | exact H7.1.k _ rfl | exact H8.1.k _ rfl | exact H.1.1.k _ rfl | exact H0.1.1.k _ rfl | exact H1.1.1.k _ rfl | exact H2.1.1.k _ rfl | exact H3.1.1.k _ rfl | exact H4.1.1.k _ rfl | exact H5.1.1.k _ rfl | exact H6.1.1.k _ rfl | exact H7.1.1.k _ rfl | exact H8.1.1.k _ rfl) (rfl) (rfl) ?_
    refine V_at9 H1 (fun w2 H2 f2 x2 => ?_)
    refine V_aload_n (i := 0) (sx_di dX12_clause 27 rfl) rfl rfl ?_
    refine V_getI (sx_di dX12_clause 28 rfl) fX12_116 (fun _ => rfl) (by first | exact H.1.k _ rfl | exact H0.1.k _ rfl | exact H1.1.k _ rfl | exact H2.1.k _ rfl | exact H3.1.k _ rfl | exact H4.1.k _ rfl | exact H5.1.k _ rfl | exact H6.1.k _ rfl | exact H7.1.k _ rfl | exact H8.1.k _ rfl | exact H.1.1.k _ rfl | exact H0.1.1.k _ rfl | exact H1.1.1.k _ rfl | exact H2.1.1.k _ rfl | exact H3.1.1.k _ rfl | exact H4.1.1.k _ rfl | exact H5.1.1.k _ rfl | exact H6.1.1.k _ rfl | exact H7.1.1.k _ rfl | exact H8.1.1.k _ rfl) ?_
    refine V_iv (y := -1) (H2.2.2.2.1) ?_
    refine V_iconst (v := -1) (sx_di dX12_clause 29 rfl) (by decide) ?_
    refine V_icmp_ne (tgt := 71) (sx_di dX12_clause 30 rfl) (by decide) (fun h55 => absurd rfl h55) (fun _ => ?_)
    refine V_aload_n (i := 0) (sx_di dX12_clause 31 rfl) rfl rfl ?_
    refine V_cV0 (mc' := 0) (ms' := 0) (M' := mX12_look) 2 (sx_di dX12_clause 32 rfl) lX12_128 vX12_look (by first | exact H.1.k _ rfl | exact H0.1.k _ rfl | exact H1.1.k _ rfl | exact H2.1.k _ rfl | exact H3.1.k _ rfl | exact H4.1.k _ rfl | exact H5.1.k _ rfl | exact H6.1.k _ rfl | exact H7.1.k _ rfl | exact H8.1.k _ rfl | exact H.1.1.k _ rfl | exact H0.1.1.k _ rfl | exact H1.1.1.k _ rfl | exact H2.1.1.k _ rfl | exact H3.1.1.k _ rfl | exact H4.1.1.k _ rfl | exact H5.1.1.k _ rfl | exact H6.1.1.k _ rfl | exact H7.1.1.k _ rfl | exact H8.1.1.k _ rfl) (by decide) rfl (Nat.le_of_ble_eq_true rfl) ⟨by show 2 + 1 ≤ 54; omega, by show 64 + 64 * (2) ≤ 64 * (54); omega⟩ ⟨Nat.le_refl _, Nat.le_refl _⟩ ?_
    refine c_look9 H2 z1 (fun w3 H3 f3 x3 => ?_)
    refine V_bipush (v := 58) (sx_di dX12_clause 33 rfl) (by decide) ?_
    refine V_icmp_eq (tgt := 71) (sx_di dX12_clause 34 rfl) (by decide) (fun h64 => ?_) (fun h64 => ?_)
    · refine V_aload_n (i := 0) (sx_di dX12_clause 37 rfl) rfl rfl ?_
      refine V_dup (sx_di dX12_clause 38 rfl) rfl ?_
      refine V_getI (sx_di dX12_clause 39 rfl) fX12_109 (fun _ => rfl) (by first | exact H.1.k _ rfl | exact H0.1.k _ rfl | exact H1.1.k _ rfl | exact H2.1.k _ rfl | exact H3.1.k _ rfl | exact H4.1.k _ rfl | exact H5.1.k _ rfl | exact H6.1.k _ rfl | exact H7.1.k _ rfl | exact H8.1.k _ rfl | exact H.1.1.k _ rfl | exact H0.1.1.k _ rfl | exact H1.1.1.k _ rfl | exact H2.1.1.k _ rfl | exact H3.1.1.k _ rfl | exact H4.1.1.k _ rfl | exact H5.1.1.k _ rfl | exact H6.1.1.k _ rfl | exact H7.1.1.k _ rfl | exact H8.1.1.k _ rfl) ?_
      refine V_iconst (v := 1) (sx_di dX12_clause 40 rfl) (by decide) ?_
      refine V_iadd (sx_di dX12_clause 41 rfl) ?_
      refine V_putI (sx_di dX12_clause 42 rfl) fX12_109 (fun _ => rfl) rfl (by first | exact H.1.k _ rfl | exact H0.1.k _ rfl | exact H1.1.k _ rfl | exact H2.1.k _ rfl | exact H3.1.k _ rfl | exact H4.1.k _ rfl | exact H5.1.k _ rfl | exact H6.1.k _ rfl | exact H7.1.k _ rfl | exact H8.1.k _ rfl | exact H.1.1.k _ rfl | exact H0.1.1.k _ rfl | exact H1.1.1.k _ rfl | exact H2.1.1.k _ rfl | exact H3.1.1.k _ rfl | exact H4.1.1.k _ rfl | exact H5.1.1.k _ rfl | exact H6.1.1.k _ rfl | exact H7.1.1.k _ rfl | exact H8.1.1.k _ rfl) (rfl) (rfl) ?_
      refine V_at9 H3 (fun w4 H4 f4 x4 => ?_)
      refine V_aload_n (i := 0) (sx_di dX12_clause 43 rfl) rfl rfl ?_
      refine V_getI (sx_di dX12_clause 44 rfl) fX12_116 (fun _ => rfl) (by first | exact H.1.k _ rfl | exact H0.1.k _ rfl | exact H1.1.k _ rfl | exact H2.1.k _ rfl | exact H3.1.k _ rfl | exact H4.1.k _ rfl | exact H5.1.k _ rfl | exact H6.1.k _ rfl | exact H7.1.k _ rfl | exact H8.1.k _ rfl | exact H.1.1.k _ rfl | exact H0.1.1.k _ rfl | exact H1.1.1.k _ rfl | exact H2.1.1.k _ rfl | exact H3.1.1.k _ rfl | exact H4.1.1.k _ rfl | exact H5.1.1.k _ rfl | exact H6.1.1.k _ rfl | exact H7.1.1.k _ rfl | exact H8.1.1.k _ rfl) ?_
      refine V_iv (y := -1) (H4.2.2.2.1) ?_
      refine V_iconst (v := -1) (sx_di dX12_clause 45 rfl) (by decide) ?_
      refine V_icmp_eq (tgt := 90) (sx_di dX12_clause 46 rfl) (by decide) (fun _ => ?_) (fun h86 => absurd rfl h86)
      refine V_sub (ls' := [(1, .int (nI (140 * n + Z.length))), (0, .ref 381)]) ⟨rfl, rfl, trivial⟩ ?_
      exact k90 w4 H4 (fun X z => x4 _ (x3 _ (x2 _ (x1 _ z)))) (fM_tr f1 (fM_tr f2 (fM_tr f3 f4))) h33 h64
    · refine V_aload_n (i := 0) (sx_di dX12_clause 35 rfl) rfl rfl ?_
      refine V_cV0 (mc' := 0) (ms' := 0) (M' := mX12_bad) 1 (sx_di dX12_clause 36 rfl) lX12_125 vX12_bad (by first | exact H.1.k _ rfl | exact H0.1.k _ rfl | exact H1.1.k _ rfl | exact H2.1.k _ rfl | exact H3.1.k _ rfl | exact H4.1.k _ rfl | exact H5.1.k _ rfl | exact H6.1.k _ rfl | exact H7.1.k _ rfl | exact H8.1.k _ rfl | exact H.1.1.k _ rfl | exact H0.1.1.k _ rfl | exact H1.1.1.k _ rfl | exact H2.1.1.k _ rfl | exact H3.1.1.k _ rfl | exact H4.1.1.k _ rfl | exact H5.1.1.k _ rfl | exact H6.1.1.k _ rfl | exact H7.1.1.k _ rfl | exact H8.1.1.k _ rfl) (by decide) rfl (Nat.le_of_ble_eq_true rfl) ⟨by show 1 + 1 ≤ 54; omega, by show 64 + 64 * (1) ≤ 64 * (54); omega⟩ ⟨Nat.le_refl _, Nat.le_refl _⟩ ?_
      refine c_bad9 (X2 := fx_ Z) (B := 240) H3 (x3 _ (x2 _ (x1 _ hs.2.2))) (by omega) (by omega) (fun d2 w4 H4 f4 => ?_)
      refine V_sub (ls' := [(1, .int (nI (140 * n + Z.length))), (0, .ref 381)]) ⟨rfl, rfl, trivial⟩ ?_
      exact k71 (skp_ T (skp_ T p + 1)) w4 (by omega) (R9_f (R9_up (by decide) H4) Bool.false_ne_true Bool.false_ne_true rfl) (fM_tr f1 (fM_tr f2 (fM_tr f3 f4))) (by unfold cla_; rw [if_pos h33, if_neg h64])
  · have ec : cla_ T p = pg_ (skp_ T p) := by unfold cla_; rw [if_neg h33]
    refine V_aload_n (i := 0) (sx_di dX12_clause 19 rfl) rfl rfl ?_
    refine V_cV0 (mc' := 0) (ms' := 0) (M' := mX12_bad) 1 (sx_di dX12_clause 20 rfl) lX12_125 vX12_bad (by first | exact H.1.k _ rfl | exact H0.1.k _ rfl | exact H1.1.k _ rfl | exact H2.1.k _ rfl | exact H3.1.k _ rfl | exact H4.1.k _ rfl | exact H5.1.k _ rfl | exact H6.1.k _ rfl | exact H7.1.k _ rfl | exact H8.1.k _ rfl | exact H.1.1.k _ rfl | exact H0.1.1.k _ rfl | exact H1.1.1.k _ rfl | exact H2.1.1.k _ rfl | exact H3.1.1.k _ rfl | exact H4.1.1.k _ rfl | exact H5.1.1.k _ rfl | exact H6.1.1.k _ rfl | exact H7.1.1.k _ rfl | exact H8.1.1.k _ rfl) (by decide) rfl (Nat.le_of_ble_eq_true rfl) ⟨by show 1 + 1 ≤ 54; omega, by show 64 + 64 * (1) ≤ 64 * (54); omega⟩ ⟨Nat.le_refl _, Nat.le_refl _⟩ ?_
    refine c_bad9 (X2 := fx_ Z) (B := 240) H1 (x1 _ hs.2.2) (by omega) (by omega) (fun d2 w2 H2 f2 => ?_)
    refine V_aload_n (i := 0) (sx_di dX12_clause 21 rfl) rfl rfl ?_
    refine V_dup (sx_di dX12_clause 22 rfl) rfl ?_
    refine V_getI (sx_di dX12_clause 23 rfl) fX12_109 (fun _ => rfl) (by first | exact H.1.k _ rfl | exact H0.1.k _ rfl | exact H1.1.k _ rfl | exact H2.1.k _ rfl | exact H3.1.k _ rfl | exact H4.1.k _ rfl | exact H5.1.k _ rfl | exact H6.1.k _ rfl | exact H7.1.k _ rfl | exact H8.1.k _ rfl | exact H.1.1.k _ rfl | exact H0.1.1.k _ rfl | exact H1.1.1.k _ rfl | exact H2.1.1.k _ rfl | exact H3.1.1.k _ rfl | exact H4.1.1.k _ rfl | exact H5.1.1.k _ rfl | exact H6.1.1.k _ rfl | exact H7.1.1.k _ rfl | exact H8.1.1.k _ rfl) ?_
    refine V_iconst (v := 1) (sx_di dX12_clause 24 rfl) (by decide) ?_
    refine V_iadd (sx_di dX12_clause 25 rfl) ?_
    refine V_putI (sx_di dX12_clause 26 rfl) fX12_109 (fun _ => rfl) rfl (by first | exact H.1.k _ rfl | exact H0.1.k _ rfl | exact H1.1.k _ rfl | exact H2.1.k _ rfl | exact H3.1.k _ rfl | exact H4.1.k _ rfl | exact H5.1.k _ rfl | exact H6.1.k _ rfl | exact H7.1.k _ rfl | exact H8.1.k _ rfl | exact H.1.1.k _ rfl | exact H0.1.1.k _ rfl | exact H1.1.1.k _ rfl | exact H2.1.1.k _ rfl | exact H3.1.1.k _ rfl | exact H4.1.1.k _ rfl | exact H5.1.1.k _ rfl | exact H6.1.1.k _ rfl | exact H7.1.1.k _ rfl | exact H8.1.1.k _ rfl) (rfl) (rfl) ?_
    refine V_atR H2 (fun w3 H3 f3 => ?_)
    refine V_aload_n (i := 0) (sx_di dX12_clause 27 rfl) rfl rfl ?_
    refine V_getI (sx_di dX12_clause 28 rfl) fX12_116 (fun _ => rfl) (by first | exact H.1.k _ rfl | exact H0.1.k _ rfl | exact H1.1.k _ rfl | exact H2.1.k _ rfl | exact H3.1.k _ rfl | exact H4.1.k _ rfl | exact H5.1.k _ rfl | exact H6.1.k _ rfl | exact H7.1.k _ rfl | exact H8.1.k _ rfl | exact H.1.1.k _ rfl | exact H0.1.1.k _ rfl | exact H1.1.1.k _ rfl | exact H2.1.1.k _ rfl | exact H3.1.1.k _ rfl | exact H4.1.1.k _ rfl | exact H5.1.1.k _ rfl | exact H6.1.1.k _ rfl | exact H7.1.1.k _ rfl | exact H8.1.1.k _ rfl) ?_
    refine V_iv (y := nI (skp_ T p)) ((H3.2.2 Bool.false_ne_true).1) ?_
    refine V_iconst (v := -1) (sx_di dX12_clause 29 rfl) (by decide) ?_
    refine V_icmp_ne (tgt := 71) (sx_di dX12_clause 30 rfl) (by decide) (fun _ => ?_) (fun h55 => absurd h55 (nI_nm1 (by omega)))
    refine V_sub (ls' := [(1, .int (nI (140 * n + Z.length))), (0, .ref 381)]) ⟨rfl, rfl, trivial⟩ ?_
    exact k71 (skp_ T p) w3 (by omega) (R9_f (R9_up (by decide) H3) Bool.false_ne_true Bool.false_ne_true rfl) (fM_tr f1 (fM_tr f2 f3)) ec

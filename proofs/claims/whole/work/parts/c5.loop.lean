/-! the law's loop -/
/-- the case of house, which may make an exception -/
def hs9 (E : sxE) (n : Nat) (f : Nat → Int32) : Prop := ∀ (I ce sl : Nat) (A : AS) (w : hpW) (Q : Option Value → hpW → Prop), n ≤ 3072 → I + 6 ≤ n → ce + 64 ≤ 601024 ∧ sl + 1024 ≤ 7293034 → AV A → CR A w → RR A w → (∀ A2 w2 ce2 sl2, ce2 ≤ ce + 64 → sl2 ≤ sl + 1024 → AV A2 → CR A2 w2 → RR A2 w2 → V E mL_law room_1 601024 7293034 ce2 sl2 1749 (lsL I) [] w2 Q) → V E mL_law room_1 601024 7293034 ce sl 413 (lsL I) [] w Q
theorem lp_cmp {I n : Nat} (hn : n ≤ 3072) (hI : I ≤ 3080) : nI n - 6 < nI I ↔ ¬ I + 6 ≤ n := by
  rw [Int32.lt_iff_toInt_lt, show (nI n - 6).toInt = (n : Int) - 6 from pk_sub_toInt (a := n) (b := 6) (by omega) (by omega), nI_toInt (by omega)]
  omega
set_option maxHeartbeats 2000000 in
set_option maxRecDepth 20000 in
theorem law_lp {E : sxE} {n : Nat} {f : Nat → Int32} {Q : Option Value → hpW → Prop} (hX : XO E) (hS : scr9 E n f) (hH : hs9 E n f) (hn : n ≤ 3072) (h : ∀ w, Q (some (.int 1)) w) : ∀ d I A w ce sl, I ≤ n → n ≤ I + 6 * d + 5 → ce + 64 * d ≤ 601024 → sl + 1024 * d ≤ 7293034 → AV A → CR A w → RR A w → V E mL_law room_1 601024 7293034 ce sl 23 (lsL I) [] w Q := by
  intro d
  induction d with
  | zero =>
    intro I A w ce sl hI hd hc hs VA HC HR
    refine V_iload (i := 4) (sx_di dL_hd 13 rfl) rfl ?_
    refine V_aload_n (i := 0) (sx_di dL_hd 14 rfl) rfl rfl ?_
    refine V_alenO (N := n) (sx_di dL_hd 15 rfl) hS ?_
    refine V_bipush (v := 6) (sx_di dL_hd 16 rfl) (by decide) ?_
    refine V_isub (sx_di dL_hd 17 rfl) ?_
    refine V_icmp_gt (tgt := 1755) (sx_di dL_hd 18 rfl) (by decide) (fun _ => ?_) (fun h30 => absurd ((lp_cmp hn (by omega)).mpr (by omega)) h30)
    refine V_iconst (v := 1) (sx_di dL_tl 2 rfl) (by decide) ?_
    refine V_zret (sx_di dL_tl 3 rfl) rfl (by decide) (by omega) (by omega) ?_
    exact h w
  | succ d ih =>
    intro I A w ce sl hI hd hc hs VA HC HR
    have TL : I + 6 ≤ n → ∀ A2 w2 ce2 sl2, ce2 ≤ ce + 64 → sl2 ≤ sl + 1024 → AV A2 → CR A2 w2 → RR A2 w2 → V E mL_law room_1 601024 7293034 ce2 sl2 1749 (lsL I) [] w2 Q := by
      intro hi A2 w2 ce2 sl2 q1 q2 V2 C2 R2
      refine V_inc (c := 6) (sx_di dL_tl 0 rfl) (by decide) rfl (by decide) rfl ?_
      refine V_goto (tgt := 23) (sx_di dL_tl 1 rfl) (by decide) ?_
      rw [show nI I + 6 = nI (I + 6) from nI_add I 6]
      exact V_subk (ih (I + 6) A2 w2 ce2 sl2 hi (by omega) (by omega) (by omega) V2 C2 R2) ⟨rfl, rfl, rfl, rfl, rfl, trivial⟩
    refine V_iload (i := 4) (sx_di dL_hd 13 rfl) rfl ?_
    refine V_aload_n (i := 0) (sx_di dL_hd 14 rfl) rfl rfl ?_
    refine V_alenO (N := n) (sx_di dL_hd 15 rfl) hS ?_
    refine V_bipush (v := 6) (sx_di dL_hd 16 rfl) (by decide) ?_
    refine V_isub (sx_di dL_hd 17 rfl) ?_
    refine V_icmp_gt (tgt := 1755) (sx_di dL_hd 18 rfl) (by decide) (fun _ => ?_) (fun h30 => ?_)
    · refine V_iconst (v := 1) (sx_di dL_tl 2 rfl) (by decide) ?_
      refine V_zret (sx_di dL_tl 3 rfl) rfl (by decide) (by omega) (by omega) ?_
      exact h w
    have hi : I + 6 ≤ n := Classical.byContradiction (fun z => h30 ((lp_cmp hn (by omega)).mpr z))
    have hce : ce ≤ 601024 ∧ sl ≤ 7293034 := ⟨by omega, by omega⟩
    have K := fun A2 w2 => TL hi A2 w2 ce sl (by omega) (by omega)
    refine V_aload_n (i := 0) (sx_di dL_hd 19 rfl) rfl rfl ?_
    refine V_iload (i := 4) (sx_di dL_hd 20 rfl) rfl ?_
    refine V_ialdO (N := n) (f := f) (sx_di dL_hd 21 rfl) hS (vp_in_nI (by omega) (by omega)) ?_
    refine V_bipush (v := 63) (sx_di dL_hd 22 rfl) (by decide) ?_
    refine V_iand (sx_di dL_hd 23 rfl) ?_
    refine V_top (fun x40 ex40 => ?_)
    by_cases hx40_0 : x40 = 0
    · refine V_tabIn (off := 200) (tgt := 240) (sx_di dL_hd 24 rfl) (by rw [hx40_0]; decide) (by rw [hx40_0]; decide) (by rw [hx40_0]; decide) (by decide) ?_
      rw [hx40_0] at ex40
      exact cs_feed hX hS I ce sl A w Q hn hi hce VA HC HR K
    · skip
      by_cases hx40_1 : x40 = 1
      · refine V_tabIn (off := 273) (tgt := 313) (sx_di dL_hd 24 rfl) (by rw [hx40_1]; decide) (by rw [hx40_1]; decide) (by rw [hx40_1]; decide) (by decide) ?_
        rw [hx40_1] at ex40
        exact cs_end hX hS I ce sl A w Q hn hi hce VA HC HR K
      · skip
        by_cases hx40_2 : x40 = 2
        · refine V_tabIn (off := 298) (tgt := 338) (sx_di dL_hd 24 rfl) (by rw [hx40_2]; decide) (by rw [hx40_2]; decide) (by rw [hx40_2]; decide) (by decide) ?_
          rw [hx40_2] at ex40
          exact cs_fault hX hS I ce sl A w Q hn hi hce VA HC HR K
        · skip
          by_cases hx40_3 : x40 = 3
          · refine V_tabIn (off := 323) (tgt := 363) (sx_di dL_hd 24 rfl) (by rw [hx40_3]; decide) (by rw [hx40_3]; decide) (by rw [hx40_3]; decide) (by decide) ?_
            rw [hx40_3] at ex40
            exact cs_text hX hS I ce sl A w Q hn hi hce VA HC HR K
          · skip
            by_cases hx40_4 : x40 = 4
            · refine V_tabIn (off := 348) (tgt := 388) (sx_di dL_hd 24 rfl) (by rw [hx40_4]; decide) (by rw [hx40_4]; decide) (by rw [hx40_4]; decide) (by decide) ?_
              rw [hx40_4] at ex40
              exact cs_rule hX hS I ce sl A w Q hn hi hce VA HC HR K
            · skip
              by_cases hx40_5 : x40 = 5
              · refine V_tabIn (off := 373) (tgt := 413) (sx_di dL_hd 24 rfl) (by rw [hx40_5]; decide) (by rw [hx40_5]; decide) (by rw [hx40_5]; decide) (by decide) ?_
                rw [hx40_5] at ex40
                exact hH I ce sl A w Q hn hi ⟨by omega, by omega⟩ VA HC HR (TL hi)
              · skip
                by_cases hx40_6 : x40 = 6
                · refine V_tabIn (off := 441) (tgt := 481) (sx_di dL_hd 24 rfl) (by rw [hx40_6]; decide) (by rw [hx40_6]; decide) (by rw [hx40_6]; decide) (by decide) ?_
                  rw [hx40_6] at ex40
                  exact cs_form hX hS I ce sl A w Q hn hi hce VA HC HR K
                · skip
                  by_cases hx40_7 : x40 = 7
                  · refine V_tabIn (off := 478) (tgt := 518) (sx_di dL_hd 24 rfl) (by rw [hx40_7]; decide) (by rw [hx40_7]; decide) (by rw [hx40_7]; decide) (by decide) ?_
                    rw [hx40_7] at ex40
                    exact cs_law hX hS I ce sl A w Q hn hi hce VA HC HR K
                  · skip
                    by_cases hx40_8 : x40 = 8
                    · refine V_tabIn (off := 503) (tgt := 543) (sx_di dL_hd 24 rfl) (by rw [hx40_8]; decide) (by rw [hx40_8]; decide) (by rw [hx40_8]; decide) (by decide) ?_
                      rw [hx40_8] at ex40
                      exact cs_sham hX hS I ce sl A w Q hn hi hce VA HC HR K
                    · skip
                      by_cases hx40_9 : x40 = 9
                      · refine V_tabIn (off := 540) (tgt := 580) (sx_di dL_hd 24 rfl) (by rw [hx40_9]; decide) (by rw [hx40_9]; decide) (by rw [hx40_9]; decide) (by decide) ?_
                        rw [hx40_9] at ex40
                        exact cs_hang hX hS I ce sl A w Q hn hi hce VA HC HR K
                      · skip
                        by_cases hx40_10 : x40 = 10
                        · refine V_tabIn (off := 577) (tgt := 617) (sx_di dL_hd 24 rfl) (by rw [hx40_10]; decide) (by rw [hx40_10]; decide) (by rw [hx40_10]; decide) (by decide) ?_
                          rw [hx40_10] at ex40
                          exact cs_whiten hX hS I ce sl A w Q hn hi hce VA HC HR K
                        · skip
                          by_cases hx40_11 : x40 = 11
                          · refine V_tabIn (off := 602) (tgt := 642) (sx_di dL_hd 24 rfl) (by rw [hx40_11]; decide) (by rw [hx40_11]; decide) (by rw [hx40_11]; decide) (by decide) ?_
                            rw [hx40_11] at ex40
                            exact cs_piano hX hS I ce sl A w Q hn hi hce VA HC HR K
                          · skip
                            by_cases hx40_12 : x40 = 12
                            · refine V_tabIn (off := 627) (tgt := 667) (sx_di dL_hd 24 rfl) (by rw [hx40_12]; decide) (by rw [hx40_12]; decide) (by rw [hx40_12]; decide) (by decide) ?_
                              rw [hx40_12] at ex40
                              exact cs_move hX hS I ce sl A w Q hn hi hce VA HC HR K
                            · skip
                              by_cases hx40_13 : x40 = 13
                              · refine V_tabIn (off := 664) (tgt := 704) (sx_di dL_hd 24 rfl) (by rw [hx40_13]; decide) (by rw [hx40_13]; decide) (by rw [hx40_13]; decide) (by decide) ?_
                                rw [hx40_13] at ex40
                                exact cs_give hX hS I ce sl A w Q hn hi hce VA HC HR K
                              · skip
                                by_cases hx40_14 : x40 = 14
                                · refine V_tabIn (off := 689) (tgt := 729) (sx_di dL_hd 24 rfl) (by rw [hx40_14]; decide) (by rw [hx40_14]; decide) (by rw [hx40_14]; decide) (by decide) ?_
                                  rw [hx40_14] at ex40
                                  exact cs_days hX hS I ce sl A w Q hn hi hce VA HC HR K
                                · skip
                                  by_cases hx40_15 : x40 = 15
                                  · refine V_tabIn (off := 714) (tgt := 754) (sx_di dL_hd 24 rfl) (by rw [hx40_15]; decide) (by rw [hx40_15]; decide) (by rw [hx40_15]; decide) (by decide) ?_
                                    rw [hx40_15] at ex40
                                    exact cs_moods hX hS I ce sl A w Q hn hi hce VA HC HR K
                                  · skip
                                    by_cases hx40_16 : x40 = 16
                                    · refine V_tabIn (off := 739) (tgt := 779) (sx_di dL_hd 24 rfl) (by rw [hx40_16]; decide) (by rw [hx40_16]; decide) (by rw [hx40_16]; decide) (by decide) ?_
                                      rw [hx40_16] at ex40
                                      exact cs_years hX hS I ce sl A w Q hn hi hce VA HC HR K
                                    · skip
                                      by_cases hx40_17 : x40 = 17
                                      · refine V_tabIn (off := 808) (tgt := 848) (sx_di dL_hd 24 rfl) (by rw [hx40_17]; decide) (by rw [hx40_17]; decide) (by rw [hx40_17]; decide) (by decide) ?_
                                        rw [hx40_17] at ex40
                                        exact cs_status hX hS I ce sl A w Q hn hi hce VA HC HR K
                                      · skip
                                        by_cases hx40_18 : x40 = 18
                                        · refine V_tabIn (off := 833) (tgt := 873) (sx_di dL_hd 24 rfl) (by rw [hx40_18]; decide) (by rw [hx40_18]; decide) (by rw [hx40_18]; decide) (by decide) ?_
                                          rw [hx40_18] at ex40
                                          exact cs_undo hX hS I ce sl A w Q hn hi hce VA HC HR K
                                        · skip
                                          by_cases hx40_19 : x40 = 19
                                          · refine V_tabIn (off := 846) (tgt := 886) (sx_di dL_hd 24 rfl) (by rw [hx40_19]; decide) (by rw [hx40_19]; decide) (by rw [hx40_19]; decide) (by decide) ?_
                                            rw [hx40_19] at ex40
                                            exact cs_log hX hS I ce sl A w Q hn hi hce VA HC HR K
                                          · skip
                                            by_cases hx40_20 : x40 = 20
                                            · refine V_tabIn (off := 883) (tgt := 923) (sx_di dL_hd 24 rfl) (by rw [hx40_20]; decide) (by rw [hx40_20]; decide) (by rw [hx40_20]; decide) (by decide) ?_
                                              rw [hx40_20] at ex40
                                              exact cs_ahead hX hS I ce sl A w Q hn hi hce VA HC HR K
                                            · skip
                                              by_cases hx40_21 : x40 = 21
                                              · refine V_tabIn (off := 920) (tgt := 960) (sx_di dL_hd 24 rfl) (by rw [hx40_21]; decide) (by rw [hx40_21]; decide) (by rw [hx40_21]; decide) (by decide) ?_
                                                rw [hx40_21] at ex40
                                                exact cs_soonest hX hS I ce sl A w Q hn hi hce VA HC HR K
                                              · skip
                                                by_cases hx40_22 : x40 = 22
                                                · refine V_tabIn (off := 945) (tgt := 985) (sx_di dL_hd 24 rfl) (by rw [hx40_22]; decide) (by rw [hx40_22]; decide) (by rw [hx40_22]; decide) (by decide) ?_
                                                  rw [hx40_22] at ex40
                                                  exact cs_visits hX hS I ce sl A w Q hn hi hce VA HC HR K
                                                · skip
                                                  by_cases hx40_23 : x40 = 23
                                                  · refine V_tabIn (off := 970) (tgt := 1010) (sx_di dL_hd 24 rfl) (by rw [hx40_23]; decide) (by rw [hx40_23]; decide) (by rw [hx40_23]; decide) (by decide) ?_
                                                    rw [hx40_23] at ex40
                                                    exact cs_empty hX hS I ce sl A w Q hn hi hce VA HC HR K
                                                  · skip
                                                    by_cases hx40_24 : x40 = 24
                                                    · refine V_tabIn (off := 995) (tgt := 1035) (sx_di dL_hd 24 rfl) (by rw [hx40_24]; decide) (by rw [hx40_24]; decide) (by rw [hx40_24]; decide) (by decide) ?_
                                                      rw [hx40_24] at ex40
                                                      exact cs_goesTo hX hS I ce sl A w Q hn hi hce VA HC HR K
                                                    · skip
                                                      by_cases hx40_25 : x40 = 25
                                                      · refine V_tabIn (off := 1008) (tgt := 1048) (sx_di dL_hd 24 rfl) (by rw [hx40_25]; decide) (by rw [hx40_25]; decide) (by rw [hx40_25]; decide) (by decide) ?_
                                                        rw [hx40_25] at ex40
                                                        exact cs_least hX hS I ce sl A w Q hn hi hce VA HC HR K
                                                      · skip
                                                        by_cases hx40_26 : x40 = 26
                                                        · refine V_tabIn (off := 1045) (tgt := 1085) (sx_di dL_hd 24 rfl) (by rw [hx40_26]; decide) (by rw [hx40_26]; decide) (by rw [hx40_26]; decide) (by decide) ?_
                                                          rw [hx40_26] at ex40
                                                          exact cs_rid hX hS I ce sl A w Q hn hi hce VA HC HR K
                                                        · skip
                                                          by_cases hx40_27 : x40 = 27
                                                          · refine V_tabIn (off := 1058) (tgt := 1098) (sx_di dL_hd 24 rfl) (by rw [hx40_27]; decide) (by rw [hx40_27]; decide) (by rw [hx40_27]; decide) (by decide) ?_
                                                            rw [hx40_27] at ex40
                                                            exact cs_white hX hS I ce sl A w Q hn hi hce VA HC HR K
                                                          · skip
                                                            by_cases hx40_28 : x40 = 28
                                                            · refine V_tabIn (off := 1083) (tgt := 1123) (sx_di dL_hd 24 rfl) (by rw [hx40_28]; decide) (by rw [hx40_28]; decide) (by rw [hx40_28]; decide) (by decide) ?_
                                                              rw [hx40_28] at ex40
                                                              exact cs_treaties hX hS I ce sl A w Q hn hi hce VA HC HR K
                                                            · skip
                                                              by_cases hx40_29 : x40 = 29
                                                              · refine V_tabIn (off := 1120) (tgt := 1160) (sx_di dL_hd 24 rfl) (by rw [hx40_29]; decide) (by rw [hx40_29]; decide) (by rw [hx40_29]; decide) (by decide) ?_
                                                                rw [hx40_29] at ex40
                                                                exact cs_game hX hS I ce sl A w Q hn hi hce VA HC HR K
                                                              · skip
                                                                by_cases hx40_30 : x40 = 30
                                                                · refine V_tabIn (off := 1193) (tgt := 1233) (sx_di dL_hd 24 rfl) (by rw [hx40_30]; decide) (by rw [hx40_30]; decide) (by rw [hx40_30]; decide) (by decide) ?_
                                                                  rw [hx40_30] at ex40
                                                                  exact cs_rests hX hS I ce sl A w Q hn hi hce VA HC HR K
                                                                · skip
                                                                  by_cases hx40_31 : x40 = 31
                                                                  · refine V_tabIn (off := 1242) (tgt := 1282) (sx_di dL_hd 24 rfl) (by rw [hx40_31]; decide) (by rw [hx40_31]; decide) (by rw [hx40_31]; decide) (by decide) ?_
                                                                    rw [hx40_31] at ex40
                                                                    exact cs_seen hX hS I ce sl A w Q hn hi hce VA HC HR K
                                                                  · skip
                                                                    by_cases hx40_32 : x40 = 32
                                                                    · refine V_tabIn (off := 1307) (tgt := 1347) (sx_di dL_hd 24 rfl) (by rw [hx40_32]; decide) (by rw [hx40_32]; decide) (by rw [hx40_32]; decide) (by decide) ?_
                                                                      rw [hx40_32] at ex40
                                                                      exact cs_who hX hS I ce sl A w Q hn hi hce VA HC HR K
                                                                    · skip
                                                                      by_cases hx40_33 : x40 = 33
                                                                      · refine V_tabIn (off := 1344) (tgt := 1384) (sx_di dL_hd 24 rfl) (by rw [hx40_33]; decide) (by rw [hx40_33]; decide) (by rw [hx40_33]; decide) (by decide) ?_
                                                                        rw [hx40_33] at ex40
                                                                        exact cs_best hX hS I ce sl A w Q hn hi hce VA HC HR K
                                                                      · skip
                                                                        by_cases hx40_34 : x40 = 34
                                                                        · refine V_tabIn (off := 1369) (tgt := 1409) (sx_di dL_hd 24 rfl) (by rw [hx40_34]; decide) (by rw [hx40_34]; decide) (by rw [hx40_34]; decide) (by decide) ?_
                                                                          rw [hx40_34] at ex40
                                                                          exact cs_follows hX hS I ce sl A w Q hn hi hce VA HC HR K
                                                                        · skip
                                                                          by_cases hx40_35 : x40 = 35
                                                                          · refine V_tabIn (off := 1406) (tgt := 1446) (sx_di dL_hd 24 rfl) (by rw [hx40_35]; decide) (by rw [hx40_35]; decide) (by rw [hx40_35]; decide) (by decide) ?_
                                                                            rw [hx40_35] at ex40
                                                                            exact cs_ring hX hS I ce sl A w Q hn hi hce VA HC HR K
                                                                          · skip
                                                                            by_cases hx40_36 : x40 = 36
                                                                            · refine V_tabIn (off := 1431) (tgt := 1471) (sx_di dL_hd 24 rfl) (by rw [hx40_36]; decide) (by rw [hx40_36]; decide) (by rw [hx40_36]; decide) (by decide) ?_
                                                                              rw [hx40_36] at ex40
                                                                              exact cs_was hX hS I ce sl A w Q hn hi hce VA HC HR K
                                                                            · skip
                                                                              by_cases hx40_37 : x40 = 37
                                                                              · refine V_tabIn (off := 1496) (tgt := 1536) (sx_di dL_hd 24 rfl) (by rw [hx40_37]; decide) (by rw [hx40_37]; decide) (by rw [hx40_37]; decide) (by decide) ?_
                                                                                rw [hx40_37] at ex40
                                                                                exact cs_forms hX hS I ce sl A w Q hn hi hce VA HC HR K
                                                                              · skip
                                                                                by_cases hx40_38 : x40 = 38
                                                                                · refine V_tabIn (off := 1509) (tgt := 1549) (sx_di dL_hd 24 rfl) (by rw [hx40_38]; decide) (by rw [hx40_38]; decide) (by rw [hx40_38]; decide) (by decide) ?_
                                                                                  rw [hx40_38] at ex40
                                                                                  exact cs_odds hX hS I ce sl A w Q hn hi hce VA HC HR K
                                                                                · skip
                                                                                  by_cases hx40_39 : x40 = 39
                                                                                  · refine V_tabIn (off := 1546) (tgt := 1586) (sx_di dL_hd 24 rfl) (by rw [hx40_39]; decide) (by rw [hx40_39]; decide) (by rw [hx40_39]; decide) (by decide) ?_
                                                                                    rw [hx40_39] at ex40
                                                                                    exact cs_shares hX hS I ce sl A w Q hn hi hce VA HC HR K
                                                                                  · skip
                                                                                    by_cases hx40_40 : x40 = 40
                                                                                    · refine V_tabIn (off := 1583) (tgt := 1623) (sx_di dL_hd 24 rfl) (by rw [hx40_40]; decide) (by rw [hx40_40]; decide) (by rw [hx40_40]; decide) (by decide) ?_
                                                                                      rw [hx40_40] at ex40
                                                                                      exact cs_most hX hS I ce sl A w Q hn hi hce VA HC HR K
                                                                                    · skip
                                                                                      by_cases hx40_41 : x40 = 41
                                                                                      · refine V_tabIn (off := 1608) (tgt := 1648) (sx_di dL_hd 24 rfl) (by rw [hx40_41]; decide) (by rw [hx40_41]; decide) (by rw [hx40_41]; decide) (by decide) ?_
                                                                                        rw [hx40_41] at ex40
                                                                                        exact cs_used hX hS I ce sl A w Q hn hi hce VA HC HR K
                                                                                      · skip
                                                                                        by_cases hx40_42 : x40 = 42
                                                                                        · refine V_tabIn (off := 1633) (tgt := 1673) (sx_di dL_hd 24 rfl) (by rw [hx40_42]; decide) (by rw [hx40_42]; decide) (by rw [hx40_42]; decide) (by decide) ?_
                                                                                          rw [hx40_42] at ex40
                                                                                          exact cs_near hX hS I ce sl A w Q hn hi hce VA HC HR K
                                                                                        · skip
                                                                                          by_cases hx40_43 : x40 = 43
                                                                                          · refine V_tabIn (off := 1658) (tgt := 1698) (sx_di dL_hd 24 rfl) (by rw [hx40_43]; decide) (by rw [hx40_43]; decide) (by rw [hx40_43]; decide) (by decide) ?_
                                                                                            rw [hx40_43] at ex40
                                                                                            exact cs_image hX hS I ce sl A w Q hn hi hce VA HC HR K
                                                                                          · skip
                                                                                            by_cases hx40_44 : x40 = 44
                                                                                            · refine V_tabIn (off := 1671) (tgt := 1711) (sx_di dL_hd 24 rfl) (by rw [hx40_44]; decide) (by rw [hx40_44]; decide) (by rw [hx40_44]; decide) (by decide) ?_
                                                                                              rw [hx40_44] at ex40
                                                                                              exact cs_back hX hS I ce sl A w Q hn hi hce VA HC HR K
                                                                                            · skip
                                                                                              by_cases hx40_45 : x40 = 45
                                                                                              · refine V_tabIn (off := 1684) (tgt := 1724) (sx_di dL_hd 24 rfl) (by rw [hx40_45]; decide) (by rw [hx40_45]; decide) (by rw [hx40_45]; decide) (by decide) ?_
                                                                                                rw [hx40_45] at ex40
                                                                                                exact cs_count hX hS I ce sl A w Q hn hi hce VA HC HR K
                                                                                              · skip
                                                                                                refine V_tabOut (tgt := 1749) (sx_di dL_hd 24 rfl) (by have z0 := lv_neT (a := 0) hx40_0 (by decide); have z1 := lv_neT (a := 1) hx40_1 (by decide); have z2 := lv_neT (a := 2) hx40_2 (by decide); have z3 := lv_neT (a := 3) hx40_3 (by decide); have z4 := lv_neT (a := 4) hx40_4 (by decide); have z5 := lv_neT (a := 5) hx40_5 (by decide); have z6 := lv_neT (a := 6) hx40_6 (by decide); have z7 := lv_neT (a := 7) hx40_7 (by decide); have z8 := lv_neT (a := 8) hx40_8 (by decide); have z9 := lv_neT (a := 9) hx40_9 (by decide); have z10 := lv_neT (a := 10) hx40_10 (by decide); have z11 := lv_neT (a := 11) hx40_11 (by decide); have z12 := lv_neT (a := 12) hx40_12 (by decide); have z13 := lv_neT (a := 13) hx40_13 (by decide); have z14 := lv_neT (a := 14) hx40_14 (by decide); have z15 := lv_neT (a := 15) hx40_15 (by decide); have z16 := lv_neT (a := 16) hx40_16 (by decide); have z17 := lv_neT (a := 17) hx40_17 (by decide); have z18 := lv_neT (a := 18) hx40_18 (by decide); have z19 := lv_neT (a := 19) hx40_19 (by decide); have z20 := lv_neT (a := 20) hx40_20 (by decide); have z21 := lv_neT (a := 21) hx40_21 (by decide); have z22 := lv_neT (a := 22) hx40_22 (by decide); have z23 := lv_neT (a := 23) hx40_23 (by decide); have z24 := lv_neT (a := 24) hx40_24 (by decide); have z25 := lv_neT (a := 25) hx40_25 (by decide); have z26 := lv_neT (a := 26) hx40_26 (by decide); have z27 := lv_neT (a := 27) hx40_27 (by decide); have z28 := lv_neT (a := 28) hx40_28 (by decide); have z29 := lv_neT (a := 29) hx40_29 (by decide); have z30 := lv_neT (a := 30) hx40_30 (by decide); have z31 := lv_neT (a := 31) hx40_31 (by decide); have z32 := lv_neT (a := 32) hx40_32 (by decide); have z33 := lv_neT (a := 33) hx40_33 (by decide); have z34 := lv_neT (a := 34) hx40_34 (by decide); have z35 := lv_neT (a := 35) hx40_35 (by decide); have z36 := lv_neT (a := 36) hx40_36 (by decide); have z37 := lv_neT (a := 37) hx40_37 (by decide); have z38 := lv_neT (a := 38) hx40_38 (by decide); have z39 := lv_neT (a := 39) hx40_39 (by decide); have z40 := lv_neT (a := 40) hx40_40 (by decide); have z41 := lv_neT (a := 41) hx40_41 (by decide); have z42 := lv_neT (a := 42) hx40_42 (by decide); have z43 := lv_neT (a := 43) hx40_43 (by decide); have z44 := lv_neT (a := 44) hx40_44 (by decide); have z45 := lv_neT (a := 45) hx40_45 (by decide); omega) (by decide) ?_
                                                                                                exact K A w VA HC HR

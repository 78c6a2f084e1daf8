/-! the class's house, where it does not throw; a room of 64 cells for where it does -/
theorem pn9 (v : Int32) : (if v &&& 1 = 0 then (0 : Int32) else 1) = v &&& 1 := by
  rcases and1 v with e | e
  · rw [if_pos e, e]
  · rw [e, if_neg (by decide)]
set_option maxHeartbeats 2000000 in
set_option maxRecDepth 20000 in
theorem v_houseC {E : sxE} {A : AS} {w : hpW} {Q : Option Value → hpW → Prop} (VA : AV A) (H : CR A w) {k : Nat} (hk : k < a_n A) {y : Int32} (ok : hok A (nI k) y) (h : ∀ w', CR A w' → fR w w' → Q (some (.int (hv9 A k y))) w') : V E mX11_house (sx_rm 6 64 1024) 64 1024 0 0 0 (lv_args 0 [.ref 16, .int (nI k), .int y]) [] w Q := by
  have hn8 := VA.2.2.1.1
  obtain ⟨t, hB, ht, hst, hn, _, _⟩ := CRn VA H
  have hv : vw_ (a_n A) (hp_i w) 57 (a_r A) := by
    obtain ⟨_, _, _, t2, g, _, cn, _⟩ := H
    exact (cn.2.2.2.2.2 (by omega)).2.1
  have hw := hv.1 k hk
  have fw : fR w w := ⟨rfl, fun _ _ => ⟨rfl, rfl, rfl⟩, fun _ => rfl⟩
  refine V_aload_n (i := 0) (sx_di dX11_house 0 rfl) rfl rfl ?_
  refine V_iload_n (i := 1) (sx_di dX11_house 1 rfl) rfl rfl ?_
  refine V_cV1 (mc' := 0) (ms' := 0) (M' := mX11_isHouse) 1 (sx_di dX11_house 2 rfl) lX11_170 vX11_isHouse (hB.k _ rfl) (by decide) rfl (Nat.le_of_ble_eq_true rfl) ⟨Nat.le_of_ble_eq_true rfl, Nat.le_of_ble_eq_true rfl⟩ ⟨Nat.zero_le _, Nat.zero_le _⟩ ?_
  refine c_X11_isHouse hB ht hst hn hn8 ?_
  refine V_if_eq (tgt := 18) (sx_di dX11_house 3 rfl) (by decide) (fun h5 => absurd h5 ok.1) (fun _ => ?_)
  refine V_iload_n (i := 2) (sx_di dX11_house 4 rfl) rfl rfl ?_
  refine V_if_lt (tgt := 18) (sx_di dX11_house 5 rfl) (by decide) (fun h9 => absurd (Or.inl h9) (in_ye ok.2)) (fun _ => ?_)
  refine V_iload_n (i := 2) (sx_di dX11_house 6 rfl) rfl rfl ?_
  refine V_bipush (v := 6) (sx_di dX11_house 7 rfl) (by decide) ?_
  refine V_icmp_le (tgt := 26) (sx_di dX11_house 8 rfl) (by decide) (fun _ => ?_) (fun h15 => absurd (Or.inr (Int32.not_le.mp h15)) (in_ye ok.2))
  refine V_iload_n (i := 2) (sx_di dX11_house 13 rfl) rfl rfl ?_
  refine V_top (fun x27 ex27 => ?_)
  by_cases hx27_0 : x27 = 0
  · refine V_tabIn (off := 37) (tgt := 64) (sx_di dX11_house 14 rfl) (by rw [hx27_0]; decide) (by rw [hx27_0]; decide) (by rw [hx27_0]; decide) (by decide) ?_
    rw [hx27_0] at ex27
    refine V_aload_n (i := 0) (sx_di dX11_house 15 rfl) rfl rfl ?_
    refine V_getR (sx_di dX11_house 16 rfl) fX11_60 (fun _ => rfl) (hB.k _ rfl) (hB.r _ _ rfl) ?_
    refine V_getR (sx_di dX11_house 17 rfl) fX11_177 (fun _ => rfl) (hB.k _ rfl) (hB.r _ _ rfl) ?_
    refine V_iload_n (i := 1) (sx_di dX11_house 18 rfl) rfl rfl ?_
    refine V_iald (sx_di dX11_house 19 rfl) (hB.k _ rfl) (vp_in_nI (by omega) (by decide)) ?_
    refine V_iret (sx_di dX11_house 20 rfl) rfl (Nat.zero_le _) (Nat.zero_le _) ?_
    rw [nI_clamp (by omega), show hp_i w 59 k = _ from hw.1]
    have q := h w H fw
    unfold hv9 at q
    rw [← ex27, if_pos rfl] at q
    exact q
  · skip
    by_cases hx27_1 : x27 = 1
    · refine V_tabIn (off := 47) (tgt := 74) (sx_di dX11_house 14 rfl) (by rw [hx27_1]; decide) (by rw [hx27_1]; decide) (by rw [hx27_1]; decide) (by decide) ?_
      rw [hx27_1] at ex27
      refine V_aload_n (i := 0) (sx_di dX11_house 21 rfl) rfl rfl ?_
      refine V_getR (sx_di dX11_house 22 rfl) fX11_60 (fun _ => rfl) (hB.k _ rfl) (hB.r _ _ rfl) ?_
      refine V_getR (sx_di dX11_house 23 rfl) fX11_180 (fun _ => rfl) (hB.k _ rfl) (hB.r _ _ rfl) ?_
      refine V_iload_n (i := 1) (sx_di dX11_house 24 rfl) rfl rfl ?_
      refine V_iald (sx_di dX11_house 25 rfl) (hB.k _ rfl) (vp_in_nI (by omega) (by decide)) ?_
      refine V_iret (sx_di dX11_house 26 rfl) rfl (Nat.zero_le _) (Nat.zero_le _) ?_
      rw [nI_clamp (by omega), show hp_i w 61 k = _ from hw.2.2.1]
      have q := h w H fw
      unfold hv9 at q
      rw [← ex27, if_neg (by decide), if_pos rfl] at q
      exact q
    · skip
      by_cases hx27_2 : x27 = 2
      · refine V_tabIn (off := 57) (tgt := 84) (sx_di dX11_house 14 rfl) (by rw [hx27_2]; decide) (by rw [hx27_2]; decide) (by rw [hx27_2]; decide) (by decide) ?_
        rw [hx27_2] at ex27
        refine V_aload_n (i := 0) (sx_di dX11_house 27 rfl) rfl rfl ?_
        refine V_getR (sx_di dX11_house 28 rfl) fX11_60 (fun _ => rfl) (hB.k _ rfl) (hB.r _ _ rfl) ?_
        refine V_getR (sx_di dX11_house 29 rfl) fX11_183 (fun _ => rfl) (hB.k _ rfl) (hB.r _ _ rfl) ?_
        refine V_iload_n (i := 1) (sx_di dX11_house 30 rfl) rfl rfl ?_
        refine V_iald (sx_di dX11_house 31 rfl) (hB.k _ rfl) (vp_in_nI (by omega) (by decide)) ?_
        refine V_iret (sx_di dX11_house 32 rfl) rfl (Nat.zero_le _) (Nat.zero_le _) ?_
        rw [nI_clamp (by omega), show hp_i w 62 k = _ from hw.2.2.2.1]
        have q := h w H fw
        unfold hv9 at q
        rw [← ex27, if_neg (by decide), if_neg (by decide), if_pos rfl] at q
        exact q
      · skip
        by_cases hx27_3 : x27 = 3
        · refine V_tabIn (off := 67) (tgt := 94) (sx_di dX11_house 14 rfl) (by rw [hx27_3]; decide) (by rw [hx27_3]; decide) (by rw [hx27_3]; decide) (by decide) ?_
          rw [hx27_3] at ex27
          refine V_aload_n (i := 0) (sx_di dX11_house 33 rfl) rfl rfl ?_
          refine V_getR (sx_di dX11_house 34 rfl) fX11_60 (fun _ => rfl) (hB.k _ rfl) (hB.r _ _ rfl) ?_
          refine V_getR (sx_di dX11_house 35 rfl) fX11_186 (fun _ => rfl) (hB.k _ rfl) (hB.r _ _ rfl) ?_
          refine V_iload_n (i := 1) (sx_di dX11_house 36 rfl) rfl rfl ?_
          refine V_iald (sx_di dX11_house 37 rfl) (hB.k _ rfl) (vp_in_nI (by omega) (by decide)) ?_
          refine V_iret (sx_di dX11_house 38 rfl) rfl (Nat.zero_le _) (Nat.zero_le _) ?_
          rw [nI_clamp (by omega), show hp_i w 63 k = _ from hw.2.2.2.2]
          have q := h w H fw
          unfold hv9 at q
          rw [← ex27, if_neg (by decide), if_neg (by decide), if_neg (by decide), if_pos rfl] at q
          exact q
        · skip
          by_cases hx27_4 : x27 = 4
          · refine V_tabIn (off := 77) (tgt := 104) (sx_di dX11_house 14 rfl) (by rw [hx27_4]; decide) (by rw [hx27_4]; decide) (by rw [hx27_4]; decide) (by decide) ?_
            rw [hx27_4] at ex27
            refine V_aload_n (i := 0) (sx_di dX11_house 39 rfl) rfl rfl ?_
            refine V_getR (sx_di dX11_house 40 rfl) fX11_60 (fun _ => rfl) (hB.k _ rfl) (hB.r _ _ rfl) ?_
            refine V_getR (sx_di dX11_house 41 rfl) fX11_189 (fun _ => rfl) (hB.k _ rfl) (hB.r _ _ rfl) ?_
            refine V_iload_n (i := 1) (sx_di dX11_house 42 rfl) rfl rfl ?_
            refine V_iald (sx_di dX11_house 43 rfl) (hB.k _ rfl) (vp_in_nI (by omega) (by decide)) ?_
            refine V_iret (sx_di dX11_house 44 rfl) rfl (Nat.zero_le _) (Nat.zero_le _) ?_
            rw [nI_clamp (by omega), show hp_i w 60 k = _ from hw.2.1]
            have q := h w H fw
            unfold hv9 at q
            rw [← ex27, if_neg (by decide), if_neg (by decide), if_neg (by decide), if_neg (by decide), if_pos rfl] at q
            exact q
          · skip
            by_cases hx27_5 : x27 = 5
            · refine V_tabIn (off := 87) (tgt := 114) (sx_di dX11_house 14 rfl) (by rw [hx27_5]; decide) (by rw [hx27_5]; decide) (by rw [hx27_5]; decide) (by decide) ?_
              rw [hx27_5] at ex27
              refine V_aload_n (i := 0) (sx_di dX11_house 45 rfl) rfl rfl ?_
              refine V_getR (sx_di dX11_house 46 rfl) fX11_60 (fun _ => rfl) (hB.k _ rfl) (hB.r _ _ rfl) ?_
              refine V_iload_n (i := 1) (sx_di dX11_house 47 rfl) rfl rfl ?_
              refine V_cV1 (mc' := 0) (ms' := 0) (M' := mX7_hasPiano) 1 (sx_di dX11_house 48 rfl) lX11_192 vX7_hasPiano (hB.k _ rfl) (by decide) rfl (Nat.le_of_ble_eq_true rfl) ⟨Nat.le_of_ble_eq_true rfl, Nat.le_of_ble_eq_true rfl⟩ ⟨Nat.zero_le _, Nat.zero_le _⟩ ?_
              refine c_X7_hasPiano (ss_57 hB) ?_
              rw [pn9, show hp_i w 57 7 = _ from hv.2.1]
              refine V_if_eq (tgt := 129) (sx_di dX11_house 49 rfl) (by decide) (fun h122 => ?_) (fun h122 => ?_)
              · refine V_iconst (v := 0) (sx_di dX11_house 52 rfl) (by decide) ?_
                refine V_iret (sx_di dX11_house 53 rfl) rfl (Nat.zero_le _) (Nat.zero_le _) ?_
                have q := h w H fw
                unfold hv9 at q
                rw [← ex27, if_neg (by decide), if_neg (by decide), if_neg (by decide), if_neg (by decide), if_neg (by decide), if_pos rfl] at q
                first | (rw [h122] at q; exact q) | (rw [(and1 _).resolve_left h122] at q; exact q)
              · refine V_iconst (v := 1) (sx_di dX11_house 50 rfl) (by decide) ?_
                refine V_goto (tgt := 130) (sx_di dX11_house 51 rfl) (by decide) ?_
                refine V_iret (sx_di dX11_house 53 rfl) rfl (Nat.zero_le _) (Nat.zero_le _) ?_
                have q := h w H fw
                unfold hv9 at q
                rw [← ex27, if_neg (by decide), if_neg (by decide), if_neg (by decide), if_neg (by decide), if_neg (by decide), if_pos rfl] at q
                first | (rw [h122] at q; exact q) | (rw [(and1 _).resolve_left h122] at q; exact q)
            · skip
              refine V_tabOut (tgt := 131) (sx_di dX11_house 14 rfl) (by have z0 := lv_neT (a := 0) hx27_0 (by decide); have z1 := lv_neT (a := 1) hx27_1 (by decide); have z2 := lv_neT (a := 2) hx27_2 (by decide); have z3 := lv_neT (a := 3) hx27_3 (by decide); have z4 := lv_neT (a := 4) hx27_4 (by decide); have z5 := lv_neT (a := 5) hx27_5 (by decide); omega) (by decide) ?_
              refine V_aload_n (i := 0) (sx_di dX11_house 54 rfl) rfl rfl ?_
              refine V_getR (sx_di dX11_house 55 rfl) fX11_60 (fun _ => rfl) (hB.k _ rfl) (hB.r _ _ rfl) ?_
              refine V_iload_n (i := 1) (sx_di dX11_house 56 rfl) rfl rfl ?_
              refine V_aload_n (i := 0) (sx_di dX11_house 57 rfl) rfl rfl ?_
              refine V_getR (sx_di dX11_house 58 rfl) fX11_28 (fun _ => rfl) (hB.k _ rfl) (hB.r _ _ rfl) ?_
              refine V_cV0 (mc' := 0) (ms' := 0) (M' := mX2_holding) 1 (sx_di dX11_house 59 rfl) lX11_195 vX2_holding (hB.k _ rfl) (by decide) rfl (Nat.le_of_ble_eq_true rfl) ⟨Nat.le_of_ble_eq_true rfl, Nat.le_of_ble_eq_true rfl⟩ ⟨Nat.zero_le _, Nat.zero_le _⟩ ?_
              refine e_holding VA H (fun lv hl => ?_)
              refine V_cV2 (mc' := 0) (ms' := 0) (M' := mX7_minded) 4 (sx_di dX11_house 60 rfl) lX11_198 vX7_minded (hB.k _ rfl) (by decide) rfl (Nat.le_of_ble_eq_true rfl) ⟨Nat.le_of_ble_eq_true rfl, Nat.le_of_ble_eq_true rfl⟩ ⟨Nat.zero_le _, Nat.zero_le _⟩ ?_
              have eM : hv9 A k y = M_ A k := by
                unfold hv9
                rw [← ex27, if_neg hx27_0, if_neg hx27_1, if_neg hx27_2, if_neg hx27_3, if_neg hx27_4, if_neg hx27_5]
              have hm := h
              rw [eM] at hm
              refine e_minded VA H hk hl (fun w2 H2 f2 => ?_)
              refine V_iret (sx_di dX11_house 61 rfl) rfl (Nat.zero_le _) (Nat.zero_le _) ?_
              exact hm _ H2 f2

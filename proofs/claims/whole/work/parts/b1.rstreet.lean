/-! the reference reads a street -/
/-- a clause's letter, its first item, how many -/
def clk (c : Int32) (b m : Nat) : Prop := (c = 115 ∧ b = 0 ∧ m = 4) ∨ (c = 104 ∧ b = 4 ∧ m = 4) ∨ (c = 102 ∧ b = 8 ∧ m = 2)
theorem clk_s {b m : Nat} {c : Int32} (h : clk c b m) (e : c = 115) : b = 0 ∧ m = 4 := by
  rcases h with h | h | h
  · exact h.2
  · rw [e] at h; exact absurd h.1 (by decide)
  · rw [e] at h; exact absurd h.1 (by decide)
theorem clk_h {b m : Nat} {c : Int32} (h : clk c b m) (e : c = 104) : b = 4 ∧ m = 4 := by
  rcases h with h | h | h
  · rw [e] at h; exact absurd h.1 (by decide)
  · exact h.2
  · rw [e] at h; exact absurd h.1 (by decide)
theorem clk_f {b m : Nat} {c : Int32} (h : clk c b m) (e1 : ¬ c = 115) (e2 : ¬ c = 104) : c = 102 ∧ b = 8 ∧ m = 2 := by
  rcases h with h | h | h
  · exact absurd h.1 e1
  · exact absurd h.1 e2
  · exact h
def ir9 (b m : Nat) (c : Int32) : Int32 := if ix_ b m c < m then nI (ix_ b m c) else -1
theorem ir_s (c : Int32) : ir9 0 4 c = if c = 100 then 0 else if c = 104 then 1 else if c = 102 then 2 else if c = 99 then 3 else -1 := by
  by_cases h1 : c = 100
  · subst h1; decide
  · rw [if_neg h1]
    by_cases h2 : c = 104
    · subst h2; decide
    · rw [if_neg h2]
      by_cases h3 : c = 102
      · subst h3; decide
      · rw [if_neg h3]
        by_cases h4 : c = 99
        · subst h4; decide
        · rw [if_neg h4]
          unfold ir9
          rw [if_neg]
          unfold ix_
          rw [ixF_no 4 0 (fun i hi z => ?_)]
          · decide
          · rcases (show i = 0 ∨ i = 1 ∨ i = 2 ∨ i = 3 by omega) with rfl | rfl | rfl | rfl
            · exact h1 z.symm
            · exact h2 z.symm
            · exact h3 z.symm
            · exact h4 z.symm
theorem ir_h (c : Int32) : ir9 4 4 c = if c = 109 then 0 else if c = 119 then 1 else if c = 103 then 2 else if c = 112 then 3 else -1 := by
  by_cases h1 : c = 109
  · subst h1; decide
  · rw [if_neg h1]
    by_cases h2 : c = 119
    · subst h2; decide
    · rw [if_neg h2]
      by_cases h3 : c = 103
      · subst h3; decide
      · rw [if_neg h3]
        by_cases h4 : c = 112
        · subst h4; decide
        · rw [if_neg h4]
          unfold ir9
          rw [if_neg]
          unfold ix_
          rw [ixF_no 4 0 (fun i hi z => ?_)]
          · decide
          · rcases (show i = 0 ∨ i = 1 ∨ i = 2 ∨ i = 3 by omega) with rfl | rfl | rfl | rfl
            · exact h1 z.symm
            · exact h2 z.symm
            · exact h3 z.symm
            · exact h4 z.symm
theorem ir_f (c : Int32) : ir9 8 2 c = if c = 116 then 0 else if c = 110 then 1 else -1 := by
  by_cases h1 : c = 116
  · subst h1; decide
  · rw [if_neg h1]
    by_cases h2 : c = 110
    · subst h2; decide
    · rw [if_neg h2]
      unfold ir9
      rw [if_neg]
      unfold ix_
      rw [ixF_no 2 0 (fun i hi z => ?_)]
      · decide
      · rcases (show i = 0 ∨ i = 1 by omega) with rfl | rfl
        · exact h1 z.symm
        · exact h2 z.symm
set_option maxHeartbeats 2000000 in
set_option maxRecDepth 20000 in
theorem c_X12_itemOf {E : sxE} {w : hpW} {Q : Option Value → hpW → Prop} {cl c : Int32} {b m : Nat} (hc : clk cl b m) (h : Q (some (.int (ir9 b m c))) w) : sx_C E mX12_itemOf 1 0 0 [.int cl, .int c] w Q := by
  refine C_of (by decide +kernel) (Nat.le_of_ble_eq_true rfl) ?_
  refine V_iload_n (i := 0) (sx_di dX12_itemOf 0 rfl) rfl rfl ?_
  refine V_top (fun x1 ex1 => ?_)
  by_cases hx1_0 : x1 = 104
  · refine V_lookup (off := 69) (tgt := 70) (sx_di dX12_itemOf 1 rfl) rfl (by rw [hx1_0]; decide) (by decide) ?_
    rw [hx1_0] at ex1
    obtain ⟨e1, e2⟩ := clk_h hc ex1.symm
    subst e1 e2
    rw [ir_h] at h
    refine V_iload_n (i := 1) (sx_di dX12_itemOf 24 rfl) rfl rfl ?_
    refine V_bipush (v := 109) (sx_di dX12_itemOf 25 rfl) (by decide) ?_
    refine V_icmp_ne (tgt := 80) (sx_di dX12_itemOf 26 rfl) (by decide) (fun h73 => ?_) (fun h73 => ?_)
    · rw [if_neg h73] at h
      refine V_iload_n (i := 1) (sx_di dX12_itemOf 29 rfl) rfl rfl ?_
      refine V_bipush (v := 119) (sx_di dX12_itemOf 30 rfl) (by decide) ?_
      refine V_icmp_ne (tgt := 90) (sx_di dX12_itemOf 31 rfl) (by decide) (fun h83 => ?_) (fun h83 => ?_)
      · rw [if_neg h83] at h
        refine V_iload_n (i := 1) (sx_di dX12_itemOf 34 rfl) rfl rfl ?_
        refine V_bipush (v := 103) (sx_di dX12_itemOf 35 rfl) (by decide) ?_
        refine V_icmp_ne (tgt := 100) (sx_di dX12_itemOf 36 rfl) (by decide) (fun h93 => ?_) (fun h93 => ?_)
        · rw [if_neg h93] at h
          refine V_iload_n (i := 1) (sx_di dX12_itemOf 39 rfl) rfl rfl ?_
          refine V_bipush (v := 112) (sx_di dX12_itemOf 40 rfl) (by decide) ?_
          refine V_icmp_ne (tgt := 110) (sx_di dX12_itemOf 41 rfl) (by decide) (fun h103 => ?_) (fun h103 => ?_)
          · rw [if_neg h103] at h
            refine V_iconst (v := -1) (sx_di dX12_itemOf 44 rfl) (by decide) ?_
            refine V_iret (sx_di dX12_itemOf 45 rfl) rfl (Nat.le_refl _) (Nat.le_refl _) ?_
            exact h
          · rw [if_pos h103] at h
            refine V_iconst (v := 3) (sx_di dX12_itemOf 42 rfl) (by decide) ?_
            refine V_goto (tgt := 111) (sx_di dX12_itemOf 43 rfl) (by decide) ?_
            refine V_iret (sx_di dX12_itemOf 45 rfl) rfl (Nat.le_refl _) (Nat.le_refl _) ?_
            exact h
        · rw [if_pos h93] at h
          refine V_iconst (v := 2) (sx_di dX12_itemOf 37 rfl) (by decide) ?_
          refine V_goto (tgt := 111) (sx_di dX12_itemOf 38 rfl) (by decide) ?_
          refine V_iret (sx_di dX12_itemOf 45 rfl) rfl (Nat.le_refl _) (Nat.le_refl _) ?_
          exact h
      · rw [if_pos h83] at h
        refine V_iconst (v := 1) (sx_di dX12_itemOf 32 rfl) (by decide) ?_
        refine V_goto (tgt := 111) (sx_di dX12_itemOf 33 rfl) (by decide) ?_
        refine V_iret (sx_di dX12_itemOf 45 rfl) rfl (Nat.le_refl _) (Nat.le_refl _) ?_
        exact h
    · rw [if_pos h73] at h
      refine V_iconst (v := 0) (sx_di dX12_itemOf 27 rfl) (by decide) ?_
      refine V_goto (tgt := 111) (sx_di dX12_itemOf 28 rfl) (by decide) ?_
      refine V_iret (sx_di dX12_itemOf 45 rfl) rfl (Nat.le_refl _) (Nat.le_refl _) ?_
      exact h
  · skip
    by_cases hx1_1 : x1 = 115
    · refine V_lookup (off := 27) (tgt := 28) (sx_di dX12_itemOf 1 rfl) rfl (by rw [hx1_1]; decide) (by decide) ?_
      rw [hx1_1] at ex1
      obtain ⟨e1, e2⟩ := clk_s hc ex1.symm
      subst e1 e2
      rw [ir_s] at h
      refine V_iload_n (i := 1) (sx_di dX12_itemOf 2 rfl) rfl rfl ?_
      refine V_bipush (v := 100) (sx_di dX12_itemOf 3 rfl) (by decide) ?_
      refine V_icmp_ne (tgt := 38) (sx_di dX12_itemOf 4 rfl) (by decide) (fun h31 => ?_) (fun h31 => ?_)
      · rw [if_neg h31] at h
        refine V_iload_n (i := 1) (sx_di dX12_itemOf 7 rfl) rfl rfl ?_
        refine V_bipush (v := 104) (sx_di dX12_itemOf 8 rfl) (by decide) ?_
        refine V_icmp_ne (tgt := 48) (sx_di dX12_itemOf 9 rfl) (by decide) (fun h41 => ?_) (fun h41 => ?_)
        · rw [if_neg h41] at h
          refine V_iload_n (i := 1) (sx_di dX12_itemOf 12 rfl) rfl rfl ?_
          refine V_bipush (v := 102) (sx_di dX12_itemOf 13 rfl) (by decide) ?_
          refine V_icmp_ne (tgt := 58) (sx_di dX12_itemOf 14 rfl) (by decide) (fun h51 => ?_) (fun h51 => ?_)
          · rw [if_neg h51] at h
            refine V_iload_n (i := 1) (sx_di dX12_itemOf 17 rfl) rfl rfl ?_
            refine V_bipush (v := 99) (sx_di dX12_itemOf 18 rfl) (by decide) ?_
            refine V_icmp_ne (tgt := 68) (sx_di dX12_itemOf 19 rfl) (by decide) (fun h61 => ?_) (fun h61 => ?_)
            · rw [if_neg h61] at h
              refine V_iconst (v := -1) (sx_di dX12_itemOf 22 rfl) (by decide) ?_
              refine V_iret (sx_di dX12_itemOf 23 rfl) rfl (Nat.le_refl _) (Nat.le_refl _) ?_
              exact h
            · rw [if_pos h61] at h
              refine V_iconst (v := 3) (sx_di dX12_itemOf 20 rfl) (by decide) ?_
              refine V_goto (tgt := 69) (sx_di dX12_itemOf 21 rfl) (by decide) ?_
              refine V_iret (sx_di dX12_itemOf 23 rfl) rfl (Nat.le_refl _) (Nat.le_refl _) ?_
              exact h
          · rw [if_pos h51] at h
            refine V_iconst (v := 2) (sx_di dX12_itemOf 15 rfl) (by decide) ?_
            refine V_goto (tgt := 69) (sx_di dX12_itemOf 16 rfl) (by decide) ?_
            refine V_iret (sx_di dX12_itemOf 23 rfl) rfl (Nat.le_refl _) (Nat.le_refl _) ?_
            exact h
        · rw [if_pos h41] at h
          refine V_iconst (v := 1) (sx_di dX12_itemOf 10 rfl) (by decide) ?_
          refine V_goto (tgt := 69) (sx_di dX12_itemOf 11 rfl) (by decide) ?_
          refine V_iret (sx_di dX12_itemOf 23 rfl) rfl (Nat.le_refl _) (Nat.le_refl _) ?_
          exact h
      · rw [if_pos h31] at h
        refine V_iconst (v := 0) (sx_di dX12_itemOf 5 rfl) (by decide) ?_
        refine V_goto (tgt := 69) (sx_di dX12_itemOf 6 rfl) (by decide) ?_
        refine V_iret (sx_di dX12_itemOf 23 rfl) rfl (Nat.le_refl _) (Nat.le_refl _) ?_
        exact h
    · skip
      refine V_lookup (off := 111) (tgt := 112) (sx_di dX12_itemOf 1 rfl) rfl (by show Op.lookupswitch.offset [(104, 69), (115, 27)] 111 x1.toInt = _; rw [lv_osw (a := 104) hx1_0 (by decide), lv_osw (a := 115) hx1_1 (by decide)]; rfl) (by decide) ?_
      obtain ⟨-, e1, e2⟩ := clk_f hc (fun z => hx1_1 (ex1.trans z)) (fun z => hx1_0 (ex1.trans z))
      subst e1 e2
      rw [ir_f] at h
      refine V_iload_n (i := 1) (sx_di dX12_itemOf 46 rfl) rfl rfl ?_
      refine V_bipush (v := 116) (sx_di dX12_itemOf 47 rfl) (by decide) ?_
      refine V_icmp_ne (tgt := 122) (sx_di dX12_itemOf 48 rfl) (by decide) (fun h115 => ?_) (fun h115 => ?_)
      · rw [if_neg h115] at h
        refine V_iload_n (i := 1) (sx_di dX12_itemOf 51 rfl) rfl rfl ?_
        refine V_bipush (v := 110) (sx_di dX12_itemOf 52 rfl) (by decide) ?_
        refine V_icmp_ne (tgt := 132) (sx_di dX12_itemOf 53 rfl) (by decide) (fun h125 => ?_) (fun h125 => ?_)
        · rw [if_neg h125] at h
          refine V_iconst (v := -1) (sx_di dX12_itemOf 56 rfl) (by decide) ?_
          refine V_iret (sx_di dX12_itemOf 57 rfl) rfl (Nat.le_refl _) (Nat.le_refl _) ?_
          exact h
        · rw [if_pos h125] at h
          refine V_iconst (v := 1) (sx_di dX12_itemOf 54 rfl) (by decide) ?_
          refine V_goto (tgt := 133) (sx_di dX12_itemOf 55 rfl) (by decide) ?_
          refine V_iret (sx_di dX12_itemOf 57 rfl) rfl (Nat.le_refl _) (Nat.le_refl _) ?_
          exact h
      · rw [if_pos h115] at h
        refine V_iconst (v := 0) (sx_di dX12_itemOf 49 rfl) (by decide) ?_
        refine V_goto (tgt := 133) (sx_di dX12_itemOf 50 rfl) (by decide) ?_
        refine V_iret (sx_di dX12_itemOf 57 rfl) rfl (Nat.le_refl _) (Nat.le_refl _) ?_
        exact h
set_option maxHeartbeats 2000000 in
set_option maxRecDepth 20000 in
theorem c_X12_usual {E : sxE} {w : hpW} {Q : Option Value → hpW → Prop} {cl : Int32} {b m k : Nat} (hc : clk cl b m) (hk : k < m) (h : Q (some (.int (it_us (b + k)))) w) : sx_C E mX12_usual 1 0 0 [.int cl, .int (nI k)] w Q := by
  refine C_of (by decide +kernel) (Nat.le_of_ble_eq_true rfl) ?_
  refine V_iload_n (i := 0) (sx_di dX12_usual 0 rfl) rfl rfl ?_
  refine V_top (fun x1 ex1 => ?_)
  by_cases hx1_0 : x1 = 104
  · refine V_lookup (off := 57) (tgt := 58) (sx_di dX12_usual 1 rfl) rfl (by rw [hx1_0]; decide) (by decide) ?_
    rw [hx1_0] at ex1
    obtain ⟨e1, e2⟩ := clk_h hc ex1.symm
    subst e1 e2
    refine V_iload_n (i := 1) (sx_di dX12_usual 18 rfl) rfl rfl ?_
    refine V_ifN_ne (a := k) (rfl) (by omega) (tgt := 66) (sx_di dX12_usual 19 rfl) (by decide) (fun h59 => ?_) (fun h59 => ?_)
    · refine V_iload_n (i := 1) (sx_di dX12_usual 22 rfl) rfl rfl ?_
      refine V_iconst (v := 3) (sx_di dX12_usual 23 rfl) (by decide) ?_
      refine V_icN_ne (a := k) (b := 3) (rfl) (rfl) (by omega) (by omega) (tgt := 75) (sx_di dX12_usual 24 rfl) (by decide) (fun h68 => ?_) (fun h68 => ?_)
      · refine V_iconst (v := 0) (sx_di dX12_usual 27 rfl) (by decide) ?_
        refine V_iret (sx_di dX12_usual 28 rfl) rfl (Nat.le_refl _) (Nat.le_refl _) ?_
        rcases (show k = 0 ∨ k = 1 ∨ k = 2 ∨ k = 3 by omega) with rfl | rfl | rfl | rfl <;> first | exact h | (exfalso; omega)
      · refine V_iconst (v := 2) (sx_di dX12_usual 25 rfl) (by decide) ?_
        refine V_goto (tgt := 76) (sx_di dX12_usual 26 rfl) (by decide) ?_
        refine V_iret (sx_di dX12_usual 28 rfl) rfl (Nat.le_refl _) (Nat.le_refl _) ?_
        rcases (show k = 0 ∨ k = 1 ∨ k = 2 ∨ k = 3 by omega) with rfl | rfl | rfl | rfl <;> first | exact h | (exfalso; omega)
    · refine V_iconst (v := 3) (sx_di dX12_usual 20 rfl) (by decide) ?_
      refine V_goto (tgt := 76) (sx_di dX12_usual 21 rfl) (by decide) ?_
      refine V_iret (sx_di dX12_usual 28 rfl) rfl (Nat.le_refl _) (Nat.le_refl _) ?_
      rcases (show k = 0 ∨ k = 1 ∨ k = 2 ∨ k = 3 by omega) with rfl | rfl | rfl | rfl <;> first | exact h | (exfalso; omega)
  · skip
    by_cases hx1_1 : x1 = 115
    · refine V_lookup (off := 27) (tgt := 28) (sx_di dX12_usual 1 rfl) rfl (by rw [hx1_1]; decide) (by decide) ?_
      rw [hx1_1] at ex1
      obtain ⟨e1, e2⟩ := clk_s hc ex1.symm
      subst e1 e2
      refine V_iload_n (i := 1) (sx_di dX12_usual 2 rfl) rfl rfl ?_
      refine V_ifN_ne (a := k) (rfl) (by omega) (tgt := 36) (sx_di dX12_usual 3 rfl) (by decide) (fun h29 => ?_) (fun h29 => ?_)
      · refine V_iload_n (i := 1) (sx_di dX12_usual 6 rfl) rfl rfl ?_
        refine V_iconst (v := 1) (sx_di dX12_usual 7 rfl) (by decide) ?_
        refine V_icN_ne (a := k) (b := 1) (rfl) (rfl) (by omega) (by omega) (tgt := 46) (sx_di dX12_usual 8 rfl) (by decide) (fun h38 => ?_) (fun h38 => ?_)
        · refine V_iload_n (i := 1) (sx_di dX12_usual 11 rfl) rfl rfl ?_
          refine V_iconst (v := 2) (sx_di dX12_usual 12 rfl) (by decide) ?_
          refine V_icN_ne (a := k) (b := 2) (rfl) (rfl) (by omega) (by omega) (tgt := 55) (sx_di dX12_usual 13 rfl) (by decide) (fun h48 => ?_) (fun h48 => ?_)
          · refine V_bipush (v := 20) (sx_di dX12_usual 16 rfl) (by decide) ?_
            refine V_iret (sx_di dX12_usual 17 rfl) rfl (Nat.le_refl _) (Nat.le_refl _) ?_
            rcases (show k = 0 ∨ k = 1 ∨ k = 2 ∨ k = 3 by omega) with rfl | rfl | rfl | rfl <;> first | exact h | (exfalso; omega)
          · refine V_iconst (v := 0) (sx_di dX12_usual 14 rfl) (by decide) ?_
            refine V_goto (tgt := 57) (sx_di dX12_usual 15 rfl) (by decide) ?_
            refine V_iret (sx_di dX12_usual 17 rfl) rfl (Nat.le_refl _) (Nat.le_refl _) ?_
            rcases (show k = 0 ∨ k = 1 ∨ k = 2 ∨ k = 3 by omega) with rfl | rfl | rfl | rfl <;> first | exact h | (exfalso; omega)
        · refine V_bipush (v := 8) (sx_di dX12_usual 9 rfl) (by decide) ?_
          refine V_goto (tgt := 57) (sx_di dX12_usual 10 rfl) (by decide) ?_
          refine V_iret (sx_di dX12_usual 17 rfl) rfl (Nat.le_refl _) (Nat.le_refl _) ?_
          rcases (show k = 0 ∨ k = 1 ∨ k = 2 ∨ k = 3 by omega) with rfl | rfl | rfl | rfl <;> first | exact h | (exfalso; omega)
      · refine V_iconst (v := 3) (sx_di dX12_usual 4 rfl) (by decide) ?_
        refine V_goto (tgt := 57) (sx_di dX12_usual 5 rfl) (by decide) ?_
        refine V_iret (sx_di dX12_usual 17 rfl) rfl (Nat.le_refl _) (Nat.le_refl _) ?_
        rcases (show k = 0 ∨ k = 1 ∨ k = 2 ∨ k = 3 by omega) with rfl | rfl | rfl | rfl <;> first | exact h | (exfalso; omega)
    · skip
      refine V_lookup (off := 76) (tgt := 77) (sx_di dX12_usual 1 rfl) rfl (by show Op.lookupswitch.offset [(104, 57), (115, 27)] 76 x1.toInt = _; rw [lv_osw (a := 104) hx1_0 (by decide), lv_osw (a := 115) hx1_1 (by decide)]; rfl) (by decide) ?_
      obtain ⟨-, e1, e2⟩ := clk_f hc (fun z => hx1_1 (ex1.trans z)) (fun z => hx1_0 (ex1.trans z))
      subst e1 e2
      refine V_iload_n (i := 1) (sx_di dX12_usual 29 rfl) rfl rfl ?_
      refine V_ifN_ne (a := k) (rfl) (by omega) (tgt := 85) (sx_di dX12_usual 30 rfl) (by decide) (fun h78 => ?_) (fun h78 => ?_)
      · refine V_iconst (v := 0) (sx_di dX12_usual 33 rfl) (by decide) ?_
        refine V_iret (sx_di dX12_usual 34 rfl) rfl (Nat.le_refl _) (Nat.le_refl _) ?_
        rcases (show k = 0 ∨ k = 1 ∨ k = 2 ∨ k = 3 by omega) with rfl | rfl | rfl | rfl <;> first | exact h | (exfalso; omega)
      · refine V_iconst (v := 3) (sx_di dX12_usual 31 rfl) (by decide) ?_
        refine V_goto (tgt := 86) (sx_di dX12_usual 32 rfl) (by decide) ?_
        refine V_iret (sx_di dX12_usual 34 rfl) rfl (Nat.le_refl _) (Nat.le_refl _) ?_
        rcases (show k = 0 ∨ k = 1 ∨ k = 2 ∨ k = 3 by omega) with rfl | rfl | rfl | rfl <;> first | exact h | (exfalso; omega)
set_option maxHeartbeats 2000000 in
set_option maxRecDepth 20000 in
theorem c_X12_highest {E : sxE} {w : hpW} {Q : Option Value → hpW → Prop} {cl : Int32} {b m k : Nat} (hc : clk cl b m) (hk : k < m) (h : Q (some (.int (it_hi (b + k)))) w) : sx_C E mX12_highest 1 0 0 [.int cl, .int (nI k)] w Q := by
  refine C_of (by decide +kernel) (Nat.le_of_ble_eq_true rfl) ?_
  refine V_iload_n (i := 0) (sx_di dX12_highest 0 rfl) rfl rfl ?_
  refine V_top (fun x1 ex1 => ?_)
  by_cases hx1_0 : x1 = 104
  · refine V_lookup (off := 59) (tgt := 60) (sx_di dX12_highest 1 rfl) rfl (by rw [hx1_0]; decide) (by decide) ?_
    rw [hx1_0] at ex1
    obtain ⟨e1, e2⟩ := clk_h hc ex1.symm
    subst e1 e2
    refine V_bipush (v := 9) (sx_di dX12_highest 19 rfl) (by decide) ?_
    refine V_iret (sx_di dX12_highest 20 rfl) rfl (Nat.le_refl _) (Nat.le_refl _) ?_
    rcases (show k = 0 ∨ k = 1 ∨ k = 2 ∨ k = 3 by omega) with rfl | rfl | rfl | rfl <;> first | exact h | (exfalso; omega)
  · skip
    by_cases hx1_1 : x1 = 115
    · refine V_lookup (off := 27) (tgt := 28) (sx_di dX12_highest 1 rfl) rfl (by rw [hx1_1]; decide) (by decide) ?_
      rw [hx1_1] at ex1
      obtain ⟨e1, e2⟩ := clk_s hc ex1.symm
      subst e1 e2
      refine V_iload_n (i := 1) (sx_di dX12_highest 2 rfl) rfl rfl ?_
      refine V_iconst (v := 1) (sx_di dX12_highest 3 rfl) (by decide) ?_
      refine V_icN_ne (a := k) (b := 1) (rfl) (rfl) (by omega) (by omega) (tgt := 38) (sx_di dX12_highest 4 rfl) (by decide) (fun h30 => ?_) (fun h30 => ?_)
      · refine V_iload_n (i := 1) (sx_di dX12_highest 7 rfl) rfl rfl ?_
        refine V_iconst (v := 2) (sx_di dX12_highest 8 rfl) (by decide) ?_
        refine V_icN_ne (a := k) (b := 2) (rfl) (rfl) (by omega) (by omega) (tgt := 47) (sx_di dX12_highest 9 rfl) (by decide) (fun h40 => ?_) (fun h40 => ?_)
        · refine V_iload_n (i := 1) (sx_di dX12_highest 12 rfl) rfl rfl ?_
          refine V_iconst (v := 3) (sx_di dX12_highest 13 rfl) (by decide) ?_
          refine V_icN_ne (a := k) (b := 3) (rfl) (rfl) (by omega) (by omega) (tgt := 57) (sx_di dX12_highest 14 rfl) (by decide) (fun h49 => ?_) (fun h49 => ?_)
          · refine V_bipush (v := 9) (sx_di dX12_highest 17 rfl) (by decide) ?_
            refine V_iret (sx_di dX12_highest 18 rfl) rfl (Nat.le_refl _) (Nat.le_refl _) ?_
            rcases (show k = 0 ∨ k = 1 ∨ k = 2 ∨ k = 3 by omega) with rfl | rfl | rfl | rfl <;> first | exact h | (exfalso; omega)
          · refine V_bipush (v := 99) (sx_di dX12_highest 15 rfl) (by decide) ?_
            refine V_goto (tgt := 59) (sx_di dX12_highest 16 rfl) (by decide) ?_
            refine V_iret (sx_di dX12_highest 18 rfl) rfl (Nat.le_refl _) (Nat.le_refl _) ?_
            rcases (show k = 0 ∨ k = 1 ∨ k = 2 ∨ k = 3 by omega) with rfl | rfl | rfl | rfl <;> first | exact h | (exfalso; omega)
        · refine V_iconst (v := 5) (sx_di dX12_highest 10 rfl) (by decide) ?_
          refine V_goto (tgt := 59) (sx_di dX12_highest 11 rfl) (by decide) ?_
          refine V_iret (sx_di dX12_highest 18 rfl) rfl (Nat.le_refl _) (Nat.le_refl _) ?_
          rcases (show k = 0 ∨ k = 1 ∨ k = 2 ∨ k = 3 by omega) with rfl | rfl | rfl | rfl <;> first | exact h | (exfalso; omega)
      · refine V_bipush (v := 8) (sx_di dX12_highest 5 rfl) (by decide) ?_
        refine V_goto (tgt := 59) (sx_di dX12_highest 6 rfl) (by decide) ?_
        refine V_iret (sx_di dX12_highest 18 rfl) rfl (Nat.le_refl _) (Nat.le_refl _) ?_
        rcases (show k = 0 ∨ k = 1 ∨ k = 2 ∨ k = 3 by omega) with rfl | rfl | rfl | rfl <;> first | exact h | (exfalso; omega)
    · skip
      refine V_lookup (off := 62) (tgt := 63) (sx_di dX12_highest 1 rfl) rfl (by show Op.lookupswitch.offset [(104, 59), (115, 27)] 62 x1.toInt = _; rw [lv_osw (a := 104) hx1_0 (by decide), lv_osw (a := 115) hx1_1 (by decide)]; rfl) (by decide) ?_
      obtain ⟨-, e1, e2⟩ := clk_f hc (fun z => hx1_1 (ex1.trans z)) (fun z => hx1_0 (ex1.trans z))
      subst e1 e2
      refine V_iload_n (i := 1) (sx_di dX12_highest 21 rfl) rfl rfl ?_
      refine V_ifN_ne (a := k) (rfl) (by omega) (tgt := 72) (sx_di dX12_highest 22 rfl) (by decide) (fun h64 => ?_) (fun h64 => ?_)
      · refine V_iconst (v := 5) (sx_di dX12_highest 25 rfl) (by decide) ?_
        refine V_iret (sx_di dX12_highest 26 rfl) rfl (Nat.le_refl _) (Nat.le_refl _) ?_
        rcases (show k = 0 ∨ k = 1 ∨ k = 2 ∨ k = 3 by omega) with rfl | rfl | rfl | rfl <;> first | exact h | (exfalso; omega)
      · refine V_bipush (v := 9) (sx_di dX12_highest 23 rfl) (by decide) ?_
        refine V_goto (tgt := 73) (sx_di dX12_highest 24 rfl) (by decide) ?_
        refine V_iret (sx_di dX12_highest 26 rfl) rfl (Nat.le_refl _) (Nat.le_refl _) ?_
        rcases (show k = 0 ∨ k = 1 ∨ k = 2 ∨ k = 3 by omega) with rfl | rfl | rfl | rfl <;> first | exact h | (exfalso; omega)
set_option maxHeartbeats 2000000 in
set_option maxRecDepth 20000 in
theorem c_X12_lowest {E : sxE} {w : hpW} {Q : Option Value → hpW → Prop} {cl : Int32} {b m k : Nat} (hc : clk cl b m) (hk : k < m) (h : Q (some (.int (it_lo (b + k)))) w) : sx_C E mX12_lowest 1 0 0 [.int cl, .int (nI k)] w Q := by
  rcases hc with ⟨rfl, rfl, rfl⟩ | ⟨rfl, rfl, rfl⟩ | ⟨rfl, rfl, rfl⟩
  · refine C_of (by decide +kernel) (Nat.le_of_ble_eq_true rfl) ?_
    refine V_iload_n (i := 0) (sx_di dX12_lowest 0 rfl) rfl rfl ?_
    refine V_bipush (v := 115) (sx_di dX12_lowest 1 rfl) (by decide) ?_
    refine V_icmp_ne (tgt := 10) (sx_di dX12_lowest 2 rfl) (by decide) (fun h3 => absurd rfl h3) (fun _ => ?_)
    refine V_iload_n (i := 1) (sx_di dX12_lowest 3 rfl) rfl rfl ?_
    refine V_ifN_eq (a := k) (rfl) (by omega) (tgt := 20) (sx_di dX12_lowest 4 rfl) (by decide) (fun h7 => ?_) (fun h7 => ?_)
    · refine V_iconst (v := 1) (sx_di dX12_lowest 10 rfl) (by decide) ?_
      refine V_goto (tgt := 25) (sx_di dX12_lowest 11 rfl) (by decide) ?_
      refine V_iret (sx_di dX12_lowest 13 rfl) rfl (Nat.le_refl _) (Nat.le_refl _) ?_
      rcases (show k = 0 ∨ k = 1 ∨ k = 2 ∨ k = 3 by omega) with rfl | rfl | rfl | rfl <;> first | exact h | (exfalso; omega)
    · refine V_iload_n (i := 0) (sx_di dX12_lowest 5 rfl) rfl rfl ?_
      refine V_bipush (v := 102) (sx_di dX12_lowest 6 rfl) (by decide) ?_
      refine V_icmp_ne (tgt := 24) (sx_di dX12_lowest 7 rfl) (by decide) (fun _ => ?_) (fun h13 => absurd h13 (by decide))
      refine V_iconst (v := 0) (sx_di dX12_lowest 12 rfl) (by decide) ?_
      refine V_iret (sx_di dX12_lowest 13 rfl) rfl (Nat.le_refl _) (Nat.le_refl _) ?_
      rcases (show k = 0 ∨ k = 1 ∨ k = 2 ∨ k = 3 by omega) with rfl | rfl | rfl | rfl <;> first | exact h | (exfalso; omega)
  · refine C_of (by decide +kernel) (Nat.le_of_ble_eq_true rfl) ?_
    refine V_iload_n (i := 0) (sx_di dX12_lowest 0 rfl) rfl rfl ?_
    refine V_bipush (v := 115) (sx_di dX12_lowest 1 rfl) (by decide) ?_
    refine V_icmp_ne (tgt := 10) (sx_di dX12_lowest 2 rfl) (by decide) (fun _ => ?_) (fun h3 => absurd h3 (by decide))
    refine V_iload_n (i := 0) (sx_di dX12_lowest 5 rfl) rfl rfl ?_
    refine V_bipush (v := 102) (sx_di dX12_lowest 6 rfl) (by decide) ?_
    refine V_icmp_ne (tgt := 24) (sx_di dX12_lowest 7 rfl) (by decide) (fun _ => ?_) (fun h13 => absurd h13 (by decide))
    refine V_iconst (v := 0) (sx_di dX12_lowest 12 rfl) (by decide) ?_
    refine V_iret (sx_di dX12_lowest 13 rfl) rfl (Nat.le_refl _) (Nat.le_refl _) ?_
    rcases (show k = 0 ∨ k = 1 ∨ k = 2 ∨ k = 3 by omega) with rfl | rfl | rfl | rfl <;> first | exact h | (exfalso; omega)
  · refine C_of (by decide +kernel) (Nat.le_of_ble_eq_true rfl) ?_
    refine V_iload_n (i := 0) (sx_di dX12_lowest 0 rfl) rfl rfl ?_
    refine V_bipush (v := 115) (sx_di dX12_lowest 1 rfl) (by decide) ?_
    refine V_icmp_ne (tgt := 10) (sx_di dX12_lowest 2 rfl) (by decide) (fun _ => ?_) (fun h3 => absurd h3 (by decide))
    refine V_iload_n (i := 0) (sx_di dX12_lowest 5 rfl) rfl rfl ?_
    refine V_bipush (v := 102) (sx_di dX12_lowest 6 rfl) (by decide) ?_
    refine V_icmp_ne (tgt := 24) (sx_di dX12_lowest 7 rfl) (by decide) (fun h13 => absurd rfl h13) (fun _ => ?_)
    refine V_iload_n (i := 1) (sx_di dX12_lowest 8 rfl) rfl rfl ?_
    refine V_ifN_ne (a := k) (rfl) (by omega) (tgt := 24) (sx_di dX12_lowest 9 rfl) (by decide) (fun h17 => ?_) (fun h17 => ?_)
    · refine V_iconst (v := 0) (sx_di dX12_lowest 12 rfl) (by decide) ?_
      refine V_iret (sx_di dX12_lowest 13 rfl) rfl (Nat.le_refl _) (Nat.le_refl _) ?_
      rcases (show k = 0 ∨ k = 1 ∨ k = 2 ∨ k = 3 by omega) with rfl | rfl | rfl | rfl <;> first | exact h | (exfalso; omega)
    · refine V_iconst (v := 1) (sx_di dX12_lowest 10 rfl) (by decide) ?_
      refine V_goto (tgt := 25) (sx_di dX12_lowest 11 rfl) (by decide) ?_
      refine V_iret (sx_di dX12_lowest 13 rfl) rfl (Nat.le_refl _) (Nat.le_refl _) ?_
      rcases (show k = 0 ∨ k = 1 ∨ k = 2 ∨ k = 3 by omega) with rfl | rfl | rfl | rfl <;> first | exact h | (exfalso; omega)
/-- the reference's slots, as one row -/
def RS9 (w : hpW) : Nat → Int32 := fun j => if j < 4 then hp_i w 392 j else if j < 36 then hp_i w 393 (j - 4) else hp_i w 394 (j - 36)
theorem RS_eq {w w' : hpW} (h2 : hp_i w' 392 = hp_i w 392) (h3 : hp_i w' 393 = hp_i w 393) (h4 : hp_i w' 394 = hp_i w 394) : RS9 w' = RS9 w := by unfold RS9; rw [h2, h3, h4]
/-- rows of the reference: address, first slot, length -/
def ro9 (ad z l : Nat) : Prop := (ad = 392 ∧ z = 0 ∧ l = 4) ∨ (ad = 393 ∧ z = 4 ∧ l = 32) ∨ (ad = 394 ∧ z = 36 ∧ l = 12)
theorem RS_si {w : hpW} {ad z l i : Nat} {v : Int32} (h : ro9 ad z l) (hi : i < l) : RS9 (hp_si w ad i v) = up_ (RS9 w) (z + i) v := by
  funext j
  unfold RS9 up_
  rcases h with ⟨rfl, rfl, rfl⟩ | ⟨rfl, rfl, rfl⟩ | ⟨rfl, rfl, rfl⟩
  · by_cases e : j = 0 + i
    · rw [if_pos (by omega), if_pos e, hp_i_si, if_pos ⟨rfl, by omega⟩]
    · rw [if_neg e]
      show _ = (if j < 4 then hp_i w 392 j else if j < 36 then hp_i w 393 (j - 4) else hp_i w 394 (j - 36))
      by_cases c1 : j < 4
      · rw [if_pos c1, if_pos c1, si_p (by omega)]
      · rw [if_neg c1, if_neg c1]
        by_cases c2 : j < 36
        · rw [if_pos c2, if_pos c2, si_p (by omega)]
        · rw [if_neg c2, if_neg c2, si_p (by omega)]
  · by_cases e : j = 4 + i
    · rw [if_neg (by omega), if_pos (by omega), if_pos e, hp_i_si, if_pos ⟨rfl, by omega⟩]
    · rw [if_neg e]
      show _ = (if j < 4 then hp_i w 392 j else if j < 36 then hp_i w 393 (j - 4) else hp_i w 394 (j - 36))
      by_cases c1 : j < 4
      · rw [if_pos c1, if_pos c1, si_p (by omega)]
      · rw [if_neg c1, if_neg c1]
        by_cases c2 : j < 36
        · rw [if_pos c2, if_pos c2, si_p (by omega)]
        · rw [if_neg c2, if_neg c2, si_p (by omega)]
  · by_cases e : j = 36 + i
    · rw [if_neg (by omega), if_neg (by omega), if_pos e, hp_i_si, if_pos ⟨rfl, by omega⟩]
    · rw [if_neg e]
      show _ = (if j < 4 then hp_i w 392 j else if j < 36 then hp_i w 393 (j - 4) else hp_i w 394 (j - 36))
      by_cases c1 : j < 4
      · rw [if_pos c1, if_pos c1, si_p (by omega)]
      · rw [if_neg c1, if_neg c1]
        by_cases c2 : j < 36
        · rw [if_pos c2, if_pos c2, si_p (by omega)]
        · rw [if_neg c2, if_neg c2, si_p (by omega)]
/-- it is at p, nothing is wrong -/
def qP (T : List Int32) (p n m : Nat) (w : hpW) : Prop := ly_B w ∧ tp_ w 381 2 382 T ∧ hp_i w 381 4 = -1 ∧ hp_i w 381 3 = nI p ∧ hp_i w 381 20 = nI n ∧ hp_i w 381 21 = nI m
/-- it went wrong at e -/
def qF (T : List Int32) (e n m : Nat) (w : hpW) : Prop := ly_B w ∧ tp_ w 381 2 382 T ∧ hp_i w 381 4 = nI e ∧ hp_i w 381 20 = nI n ∧ hp_i w 381 21 = nI m
def fT9 (w w' : hpW) : Prop := w' = hp_wi w (hp_i w') ∧ (∀ b, b ≠ 381 → b ≠ 392 → b ≠ 393 → b ≠ 394 → hp_i w' b = hp_i w b) ∧ ∀ j, j ≠ 3 → j ≠ 4 → j ≠ 20 → j ≠ 21 → hp_i w' 381 j = hp_i w 381 j
theorem fT9_rf {w : hpW} : fT9 w w := ⟨rfl, fun _ _ _ _ _ => rfl, fun _ _ _ _ _ => rfl⟩
theorem fT9_tr {w w2 w3 : hpW} (f : fT9 w w2) (g : fT9 w2 w3) : fT9 w w3 := by
  refine ⟨?_, fun b h1 h2 h3 h4 => (g.2.1 b h1 h2 h3 h4).trans (f.2.1 b h1 h2 h3 h4), fun j h1 h2 h3 h4 => (g.2.2 j h1 h2 h3 h4).trans (f.2.2 j h1 h2 h3 h4)⟩
  have e := g.1
  rw [f.1] at e
  exact e
theorem fT9_si {k : Nat} {x : Int32} {w : hpW} (h : k = 3 ∨ k = 4 ∨ k = 20 ∨ k = 21) : fT9 w (hp_si w 381 k x) := ⟨rfl, fun b h1 _ _ _ => by funext j; exact si_p (by omega), fun j _ _ _ _ => si_p (by omega)⟩
theorem RS_s1 {k : Nat} {x : Int32} {w : hpW} : RS9 (hp_si w 381 k x) = RS9 w := RS_eq (by funext j; exact si_p (by omega)) (by funext j; exact si_p (by omega)) (by funext j; exact si_p (by omega))
theorem qP_at {T : List Int32} {p q n m : Nat} {w : hpW} (H : qP T p n m w) : qP T q n m (hp_si w 381 3 (nI q)) := ⟨ly_i H.1, tp_si (by decide) H.2.1, (si_o (by omega)).trans H.2.2.1, si_a, (si_o (by omega)).trans H.2.2.2.2.1, (si_o (by omega)).trans H.2.2.2.2.2⟩
theorem c_lookS {E : sxE} {w : hpW} {Q : Option Value → hpW → Prop} {T : List Int32} {p n m : Nat} (H : qP T p n m w) (hp : p ≤ T.length) (h : ∀ w', qP T (skp_ T p) n m w' → fT9 w w' → RS9 w' = RS9 w → Q (some (.int (cz_ T p))) w') : sx_C E mX12_look 2 0 0 [.ref 381] w Q := by
  have hl := H.2.1.1
  exact c_X12_look H.1 H.2.1 (p := p) (by omega) H.2.2.2.1 (h (hp_si w 381 3 (nI (skp_ T p))) (qP_at H) (fT9_si (Or.inl rfl)) RS_s1)
theorem c_hereS {E : sxE} {w : hpW} {Q : Option Value → hpW → Prop} {T : List Int32} {p n m : Nat} (H : qP T p n m w) (hp : p ≤ T.length) (h : Q (some (.int (tc_ T p))) w) : sx_C E mX12_here 1 0 0 [.ref 381] w Q := by
  have hl := H.2.1.1
  exact c_X12_here H.1 H.2.1 (p := p) (by omega) H.2.2.2.1 h
theorem c_badS {E : sxE} {w : hpW} {Q : Option Value → hpW → Prop} {T : List Int32} {p n m : Nat} (H : qP T p n m w) (h : ∀ w', qF T p n m w' → fT9 w w' → RS9 w' = RS9 w → Q none w') : sx_C E mX12_bad 1 0 0 [.ref 381] w Q := by
  refine c_X12_bad H.1 (fun _ => ?_) (fun z => absurd H.2.2.1 z)
  exact h _ ⟨ly_i H.1, tp_si (by decide) H.2.1, si_a.trans H.2.2.2.1, (si_o (by omega)).trans H.2.2.2.2.1, (si_o (by omega)).trans H.2.2.2.2.2⟩ (fT9_si (Or.inr (Or.inl rfl))) RS_s1
section RSV
variable {E : sxE} {M : sxM} {R : Room} {mc ms ce sl pc : Nat} {ls : List (Nat × Value)} {st : List Value} {w : hpW} {Q : Option Value → hpW → Prop}
theorem V_atS {T : List Int32} {p n m : Nat} (H : qP T p n m w) (k : ∀ w', qP T (p + 1) n m w' → fT9 w w' → RS9 w' = RS9 w → V E M R mc ms ce sl pc ls st w' Q) : V E M R mc ms ce sl pc ls st (hp_si w 381 3 (hp_i w 381 3 + 1)) Q := by
  rw [H.2.2.2.1, nI_1]
  exact k _ (qP_at H) (fT9_si (Or.inl rfl)) RS_s1
end RSV
theorem rn2_0 {T : List Int32} {q : Nat} (h1 : dg_ (tc_ T q)) (h2 : ¬ dg_ (tc_ T (q + 1))) : rn_ T 2 q = (true, q + 1, tc_ T q - 48) := by
  have e1 := dg_tc.mp h1
  show rnF T 2 3 0 0 q = _
  rw [rnF, if_pos e1, if_neg (by decide), rnF, if_neg (fun z => h2 (dg_tc.mpr z)), tc_lt e1.1, Int32.zero_mul, Int32.zero_add]
  rfl
theorem rn2_1 {T : List Int32} {q : Nat} (h1 : dg_ (tc_ T q)) (h2 : dg_ (tc_ T (q + 1))) (h3 : ¬ dg_ (tc_ T (q + 1 + 1))) : rn_ T 2 q = (true, q + 1 + 1, 10 * (tc_ T q - 48) + tc_ T (q + 1) - 48) := by
  have e1 := dg_tc.mp h1
  have e2 := dg_tc.mp h2
  show rnF T 2 3 0 0 q = _
  rw [rnF, if_pos e1, if_neg (by decide), rnF, if_pos e2, if_neg (by decide), rnF, if_neg (fun z => h3 (dg_tc.mpr z)), tc_lt e1.1, tc_lt e2.1, Int32.zero_mul, Int32.zero_add, Int32.mul_comm]
  rfl
theorem rn2_2 {T : List Int32} {q : Nat} (h1 : dg_ (tc_ T q)) (h2 : dg_ (tc_ T (q + 1))) (h3 : dg_ (tc_ T (q + 1 + 1))) : (rn_ T 2 q).1 = false ∧ (rn_ T 2 q).2.1 = q + 1 + 1 := by
  have e1 := dg_tc.mp h1
  have e2 := dg_tc.mp h2
  show (rnF T 2 3 0 0 q).1 = false ∧ (rnF T 2 3 0 0 q).2.1 = q + 1 + 1
  rw [rnF, if_pos e1, if_neg (by decide), rnF, if_pos e2, if_neg (by decide), rnF, if_pos (dg_tc.mp h3), if_pos rfl]
  exact ⟨rfl, rfl⟩
set_option maxHeartbeats 2000000 in
set_option maxRecDepth 20000 in
theorem c_number9 {E : sxE} {w : hpW} {Q : Option Value → hpW → Prop} {T : List Int32} {j p n m : Nat} (H : qP T p n m w) (hp : p ≤ T.length) (h : ∀ v w', ((nb9_ T j p).1 = true → qP T (nb9_ T j p).2.2 n m w' ∧ v = (nb9_ T j p).2.1) → (¬ (nb9_ T j p).1 = true → qF T (nb9_ T j p).2.2 n m w') → fT9 w w' → RS9 w' = RS9 w → Q (some (.int v)) w') : sx_C E mX12_number 3 0 0 [.ref 381, .int (it_lo j), .int (it_hi j)] w Q := by
  have hT := H.2.1.1
  have g2 := skq_le (T := T) hp
  have tl : ∀ v q w2, qP T q n m w2 → 1 ≤ q → fT9 w w2 → RS9 w2 = RS9 w → rn_ T 2 (skp_ T p) = (true, q, v) → V E mX12_number (sx_rm 3 0 0) 0 0 0 0 84 [(3, .int v), (2, .int (it_hi j)), (1, .int (it_lo j)), (0, .ref 381)] [] w2 Q := by
    intro v q w2 H2 hq f2 s2 er
    unfold nb9_ at h
    rw [er, if_pos (show (true, q, v).1 = true from rfl)] at h
    refine V_iload_n (i := 3) (sx_di dX12_number 45 rfl) rfl rfl ?_
    refine V_iload_n (i := 1) (sx_di dX12_number 46 rfl) rfl rfl ?_
    refine V_iload_n (i := 2) (sx_di dX12_number 47 rfl) rfl rfl ?_
    refine V_cS3 (mc' := 0) (ms' := 0) (M' := mX12_in) 1 (sx_di dX12_number 48 rfl) lX12_214 vX12_in (Nat.le_of_ble_eq_true rfl) ⟨Nat.le_of_ble_eq_true rfl, Nat.le_of_ble_eq_true rfl⟩ ⟨Nat.le_refl _, Nat.le_refl _⟩ ?_
    refine c_X12_in ?_
    refine V_if_ne (tgt := 107) (sx_di dX12_number 49 rfl) (by decide) (fun h90 => ?_) (fun h90 => ?_)
    · rw [if_neg (in_ye h90)] at h
      refine V_iload_n (i := 3) (sx_di dX12_number 58 rfl) rfl rfl ?_
      refine V_iret (sx_di dX12_number 59 rfl) rfl (Nat.le_refl _) (Nat.le_refl _) ?_
      exact h v w2 (fun _ => ⟨H2, rfl⟩) (fun z => absurd rfl z) f2 s2
    · rw [if_pos (in_no h90)] at h
      refine V_aload_n (i := 0) (sx_di dX12_number 50 rfl) rfl rfl ?_
      refine V_dup (sx_di dX12_number 51 rfl) rfl ?_
      refine V_getI (sx_di dX12_number 52 rfl) fX12_109 (fun _ => rfl) (by first | exact H2.1.k _ rfl | exact H3.1.k _ rfl | exact H4.1.k _ rfl) ?_
      refine V_iv (y := nI q) (H2.2.2.2.1) ?_
      refine V_iconst (v := 1) (sx_di dX12_number 53 rfl) (by decide) ?_
      refine V_isub (sx_di dX12_number 54 rfl) ?_
      refine V_iv (y := nI (q - 1)) (pk_sub hq) ?_
      refine V_putI (sx_di dX12_number 55 rfl) fX12_109 (fun _ => rfl) rfl (by first | exact H2.1.k _ rfl | exact H3.1.k _ rfl | exact H4.1.k _ rfl) (rfl) (rfl) ?_
      have H3 := qP_at (q := q - 1) H2
      refine V_aload_n (i := 0) (sx_di dX12_number 56 rfl) rfl rfl ?_
      refine V_cV0 (mc' := 0) (ms' := 0) (M' := mX12_bad) 1 (sx_di dX12_number 57 rfl) lX12_125 vX12_bad (by first | exact H2.1.k _ rfl | exact H3.1.k _ rfl | exact H4.1.k _ rfl) (by decide) rfl (Nat.le_of_ble_eq_true rfl) ⟨Nat.le_of_ble_eq_true rfl, Nat.le_of_ble_eq_true rfl⟩ ⟨Nat.le_refl _, Nat.le_refl _⟩ ?_
      refine c_badS H3 (fun w4 H4 f4 s4 => ?_)
      refine V_iload_n (i := 3) (sx_di dX12_number 58 rfl) rfl rfl ?_
      refine V_iret (sx_di dX12_number 59 rfl) rfl (Nat.le_refl _) (Nat.le_refl _) ?_
      exact h v w4 (fun z => absurd z Bool.false_ne_true) (fun _ => H4) (fT9_tr f2 (fT9_tr (fT9_si (Or.inl rfl)) f4)) (s4.trans (RS_s1.trans s2))
  refine C_of (by decide +kernel) (Nat.le_of_ble_eq_true rfl) ?_
  refine V_aload_n (i := 0) (sx_di dX12_number 0 rfl) rfl rfl ?_
  refine V_cV0 (mc' := 0) (ms' := 0) (M' := mX12_look) 2 (sx_di dX12_number 1 rfl) lX12_128 vX12_look (by first | exact H.1.k _ rfl | exact H1.1.k _ rfl | exact H2.1.k _ rfl | exact H3.1.k _ rfl | exact H4.1.k _ rfl | exact H5.1.k _ rfl) (by decide) rfl (Nat.le_of_ble_eq_true rfl) ⟨Nat.le_of_ble_eq_true rfl, Nat.le_of_ble_eq_true rfl⟩ ⟨Nat.le_refl _, Nat.le_refl _⟩ ?_
  refine c_lookS H hp (fun w1 H1 f1 s1 => ?_)
  refine V_cS1 (mc' := 0) (ms' := 0) (M' := mX12_isDigit) 1 (sx_di dX12_number 2 rfl) lX12_131 vX12_isDigit (Nat.le_of_ble_eq_true rfl) ⟨Nat.le_of_ble_eq_true rfl, Nat.le_of_ble_eq_true rfl⟩ ⟨Nat.le_refl _, Nat.le_refl _⟩ ?_
  refine c_isDig9 ?_
  refine V_if_ne (tgt := 16) (sx_di dX12_number 3 rfl) (by decide) (fun h7 => ?_) (fun h7 => ?_)
  · have d1 := isD_t h7
    have hq1 : (skp_ T p) + 1 ≤ T.length := (dg_tc.mp d1).1
    refine V_aload_n (i := 0) (sx_di dX12_number 8 rfl) rfl rfl ?_
    refine V_cV0 (mc' := 0) (ms' := 0) (M' := mX12_here) 1 (sx_di dX12_number 9 rfl) lX12_112 vX12_here (by first | exact H.1.k _ rfl | exact H1.1.k _ rfl | exact H2.1.k _ rfl | exact H3.1.k _ rfl | exact H4.1.k _ rfl | exact H5.1.k _ rfl) (by decide) rfl (Nat.le_of_ble_eq_true rfl) ⟨Nat.le_of_ble_eq_true rfl, Nat.le_of_ble_eq_true rfl⟩ ⟨Nat.le_refl _, Nat.le_refl _⟩ ?_
    refine c_hereS H1 g2 ?_
    refine V_bipush (v := 48) (sx_di dX12_number 10 rfl) (by decide) ?_
    refine V_isub (sx_di dX12_number 11 rfl) ?_
    refine V_istore_n (i := 3) (sx_di dX12_number 12 rfl) rfl (by decide) (rfl) ?_
    refine V_aload_n (i := 0) (sx_di dX12_number 13 rfl) rfl rfl ?_
    refine V_dup (sx_di dX12_number 14 rfl) rfl ?_
    refine V_getI (sx_di dX12_number 15 rfl) fX12_109 (fun _ => rfl) (by first | exact H.1.k _ rfl | exact H1.1.k _ rfl | exact H2.1.k _ rfl | exact H3.1.k _ rfl | exact H4.1.k _ rfl | exact H5.1.k _ rfl) ?_
    refine V_iconst (v := 1) (sx_di dX12_number 16 rfl) (by decide) ?_
    refine V_iadd (sx_di dX12_number 17 rfl) ?_
    refine V_putI (sx_di dX12_number 18 rfl) fX12_109 (fun _ => rfl) rfl (by first | exact H.1.k _ rfl | exact H1.1.k _ rfl | exact H2.1.k _ rfl | exact H3.1.k _ rfl | exact H4.1.k _ rfl | exact H5.1.k _ rfl) (rfl) (rfl) ?_
    refine V_atS H1 (fun w2 H2 f2 s2 => ?_)
    refine V_aload_n (i := 0) (sx_di dX12_number 19 rfl) rfl rfl ?_
    refine V_cV0 (mc' := 0) (ms' := 0) (M' := mX12_here) 1 (sx_di dX12_number 20 rfl) lX12_112 vX12_here (by first | exact H.1.k _ rfl | exact H1.1.k _ rfl | exact H2.1.k _ rfl | exact H3.1.k _ rfl | exact H4.1.k _ rfl | exact H5.1.k _ rfl) (by decide) rfl (Nat.le_of_ble_eq_true rfl) ⟨Nat.le_of_ble_eq_true rfl, Nat.le_of_ble_eq_true rfl⟩ ⟨Nat.le_refl _, Nat.le_refl _⟩ ?_
    refine c_hereS H2 hq1 ?_
    refine V_cS1 (mc' := 0) (ms' := 0) (M' := mX12_isDigit) 1 (sx_di dX12_number 21 rfl) lX12_131 vX12_isDigit (Nat.le_of_ble_eq_true rfl) ⟨Nat.le_of_ble_eq_true rfl, Nat.le_of_ble_eq_true rfl⟩ ⟨Nat.le_refl _, Nat.le_refl _⟩ ?_
    refine c_isDig9 ?_
    refine V_if_eq (tgt := 67) (sx_di dX12_number 22 rfl) (by decide) (fun h41 => ?_) (fun h41 => ?_)
    · have d2 := isD_f h41
      refine V_aload_n (i := 0) (sx_di dX12_number 38 rfl) rfl rfl ?_
      refine V_cV0 (mc' := 0) (ms' := 0) (M' := mX12_here) 1 (sx_di dX12_number 39 rfl) lX12_112 vX12_here (by first | exact H.1.k _ rfl | exact H1.1.k _ rfl | exact H2.1.k _ rfl | exact H3.1.k _ rfl | exact H4.1.k _ rfl | exact H5.1.k _ rfl) (by decide) rfl (Nat.le_of_ble_eq_true rfl) ⟨Nat.le_of_ble_eq_true rfl, Nat.le_of_ble_eq_true rfl⟩ ⟨Nat.le_refl _, Nat.le_refl _⟩ ?_
      refine c_hereS H2 hq1 ?_
      refine V_cS1 (mc' := 0) (ms' := 0) (M' := mX12_isDigit) 1 (sx_di dX12_number 40 rfl) lX12_131 vX12_isDigit (Nat.le_of_ble_eq_true rfl) ⟨Nat.le_of_ble_eq_true rfl, Nat.le_of_ble_eq_true rfl⟩ ⟨Nat.le_refl _, Nat.le_refl _⟩ ?_
      refine c_isDig9 ?_
      refine V_if_eq (tgt := 84) (sx_di dX12_number 41 rfl) (by decide) (fun h74 => ?_) (fun h74 => ?_)
      · refine V_sub (ls' := [(3, .int (tc_ T (skp_ T p) - 48)), (2, .int (it_hi j)), (1, .int (it_lo j)), (0, .ref 381)]) ⟨rfl, rfl, rfl, rfl, trivial⟩ ?_
        exact tl _ ((skp_ T p) + 1) w2 H2 (by omega) (fT9_tr f1 f2) (s2.trans s1) (rn2_0 d1 d2)
      · exact absurd (isD_t h74) d2
    · have d2 := isD_t h41
      have hq2 : (skp_ T p) + 1 + 1 ≤ T.length := (dg_tc.mp d2).1
      refine V_bipush (v := 10) (sx_di dX12_number 23 rfl) (by decide) ?_
      refine V_iload_n (i := 3) (sx_di dX12_number 24 rfl) rfl rfl ?_
      refine V_imul (sx_di dX12_number 25 rfl) ?_
      refine V_aload_n (i := 0) (sx_di dX12_number 26 rfl) rfl rfl ?_
      refine V_cV0 (mc' := 0) (ms' := 0) (M' := mX12_here) 1 (sx_di dX12_number 27 rfl) lX12_112 vX12_here (by first | exact H.1.k _ rfl | exact H1.1.k _ rfl | exact H2.1.k _ rfl | exact H3.1.k _ rfl | exact H4.1.k _ rfl | exact H5.1.k _ rfl) (by decide) rfl (Nat.le_of_ble_eq_true rfl) ⟨Nat.le_of_ble_eq_true rfl, Nat.le_of_ble_eq_true rfl⟩ ⟨Nat.le_refl _, Nat.le_refl _⟩ ?_
      refine c_hereS H2 hq1 ?_
      refine V_iadd (sx_di dX12_number 28 rfl) ?_
      refine V_bipush (v := 48) (sx_di dX12_number 29 rfl) (by decide) ?_
      refine V_isub (sx_di dX12_number 30 rfl) ?_
      refine V_istore_n (i := 3) (sx_di dX12_number 31 rfl) rfl (by decide) (rfl) ?_
      refine V_aload_n (i := 0) (sx_di dX12_number 32 rfl) rfl rfl ?_
      refine V_dup (sx_di dX12_number 33 rfl) rfl ?_
      refine V_getI (sx_di dX12_number 34 rfl) fX12_109 (fun _ => rfl) (by first | exact H.1.k _ rfl | exact H1.1.k _ rfl | exact H2.1.k _ rfl | exact H3.1.k _ rfl | exact H4.1.k _ rfl | exact H5.1.k _ rfl) ?_
      refine V_iconst (v := 1) (sx_di dX12_number 35 rfl) (by decide) ?_
      refine V_iadd (sx_di dX12_number 36 rfl) ?_
      refine V_putI (sx_di dX12_number 37 rfl) fX12_109 (fun _ => rfl) rfl (by first | exact H.1.k _ rfl | exact H1.1.k _ rfl | exact H2.1.k _ rfl | exact H3.1.k _ rfl | exact H4.1.k _ rfl | exact H5.1.k _ rfl) (rfl) (rfl) ?_
      refine V_atS H2 (fun w3 H3 f3 s3 => ?_)
      refine V_aload_n (i := 0) (sx_di dX12_number 38 rfl) rfl rfl ?_
      refine V_cV0 (mc' := 0) (ms' := 0) (M' := mX12_here) 1 (sx_di dX12_number 39 rfl) lX12_112 vX12_here (by first | exact H.1.k _ rfl | exact H1.1.k _ rfl | exact H2.1.k _ rfl | exact H3.1.k _ rfl | exact H4.1.k _ rfl | exact H5.1.k _ rfl) (by decide) rfl (Nat.le_of_ble_eq_true rfl) ⟨Nat.le_of_ble_eq_true rfl, Nat.le_of_ble_eq_true rfl⟩ ⟨Nat.le_refl _, Nat.le_refl _⟩ ?_
      refine c_hereS H3 hq2 ?_
      refine V_cS1 (mc' := 0) (ms' := 0) (M' := mX12_isDigit) 1 (sx_di dX12_number 40 rfl) lX12_131 vX12_isDigit (Nat.le_of_ble_eq_true rfl) ⟨Nat.le_of_ble_eq_true rfl, Nat.le_of_ble_eq_true rfl⟩ ⟨Nat.le_refl _, Nat.le_refl _⟩ ?_
      refine c_isDig9 ?_
      refine V_if_eq (tgt := 84) (sx_di dX12_number 41 rfl) (by decide) (fun h74 => ?_) (fun h74 => ?_)
      · have d3 := isD_f h74
        refine V_sub (ls' := [(3, .int (10 * (tc_ T (skp_ T p) - 48) + tc_ T ((skp_ T p) + 1) - 48)), (2, .int (it_hi j)), (1, .int (it_lo j)), (0, .ref 381)]) ⟨rfl, rfl, rfl, rfl, trivial⟩ ?_
        exact tl _ ((skp_ T p) + 1 + 1) w3 H3 (by omega) (fT9_tr f1 (fT9_tr f2 f3)) (s3.trans (s2.trans s1)) (rn2_1 d1 d2 d3)
      · have d3 := isD_t h74
        obtain ⟨r1, r2⟩ := rn2_2 d1 d2 d3
        unfold nb9_ at h
        rw [if_neg (show ¬ (rn_ T 2 (skp_ T p)).1 = true by rw [r1]; exact Bool.false_ne_true), r2] at h
        refine V_aload_n (i := 0) (sx_di dX12_number 42 rfl) rfl rfl ?_
        refine V_cV0 (mc' := 0) (ms' := 0) (M' := mX12_bad) 1 (sx_di dX12_number 43 rfl) lX12_125 vX12_bad (by first | exact H.1.k _ rfl | exact H1.1.k _ rfl | exact H2.1.k _ rfl | exact H3.1.k _ rfl | exact H4.1.k _ rfl | exact H5.1.k _ rfl) (by decide) rfl (Nat.le_of_ble_eq_true rfl) ⟨Nat.le_of_ble_eq_true rfl, Nat.le_of_ble_eq_true rfl⟩ ⟨Nat.le_refl _, Nat.le_refl _⟩ ?_
        refine c_badS H3 (fun w4 H4 f4 s4 => ?_)
        refine V_goto (tgt := 107) (sx_di dX12_number 44 rfl) (by decide) ?_
        refine V_iload_n (i := 3) (sx_di dX12_number 58 rfl) rfl rfl ?_
        refine V_iret (sx_di dX12_number 59 rfl) rfl (Nat.le_refl _) (Nat.le_refl _) ?_
        exact h _ w4 (fun z => absurd z Bool.false_ne_true) (fun _ => H4) (fT9_tr f1 (fT9_tr f2 (fT9_tr f3 f4))) (s4.trans (s3.trans (s2.trans s1)))
  · have d1 := isD_f h7
    unfold nb9_ at h
    rw [rn_no2 d1, if_neg (show ¬ (false, (skp_ T p), (0 : Int32)).1 = true from Bool.false_ne_true)] at h
    refine V_aload_n (i := 0) (sx_di dX12_number 4 rfl) rfl rfl ?_
    refine V_cV0 (mc' := 0) (ms' := 0) (M' := mX12_bad) 1 (sx_di dX12_number 5 rfl) lX12_125 vX12_bad (by first | exact H.1.k _ rfl | exact H1.1.k _ rfl | exact H2.1.k _ rfl | exact H3.1.k _ rfl | exact H4.1.k _ rfl | exact H5.1.k _ rfl) (by decide) rfl (Nat.le_of_ble_eq_true rfl) ⟨Nat.le_of_ble_eq_true rfl, Nat.le_of_ble_eq_true rfl⟩ ⟨Nat.le_refl _, Nat.le_refl _⟩ ?_
    refine c_badS H1 (fun w2 H2 f2 s2 => ?_)
    refine V_iload_n (i := 1) (sx_di dX12_number 6 rfl) rfl rfl ?_
    refine V_iret (sx_di dX12_number 7 rfl) rfl (Nat.le_refl _) (Nat.le_refl _) ?_
    exact h _ w2 (fun z => absurd z Bool.false_ne_true) (fun _ => H2) (fT9_tr f1 f2) (s2.trans s1)

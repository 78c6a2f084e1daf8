/-! a law's sums and conditions, as the class reckons them -/
def jb_ (r : Int64) : Int32 := if 1000000 < r then 1000000 else if r < -1000000 then -1000000 else r.toInt32
def ja_ (s a b : Int32) : Int64 := if s = 43 then (a + b).toInt64 else if s = 45 then (a - b).toInt64 else if s = 42 then a.toInt64 * b.toInt64 else if b = 0 then 0 else (a / b).toInt64
def jn_ (s a b : Int32) : Int32 := if s = 38 then a &&& b else if s = 60 then (if a < b then 1 else 0) else if s = 61 then (if a = b then 1 else 0) else if s = 62 then (if b < a then 1 else 0) else if s = 124 then a ||| b else jb_ (ja_ s a b)
theorem cm_le (x y : Int64) : lg_cmp x y ≤ 0 ↔ ¬ y < x := by
  unfold lg_cmp
  by_cases h : x > y
  · rw [if_pos h]
    exact ⟨fun q => absurd q (by decide), fun q => absurd h q⟩
  · rw [if_neg h]
    refine ⟨fun _ => h, fun _ => ?_⟩
    by_cases h2 : x = y
    · rw [if_pos h2]; decide
    · rw [if_neg h2]; decide
theorem cm_ge (x y : Int64) : 0 ≤ lg_cmp x y ↔ ¬ x < y := by rw [lg_cmp_ge]; exact Int64.not_lt.symm
theorem rk_ix {c : Int32} (h1 : ¬ c < -6) (h2 : c < 0) : vp_in (-1 - c) 6 := by
  rw [vp_in_iff]
  rw [Int32.lt_iff_toInt_lt] at h1 h2
  have e6 : (-6 : Int32).toInt = -6 := by decide
  have e0 : (0 : Int32).toInt = 0 := by decide
  have em : (-1 : Int32).toInt = -1 := by decide
  rw [e6] at h1
  rw [e0] at h2
  have e : (-1 - c).toInt = -1 - c.toInt := by
    rw [Int32.toInt_sub, em]
    exact Int.bmod_eq_of_le (by omega) (by omega)
  omega
set_option maxHeartbeats 2000000 in
set_option maxRecDepth 20000 in
theorem jn_end {E : sxE} {w : hpW} {Q : Option Value → hpW → Prop} {r : Int64} (h : Q (some (.int (jb_ r))) w) : V E mX1_joined (sx_rm 1 0 0) 0 0 0 0 147 [(3, .long r)] [] w Q := by
  refine V_lload_n (i := 3) (sx_di dX1_joined 68 rfl) rfl rfl ?_
  refine V_ldc2 (sx_di dX1_joined 69 rfl) kX1_47 ?_
  refine V_lcmp (sx_di dX1_joined 70 rfl) ?_
  refine V_if_le (tgt := 158) (sx_di dX1_joined 71 rfl) (by decide) (fun h152 => ?_) (fun h152 => ?_)
  · rw [cm_le] at h152
    refine V_lload_n (i := 3) (sx_di dX1_joined 74 rfl) rfl rfl ?_
    refine V_ldc2 (sx_di dX1_joined 75 rfl) kX1_50 ?_
    refine V_lcmp (sx_di dX1_joined 76 rfl) ?_
    refine V_if_ge (tgt := 171) (sx_di dX1_joined 77 rfl) (by decide) (fun h163 => ?_) (fun h163 => ?_)
    · rw [cm_ge] at h163
      refine V_lload_n (i := 3) (sx_di dX1_joined 80 rfl) rfl rfl ?_
      refine V_l2i (sx_di dX1_joined 81 rfl) ?_
      refine V_iret (sx_di dX1_joined 82 rfl) rfl (Nat.le_refl _) (Nat.le_refl _) ?_
      first | (rw [jb_, if_neg h152, if_neg h163] at h; exact h) | (rw [jb_, if_neg h152, if_pos h163] at h; exact h)
    · rw [cm_ge, Classical.not_not] at h163
      refine V_ldc (sx_di dX1_joined 78 rfl) kX1_52 ?_
      refine V_goto (tgt := 173) (sx_di dX1_joined 79 rfl) (by decide) ?_
      refine V_iret (sx_di dX1_joined 82 rfl) rfl (Nat.le_refl _) (Nat.le_refl _) ?_
      first | (rw [jb_, if_neg h152, if_neg h163] at h; exact h) | (rw [jb_, if_neg h152, if_pos h163] at h; exact h)
  · rw [cm_le, Classical.not_not] at h152
    refine V_ldc (sx_di dX1_joined 72 rfl) kX1_49 ?_
    refine V_iret (sx_di dX1_joined 73 rfl) rfl (Nat.le_refl _) (Nat.le_refl _) ?_
    rw [jb_, if_pos h152] at h
    exact h
set_option maxHeartbeats 2000000 in
set_option maxRecDepth 20000 in
theorem c_X1_joined {E : sxE} {w : hpW} {Q : Option Value → hpW → Prop} {s a b : Int32} (h : Q (some (.int (jn_ s a b))) w) : sx_C E mX1_joined 1 0 0 [.int s, .int a, .int b] w Q := by
  refine C_of (by decide +kernel) (Nat.le_of_ble_eq_true rfl) ?_
  refine V_iload_n (i := 0) (sx_di dX1_joined 0 rfl) rfl rfl ?_
  refine V_top (fun x1 ex1 => ?_)
  by_cases hx1_0 : x1 = 38
  · refine V_lookup (off := 84) (tgt := 85) (sx_di dX1_joined 1 rfl) rfl (by rw [hx1_0]; decide) (by decide) ?_
    rw [hx1_0] at ex1
    refine V_iload_n (i := 1) (sx_di dX1_joined 23 rfl) rfl rfl ?_
    refine V_iload_n (i := 2) (sx_di dX1_joined 24 rfl) rfl rfl ?_
    refine V_iand (sx_di dX1_joined 25 rfl) ?_
    refine V_iret (sx_di dX1_joined 26 rfl) rfl (Nat.le_refl _) (Nat.le_refl _) ?_
    subst ex1
    exact h
  · skip
    by_cases hx1_1 : x1 = 60
    · refine V_lookup (off := 62) (tgt := 63) (sx_di dX1_joined 1 rfl) rfl (by rw [hx1_1]; decide) (by decide) ?_
      rw [hx1_1] at ex1
      refine V_iload_n (i := 1) (sx_di dX1_joined 9 rfl) rfl rfl ?_
      refine V_iload_n (i := 2) (sx_di dX1_joined 10 rfl) rfl rfl ?_
      refine V_icmp_ge (tgt := 72) (sx_di dX1_joined 11 rfl) (by decide) (fun h65 => ?_) (fun h65 => ?_)
      · refine V_iconst (v := 0) (sx_di dX1_joined 14 rfl) (by decide) ?_
        refine V_iret (sx_di dX1_joined 15 rfl) rfl (Nat.le_refl _) (Nat.le_refl _) ?_
        subst ex1
        rw [show jn_ 60 a b = (if a < b then 1 else 0) from rfl] at h
        first | (rw [if_pos (Int32.not_le.mp h65)] at h; exact h) | (rw [if_neg (Int32.not_lt.mpr h65)] at h; exact h)
      · refine V_iconst (v := 1) (sx_di dX1_joined 12 rfl) (by decide) ?_
        refine V_goto (tgt := 73) (sx_di dX1_joined 13 rfl) (by decide) ?_
        refine V_iret (sx_di dX1_joined 15 rfl) rfl (Nat.le_refl _) (Nat.le_refl _) ?_
        subst ex1
        rw [show jn_ 60 a b = (if a < b then 1 else 0) from rfl] at h
        first | (rw [if_pos (Int32.not_le.mp h65)] at h; exact h) | (rw [if_neg (Int32.not_lt.mpr h65)] at h; exact h)
    · skip
      by_cases hx1_2 : x1 = 61
      · refine V_lookup (off := 51) (tgt := 52) (sx_di dX1_joined 1 rfl) rfl (by rw [hx1_2]; decide) (by decide) ?_
        rw [hx1_2] at ex1
        refine V_iload_n (i := 1) (sx_di dX1_joined 2 rfl) rfl rfl ?_
        refine V_iload_n (i := 2) (sx_di dX1_joined 3 rfl) rfl rfl ?_
        refine V_icmp_ne (tgt := 61) (sx_di dX1_joined 4 rfl) (by decide) (fun h54 => ?_) (fun h54 => ?_)
        · refine V_iconst (v := 0) (sx_di dX1_joined 7 rfl) (by decide) ?_
          refine V_iret (sx_di dX1_joined 8 rfl) rfl (Nat.le_refl _) (Nat.le_refl _) ?_
          subst ex1
          rw [show jn_ 61 a b = (if a = b then 1 else 0) from rfl] at h
          first | (rw [if_pos h54] at h; exact h) | (rw [if_neg h54] at h; exact h)
        · refine V_iconst (v := 1) (sx_di dX1_joined 5 rfl) (by decide) ?_
          refine V_goto (tgt := 62) (sx_di dX1_joined 6 rfl) (by decide) ?_
          refine V_iret (sx_di dX1_joined 8 rfl) rfl (Nat.le_refl _) (Nat.le_refl _) ?_
          subst ex1
          rw [show jn_ 61 a b = (if a = b then 1 else 0) from rfl] at h
          first | (rw [if_pos h54] at h; exact h) | (rw [if_neg h54] at h; exact h)
      · skip
        by_cases hx1_3 : x1 = 62
        · refine V_lookup (off := 73) (tgt := 74) (sx_di dX1_joined 1 rfl) rfl (by rw [hx1_3]; decide) (by decide) ?_
          rw [hx1_3] at ex1
          refine V_iload_n (i := 1) (sx_di dX1_joined 16 rfl) rfl rfl ?_
          refine V_iload_n (i := 2) (sx_di dX1_joined 17 rfl) rfl rfl ?_
          refine V_icmp_le (tgt := 83) (sx_di dX1_joined 18 rfl) (by decide) (fun h76 => ?_) (fun h76 => ?_)
          · refine V_iconst (v := 0) (sx_di dX1_joined 21 rfl) (by decide) ?_
            refine V_iret (sx_di dX1_joined 22 rfl) rfl (Nat.le_refl _) (Nat.le_refl _) ?_
            subst ex1
            rw [show jn_ 62 a b = (if b < a then 1 else 0) from rfl] at h
            first | (rw [if_pos (Int32.not_le.mp h76)] at h; exact h) | (rw [if_neg (Int32.not_lt.mpr h76)] at h; exact h)
          · refine V_iconst (v := 1) (sx_di dX1_joined 19 rfl) (by decide) ?_
            refine V_goto (tgt := 84) (sx_di dX1_joined 20 rfl) (by decide) ?_
            refine V_iret (sx_di dX1_joined 22 rfl) rfl (Nat.le_refl _) (Nat.le_refl _) ?_
            subst ex1
            rw [show jn_ 62 a b = (if b < a then 1 else 0) from rfl] at h
            first | (rw [if_pos (Int32.not_le.mp h76)] at h; exact h) | (rw [if_neg (Int32.not_lt.mpr h76)] at h; exact h)
        · skip
          by_cases hx1_4 : x1 = 124
          · refine V_lookup (off := 88) (tgt := 89) (sx_di dX1_joined 1 rfl) rfl (by rw [hx1_4]; decide) (by decide) ?_
            rw [hx1_4] at ex1
            refine V_iload_n (i := 1) (sx_di dX1_joined 27 rfl) rfl rfl ?_
            refine V_iload_n (i := 2) (sx_di dX1_joined 28 rfl) rfl rfl ?_
            refine V_ior (sx_di dX1_joined 29 rfl) ?_
            refine V_iret (sx_di dX1_joined 30 rfl) rfl (Nat.le_refl _) (Nat.le_refl _) ?_
            subst ex1
            exact h
          · skip
            refine V_lookup (off := 92) (tgt := 93) (sx_di dX1_joined 1 rfl) rfl (by show Op.lookupswitch.offset [(38, 84), (60, 62), (61, 51), (62, 73), (124, 88)] 92 x1.toInt = _; rw [lv_osw (a := 38) hx1_0 (by decide), lv_osw (a := 60) hx1_1 (by decide), lv_osw (a := 61) hx1_2 (by decide), lv_osw (a := 62) hx1_3 (by decide), lv_osw (a := 124) hx1_4 (by decide)]; rfl) (by decide) ?_
            refine V_lconst (v := 0) (sx_di dX1_joined 31 rfl) (by decide) ?_
            refine V_lstore_n (i := 3) (sx_di dX1_joined 32 rfl) rfl (by decide) (rfl) ?_
            refine V_iload_n (i := 0) (sx_di dX1_joined 33 rfl) rfl rfl ?_
            refine V_bipush (v := 43) (sx_di dX1_joined 34 rfl) (by decide) ?_
            refine V_icmp_ne (tgt := 109) (sx_di dX1_joined 35 rfl) (by decide) (fun h98 => ?_) (fun h98 => ?_)
            · refine V_iload_n (i := 0) (sx_di dX1_joined 42 rfl) rfl rfl ?_
              refine V_bipush (v := 45) (sx_di dX1_joined 43 rfl) (by decide) ?_
              refine V_icmp_ne (tgt := 123) (sx_di dX1_joined 44 rfl) (by decide) (fun h112 => ?_) (fun h112 => ?_)
              · refine V_iload_n (i := 0) (sx_di dX1_joined 51 rfl) rfl rfl ?_
                refine V_bipush (v := 42) (sx_di dX1_joined 52 rfl) (by decide) ?_
                refine V_icmp_ne (tgt := 138) (sx_di dX1_joined 53 rfl) (by decide) (fun h126 => ?_) (fun h126 => ?_)
                · refine V_iload_n (i := 2) (sx_di dX1_joined 61 rfl) rfl rfl ?_
                  refine V_if_eq (tgt := 147) (sx_di dX1_joined 62 rfl) (by decide) (fun h139 => ?_) (fun h139 => ?_)
                  · rw [ex1] at hx1_0 hx1_1 hx1_2 hx1_3 hx1_4
                    rw [jn_, if_neg hx1_0, if_neg hx1_1, if_neg hx1_2, if_neg hx1_3, if_neg hx1_4, ja_] at h
                    first | (rw [if_pos h98] at h; exact V_subk (jn_end h) ⟨rfl, trivial⟩) | (rw [if_neg h98, if_pos h112] at h; exact V_subk (jn_end h) ⟨rfl, trivial⟩) | (rw [if_neg h98, if_neg h112, if_pos h126] at h; exact V_subk (jn_end h) ⟨rfl, trivial⟩) | (rw [if_neg h98, if_neg h112, if_neg h126, if_pos h139] at h; exact V_subk (jn_end h) ⟨rfl, trivial⟩) | (rw [if_neg h98, if_neg h112, if_neg h126, if_neg h139] at h; exact V_subk (jn_end h) ⟨rfl, trivial⟩)
                  · refine V_iload_n (i := 1) (sx_di dX1_joined 63 rfl) rfl rfl ?_
                    refine V_iload_n (i := 2) (sx_di dX1_joined 64 rfl) rfl rfl ?_
                    refine V_idiv (sx_di dX1_joined 65 rfl) (h139) ?_
                    refine V_i2l (sx_di dX1_joined 66 rfl) ?_
                    refine V_lstore_n (i := 3) (sx_di dX1_joined 67 rfl) rfl (by decide) (rfl) ?_
                    rw [ex1] at hx1_0 hx1_1 hx1_2 hx1_3 hx1_4
                    rw [jn_, if_neg hx1_0, if_neg hx1_1, if_neg hx1_2, if_neg hx1_3, if_neg hx1_4, ja_] at h
                    first | (rw [if_pos h98] at h; exact V_subk (jn_end h) ⟨rfl, trivial⟩) | (rw [if_neg h98, if_pos h112] at h; exact V_subk (jn_end h) ⟨rfl, trivial⟩) | (rw [if_neg h98, if_neg h112, if_pos h126] at h; exact V_subk (jn_end h) ⟨rfl, trivial⟩) | (rw [if_neg h98, if_neg h112, if_neg h126, if_pos h139] at h; exact V_subk (jn_end h) ⟨rfl, trivial⟩) | (rw [if_neg h98, if_neg h112, if_neg h126, if_neg h139] at h; exact V_subk (jn_end h) ⟨rfl, trivial⟩)
                · refine V_iload_n (i := 1) (sx_di dX1_joined 54 rfl) rfl rfl ?_
                  refine V_i2l (sx_di dX1_joined 55 rfl) ?_
                  refine V_iload_n (i := 2) (sx_di dX1_joined 56 rfl) rfl rfl ?_
                  refine V_i2l (sx_di dX1_joined 57 rfl) ?_
                  refine V_lmul (sx_di dX1_joined 58 rfl) ?_
                  refine V_lstore_n (i := 3) (sx_di dX1_joined 59 rfl) rfl (by decide) (rfl) ?_
                  refine V_goto (tgt := 147) (sx_di dX1_joined 60 rfl) (by decide) ?_
                  rw [ex1] at hx1_0 hx1_1 hx1_2 hx1_3 hx1_4
                  rw [jn_, if_neg hx1_0, if_neg hx1_1, if_neg hx1_2, if_neg hx1_3, if_neg hx1_4, ja_] at h
                  first | (rw [if_pos h98] at h; exact V_subk (jn_end h) ⟨rfl, trivial⟩) | (rw [if_neg h98, if_pos h112] at h; exact V_subk (jn_end h) ⟨rfl, trivial⟩) | (rw [if_neg h98, if_neg h112, if_pos h126] at h; exact V_subk (jn_end h) ⟨rfl, trivial⟩) | (rw [if_neg h98, if_neg h112, if_neg h126, if_pos h139] at h; exact V_subk (jn_end h) ⟨rfl, trivial⟩) | (rw [if_neg h98, if_neg h112, if_neg h126, if_neg h139] at h; exact V_subk (jn_end h) ⟨rfl, trivial⟩)
              · refine V_iload_n (i := 1) (sx_di dX1_joined 45 rfl) rfl rfl ?_
                refine V_iload_n (i := 2) (sx_di dX1_joined 46 rfl) rfl rfl ?_
                refine V_isub (sx_di dX1_joined 47 rfl) ?_
                refine V_i2l (sx_di dX1_joined 48 rfl) ?_
                refine V_lstore_n (i := 3) (sx_di dX1_joined 49 rfl) rfl (by decide) (rfl) ?_
                refine V_goto (tgt := 147) (sx_di dX1_joined 50 rfl) (by decide) ?_
                rw [ex1] at hx1_0 hx1_1 hx1_2 hx1_3 hx1_4
                rw [jn_, if_neg hx1_0, if_neg hx1_1, if_neg hx1_2, if_neg hx1_3, if_neg hx1_4, ja_] at h
                first | (rw [if_pos h98] at h; exact V_subk (jn_end h) ⟨rfl, trivial⟩) | (rw [if_neg h98, if_pos h112] at h; exact V_subk (jn_end h) ⟨rfl, trivial⟩) | (rw [if_neg h98, if_neg h112, if_pos h126] at h; exact V_subk (jn_end h) ⟨rfl, trivial⟩) | (rw [if_neg h98, if_neg h112, if_neg h126, if_pos h139] at h; exact V_subk (jn_end h) ⟨rfl, trivial⟩) | (rw [if_neg h98, if_neg h112, if_neg h126, if_neg h139] at h; exact V_subk (jn_end h) ⟨rfl, trivial⟩)
            · refine V_iload_n (i := 1) (sx_di dX1_joined 36 rfl) rfl rfl ?_
              refine V_iload_n (i := 2) (sx_di dX1_joined 37 rfl) rfl rfl ?_
              refine V_iadd (sx_di dX1_joined 38 rfl) ?_
              refine V_i2l (sx_di dX1_joined 39 rfl) ?_
              refine V_lstore_n (i := 3) (sx_di dX1_joined 40 rfl) rfl (by decide) (rfl) ?_
              refine V_goto (tgt := 147) (sx_di dX1_joined 41 rfl) (by decide) ?_
              rw [ex1] at hx1_0 hx1_1 hx1_2 hx1_3 hx1_4
              rw [jn_, if_neg hx1_0, if_neg hx1_1, if_neg hx1_2, if_neg hx1_3, if_neg hx1_4, ja_] at h
              first | (rw [if_pos h98] at h; exact V_subk (jn_end h) ⟨rfl, trivial⟩) | (rw [if_neg h98, if_pos h112] at h; exact V_subk (jn_end h) ⟨rfl, trivial⟩) | (rw [if_neg h98, if_neg h112, if_pos h126] at h; exact V_subk (jn_end h) ⟨rfl, trivial⟩) | (rw [if_neg h98, if_neg h112, if_neg h126, if_pos h139] at h; exact V_subk (jn_end h) ⟨rfl, trivial⟩) | (rw [if_neg h98, if_neg h112, if_neg h126, if_neg h139] at h; exact V_subk (jn_end h) ⟨rfl, trivial⟩)
/-- one sign of a law, on the stack (top first) -/
def rs_ (L : Nat → Int32) (st : List Int32) (c : Int32) : List Int32 :=
  if c < -6 then (if c = -33 then (match st with
      | x :: r => (1 - x) :: r
      | [] => [])
    else (match st with
      | b :: a :: r => jn_ (-c) a b :: r
      | s => s))
  else if st.length < 48 then (if c < 0 then L (-1 - c).toNatClampNeg else c) :: st else st
/-- n signs from place k on -/
def rk_ (C L : Nat → Int32) (k : Nat) : Nat → List Int32 → List Int32
  | 0, st => st
  | n + 1, st => if k < 240 then rk_ C L (k + 1) n (rs_ L st (C k)) else st
/-- the stack's cells hold st -/
def sk_ (I : Nat → Int32) (st : List Int32) : Prop := st.length ≤ 48 ∧ ∀ j, j < st.length → I j = st.getD (st.length - 1 - j) 0
theorem sk_push {I : Nat → Int32} {st : List Int32} {x : Int32} (h : sk_ I st) (hl : st.length < 48) {J : Nat → Int32} (h1 : J st.length = x) (h2 : ∀ j, j ≠ st.length → J j = I j) : sk_ J (x :: st) := by
  refine ⟨by simp; omega, fun j hj => ?_⟩
  by_cases e : j = st.length
  · subst e
    rw [h1]; simp
  · have hj2 : j < st.length := by simp at hj; omega
    rw [h2 j e, h.2 j hj2]
    rw [show (x :: st).length - 1 - j = (st.length - 1 - j) + 1 by simp; omega]
    simp
theorem sk_pop {I : Nat → Int32} {st : List Int32} {x : Int32} (h : sk_ I (x :: st)) : I st.length = x ∧ sk_ I st := by
  refine ⟨by rw [h.2 st.length (by simp)]; simp, by have := h.1; simp at this; omega, fun j hj => ?_⟩
  rw [h.2 j (by simp; omega)]
  rw [show (x :: st).length - 1 - j = (st.length - 1 - j) + 1 by simp; omega]
  simp
theorem sk_eq {I J : Nat → Int32} {st : List Int32} (h : sk_ I st) (he : ∀ j, j < st.length → J j = I j) : sk_ J st := ⟨h.1, fun j hj => by rw [he j hj]; exact h.2 j hj⟩
theorem rs_le (L : Nat → Int32) (st : List Int32) (c : Int32) (h : st.length ≤ 48) : (rs_ L st c).length ≤ 48 := by
  unfold rs_
  split
  · split
    · cases st <;> simp_all
    · match st, h with
      | [], h => simp
      | [x], h => simp
      | b :: a :: r, h => simp at h ⊢; omega
  · split
    · simp; omega
    · exact h
set_option maxHeartbeats 2000000 in
set_option maxRecDepth 20000 in
theorem rk_out {E : sxE} {w : hpW} {Q : Option Value → hpW → Prop} {a : Nat} (hs : is_Lw w a) (st : List Int32) (hk : sk_ (hp_i w (a + 5)) st) (h : Q (some (.int (st.headD 0))) w) : V E mX1_reckon (sx_rm 2 0 0) 0 0 0 0 150 [(3, .int (nI st.length)), (0, .ref a)] [] w Q := by
  have hl := hk.1
  refine V_iload_n (i := 3) (sx_di dX1_reckon 84 rfl) rfl rfl ?_
  refine V_if_le (tgt := 165) (sx_di dX1_reckon 85 rfl) (by decide) (fun h151 => ?_) (fun h151 => ?_)
  · have e0 : st = [] := by
      cases st with
      | nil => rfl
      | cons x r => exact absurd h151 (nI_nle (by simp) (by omega))
    subst e0
    refine V_iconst (v := 0) (sx_di dX1_reckon 93 rfl) (by decide) ?_
    refine V_iret (sx_di dX1_reckon 94 rfl) rfl (Nat.le_refl _) (Nat.le_refl _) ?_
    first | exact h | (rw [e1, nI_clamp (by simp at hl; omega), (sk_pop hk).1]; exact h)
  · obtain ⟨x, r, e0⟩ : ∃ x r, st = x :: r := by
      cases st with
      | nil => exact absurd (Int32.le_refl 0) h151
      | cons x r => exact ⟨x, r, rfl⟩
    subst e0
    have e1 : nI (x :: r).length - 1 = nI r.length := by rw [List.length_cons]; exact nI_pred _
    refine V_aload_n (i := 0) (sx_di dX1_reckon 86 rfl) rfl rfl ?_
    refine V_getR (sx_di dX1_reckon 87 rfl) fX1_24 (fun _ => rfl) (by first | exact hs.1 | exact hs.2.1 | exact hs.2.2.1 | exact hs.2.2.2.1 | exact hs.2.2.2.2.1 | exact hs.2.2.2.2.2.1) (by first | exact hs.2.2.2.2.2.2.1 | exact hs.2.2.2.2.2.2.2.1 | exact hs.2.2.2.2.2.2.2.2.1 | exact hs.2.2.2.2.2.2.2.2.2.1 | exact hs.2.2.2.2.2.2.2.2.2.2) ?_
    refine V_iload_n (i := 3) (sx_di dX1_reckon 88 rfl) rfl rfl ?_
    refine V_iconst (v := 1) (sx_di dX1_reckon 89 rfl) (by decide) ?_
    refine V_isub (sx_di dX1_reckon 90 rfl) ?_
    refine V_iald (sx_di dX1_reckon 91 rfl) (by first | exact hs.1 | exact hs.2.1 | exact hs.2.2.1 | exact hs.2.2.2.1 | exact hs.2.2.2.2.1 | exact hs.2.2.2.2.2.1) (by rw [e1]; exact vp_in_nI (by simp at hl; omega) (by decide)) ?_
    refine V_goto (tgt := 166) (sx_di dX1_reckon 92 rfl) (by decide) ?_
    refine V_iret (sx_di dX1_reckon 94 rfl) rfl (Nat.le_refl _) (Nat.le_refl _) ?_
    first | exact h | (rw [e1, nI_clamp (by simp at hl; omega), (sk_pop hk).1]; exact h)
theorem fr_w1 {w : hpW} {I : Nat → Nat → Int32} {a b : Nat} (h : fr_ w I (fun q => q = b)) (hne : a ≠ b) (k : Nat) : I a k = hp_i w a k := by rw [h a hne]
set_option maxHeartbeats 2000000 in
set_option maxRecDepth 20000 in
theorem rk_lp {E : sxE} {w : hpW} {Q : Option Value → hpW → Prop} {a k1 : Nat} {y : Int32} (hs : is_Lw w a) (hk1 : k1 < 2 ^ 31) (F : List Int32) (h : ∀ I, fr_ w I (fun b => b = a + 5) → Q (some (.int (F.headD 0))) (hp_wi w I)) : ∀ m k st I, k + m = k1 → fr_ w I (fun b => b = a + 5) → sk_ (I (a + 5)) st → rk_ (hp_i w (a + 1)) (hp_i w (a + 4)) k m st = F → V E mX1_reckon (sx_rm 2 0 0) 0 0 0 0 9 [(4, .int (nI k)), (3, .int (nI st.length)), (2, .int (nI k1)), (1, .int y), (0, .ref a)] [] (hp_wi w I) Q := by
  intro m
  induction m with
  | zero =>
    intro k st I hk hf hsk hF
    have e : k = k1 := by omega
    subst e
    have hF : st = F := hF
    subst hF
    refine V_iload (sx_di dX1_reckon 6 rfl) rfl ?_
    refine V_iload_n (i := 2) (sx_di dX1_reckon 7 rfl) rfl rfl ?_
    refine V_icmp_ge (tgt := 150) (sx_di dX1_reckon 8 rfl) (by decide) (fun _ => ?_) (fun h12 => absurd (Int32.le_refl _) h12)
    exact V_subk (rk_out (w := hp_wi w I) hs st hsk (h I hf)) ⟨rfl, rfl, trivial⟩
  | succ m ih =>
    intro k st I hk hf hsk hF
    have hl := hsk.1
    rw [rk_] at hF
    refine V_iload (sx_di dX1_reckon 6 rfl) rfl ?_
    refine V_iload_n (i := 2) (sx_di dX1_reckon 7 rfl) rfl rfl ?_
    refine V_icmp_ge (tgt := 150) (sx_di dX1_reckon 8 rfl) (by decide) (fun h12 => absurd h12 (fun z => absurd ((nI_leI (by omega) (by omega)).mp z) (by omega))) (fun _ => ?_)
    refine V_iload (sx_di dX1_reckon 9 rfl) rfl ?_
    refine V_sipush (v := 240) (sx_di dX1_reckon 10 rfl) (by decide) ?_
    refine V_icmp_ge (tgt := 150) (sx_di dX1_reckon 11 rfl) (by decide) (fun h20 => ?_) (fun h20 => ?_)
    · have k240 : ¬ k < 240 := fun z => absurd h20 (nI_ge z (by decide))
      rw [if_neg k240] at hF
      subst hF
      exact V_subk (rk_out (w := hp_wi w I) hs st hsk (h I hf)) ⟨rfl, rfl, trivial⟩
    · have k240 : k < 240 := by
        rcases Nat.lt_or_ge k 240 with z | z
        · exact z
        · exact absurd (nI_le z (by omega)) h20
      rw [if_pos k240] at hF
      refine V_aload_n (i := 0) (sx_di dX1_reckon 12 rfl) rfl rfl ?_
      refine V_getR (sx_di dX1_reckon 13 rfl) fX1_9 (fun _ => rfl) (by first | exact hs.1 | exact hs.2.1 | exact hs.2.2.1 | exact hs.2.2.2.1 | exact hs.2.2.2.2.1 | exact hs.2.2.2.2.2.1) (by first | exact hs.2.2.2.2.2.2.1 | exact hs.2.2.2.2.2.2.2.1 | exact hs.2.2.2.2.2.2.2.2.1 | exact hs.2.2.2.2.2.2.2.2.2.1 | exact hs.2.2.2.2.2.2.2.2.2.2) ?_
      refine V_iload (sx_di dX1_reckon 14 rfl) rfl ?_
      refine V_iald (sx_di dX1_reckon 15 rfl) (by first | exact hs.1 | exact hs.2.1 | exact hs.2.2.1 | exact hs.2.2.2.1 | exact hs.2.2.2.2.1 | exact hs.2.2.2.2.2.1) (vp_in_nI k240 (by decide)) ?_
      refine V_top (fun c ec => ?_)
      have hc : c = hp_i w (a + 1) k := by rw [ec, nI_clamp (by omega)]; exact fr_w1 hf (by omega) k
      clear ec
      rw [← hc] at hF
      refine V_istore (sx_di dX1_reckon 16 rfl) (by decide) (rfl) ?_
      refine V_iload (sx_di dX1_reckon 17 rfl) rfl ?_
      refine V_bipush (v := -6) (sx_di dX1_reckon 18 rfl) (by decide) ?_
      refine V_icmp_lt (tgt := 76) (sx_di dX1_reckon 19 rfl) (by decide) (fun h36 => ?_) (fun h36 => ?_)
      · unfold rs_ at hF
        rw [if_pos h36] at hF
        refine V_iload (sx_di dX1_reckon 39 rfl) rfl ?_
        refine V_bipush (v := -33) (sx_di dX1_reckon 40 rfl) (by decide) ?_
        refine V_icmp_ne (tgt := 108) (sx_di dX1_reckon 41 rfl) (by decide) (fun h80 => ?_) (fun h80 => ?_)
        · rw [if_neg h80] at hF
          refine V_iload_n (i := 3) (sx_di dX1_reckon 59 rfl) rfl rfl ?_
          refine V_iconst (v := 1) (sx_di dX1_reckon 60 rfl) (by decide) ?_
          refine V_icmp_le (tgt := 144) (sx_di dX1_reckon 61 rfl) (by decide) (fun h110 => ?_) (fun h110 => ?_)
          · have q1 := ih (k + 1) st I (by omega) hf hsk (by
              match st, h110, hl, hF with
              | [], _, _, hF => exact hF
              | [x], _, _, hF => exact hF
              | b :: a2 :: r, h110, hl, hF => exact absurd h110 (nI_ge (b := (b :: a2 :: r).length) (a := 1) (by simp) (by omega)))
            rw [← nI_1 k] at q1
            refine V_inc (c := 1) (sx_di dX1_reckon 82 rfl) (by decide) rfl (by decide) (rfl) ?_
            refine V_goto (tgt := 9) (sx_di dX1_reckon 83 rfl) (by decide) ?_
            exact V_subk q1 ⟨rfl, rfl, rfl, rfl, rfl, trivial⟩
          · obtain ⟨b, a2, r, e0⟩ : ∃ b a2 r, st = b :: a2 :: r := by
              match st, h110 with
              | [], h110 => exact absurd (by decide) h110
              | [x], h110 => exact absurd (Int32.le_refl 1) h110
              | b :: a2 :: r, _ => exact ⟨b, a2, r, rfl⟩
            subst e0
            have e1 : nI (b :: a2 :: r).length + -1 = nI (r.length + 1) := by rw [List.length_cons, List.length_cons]; exact pk_m1 _
            have e2 : nI (b :: a2 :: r).length + -1 - 1 = nI r.length := by rw [e1]; exact nI_pred _
            have hr48 : r.length + 1 < 48 := by simp at hl; omega
            have hp := sk_pop hsk
            have hp2 := sk_pop hp.2
            have q1 := ih (k + 1) (jn_ (-c) a2 b :: r) (hp_u I (a + 5) r.length (jn_ (-c) a2 b)) (by omega) (fr_si hf rfl) (sk_push hp2.2 (by omega) (hp_u_at _ _ _ _) (fun j hj => hp_u_nk _ _ (fun z => hj z.2))) hF
            rw [← nI_1 k, List.length_cons, ← e1] at q1
            have eh : hp_si (hp_wi w I) (a + 5) (nI (b :: a2 :: r).length + -1 - 1).toNatClampNeg (jn_ (-c) (hp_i (hp_wi w I) (a + 5) (nI (b :: a2 :: r).length + -1 - 1).toNatClampNeg) (hp_i (hp_wi w I) (a + 5) (nI (b :: a2 :: r).length + -1).toNatClampNeg)) = hp_wi w (hp_u I (a + 5) r.length (jn_ (-c) a2 b)) := by
              rw [e2, e1, nI_clamp (by omega), nI_clamp (by omega), hp_i_wi, hp2.1, show I (a + 5) (r.length + 1) = b from hp.1]
              rfl
            refine V_inc (c := -1) (sx_di dX1_reckon 62 rfl) (by decide) rfl (by decide) (rfl) ?_
            refine V_aload_n (i := 0) (sx_di dX1_reckon 63 rfl) rfl rfl ?_
            refine V_getR (sx_di dX1_reckon 64 rfl) fX1_24 (fun _ => rfl) (by first | exact hs.1 | exact hs.2.1 | exact hs.2.2.1 | exact hs.2.2.2.1 | exact hs.2.2.2.2.1 | exact hs.2.2.2.2.2.1) (by first | exact hs.2.2.2.2.2.2.1 | exact hs.2.2.2.2.2.2.2.1 | exact hs.2.2.2.2.2.2.2.2.1 | exact hs.2.2.2.2.2.2.2.2.2.1 | exact hs.2.2.2.2.2.2.2.2.2.2) ?_
            refine V_iload_n (i := 3) (sx_di dX1_reckon 65 rfl) rfl rfl ?_
            refine V_iconst (v := 1) (sx_di dX1_reckon 66 rfl) (by decide) ?_
            refine V_isub (sx_di dX1_reckon 67 rfl) ?_
            refine V_iload (sx_di dX1_reckon 68 rfl) rfl ?_
            refine V_ineg (sx_di dX1_reckon 69 rfl) ?_
            refine V_aload_n (i := 0) (sx_di dX1_reckon 70 rfl) rfl rfl ?_
            refine V_getR (sx_di dX1_reckon 71 rfl) fX1_24 (fun _ => rfl) (by first | exact hs.1 | exact hs.2.1 | exact hs.2.2.1 | exact hs.2.2.2.1 | exact hs.2.2.2.2.1 | exact hs.2.2.2.2.2.1) (by first | exact hs.2.2.2.2.2.2.1 | exact hs.2.2.2.2.2.2.2.1 | exact hs.2.2.2.2.2.2.2.2.1 | exact hs.2.2.2.2.2.2.2.2.2.1 | exact hs.2.2.2.2.2.2.2.2.2.2) ?_
            refine V_iload_n (i := 3) (sx_di dX1_reckon 72 rfl) rfl rfl ?_
            refine V_iconst (v := 1) (sx_di dX1_reckon 73 rfl) (by decide) ?_
            refine V_isub (sx_di dX1_reckon 74 rfl) ?_
            refine V_iald (sx_di dX1_reckon 75 rfl) (by first | exact hs.1 | exact hs.2.1 | exact hs.2.2.1 | exact hs.2.2.2.1 | exact hs.2.2.2.2.1 | exact hs.2.2.2.2.2.1) (by rw [e2]; exact vp_in_nI (by omega) (by decide)) ?_
            refine V_aload_n (i := 0) (sx_di dX1_reckon 76 rfl) rfl rfl ?_
            refine V_getR (sx_di dX1_reckon 77 rfl) fX1_24 (fun _ => rfl) (by first | exact hs.1 | exact hs.2.1 | exact hs.2.2.1 | exact hs.2.2.2.1 | exact hs.2.2.2.2.1 | exact hs.2.2.2.2.2.1) (by first | exact hs.2.2.2.2.2.2.1 | exact hs.2.2.2.2.2.2.2.1 | exact hs.2.2.2.2.2.2.2.2.1 | exact hs.2.2.2.2.2.2.2.2.2.1 | exact hs.2.2.2.2.2.2.2.2.2.2) ?_
            refine V_iload_n (i := 3) (sx_di dX1_reckon 78 rfl) rfl rfl ?_
            refine V_iald (sx_di dX1_reckon 79 rfl) (by first | exact hs.1 | exact hs.2.1 | exact hs.2.2.1 | exact hs.2.2.2.1 | exact hs.2.2.2.2.1 | exact hs.2.2.2.2.2.1) (by rw [e1]; exact vp_in_nI hr48 (by decide)) ?_
            refine V_cS3 (mc' := 0) (ms' := 0) (M' := mX1_joined) 1 (sx_di dX1_reckon 80 rfl) lX1_43 vX1_joined (Nat.le_of_ble_eq_true rfl) ⟨Nat.le_of_ble_eq_true rfl, Nat.le_of_ble_eq_true rfl⟩ ⟨Nat.le_refl _, Nat.le_refl _⟩ ?_
            refine c_X1_joined ?_
            refine V_iast (sx_di dX1_reckon 81 rfl) (by first | exact hs.1 | exact hs.2.1 | exact hs.2.2.1 | exact hs.2.2.2.1 | exact hs.2.2.2.2.1 | exact hs.2.2.2.2.2.1) (by rw [e2]; exact vp_in_nI (by omega) (by decide)) ?_
            refine V_inc (c := 1) (sx_di dX1_reckon 82 rfl) (by decide) rfl (by decide) (rfl) ?_
            refine V_goto (tgt := 9) (sx_di dX1_reckon 83 rfl) (by decide) ?_
            exact V_eq rfl rfl rfl eh (V_subk q1 ⟨rfl, rfl, rfl, rfl, rfl, trivial⟩)
        · rw [if_pos h80] at hF
          refine V_iload_n (i := 3) (sx_di dX1_reckon 42 rfl) rfl rfl ?_
          refine V_if_le (tgt := 144) (sx_di dX1_reckon 43 rfl) (by decide) (fun h84 => ?_) (fun h84 => ?_)
          · have e0 : st = [] := by
              cases st with
              | nil => rfl
              | cons x r => exact absurd h84 (nI_nle (by simp) (by omega))
            subst e0
            have q1 := ih (k + 1) [] I (by omega) hf hsk hF
            rw [← nI_1 k] at q1
            refine V_inc (c := 1) (sx_di dX1_reckon 82 rfl) (by decide) rfl (by decide) (rfl) ?_
            refine V_goto (tgt := 9) (sx_di dX1_reckon 83 rfl) (by decide) ?_
            exact V_subk q1 ⟨rfl, rfl, rfl, rfl, rfl, trivial⟩
          · obtain ⟨x, r, e0⟩ : ∃ x r, st = x :: r := by
              cases st with
              | nil => exact absurd (Int32.le_refl 0) h84
              | cons x r => exact ⟨x, r, rfl⟩
            subst e0
            have e1 : nI (x :: r).length - 1 = nI r.length := by rw [List.length_cons]; exact nI_pred _
            have hr48 : r.length < 48 := by simp at hl; omega
            have hp := sk_pop hsk
            have q1 := ih (k + 1) ((1 - x) :: r) (hp_u I (a + 5) r.length (1 - x)) (by omega) (fr_si hf rfl) (sk_push hp.2 hr48 (hp_u_at _ _ _ _) (fun j hj => hp_u_nk _ _ (fun z => hj z.2))) hF
            rw [← nI_1 k] at q1
            have eh : hp_si (hp_wi w I) (a + 5) (nI (x :: r).length - 1).toNatClampNeg (1 - hp_i (hp_wi w I) (a + 5) (nI (x :: r).length - 1).toNatClampNeg) = hp_wi w (hp_u I (a + 5) r.length (1 - x)) := by
              rw [e1, nI_clamp (by omega), hp_i_wi, hp.1]
              rfl
            refine V_aload_n (i := 0) (sx_di dX1_reckon 44 rfl) rfl rfl ?_
            refine V_getR (sx_di dX1_reckon 45 rfl) fX1_24 (fun _ => rfl) (by first | exact hs.1 | exact hs.2.1 | exact hs.2.2.1 | exact hs.2.2.2.1 | exact hs.2.2.2.2.1 | exact hs.2.2.2.2.2.1) (by first | exact hs.2.2.2.2.2.2.1 | exact hs.2.2.2.2.2.2.2.1 | exact hs.2.2.2.2.2.2.2.2.1 | exact hs.2.2.2.2.2.2.2.2.2.1 | exact hs.2.2.2.2.2.2.2.2.2.2) ?_
            refine V_iload_n (i := 3) (sx_di dX1_reckon 46 rfl) rfl rfl ?_
            refine V_iconst (v := 1) (sx_di dX1_reckon 47 rfl) (by decide) ?_
            refine V_isub (sx_di dX1_reckon 48 rfl) ?_
            refine V_iconst (v := 1) (sx_di dX1_reckon 49 rfl) (by decide) ?_
            refine V_aload_n (i := 0) (sx_di dX1_reckon 50 rfl) rfl rfl ?_
            refine V_getR (sx_di dX1_reckon 51 rfl) fX1_24 (fun _ => rfl) (by first | exact hs.1 | exact hs.2.1 | exact hs.2.2.1 | exact hs.2.2.2.1 | exact hs.2.2.2.2.1 | exact hs.2.2.2.2.2.1) (by first | exact hs.2.2.2.2.2.2.1 | exact hs.2.2.2.2.2.2.2.1 | exact hs.2.2.2.2.2.2.2.2.1 | exact hs.2.2.2.2.2.2.2.2.2.1 | exact hs.2.2.2.2.2.2.2.2.2.2) ?_
            refine V_iload_n (i := 3) (sx_di dX1_reckon 52 rfl) rfl rfl ?_
            refine V_iconst (v := 1) (sx_di dX1_reckon 53 rfl) (by decide) ?_
            refine V_isub (sx_di dX1_reckon 54 rfl) ?_
            refine V_iald (sx_di dX1_reckon 55 rfl) (by first | exact hs.1 | exact hs.2.1 | exact hs.2.2.1 | exact hs.2.2.2.1 | exact hs.2.2.2.2.1 | exact hs.2.2.2.2.2.1) (by rw [e1]; exact vp_in_nI hr48 (by decide)) ?_
            refine V_isub (sx_di dX1_reckon 56 rfl) ?_
            refine V_iast (sx_di dX1_reckon 57 rfl) (by first | exact hs.1 | exact hs.2.1 | exact hs.2.2.1 | exact hs.2.2.2.1 | exact hs.2.2.2.2.1 | exact hs.2.2.2.2.2.1) (by rw [e1]; exact vp_in_nI hr48 (by decide)) ?_
            refine V_goto (tgt := 144) (sx_di dX1_reckon 58 rfl) (by decide) ?_
            refine V_inc (c := 1) (sx_di dX1_reckon 82 rfl) (by decide) rfl (by decide) (rfl) ?_
            refine V_goto (tgt := 9) (sx_di dX1_reckon 83 rfl) (by decide) ?_
            exact V_eq rfl rfl rfl eh (V_subk q1 ⟨rfl, rfl, rfl, rfl, rfl, trivial⟩)
      · unfold rs_ at hF
        rw [if_neg h36] at hF
        refine V_iload_n (i := 3) (sx_di dX1_reckon 20 rfl) rfl rfl ?_
        refine V_bipush (v := 48) (sx_di dX1_reckon 21 rfl) (by decide) ?_
        refine V_icmp_ge (tgt := 144) (sx_di dX1_reckon 22 rfl) (by decide) (fun h42 => ?_) (fun h42 => ?_)
        · rw [if_neg (fun z => absurd h42 (nI_ge z (by decide)))] at hF
          have q1 := ih (k + 1) st I (by omega) hf hsk hF
          rw [← nI_1 k] at q1
          refine V_inc (c := 1) (sx_di dX1_reckon 82 rfl) (by decide) rfl (by decide) (rfl) ?_
          refine V_goto (tgt := 9) (sx_di dX1_reckon 83 rfl) (by decide) ?_
          exact V_subk q1 ⟨rfl, rfl, rfl, rfl, rfl, trivial⟩
        · have t48 : st.length < 48 := by
            rcases Nat.lt_or_ge st.length 48 with z | z
            · exact z
            · exact absurd (nI_le z (by omega)) h42
          rw [if_pos t48] at hF
          refine V_aload_n (i := 0) (sx_di dX1_reckon 23 rfl) rfl rfl ?_
          refine V_getR (sx_di dX1_reckon 24 rfl) fX1_24 (fun _ => rfl) (by first | exact hs.1 | exact hs.2.1 | exact hs.2.2.1 | exact hs.2.2.2.1 | exact hs.2.2.2.2.1 | exact hs.2.2.2.2.2.1) (by first | exact hs.2.2.2.2.2.2.1 | exact hs.2.2.2.2.2.2.2.1 | exact hs.2.2.2.2.2.2.2.2.1 | exact hs.2.2.2.2.2.2.2.2.2.1 | exact hs.2.2.2.2.2.2.2.2.2.2) ?_
          refine V_iload_n (i := 3) (sx_di dX1_reckon 25 rfl) rfl rfl ?_
          refine V_iload (sx_di dX1_reckon 26 rfl) rfl ?_
          refine V_if_lt (tgt := 60) (sx_di dX1_reckon 27 rfl) (by decide) (fun h52 => ?_) (fun h52 => ?_)
          · rw [if_pos h52] at hF
            have hci : vp_in (-1 - c) 6 := rk_ix h36 h52
            have q1 := ih (k + 1) _ (hp_u I (a + 5) (nI st.length).toNatClampNeg (I (a + 4) (-1 - c).toNatClampNeg)) (by omega) (fr_si hf rfl) (sk_push (x := hp_i w (a + 4) (-1 - c).toNatClampNeg) hsk t48 (by rw [nI_clamp (by omega), hp_u_at]; exact fr_w1 hf (by omega) _) (fun j hj => by rw [nI_clamp (by omega)]; exact hp_u_nk _ _ (fun z => hj z.2))) hF
            rw [List.length_cons, ← nI_1 st.length, ← nI_1 k] at q1
            refine V_aload_n (i := 0) (sx_di dX1_reckon 30 rfl) rfl rfl ?_
            refine V_getR (sx_di dX1_reckon 31 rfl) fX1_21 (fun _ => rfl) (by first | exact hs.1 | exact hs.2.1 | exact hs.2.2.1 | exact hs.2.2.2.1 | exact hs.2.2.2.2.1 | exact hs.2.2.2.2.2.1) (by first | exact hs.2.2.2.2.2.2.1 | exact hs.2.2.2.2.2.2.2.1 | exact hs.2.2.2.2.2.2.2.2.1 | exact hs.2.2.2.2.2.2.2.2.2.1 | exact hs.2.2.2.2.2.2.2.2.2.2) ?_
            refine V_iconst (v := -1) (sx_di dX1_reckon 32 rfl) (by decide) ?_
            refine V_iload (sx_di dX1_reckon 33 rfl) rfl ?_
            refine V_isub (sx_di dX1_reckon 34 rfl) ?_
            refine V_iald (sx_di dX1_reckon 35 rfl) (by first | exact hs.1 | exact hs.2.1 | exact hs.2.2.1 | exact hs.2.2.2.1 | exact hs.2.2.2.2.1 | exact hs.2.2.2.2.2.1) (hci) ?_
            refine V_iast (sx_di dX1_reckon 36 rfl) (by first | exact hs.1 | exact hs.2.1 | exact hs.2.2.1 | exact hs.2.2.2.1 | exact hs.2.2.2.2.1 | exact hs.2.2.2.2.2.1) (vp_in_nI t48 (by decide)) ?_
            refine V_inc (c := 1) (sx_di dX1_reckon 37 rfl) (by decide) rfl (by decide) (rfl) ?_
            refine V_goto (tgt := 144) (sx_di dX1_reckon 38 rfl) (by decide) ?_
            refine V_inc (c := 1) (sx_di dX1_reckon 82 rfl) (by decide) rfl (by decide) (rfl) ?_
            refine V_goto (tgt := 9) (sx_di dX1_reckon 83 rfl) (by decide) ?_
            exact V_subk q1 ⟨rfl, rfl, rfl, rfl, rfl, trivial⟩
          · rw [if_neg h52] at hF
            have q1 := ih (k + 1) _ (hp_u I (a + 5) (nI st.length).toNatClampNeg c) (by omega) (fr_si hf rfl) (sk_push (x := c) hsk t48 (by rw [nI_clamp (by omega), hp_u_at]) (fun j hj => by rw [nI_clamp (by omega)]; exact hp_u_nk _ _ (fun z => hj z.2))) hF
            rw [List.length_cons, ← nI_1 st.length, ← nI_1 k] at q1
            refine V_iload (sx_di dX1_reckon 28 rfl) rfl ?_
            refine V_goto (tgt := 69) (sx_di dX1_reckon 29 rfl) (by decide) ?_
            refine V_iast (sx_di dX1_reckon 36 rfl) (by first | exact hs.1 | exact hs.2.1 | exact hs.2.2.1 | exact hs.2.2.2.1 | exact hs.2.2.2.2.1 | exact hs.2.2.2.2.2.1) (vp_in_nI t48 (by decide)) ?_
            refine V_inc (c := 1) (sx_di dX1_reckon 37 rfl) (by decide) rfl (by decide) (rfl) ?_
            refine V_goto (tgt := 144) (sx_di dX1_reckon 38 rfl) (by decide) ?_
            refine V_inc (c := 1) (sx_di dX1_reckon 82 rfl) (by decide) rfl (by decide) (rfl) ?_
            refine V_goto (tgt := 9) (sx_di dX1_reckon 83 rfl) (by decide) ?_
            exact V_subk q1 ⟨rfl, rfl, rfl, rfl, rfl, trivial⟩

/-! the State of the class: minded, goal -/
def is_Ss (w : hpW) (a : Nat) : Prop := hp_k w a = (7, 13) ∧ hp_k w (a + 1) = (13, 8) ∧ hp_k w (a + 2) = (13, 8) ∧ hp_k w (a + 3) = (13, 8) ∧ hp_k w (a + 4) = (13, 8) ∧ hp_k w (a + 5) = (13, 8) ∧ hp_k w (a + 6) = (13, 8) ∧ hp_r w a 1 = some (a + 1) ∧ hp_r w a 2 = some (a + 2) ∧ hp_r w a 3 = some (a + 3) ∧ hp_r w a 4 = some (a + 4) ∧ hp_r w a 5 = some (a + 5) ∧ hp_r w a 6 = some (a + 6)
/-- the cells in which laws reckon -/
def sc_ (q : Nat) : Prop := 22 ≤ q ∧ q < 52 ∧ 4 ≤ (q - 22) % 6
/-- how much it is minded, unbounded: of MIND, SHAM, white, hangings, people, size, far -/
abbrev wF : Type := Int32 → Int32 → Int32 → Int32 → Int32 → Int32 → Int32 → Int32
def wf0 : wF := fun mi sh wh ha pe _ _ => mi + sh + wh + pe / 2 - ha
def wf1 (I : Nat → Nat → Int32) (b n sz : Nat) (cd sm : Nat → Nat) : wF := fun mi sh wh ha pe s f => wo_ I b n sz cd sm (mi + sh) wh ha pe s f
/-- the law that a call is given: none, or one of the book's -/
def lw_ok (w : hpW) (lv : Value) (F : wF) : Prop := (lv = .null ∧ F = wf0) ∨ ∃ i n sz cd sm, i < 5 ∧ lv = .ref (22 + 6 * i) ∧ is_Lw w (22 + 6 * i) ∧ ld_ (hp_i w) (22 + 6 * i) n sz cd sm ∧ F = wf1 (hp_i w) (22 + 6 * i) n sz cd sm
theorem lw_ok.rv {w : hpW} {lv : Value} {F : wF} (h : lw_ok w lv F) : is_rv lv := by
  rcases h with ⟨h, -⟩ | ⟨i, n, sz, cd, sm, -, h, -⟩
  · exact Or.inl h
  · exact Or.inr ⟨_, h⟩
theorem sc_no {q : Nat} (h : q < 22 ∨ 52 ≤ q) : ¬ sc_ q := fun z => by have := z.1; have := z.2.1; omega
theorem sc_lw {i j : Nat} (hj : j < 4) : ¬ sc_ (22 + 6 * i + j) := fun z => by have := z.2.2; omega
theorem sc_in {i : Nat} (hi : i < 5) {j : Nat} (hj : j = 4 ∨ j = 5) : sc_ (22 + 6 * i + j) := ⟨by omega, by omega, by omega⟩
theorem lw_ok.mv {w : hpW} {I : Nat → Nat → Int32} {lv : Value} {F : wF} {S : Nat → Prop} (h : lw_ok w lv F) (hf : fr_ w I S) (hS : ∀ i j, i < 5 → j < 4 → ¬ S (22 + 6 * i + j)) : lw_ok (hp_wi w I) lv F := by
  rcases h with h | ⟨i, n, sz, cd, sm, h0, h1, h2, h3, h4⟩
  · exact Or.inl h
  · have e0 : I (22 + 6 * i) = hp_i w (22 + 6 * i) := hf _ (hS i 0 h0 (by decide))
    have e1 : I (22 + 6 * i + 1) = hp_i w (22 + 6 * i + 1) := hf _ (hS i 1 h0 (by decide))
    have e2 : I (22 + 6 * i + 2) = hp_i w (22 + 6 * i + 2) := hf _ (hS i 2 h0 (by decide))
    have e3 : I (22 + 6 * i + 3) = hp_i w (22 + 6 * i + 3) := hf _ (hS i 3 h0 (by decide))
    refine Or.inr ⟨i, n, sz, cd, sm, h0, h1, h2, ?_, ?_⟩
    · unfold ld_ at h3 ⊢
      rw [hp_i_wi, e0, e2, e3]
      exact h3
    · rw [h4]
      unfold wf1 wo_
      rw [hp_i_wi, e1]
def bp_ (pi : Int32) (x : Int32) : Prop := ¬ (pi >>> (x &&& 31)) &&& 1 = 0
theorem bp_dec (pi x : Int32) : bp_ pi x ∨ ¬ bp_ pi x := Classical.em _
noncomputable def md_ (F : wF) (mi sh wh ha pe pi sz pl : Int32) (x : Int32) : Int32 := if pe = 0 then 0 else if (pi >>> (x &&& 31)) &&& 1 = 0 then mx_ 0 (mn_ 99 (F mi sh wh ha pe sz (if pl = -1 then 9 else ab_ (x - pl)))) else 0
/-- how much house h is minded, by the State at a and the street at t -/
noncomputable def mC_ (I : Nat → Nat → Int32) (a t : Nat) (F : wF) (h : Nat) : Int32 := md_ F (I (a + 2) h) (I (a + 3) h) (I (a + 4) h) (I (a + 5) h) (I (a + 6) h) (I a 7) (sl_ I t (36 + 2 * I a 10)) (I a 9) (nI h)
set_option maxHeartbeats 2000000 in
set_option maxRecDepth 20000 in
theorem c_X7_hasPiano {E : sxE} {w : hpW} {Q : Option Value → hpW → Prop} {a : Nat} {x : Int32} (hs : is_Ss w a) (h : Q (some (.int (if (hp_i w a 7 >>> (x &&& 31)) &&& 1 = 0 then 0 else 1))) w) : sx_C E mX7_hasPiano 1 0 0 [.ref a, .int x] w Q := by
  refine C_of (by decide +kernel) (Nat.le_of_ble_eq_true rfl) ?_
  refine V_aload_n (i := 0) (sx_di dX7_hasPiano 0 rfl) rfl rfl ?_
  refine V_getI (sx_di dX7_hasPiano 1 rfl) fX7_44 (fun _ => rfl) (by first | exact hs.1 | exact hs.2.1 | exact hs.2.2.1 | exact hs.2.2.2.1 | exact hs.2.2.2.2.1 | exact hs.2.2.2.2.2.1 | exact hs.2.2.2.2.2.2.1) ?_
  refine V_iload_n (i := 1) (sx_di dX7_hasPiano 2 rfl) rfl rfl ?_
  refine V_ishr (sx_di dX7_hasPiano 3 rfl) ?_
  refine V_iconst (v := 1) (sx_di dX7_hasPiano 4 rfl) (by decide) ?_
  refine V_iand (sx_di dX7_hasPiano 5 rfl) ?_
  refine V_if_eq (tgt := 15) (sx_di dX7_hasPiano 6 rfl) (by decide) (fun h8 => ?_) (fun h8 => ?_)
  · refine V_iconst (v := 0) (sx_di dX7_hasPiano 9 rfl) (by decide) ?_
    refine V_zret (sx_di dX7_hasPiano 10 rfl) rfl (by first | rfl | decide) (Nat.le_refl _) (Nat.le_refl _) ?_
    first | (rw [if_pos h8] at h; exact h) | (rw [if_neg h8] at h; exact h)
  · refine V_iconst (v := 1) (sx_di dX7_hasPiano 7 rfl) (by decide) ?_
    refine V_goto (tgt := 16) (sx_di dX7_hasPiano 8 rfl) (by decide) ?_
    refine V_zret (sx_di dX7_hasPiano 10 rfl) rfl (by first | rfl | decide) (Nat.le_refl _) (Nat.le_refl _) ?_
    first | (rw [if_pos h8] at h; exact h) | (rw [if_neg h8] at h; exact h)
set_option maxHeartbeats 2000000 in
set_option maxRecDepth 20000 in
theorem md_end {E : sxE} {w : hpW} {Q : Option Value → hpW → Prop} {v : Int32} {ls : List (Nat × Value)} (h : Q (some (.int (mx_ 0 (mn_ 99 v)))) w) : V E mX7_minded (sx_rm 4 0 0) 0 0 0 0 138 [(4, .int v)] [] w Q := by
  refine V_iconst (v := 0) (sx_di dX7_minded 82 rfl) (by decide) ?_
  refine V_bipush (v := 99) (sx_di dX7_minded 83 rfl) (by decide) ?_
  refine V_iload (sx_di dX7_minded 84 rfl) rfl ?_
  refine V_mmin (sx_di dX7_minded 85 rfl) (sx_a4 19 rfl rfl) (sx_a3 135 rfl rfl) (sx_a1 22 rfl rfl) (sx_a3 136 rfl rfl) ⟨Nat.le_of_ble_eq_true rfl, Nat.le_of_ble_eq_true rfl, Nat.le_refl _, Nat.le_refl _⟩ ?_
  refine V_mmax (sx_di dX7_minded 86 rfl) (sx_a4 20 rfl rfl) (sx_a3 186 rfl rfl) (sx_a1 22 rfl rfl) (sx_a3 187 rfl rfl) ⟨Nat.le_of_ble_eq_true rfl, Nat.le_of_ble_eq_true rfl, Nat.le_refl _, Nat.le_refl _⟩ ?_
  refine V_iret (sx_di dX7_minded 87 rfl) rfl (Nat.le_refl _) (Nat.le_refl _) ?_
  exact h
set_option maxHeartbeats 2000000 in
set_option maxRecDepth 20000 in
theorem md_n {E : sxE} {w : hpW} {Q : Option Value → hpW → Prop} {a h : Nat} (hs : is_Ss w a) (hh : h < 8) (hq : Q (some (.int (mx_ 0 (mn_ 99 (hp_i w (a + 2) h + hp_i w (a + 3) h + hp_i w (a + 4) h + hp_i w (a + 6) h / 2 - hp_i w (a + 5) h))))) w) : V E mX7_minded (sx_rm 4 0 0) 0 0 0 0 43 [(3, .int (hp_i w (a + 2) h + hp_i w (a + 3) h)), (2, .null), (1, .int (nI h)), (0, .ref a)] [] w Q := by
  have hin : vp_in (nI h) 8 := vp_in_nI hh (by decide)
  have hcl : (nI h).toNatClampNeg = h := nI_clamp (by omega)
  rw [← hcl] at hq
  refine V_aloadv_n (i := 2) (sx_di dX7_minded 26 rfl) rfl rfl (Or.inl rfl) ?_
  refine V_ifnonnullN (sx_di dX7_minded 27 rfl) ?_
  refine V_iload_n (i := 3) (sx_di dX7_minded 28 rfl) rfl rfl ?_
  refine V_aload_n (i := 0) (sx_di dX7_minded 29 rfl) rfl rfl ?_
  refine V_getR (sx_di dX7_minded 30 rfl) fX7_21 (fun _ => rfl) (by first | exact hs.1 | exact hs.2.1 | exact hs.2.2.1 | exact hs.2.2.2.1 | exact hs.2.2.2.2.1 | exact hs.2.2.2.2.2.1 | exact hs.2.2.2.2.2.2.1) (by first | exact hs.2.2.2.2.2.2.2.1 | exact hs.2.2.2.2.2.2.2.2.1 | exact hs.2.2.2.2.2.2.2.2.2.1 | exact hs.2.2.2.2.2.2.2.2.2.2.1 | exact hs.2.2.2.2.2.2.2.2.2.2.2.1 | exact hs.2.2.2.2.2.2.2.2.2.2.2.2) ?_
  refine V_iload_n (i := 1) (sx_di dX7_minded 31 rfl) rfl rfl ?_
  refine V_iald (sx_di dX7_minded 32 rfl) (by first | exact hs.1 | exact hs.2.1 | exact hs.2.2.1 | exact hs.2.2.2.1 | exact hs.2.2.2.2.1 | exact hs.2.2.2.2.2.1 | exact hs.2.2.2.2.2.2.1) (hin) ?_
  refine V_iadd (sx_di dX7_minded 33 rfl) ?_
  refine V_aload_n (i := 0) (sx_di dX7_minded 34 rfl) rfl rfl ?_
  refine V_getR (sx_di dX7_minded 35 rfl) fX7_27 (fun _ => rfl) (by first | exact hs.1 | exact hs.2.1 | exact hs.2.2.1 | exact hs.2.2.2.1 | exact hs.2.2.2.2.1 | exact hs.2.2.2.2.2.1 | exact hs.2.2.2.2.2.2.1) (by first | exact hs.2.2.2.2.2.2.2.1 | exact hs.2.2.2.2.2.2.2.2.1 | exact hs.2.2.2.2.2.2.2.2.2.1 | exact hs.2.2.2.2.2.2.2.2.2.2.1 | exact hs.2.2.2.2.2.2.2.2.2.2.2.1 | exact hs.2.2.2.2.2.2.2.2.2.2.2.2) ?_
  refine V_iload_n (i := 1) (sx_di dX7_minded 36 rfl) rfl rfl ?_
  refine V_iald (sx_di dX7_minded 37 rfl) (by first | exact hs.1 | exact hs.2.1 | exact hs.2.2.1 | exact hs.2.2.2.1 | exact hs.2.2.2.2.1 | exact hs.2.2.2.2.2.1 | exact hs.2.2.2.2.2.2.1) (hin) ?_
  refine V_iconst (v := 2) (sx_di dX7_minded 38 rfl) (by decide) ?_
  refine V_idiv (sx_di dX7_minded 39 rfl) (by decide) ?_
  refine V_iadd (sx_di dX7_minded 40 rfl) ?_
  refine V_aload_n (i := 0) (sx_di dX7_minded 41 rfl) rfl rfl ?_
  refine V_getR (sx_di dX7_minded 42 rfl) fX7_24 (fun _ => rfl) (by first | exact hs.1 | exact hs.2.1 | exact hs.2.2.1 | exact hs.2.2.2.1 | exact hs.2.2.2.2.1 | exact hs.2.2.2.2.2.1 | exact hs.2.2.2.2.2.2.1) (by first | exact hs.2.2.2.2.2.2.2.1 | exact hs.2.2.2.2.2.2.2.2.1 | exact hs.2.2.2.2.2.2.2.2.2.1 | exact hs.2.2.2.2.2.2.2.2.2.2.1 | exact hs.2.2.2.2.2.2.2.2.2.2.2.1 | exact hs.2.2.2.2.2.2.2.2.2.2.2.2) ?_
  refine V_iload_n (i := 1) (sx_di dX7_minded 43 rfl) rfl rfl ?_
  refine V_iald (sx_di dX7_minded 44 rfl) (by first | exact hs.1 | exact hs.2.1 | exact hs.2.2.1 | exact hs.2.2.2.1 | exact hs.2.2.2.2.1 | exact hs.2.2.2.2.2.1 | exact hs.2.2.2.2.2.2.1) (hin) ?_
  refine V_isub (sx_di dX7_minded 45 rfl) ?_
  refine V_istore (sx_di dX7_minded 46 rfl) (by decide) (rfl) ?_
  refine V_goto (tgt := 138) (sx_di dX7_minded 47 rfl) (by decide) ?_
  rw [hcl]
  rw [hcl] at hq
  exact V_subk (md_end (ls := []) hq) ⟨rfl, trivial⟩
set_option maxHeartbeats 2000000 in
set_option maxRecDepth 20000 in
theorem md_l {E : sxE} {w : hpW} {Q : Option Value → hpW → Prop} {a t h i n sz : Nat} {cd sm : Nat → Nat} (hi : i < 5) (hs : is_Ss w a) (ht : hp_r w a 0 = some t) (hst : is_St w t) (hlw : is_Lw w (22 + 6 * i)) (hld : ld_ (hp_i w) (22 + 6 * i) n sz cd sm) (hh : h < 8) (hq : ∀ I, fr_ w I sc_ → Q (some (.int (mx_ 0 (mn_ 99 (wo_ (hp_i w) (22 + 6 * i) n sz cd sm (hp_i w (a + 2) h + hp_i w (a + 3) h) (hp_i w (a + 4) h) (hp_i w (a + 5) h) (hp_i w (a + 6) h) (sl_ (hp_i w) t (36 + 2 * hp_i w a 10)) (if hp_i w a 9 = -1 then 9 else ab_ (nI h - hp_i w a 9))))))) (hp_wi w I)) : V E mX7_minded (sx_rm 4 0 0) 0 0 0 0 43 [(3, .int (hp_i w (a + 2) h + hp_i w (a + 3) h)), (2, .ref (22 + 6 * i)), (1, .int (nI h)), (0, .ref a)] [] w Q := by
  have hin : vp_in (nI h) 8 := vp_in_nI hh (by decide)
  have hcl : (nI h).toNatClampNeg = h := nI_clamp (by omega)
  have key : ∀ fa : Int32, fa = (if hp_i w a 9 = -1 then 9 else ab_ (nI h - hp_i w a 9)) → V E mX7_minded (sx_rm 4 0 0) 0 0 0 0 100 [(5, .int fa), (3, .int (hp_i w (a + 2) h + hp_i w (a + 3) h)), (2, .ref (22 + 6 * i)), (1, .int (nI h)), (0, .ref a)] [] w Q := by
    intro fa hfa
    refine V_aload_n (i := 2) (sx_di dX7_minded 60 rfl) rfl rfl ?_
    refine V_iload_n (i := 3) (sx_di dX7_minded 61 rfl) rfl rfl ?_
    refine V_aload_n (i := 0) (sx_di dX7_minded 62 rfl) rfl rfl ?_
    refine V_getR (sx_di dX7_minded 63 rfl) fX7_21 (fun _ => rfl) (by first | exact hs.1 | exact hs.2.1 | exact hs.2.2.1 | exact hs.2.2.2.1 | exact hs.2.2.2.2.1 | exact hs.2.2.2.2.2.1 | exact hs.2.2.2.2.2.2.1 | exact hst.1 | exact hst.2.1) (by first | exact hs.2.2.2.2.2.2.2.1 | exact hs.2.2.2.2.2.2.2.2.1 | exact hs.2.2.2.2.2.2.2.2.2.1 | exact hs.2.2.2.2.2.2.2.2.2.2.1 | exact hs.2.2.2.2.2.2.2.2.2.2.2.1 | exact hs.2.2.2.2.2.2.2.2.2.2.2.2 | exact ht | exact hst.2.2) ?_
    refine V_iload_n (i := 1) (sx_di dX7_minded 64 rfl) rfl rfl ?_
    refine V_iald (sx_di dX7_minded 65 rfl) (by first | exact hs.1 | exact hs.2.1 | exact hs.2.2.1 | exact hs.2.2.2.1 | exact hs.2.2.2.2.1 | exact hs.2.2.2.2.2.1 | exact hs.2.2.2.2.2.2.1 | exact hst.1 | exact hst.2.1) (hin) ?_
    refine V_aload_n (i := 0) (sx_di dX7_minded 66 rfl) rfl rfl ?_
    refine V_getR (sx_di dX7_minded 67 rfl) fX7_24 (fun _ => rfl) (by first | exact hs.1 | exact hs.2.1 | exact hs.2.2.1 | exact hs.2.2.2.1 | exact hs.2.2.2.2.1 | exact hs.2.2.2.2.2.1 | exact hs.2.2.2.2.2.2.1 | exact hst.1 | exact hst.2.1) (by first | exact hs.2.2.2.2.2.2.2.1 | exact hs.2.2.2.2.2.2.2.2.1 | exact hs.2.2.2.2.2.2.2.2.2.1 | exact hs.2.2.2.2.2.2.2.2.2.2.1 | exact hs.2.2.2.2.2.2.2.2.2.2.2.1 | exact hs.2.2.2.2.2.2.2.2.2.2.2.2 | exact ht | exact hst.2.2) ?_
    refine V_iload_n (i := 1) (sx_di dX7_minded 68 rfl) rfl rfl ?_
    refine V_iald (sx_di dX7_minded 69 rfl) (by first | exact hs.1 | exact hs.2.1 | exact hs.2.2.1 | exact hs.2.2.2.1 | exact hs.2.2.2.2.1 | exact hs.2.2.2.2.2.1 | exact hs.2.2.2.2.2.2.1 | exact hst.1 | exact hst.2.1) (hin) ?_
    refine V_aload_n (i := 0) (sx_di dX7_minded 70 rfl) rfl rfl ?_
    refine V_getR (sx_di dX7_minded 71 rfl) fX7_27 (fun _ => rfl) (by first | exact hs.1 | exact hs.2.1 | exact hs.2.2.1 | exact hs.2.2.2.1 | exact hs.2.2.2.2.1 | exact hs.2.2.2.2.2.1 | exact hs.2.2.2.2.2.2.1 | exact hst.1 | exact hst.2.1) (by first | exact hs.2.2.2.2.2.2.2.1 | exact hs.2.2.2.2.2.2.2.2.1 | exact hs.2.2.2.2.2.2.2.2.2.1 | exact hs.2.2.2.2.2.2.2.2.2.2.1 | exact hs.2.2.2.2.2.2.2.2.2.2.2.1 | exact hs.2.2.2.2.2.2.2.2.2.2.2.2 | exact ht | exact hst.2.2) ?_
    refine V_iload_n (i := 1) (sx_di dX7_minded 72 rfl) rfl rfl ?_
    refine V_iald (sx_di dX7_minded 73 rfl) (by first | exact hs.1 | exact hs.2.1 | exact hs.2.2.1 | exact hs.2.2.2.1 | exact hs.2.2.2.2.1 | exact hs.2.2.2.2.2.1 | exact hs.2.2.2.2.2.2.1 | exact hst.1 | exact hst.2.1) (hin) ?_
    refine V_aload_n (i := 0) (sx_di dX7_minded 74 rfl) rfl rfl ?_
    refine V_getR (sx_di dX7_minded 75 rfl) fX7_34 (fun _ => rfl) (by first | exact hs.1 | exact hs.2.1 | exact hs.2.2.1 | exact hs.2.2.2.1 | exact hs.2.2.2.2.1 | exact hs.2.2.2.2.2.1 | exact hs.2.2.2.2.2.2.1 | exact hst.1 | exact hst.2.1) (by first | exact hs.2.2.2.2.2.2.2.1 | exact hs.2.2.2.2.2.2.2.2.1 | exact hs.2.2.2.2.2.2.2.2.2.1 | exact hs.2.2.2.2.2.2.2.2.2.2.1 | exact hs.2.2.2.2.2.2.2.2.2.2.2.1 | exact hs.2.2.2.2.2.2.2.2.2.2.2.2 | exact ht | exact hst.2.2) ?_
    refine V_aload_n (i := 0) (sx_di dX7_minded 76 rfl) rfl rfl ?_
    refine V_getI (sx_di dX7_minded 77 rfl) fX7_60 (fun _ => rfl) (by first | exact hs.1 | exact hs.2.1 | exact hs.2.2.1 | exact hs.2.2.2.1 | exact hs.2.2.2.2.1 | exact hs.2.2.2.2.2.1 | exact hs.2.2.2.2.2.2.1 | exact hst.1 | exact hst.2.1) ?_
    refine V_cV1 (mc' := 0) (ms' := 0) (M' := mX8_sizeOf) 2 (sx_di dX7_minded 78 rfl) lX7_88 vX8_sizeOf (by first | exact hs.1 | exact hs.2.1 | exact hs.2.2.1 | exact hs.2.2.2.1 | exact hs.2.2.2.2.1 | exact hs.2.2.2.2.2.1 | exact hs.2.2.2.2.2.2.1 | exact hst.1 | exact hst.2.1) (by decide) rfl (Nat.le_of_ble_eq_true rfl) ⟨Nat.le_of_ble_eq_true rfl, Nat.le_of_ble_eq_true rfl⟩ ⟨Nat.le_refl _, Nat.le_refl _⟩ ?_
    refine c_X8_sizeOf hst ?_
    refine V_iload (sx_di dX7_minded 79 rfl) rfl ?_
    refine V_cV6 (mc' := 0) (ms' := 0) (M' := mX1_worth) 3 (sx_di dX7_minded 80 rfl) lX7_91 vX1_worth (hlw.1) (by decide) rfl (Nat.le_of_ble_eq_true rfl) ⟨Nat.le_of_ble_eq_true rfl, Nat.le_of_ble_eq_true rfl⟩ ⟨Nat.le_refl _, Nat.le_refl _⟩ ?_
    rw [hcl, hfa]
    refine c_X1_worth hlw hld (fun I f => ?_)
    refine V_istore (sx_di dX7_minded 81 rfl) (by decide) (rfl) ?_
    exact V_subk (md_end (ls := []) (hq I (fun b hb => f b (fun z => hb (by rcases z with z | z <;> rw [z] <;> exact sc_in hi (by omega)))))) ⟨rfl, trivial⟩
  refine V_aload_n (i := 2) (sx_di dX7_minded 26 rfl) rfl rfl ?_
  refine V_ifnonnull (tgt := 76) (sx_di dX7_minded 27 rfl) (by decide) rfl ?_
  refine V_aload_n (i := 0) (sx_di dX7_minded 48 rfl) rfl rfl ?_
  refine V_getI (sx_di dX7_minded 49 rfl) fX7_30 (fun _ => rfl) (by first | exact hs.1 | exact hs.2.1 | exact hs.2.2.1 | exact hs.2.2.2.1 | exact hs.2.2.2.2.1 | exact hs.2.2.2.2.2.1 | exact hs.2.2.2.2.2.2.1 | exact hst.1 | exact hst.2.1) ?_
  refine V_iconst (v := -1) (sx_di dX7_minded 50 rfl) (by decide) ?_
  refine V_icmp_ne (tgt := 89) (sx_di dX7_minded 51 rfl) (by decide) (fun h81 => ?_) (fun h81 => ?_)
  · refine V_iload_n (i := 1) (sx_di dX7_minded 54 rfl) rfl rfl ?_
    refine V_aload_n (i := 0) (sx_di dX7_minded 55 rfl) rfl rfl ?_
    refine V_getI (sx_di dX7_minded 56 rfl) fX7_30 (fun _ => rfl) (by first | exact hs.1 | exact hs.2.1 | exact hs.2.2.1 | exact hs.2.2.2.1 | exact hs.2.2.2.2.1 | exact hs.2.2.2.2.2.1 | exact hs.2.2.2.2.2.2.1 | exact hst.1 | exact hst.2.1) ?_
    refine V_isub (sx_di dX7_minded 57 rfl) ?_
    refine V_mabs (sx_di dX7_minded 58 rfl) (sx_a3 239 rfl rfl) (sx_a4 0 rfl rfl) (sx_a1 22 rfl rfl) (sx_a4 1 rfl rfl) ⟨Nat.le_of_ble_eq_true rfl, Nat.le_of_ble_eq_true rfl, Nat.le_refl _, Nat.le_refl _⟩ ?_
    refine V_istore (sx_di dX7_minded 59 rfl) (by decide) (rfl) ?_
    exact V_subk (key _ (if_neg h81).symm) ⟨rfl, rfl, rfl, rfl, rfl, trivial⟩
  · refine V_bipush (v := 9) (sx_di dX7_minded 52 rfl) (by decide) ?_
    refine V_goto (tgt := 98) (sx_di dX7_minded 53 rfl) (by decide) ?_
    refine V_istore (sx_di dX7_minded 59 rfl) (by decide) (rfl) ?_
    exact V_subk (key _ (if_pos h81).symm) ⟨rfl, rfl, rfl, rfl, rfl, trivial⟩
set_option maxHeartbeats 2000000 in
set_option maxRecDepth 20000 in
theorem c_X7_minded {E : sxE} {w : hpW} {Q : Option Value → hpW → Prop} {a t h : Nat} {lv : Value} {F : wF} (hs : is_Ss w a) (ht : hp_r w a 0 = some t) (hst : is_St w t) (hl : lw_ok w lv F) (hh : h < 8) (hq : ∀ I, fr_ w I sc_ → Q (some (.int (mC_ (hp_i w) a t F h))) (hp_wi w I)) : sx_C E mX7_minded 4 0 0 [.ref a, .int (nI h), lv] w Q := by
  have hin : vp_in (nI h) 8 := vp_in_nI hh (by decide)
  have hcl : (nI h).toNatClampNeg = h := nI_clamp (by omega)
  unfold mC_ md_ at hq
  refine C_of (by decide +kernel) (by rcases hl.rv with e | ⟨b, e⟩ <;> subst e <;> exact Nat.le_of_ble_eq_true rfl) ?_
  refine V_iload_n (i := 1) (sx_di dX7_minded 0 rfl) rfl rfl ?_
  refine V_if_lt (tgt := 27) (sx_di dX7_minded 1 rfl) (by decide) (fun h1 => absurd h1 (vi_lt hin)) (fun _ => ?_)
  refine V_iload_n (i := 1) (sx_di dX7_minded 2 rfl) rfl rfl ?_
  refine V_bipush (v := 8) (sx_di dX7_minded 3 rfl) (by decide) ?_
  refine V_icmp_ge (tgt := 27) (sx_di dX7_minded 4 rfl) (by decide) (fun h7 => absurd h7 (vi_ge (by decide) hin)) (fun _ => ?_)
  refine V_aload_n (i := 0) (sx_di dX7_minded 5 rfl) rfl rfl ?_
  refine V_getR (sx_di dX7_minded 6 rfl) fX7_27 (fun _ => rfl) (by first | exact hs.1 | exact hs.2.1 | exact hs.2.2.1 | exact hs.2.2.2.1 | exact hs.2.2.2.2.1 | exact hs.2.2.2.2.2.1 | exact hs.2.2.2.2.2.2.1 | exact hst.1 | exact hst.2.1) (by first | exact hs.2.2.2.2.2.2.2.1 | exact hs.2.2.2.2.2.2.2.2.1 | exact hs.2.2.2.2.2.2.2.2.2.1 | exact hs.2.2.2.2.2.2.2.2.2.2.1 | exact hs.2.2.2.2.2.2.2.2.2.2.2.1 | exact hs.2.2.2.2.2.2.2.2.2.2.2.2 | exact ht | exact hst.2.2) ?_
  refine V_iload_n (i := 1) (sx_di dX7_minded 7 rfl) rfl rfl ?_
  refine V_iald (sx_di dX7_minded 8 rfl) (by first | exact hs.1 | exact hs.2.1 | exact hs.2.2.1 | exact hs.2.2.2.1 | exact hs.2.2.2.2.1 | exact hs.2.2.2.2.2.1 | exact hs.2.2.2.2.2.2.1 | exact hst.1 | exact hst.2.1) (hin) ?_
  refine V_if_eq (tgt := 27) (sx_di dX7_minded 9 rfl) (by decide) (fun h16 => ?_) (fun h16 => ?_)
  · rw [hcl] at h16
    simp only [if_pos h16] at hq
    refine V_iconst (v := 0) (sx_di dX7_minded 14 rfl) (by decide) ?_
    refine V_iret (sx_di dX7_minded 15 rfl) rfl (Nat.le_refl _) (Nat.le_refl _) ?_
    exact hq (hp_i w) fr_rf
  · rw [hcl] at h16
    simp only [if_neg h16] at hq
    refine V_aload_n (i := 0) (sx_di dX7_minded 10 rfl) rfl rfl ?_
    refine V_iload_n (i := 1) (sx_di dX7_minded 11 rfl) rfl rfl ?_
    refine V_cV1 (mc' := 0) (ms' := 0) (M' := mX7_hasPiano) 1 (sx_di dX7_minded 12 rfl) lX7_80 vX7_hasPiano (by first | exact hs.1 | exact hs.2.1 | exact hs.2.2.1 | exact hs.2.2.2.1 | exact hs.2.2.2.2.1 | exact hs.2.2.2.2.2.1 | exact hs.2.2.2.2.2.2.1 | exact hst.1 | exact hst.2.1) (by decide) rfl (Nat.le_of_ble_eq_true rfl) ⟨Nat.le_of_ble_eq_true rfl, Nat.le_of_ble_eq_true rfl⟩ ⟨Nat.le_refl _, Nat.le_refl _⟩ ?_
    refine c_X7_hasPiano hs ?_
    refine V_if_eq (tgt := 29) (sx_di dX7_minded 13 rfl) (by decide) (fun h24 => ?_) (fun h24 => ?_)
    · have h15 : (hp_i w a 7 >>> (nI h &&& 31)) &&& 1 = 0 := by
        rcases Classical.em ((hp_i w a 7 >>> (nI h &&& 31)) &&& 1 = 0) with z | z
        · exact z
        · rw [if_neg z] at h24; exact absurd h24 (by decide)
      simp only [if_pos h15] at hq
      refine V_aload_n (i := 0) (sx_di dX7_minded 16 rfl) rfl rfl ?_
      refine V_getR (sx_di dX7_minded 17 rfl) fX7_15 (fun _ => rfl) (by first | exact hs.1 | exact hs.2.1 | exact hs.2.2.1 | exact hs.2.2.2.1 | exact hs.2.2.2.2.1 | exact hs.2.2.2.2.2.1 | exact hs.2.2.2.2.2.2.1 | exact hst.1 | exact hst.2.1) (by first | exact hs.2.2.2.2.2.2.2.1 | exact hs.2.2.2.2.2.2.2.2.1 | exact hs.2.2.2.2.2.2.2.2.2.1 | exact hs.2.2.2.2.2.2.2.2.2.2.1 | exact hs.2.2.2.2.2.2.2.2.2.2.2.1 | exact hs.2.2.2.2.2.2.2.2.2.2.2.2 | exact ht | exact hst.2.2) ?_
      refine V_iload_n (i := 1) (sx_di dX7_minded 18 rfl) rfl rfl ?_
      refine V_iald (sx_di dX7_minded 19 rfl) (by first | exact hs.1 | exact hs.2.1 | exact hs.2.2.1 | exact hs.2.2.2.1 | exact hs.2.2.2.2.1 | exact hs.2.2.2.2.2.1 | exact hs.2.2.2.2.2.2.1 | exact hst.1 | exact hst.2.1) (hin) ?_
      refine V_aload_n (i := 0) (sx_di dX7_minded 20 rfl) rfl rfl ?_
      refine V_getR (sx_di dX7_minded 21 rfl) fX7_18 (fun _ => rfl) (by first | exact hs.1 | exact hs.2.1 | exact hs.2.2.1 | exact hs.2.2.2.1 | exact hs.2.2.2.2.1 | exact hs.2.2.2.2.2.1 | exact hs.2.2.2.2.2.2.1 | exact hst.1 | exact hst.2.1) (by first | exact hs.2.2.2.2.2.2.2.1 | exact hs.2.2.2.2.2.2.2.2.1 | exact hs.2.2.2.2.2.2.2.2.2.1 | exact hs.2.2.2.2.2.2.2.2.2.2.1 | exact hs.2.2.2.2.2.2.2.2.2.2.2.1 | exact hs.2.2.2.2.2.2.2.2.2.2.2.2 | exact ht | exact hst.2.2) ?_
      refine V_iload_n (i := 1) (sx_di dX7_minded 22 rfl) rfl rfl ?_
      refine V_iald (sx_di dX7_minded 23 rfl) (by first | exact hs.1 | exact hs.2.1 | exact hs.2.2.1 | exact hs.2.2.2.1 | exact hs.2.2.2.2.1 | exact hs.2.2.2.2.2.1 | exact hs.2.2.2.2.2.2.1 | exact hst.1 | exact hst.2.1) (hin) ?_
      refine V_iadd (sx_di dX7_minded 24 rfl) ?_
      refine V_istore_n (i := 3) (sx_di dX7_minded 25 rfl) rfl (by decide) (by first | rfl | (rcases hl.rv with e | ⟨b, e⟩ <;> subst e <;> rfl)) ?_
      rw [hcl]
      rcases hl with ⟨rfl, rfl⟩ | ⟨i, n, sz, cd, sm, hi, rfl, hlw, hld, rfl⟩
      · exact V_subk (md_n hs hh (hq (hp_i w) fr_rf)) ⟨rfl, rfl, rfl, rfl, trivial⟩
      · exact V_subk (md_l hi hs ht hst hlw hld hh hq) ⟨rfl, rfl, rfl, rfl, trivial⟩
    · have h15 : ¬ (hp_i w a 7 >>> (nI h &&& 31)) &&& 1 = 0 := fun z => h24 (if_pos z)
      simp only [if_neg h15] at hq
      refine V_iconst (v := 0) (sx_di dX7_minded 14 rfl) (by decide) ?_
      refine V_iret (sx_di dX7_minded 15 rfl) rfl (Nat.le_refl _) (Nat.le_refl _) ?_
      exact hq (hp_i w) fr_rf
/-- where it would go: the lowest of those that are minded most, above 0 -/
noncomputable def gs_ (f : Nat → Int32) : Nat → Int32 × Int32
  | 0 => (-1, 0)
  | h + 1 => if f h ≤ (gs_ f h).2 then gs_ f h else (nI h, f h)
noncomputable def gl_ (f : Nat → Int32) (n : Nat) : Int32 := (gs_ f n).1
theorem gs_cg {f g : Nat → Int32} : ∀ n, (∀ h, h < n → f h = g h) → gs_ f n = gs_ g n
  | 0, _ => rfl
  | n + 1, h => by rw [gs_, gs_, gs_cg n (fun k hk => h k (by omega)), h n (by omega)]
theorem sl_cg {I J : Nat → Nat → Int32} {t : Nat} (h : I (t + 1) = J (t + 1)) (x : Int32) : sl_ I t x = sl_ J t x := by unfold sl_; rw [h]
theorem mC_cg {I J : Nat → Nat → Int32} {a t : Nat} (h0 : I a = J a) (h2 : I (a + 2) = J (a + 2)) (h3 : I (a + 3) = J (a + 3)) (h4 : I (a + 4) = J (a + 4)) (h5 : I (a + 5) = J (a + 5)) (h6 : I (a + 6) = J (a + 6)) (ht : I (t + 1) = J (t + 1)) (F : wF) (h : Nat) : mC_ I a t F h = mC_ J a t F h := by
  unfold mC_
  rw [h0, h2, h3, h4, h5, h6, sl_cg ht]
/-- a place of the class that no law reckons in, and its seven -/
def pl_ (a : Nat) : Prop := 52 ≤ a
theorem mC_sc {w : hpW} {I : Nat → Nat → Int32} {a t : Nat} (ha : 52 ≤ a) (ht : 52 ≤ t) (hf : fr_ w I sc_) (F : wF) (h : Nat) : mC_ I a t F h = mC_ (hp_i w) a t F h := mC_cg (hf _ (sc_no (Or.inr ha))) (hf _ (sc_no (Or.inr (by omega)))) (hf _ (sc_no (Or.inr (by omega)))) (hf _ (sc_no (Or.inr (by omega)))) (hf _ (sc_no (Or.inr (by omega)))) (hf _ (sc_no (Or.inr (by omega)))) (hf _ (sc_no (Or.inr (by omega)))) F h
set_option maxHeartbeats 2000000 in
set_option maxRecDepth 20000 in
theorem go_lp {E : sxE} {w : hpW} {Q : Option Value → hpW → Prop} {a t n : Nat} {lv : Value} {F : wF} (hs : is_Ss w a) (ht : hp_r w a 0 = some t) (hst : is_St w t) (hl : lw_ok w lv F) (ha : 52 ≤ a) (ht2 : 52 ≤ t) (hn : hp_i w t 0 = nI n) (hn8 : n ≤ 8) (hq : ∀ I, fr_ w I sc_ → Q (some (.int (gl_ (mC_ (hp_i w) a t F) n))) (hp_wi w I)) : ∀ m k I, k + m = n → fr_ w I sc_ → V E mX7_goal (sx_rm 5 0 0) 0 0 0 0 7 [(4, .int (nI k)), (3, .int (gs_ (mC_ (hp_i w) a t F) k).2), (2, .int (gs_ (mC_ (hp_i w) a t F) k).1), (1, lv), (0, .ref a)] [] (hp_wi w I) Q := by
  intro m
  induction m with
  | zero =>
    intro k I hk hf
    have e : k = n := by omega
    subst e
    have hn2 : hp_i (hp_wi w I) t 0 = nI k := (congrFun (hf t (sc_no (Or.inr ht2))) 0).trans hn
    refine V_iload (sx_di dX7_goal 6 rfl) rfl ?_
    refine V_aload_n (i := 0) (sx_di dX7_goal 7 rfl) rfl rfl ?_
    refine V_getR (sx_di dX7_goal 8 rfl) fX7_34 (fun _ => rfl) (by first | exact hs.1 | exact hs.2.1 | exact hs.2.2.1 | exact hs.2.2.2.1 | exact hs.2.2.2.2.1 | exact hs.2.2.2.2.2.1 | exact hs.2.2.2.2.2.2.1 | exact hst.1 | exact hst.2.1) (by first | exact hs.2.2.2.2.2.2.2.1 | exact hs.2.2.2.2.2.2.2.2.1 | exact hs.2.2.2.2.2.2.2.2.2.1 | exact hs.2.2.2.2.2.2.2.2.2.2.1 | exact hs.2.2.2.2.2.2.2.2.2.2.2.1 | exact hs.2.2.2.2.2.2.2.2.2.2.2.2 | exact ht | exact hst.2.2) ?_
    refine V_cV0 (mc' := 0) (ms' := 0) (M' := mX8_houseCount) 2 (sx_di dX7_goal 9 rfl) lX7_100 vX8_houseCount (by first | exact hs.1 | exact hs.2.1 | exact hs.2.2.1 | exact hs.2.2.2.1 | exact hs.2.2.2.2.1 | exact hs.2.2.2.2.2.1 | exact hs.2.2.2.2.2.2.1 | exact hst.1 | exact hst.2.1) (by decide) rfl (Nat.le_of_ble_eq_true rfl) ⟨Nat.le_of_ble_eq_true rfl, Nat.le_of_ble_eq_true rfl⟩ ⟨Nat.le_refl _, Nat.le_refl _⟩ ?_
    refine c_X8_houseCount (by first | exact hs.1 | exact hs.2.1 | exact hs.2.2.1 | exact hs.2.2.2.1 | exact hs.2.2.2.2.1 | exact hs.2.2.2.2.2.1 | exact hs.2.2.2.2.2.2.1 | exact hst.1 | exact hst.2.1) (hc8 hn2 hn8) ?_
    refine V_icmp_ge (tgt := 46) (sx_di dX7_goal 10 rfl) (by decide) (fun _ => ?_) (fun h16 => absurd (by rw [hn2]; exact Int32.le_refl _) h16)
    refine V_iload_n (i := 2) (sx_di dX7_goal 25 rfl) rfl rfl ?_
    refine V_iret (sx_di dX7_goal 26 rfl) rfl (Nat.le_refl _) (Nat.le_refl _) ?_
    exact hq I hf
  | succ m ih =>
    intro k I hk hf
    have hn2 : hp_i (hp_wi w I) t 0 = nI n := (congrFun (hf t (sc_no (Or.inr ht2))) 0).trans hn
    have q1 := ih (k + 1)
    have em : mC_ (hp_i (hp_wi w I)) a t F k = mC_ (hp_i w) a t F k := mC_sc ha ht2 hf F k
    rw [← nI_1, gs_] at q1
    refine V_iload (sx_di dX7_goal 6 rfl) rfl ?_
    refine V_aload_n (i := 0) (sx_di dX7_goal 7 rfl) rfl rfl ?_
    refine V_getR (sx_di dX7_goal 8 rfl) fX7_34 (fun _ => rfl) (by first | exact hs.1 | exact hs.2.1 | exact hs.2.2.1 | exact hs.2.2.2.1 | exact hs.2.2.2.2.1 | exact hs.2.2.2.2.2.1 | exact hs.2.2.2.2.2.2.1 | exact hst.1 | exact hst.2.1) (by first | exact hs.2.2.2.2.2.2.2.1 | exact hs.2.2.2.2.2.2.2.2.1 | exact hs.2.2.2.2.2.2.2.2.2.1 | exact hs.2.2.2.2.2.2.2.2.2.2.1 | exact hs.2.2.2.2.2.2.2.2.2.2.2.1 | exact hs.2.2.2.2.2.2.2.2.2.2.2.2 | exact ht | exact hst.2.2) ?_
    refine V_cV0 (mc' := 0) (ms' := 0) (M' := mX8_houseCount) 2 (sx_di dX7_goal 9 rfl) lX7_100 vX8_houseCount (by first | exact hs.1 | exact hs.2.1 | exact hs.2.2.1 | exact hs.2.2.2.1 | exact hs.2.2.2.2.1 | exact hs.2.2.2.2.2.1 | exact hs.2.2.2.2.2.2.1 | exact hst.1 | exact hst.2.1) (by decide) rfl (Nat.le_of_ble_eq_true rfl) ⟨Nat.le_of_ble_eq_true rfl, Nat.le_of_ble_eq_true rfl⟩ ⟨Nat.le_refl _, Nat.le_refl _⟩ ?_
    refine c_X8_houseCount (by first | exact hs.1 | exact hs.2.1 | exact hs.2.2.1 | exact hs.2.2.2.1 | exact hs.2.2.2.2.1 | exact hs.2.2.2.2.2.1 | exact hs.2.2.2.2.2.2.1 | exact hst.1 | exact hst.2.1) (hc8 hn2 hn8) ?_
    refine V_icmp_ge (tgt := 46) (sx_di dX7_goal 10 rfl) (by decide) (fun h16 => absurd h16 (fun z => absurd ((nI_leI (a := n) (b := k) (by omega) (by omega)).mp (by rw [← hn2]; exact z)) (by omega))) (fun _ => ?_)
    refine V_aload_n (i := 0) (sx_di dX7_goal 11 rfl) rfl rfl ?_
    refine V_iload (sx_di dX7_goal 12 rfl) rfl ?_
    refine V_aloadv_n (i := 1) (sx_di dX7_goal 13 rfl) rfl rfl (hl.rv) ?_
    refine V_cV2 (mc' := 0) (ms' := 0) (M' := mX7_minded) 4 (sx_di dX7_goal 14 rfl) lX7_103 vX7_minded (by first | exact hs.1 | exact hs.2.1 | exact hs.2.2.1 | exact hs.2.2.2.1 | exact hs.2.2.2.2.1 | exact hs.2.2.2.2.2.1 | exact hs.2.2.2.2.2.2.1 | exact hst.1 | exact hst.2.1) (by decide) rfl (Nat.le_of_ble_eq_true rfl) ⟨Nat.le_of_ble_eq_true rfl, Nat.le_of_ble_eq_true rfl⟩ ⟨Nat.le_refl _, Nat.le_refl _⟩ ?_
    refine c_X7_minded (w := hp_wi w I) hs ht hst (hl.mv hf (fun i j _ hj => sc_lw hj)) (by omega) (fun I2 f2 => ?_)
    refine V_istore (sx_di dX7_goal 15 rfl) (by decide) (by first | rfl | (rcases hl.rv with e | ⟨b, e⟩ <;> subst e <;> rfl)) ?_
    refine V_iload (sx_di dX7_goal 16 rfl) rfl ?_
    refine V_iload_n (i := 3) (sx_di dX7_goal 17 rfl) rfl rfl ?_
    refine V_icmp_le (tgt := 40) (sx_di dX7_goal 18 rfl) (by decide) (fun h31 => ?_) (fun h31 => ?_)
    · rw [em] at h31
      rw [if_pos h31] at q1
      refine V_inc (c := 1) (sx_di dX7_goal 23 rfl) (by decide) rfl (by decide) (by first | rfl | (rcases hl.rv with e | ⟨b, e⟩ <;> subst e <;> rfl)) ?_
      refine V_goto (tgt := 7) (sx_di dX7_goal 24 rfl) (by decide) ?_
      exact V_subk (q1 I2 (by omega) (fr_tr hf f2 (fun _ z => z))) ⟨rfl, rfl, rfl, rfl, rfl, trivial⟩
    · rw [em] at h31
      rw [if_neg h31] at q1
      rw [em]
      refine V_iload (sx_di dX7_goal 19 rfl) rfl ?_
      refine V_istore_n (i := 3) (sx_di dX7_goal 20 rfl) rfl (by decide) (by first | rfl | (rcases hl.rv with e | ⟨b, e⟩ <;> subst e <;> rfl)) ?_
      refine V_iload (sx_di dX7_goal 21 rfl) rfl ?_
      refine V_istore_n (i := 2) (sx_di dX7_goal 22 rfl) rfl (by decide) (by first | rfl | (rcases hl.rv with e | ⟨b, e⟩ <;> subst e <;> rfl)) ?_
      refine V_inc (c := 1) (sx_di dX7_goal 23 rfl) (by decide) rfl (by decide) (by first | rfl | (rcases hl.rv with e | ⟨b, e⟩ <;> subst e <;> rfl)) ?_
      refine V_goto (tgt := 7) (sx_di dX7_goal 24 rfl) (by decide) ?_
      exact V_subk (q1 I2 (by omega) (fr_tr hf f2 (fun _ z => z))) ⟨rfl, rfl, rfl, rfl, rfl, trivial⟩
set_option maxHeartbeats 2000000 in
set_option maxRecDepth 20000 in
theorem c_X7_goal {E : sxE} {w : hpW} {Q : Option Value → hpW → Prop} {a t n : Nat} {lv : Value} {F : wF} (hs : is_Ss w a) (ht : hp_r w a 0 = some t) (hst : is_St w t) (hl : lw_ok w lv F) (ha : 52 ≤ a) (ht2 : 52 ≤ t) (hn : hp_i w t 0 = nI n) (hn8 : n ≤ 8) (hq : ∀ I, fr_ w I sc_ → Q (some (.int (gl_ (mC_ (hp_i w) a t F) n))) (hp_wi w I)) : sx_C E mX7_goal 5 0 0 [.ref a, lv] w Q := by
  refine C_of (by decide +kernel) (by rcases hl.rv with e | ⟨b, e⟩ <;> subst e <;> exact Nat.le_of_ble_eq_true rfl) ?_
  refine V_iconst (v := -1) (sx_di dX7_goal 0 rfl) (by decide) ?_
  refine V_istore_n (i := 2) (sx_di dX7_goal 1 rfl) rfl (by decide) (by first | rfl | (rcases hl.rv with e | ⟨b, e⟩ <;> subst e <;> rfl)) ?_
  refine V_iconst (v := 0) (sx_di dX7_goal 2 rfl) (by decide) ?_
  refine V_istore_n (i := 3) (sx_di dX7_goal 3 rfl) rfl (by decide) (by first | rfl | (rcases hl.rv with e | ⟨b, e⟩ <;> subst e <;> rfl)) ?_
  refine V_iconst (v := 0) (sx_di dX7_goal 4 rfl) (by decide) ?_
  refine V_istore (sx_di dX7_goal 5 rfl) (by decide) (by first | rfl | (rcases hl.rv with e | ⟨b, e⟩ <;> subst e <;> rfl)) ?_
  refine V_sub (ls' := [(4, .int (nI 0)), (3, .int (gs_ (mC_ (hp_i w) a t F) 0).2), (2, .int (gs_ (mC_ (hp_i w) a t F) 0).1), (1, lv), (0, .ref a)]) ⟨rfl, rfl, rfl, rfl, rfl, trivial⟩ ?_
  exact go_lp (w := w) hs ht hst hl ha ht2 hn hn8 hq n 0 (hp_i w) (by omega) fr_rf

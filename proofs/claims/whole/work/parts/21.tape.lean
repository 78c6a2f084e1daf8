/-! the tape: signsIn, add, feed, end; byteOf, feed, end of the reference -/
theorem V_subk {E : sxE} {M : sxM} {R : Room} {mc ms ce sl pc : Nat} {ls ls' : List (Nat × Value)} {st : List Value} {w : hpW} {Q : Option Value → hpW → Prop} (k : V E M R mc ms ce sl pc ls' st w Q) (h : sx_sub ls' ls) : V E M R mc ms ce sl pc ls st w Q := V_sub h k
def b_at (x s : Int32) : Int32 := (x.toUInt32 >>> (s.toUInt32 &&& Int32.toUInt32 31)).toInt32 &&& 255
def cb_ (c b : Int32) : Int32 := if b = 0 then c else c + 1
def sg_ (x : Int32) : Int32 := cb_ (cb_ (cb_ (cb_ 0 (b_at x 24)) (b_at x 16)) (b_at x 8)) (b_at x 0)
/-- b behind T, but no 0 -/
def ap_ (T : List Int32) (b : Int32) : List Int32 := if b = 0 then T else T ++ [b]
def a4_ (T : List Int32) (x : Int32) : List Int32 := ap_ (ap_ (ap_ (ap_ T (b_at x 24)) (b_at x 16)) (b_at x 8)) (b_at x 0)
/-- the tape T: its length at a, j, its bytes in b -/
def tp_ (w : hpW) (a j b : Nat) (T : List Int32) : Prop := T.length ≤ 240 ∧ hp_i w a j = nI T.length ∧ ∀ k, k < T.length → hp_i w b k = T.getD k 0
/-- the ints are the same but in the places S -/
def fr_ (w : hpW) (I : Nat → Nat → Int32) (S : Nat → Prop) : Prop := ∀ b, ¬ S b → I b = hp_i w b
theorem fr_rf {w : hpW} {S : Nat → Prop} : fr_ w (hp_i w) S := fun _ _ => rfl
theorem fr_si {w : hpW} {I : Nat → Nat → Int32} {S : Nat → Prop} {a k : Nat} {x : Int32} (h : fr_ w I S) (ha : S a) : fr_ w (hp_u I a k x) S := fun b hb => by
  have hne : b ≠ a := fun e => hb (e ▸ ha)
  rw [hp_u_ne hne]
  exact h b hb
theorem fr_tr {w : hpW} {I J : Nat → Nat → Int32} {S S' : Nat → Prop} (h : fr_ w I S) (h2 : fr_ (hp_wi w I) J S') (hs : ∀ b, S' b → S b) : fr_ w J S := fun b hb => (h2 b (fun z => hb (hs b z))).trans (h b hb)
theorem tp_push {w : hpW} {a j b : Nat} {T : List Int32} {x : Int32} (h : tp_ w a j b T) (hl : T.length < 240) (hab : b ≠ a) : tp_ (hp_si (hp_si w b (hp_i w a j).toNatClampNeg x) a j (hp_i w a j + 1)) a j b (T ++ [x]) := by
  obtain ⟨h1, h2, h3⟩ := h
  have e : (hp_i w a j).toNatClampNeg = T.length := by rw [h2]; exact nI_clamp (by omega)
  refine ⟨by simp; omega, ?_, fun k hk => ?_⟩
  · rw [hp_i_si, if_pos ⟨rfl, rfl⟩, h2, nI_1]; simp
  · rw [hp_i_si, if_neg (fun z => hab z.1), hp_i_si, e]
    by_cases hk2 : k = T.length
    · rw [if_pos ⟨rfl, hk2⟩, hk2]; simp
    · rw [if_neg (fun z => hk2 z.2)]
      have hk3 : k < T.length := by simp at hk; omega
      rw [h3 k hk3]
      simp [List.getD, List.getElem?_append_left hk3]
set_option maxHeartbeats 2000000 in
set_option maxRecDepth 20000 in
theorem sg_step {E : sxE} {w : hpW} {Q : Option Value → hpW → Prop} (x c s : Int32) (hs : ¬ s < 0) (k : V E mX10_signsIn (sx_rm 1 0 0) 0 0 0 0 5 [(2, .int (s + -8)), (1, .int (cb_ c (b_at x s))), (0, .int x)] [] w Q) : V E mX10_signsIn (sx_rm 1 0 0) 0 0 0 0 5 [(2, .int s), (1, .int c), (0, .int x)] [] w Q := by
  refine V_iload_n (i := 2) (sx_di dX10_signsIn 4 rfl) rfl rfl ?_
  refine V_if_lt (tgt := 28) (sx_di dX10_signsIn 5 rfl) (by decide) (fun h6 => absurd h6 hs) (fun _ => ?_)
  refine V_iload_n (i := 0) (sx_di dX10_signsIn 6 rfl) rfl rfl ?_
  refine V_iload_n (i := 2) (sx_di dX10_signsIn 7 rfl) rfl rfl ?_
  refine V_iushr (sx_di dX10_signsIn 8 rfl) ?_
  refine V_sipush (v := 255) (sx_di dX10_signsIn 9 rfl) (by decide) ?_
  refine V_iand (sx_di dX10_signsIn 10 rfl) ?_
  refine V_if_eq (tgt := 22) (sx_di dX10_signsIn 11 rfl) (by decide) (fun h16 => ?_) (fun h16 => ?_)
  · refine V_inc (c := -8) (sx_di dX10_signsIn 13 rfl) (by decide) rfl (by decide) (rfl) ?_
    refine V_goto (tgt := 5) (sx_di dX10_signsIn 14 rfl) (by decide) ?_
    first | (rw [show cb_ c (b_at x s) = c from if_pos h16] at k; exact V_subk k ⟨rfl, rfl, rfl, trivial⟩) | (rw [show cb_ c (b_at x s) = c + 1 from if_neg h16] at k; exact V_subk k ⟨rfl, rfl, rfl, trivial⟩)
  · refine V_inc (c := 1) (sx_di dX10_signsIn 12 rfl) (by decide) rfl (by decide) (rfl) ?_
    refine V_inc (c := -8) (sx_di dX10_signsIn 13 rfl) (by decide) rfl (by decide) (rfl) ?_
    refine V_goto (tgt := 5) (sx_di dX10_signsIn 14 rfl) (by decide) ?_
    first | (rw [show cb_ c (b_at x s) = c from if_pos h16] at k; exact V_subk k ⟨rfl, rfl, rfl, trivial⟩) | (rw [show cb_ c (b_at x s) = c + 1 from if_neg h16] at k; exact V_subk k ⟨rfl, rfl, rfl, trivial⟩)
set_option maxHeartbeats 2000000 in
set_option maxRecDepth 20000 in
theorem sg_out {E : sxE} {w : hpW} {Q : Option Value → hpW → Prop} {x c : Int32} (h : Q (some (.int c)) w) : V E mX10_signsIn (sx_rm 1 0 0) 0 0 0 0 5 [(2, .int (-8)), (1, .int c), (0, .int x)] [] w Q := by
  refine V_iload_n (i := 2) (sx_di dX10_signsIn 4 rfl) rfl rfl ?_
  refine V_if_lt (tgt := 28) (sx_di dX10_signsIn 5 rfl) (by decide) (fun _ => ?_) (fun h6 => absurd (by decide) h6)
  refine V_iload_n (i := 1) (sx_di dX10_signsIn 15 rfl) rfl rfl ?_
  refine V_iret (sx_di dX10_signsIn 16 rfl) rfl (Nat.le_refl _) (Nat.le_refl _) ?_
  exact h
set_option maxHeartbeats 2000000 in
set_option maxRecDepth 20000 in
theorem c_X10_signsIn {E : sxE} {w : hpW} {Q : Option Value → hpW → Prop} {x : Int32} (h : Q (some (.int (sg_ x))) w) : sx_C E mX10_signsIn 1 0 0 [.int x] w Q := by
  refine C_of (by decide +kernel) (Nat.le_of_ble_eq_true rfl) ?_
  refine V_iconst (v := 0) (sx_di dX10_signsIn 0 rfl) (by decide) ?_
  refine V_istore_n (i := 1) (sx_di dX10_signsIn 1 rfl) rfl (by decide) (rfl) ?_
  refine V_bipush (v := 24) (sx_di dX10_signsIn 2 rfl) (by decide) ?_
  refine V_istore_n (i := 2) (sx_di dX10_signsIn 3 rfl) rfl (by decide) (rfl) ?_
  refine V_sub (ls' := [(2, .int 24), (1, .int 0), (0, .int x)]) ⟨rfl, rfl, rfl, trivial⟩ ?_
  refine sg_step x 0 24 (by decide) ?_
  rw [show (24 : Int32) + -8 = 16 by decide]
  refine sg_step x _ 16 (by decide) ?_
  rw [show (16 : Int32) + -8 = 8 by decide]
  refine sg_step x _ 8 (by decide) ?_
  rw [show (8 : Int32) + -8 = 0 by decide]
  refine sg_step x _ 0 (by decide) ?_
  rw [show (0 : Int32) + -8 = -8 by decide]
  exact sg_out h
set_option maxHeartbeats 2000000 in
set_option maxRecDepth 20000 in
theorem ad_step {E : sxE} {w : hpW} {Q : Option Value → hpW → Prop} (hB : ly_B w) (x s : Int32) (T : List Int32) (hT : tp_ w 17 1 18 T) (hs : ¬ s < 0) (hl : (ap_ T (b_at x s)).length ≤ 240) (k : ∀ I, fr_ w I (fun b => b = 17 ∨ b = 18) → tp_ (hp_wi w I) 17 1 18 (ap_ T (b_at x s)) → V E mX10_add (sx_rm 1 0 0) 0 0 0 0 3 [(2, .int (s + -8)), (1, .int x), (0, .ref 17)] [] (hp_wi w I) Q) : V E mX10_add (sx_rm 1 0 0) 0 0 0 0 3 [(2, .int s), (1, .int x), (0, .ref 17)] [] w Q := by
  have hlen : hp_i w 17 1 = nI T.length := hT.2.1
  refine V_iload_n (i := 2) (sx_di dX10_add 2 rfl) rfl rfl ?_
  refine V_if_lt (tgt := 55) (sx_di dX10_add 3 rfl) (by decide) (fun h4 => absurd h4 hs) (fun _ => ?_)
  refine V_iload_n (i := 1) (sx_di dX10_add 4 rfl) rfl rfl ?_
  refine V_iload_n (i := 2) (sx_di dX10_add 5 rfl) rfl rfl ?_
  refine V_iushr (sx_di dX10_add 6 rfl) ?_
  refine V_sipush (v := 255) (sx_di dX10_add 7 rfl) (by decide) ?_
  refine V_iand (sx_di dX10_add 8 rfl) ?_
  refine V_istore_n (i := 3) (sx_di dX10_add 9 rfl) rfl (by decide) (rfl) ?_
  refine V_iload_n (i := 3) (sx_di dX10_add 10 rfl) rfl rfl ?_
  refine V_if_eq (tgt := 49) (sx_di dX10_add 11 rfl) (by decide) (fun h16 => ?_) (fun h16 => ?_)
  · have e : ap_ T (b_at x s) = T := if_pos h16
    rw [e] at k
    refine V_inc (c := -8) (sx_di dX10_add 28 rfl) (by decide) rfl (by decide) (rfl) ?_
    refine V_goto (tgt := 3) (sx_di dX10_add 29 rfl) (by decide) ?_
    first | exact V_subk (k (hp_i w) fr_rf hT) ⟨rfl, rfl, rfl, trivial⟩ | exact V_subk (k _ (fr_si (fr_si fr_rf (Or.inr rfl)) (Or.inl rfl)) (tp_push hT hl2 (by decide))) ⟨rfl, rfl, rfl, trivial⟩
  · have e : ap_ T (b_at x s) = T ++ [b_at x s] := if_neg h16
    rw [e] at k hl
    have hl2 : T.length < 240 := by simp at hl; omega
    refine V_aload_n (i := 0) (sx_di dX10_add 12 rfl) rfl rfl ?_
    refine V_getI (sx_di dX10_add 13 rfl) fX10_15 (fun _ => rfl) (hB.k _ rfl) ?_
    refine V_sipush (v := 240) (sx_di dX10_add 14 rfl) (by decide) ?_
    refine V_icmp_ge (tgt := 49) (sx_di dX10_add 15 rfl) (by decide) (fun h26 => ?_) (fun h26 => ?_)
    · exact absurd h26 (by rw [hlen]; exact nI_ge hl2 (by decide))
    · refine V_aload_n (i := 0) (sx_di dX10_add 16 rfl) rfl rfl ?_
      refine V_getR (sx_di dX10_add 17 rfl) fX10_9 (fun _ => rfl) (hB.k _ rfl) (hB.r _ _ rfl) ?_
      refine V_aload_n (i := 0) (sx_di dX10_add 18 rfl) rfl rfl ?_
      refine V_getI (sx_di dX10_add 19 rfl) fX10_15 (fun _ => rfl) (hB.k _ rfl) ?_
      refine V_iload_n (i := 3) (sx_di dX10_add 20 rfl) rfl rfl ?_
      refine V_iast (sx_di dX10_add 21 rfl) (hB.k _ rfl) (by rw [hlen]; exact vp_in_nI hl2 (by decide)) ?_
      refine V_aload_n (i := 0) (sx_di dX10_add 22 rfl) rfl rfl ?_
      refine V_dup (sx_di dX10_add 23 rfl) rfl ?_
      refine V_getI (sx_di dX10_add 24 rfl) fX10_15 (fun _ => rfl) (hB.k _ rfl) ?_
      refine V_iconst (v := 1) (sx_di dX10_add 25 rfl) (by decide) ?_
      refine V_iadd (sx_di dX10_add 26 rfl) ?_
      refine V_putI (sx_di dX10_add 27 rfl) fX10_15 (fun _ => rfl) rfl (hB.k _ rfl) (rfl) (rfl) ?_
      refine V_inc (c := -8) (sx_di dX10_add 28 rfl) (by decide) rfl (by decide) (rfl) ?_
      refine V_goto (tgt := 3) (sx_di dX10_add 29 rfl) (by decide) ?_
      first | exact V_subk (k (hp_i w) fr_rf hT) ⟨rfl, rfl, rfl, trivial⟩ | exact V_subk (k _ (fr_si (fr_si fr_rf (Or.inr rfl)) (Or.inl rfl)) (tp_push hT hl2 (by decide))) ⟨rfl, rfl, rfl, trivial⟩
set_option maxHeartbeats 2000000 in
set_option maxRecDepth 20000 in
theorem ad_out {E : sxE} {w : hpW} {Q : Option Value → hpW → Prop} {x : Int32} (h : Q none w) : V E mX10_add (sx_rm 1 0 0) 0 0 0 0 3 [(2, .int (-8)), (1, .int x), (0, .ref 17)] [] w Q := by
  refine V_iload_n (i := 2) (sx_di dX10_add 2 rfl) rfl rfl ?_
  refine V_if_lt (tgt := 55) (sx_di dX10_add 3 rfl) (by decide) (fun _ => ?_) (fun h4 => absurd (by decide) h4)
  refine V_vret (sx_di dX10_add 30 rfl) rfl (Nat.le_refl _) (Nat.le_refl _) ?_
  exact h
theorem ap_le (T : List Int32) (b : Int32) : T.length ≤ (ap_ T b).length := by
  unfold ap_
  split
  · exact Nat.le_refl _
  · simp
set_option maxHeartbeats 2000000 in
set_option maxRecDepth 20000 in
theorem c_X10_add {E : sxE} {w : hpW} {Q : Option Value → hpW → Prop} {x : Int32} (hB : ly_B w) (T : List Int32) (hT : tp_ w 17 1 18 T) (hl : (a4_ T x).length ≤ 240) (h : ∀ I, fr_ w I (fun b => b = 17 ∨ b = 18) → tp_ (hp_wi w I) 17 1 18 (a4_ T x) → Q none (hp_wi w I)) : sx_C E mX10_add 1 0 0 [.ref 17, .int x] w Q := by
  have l3 : (ap_ (ap_ (ap_ T (b_at x 24)) (b_at x 16)) (b_at x 8)).length ≤ 240 := Nat.le_trans (ap_le _ _) hl
  have l2 : (ap_ (ap_ T (b_at x 24)) (b_at x 16)).length ≤ 240 := Nat.le_trans (ap_le _ _) l3
  have l1 : (ap_ T (b_at x 24)).length ≤ 240 := Nat.le_trans (ap_le _ _) l2
  refine C_of (by decide +kernel) (Nat.le_of_ble_eq_true rfl) ?_
  refine V_bipush (v := 24) (sx_di dX10_add 0 rfl) (by decide) ?_
  refine V_istore_n (i := 2) (sx_di dX10_add 1 rfl) rfl (by decide) (rfl) ?_
  refine V_sub (ls' := [(2, .int 24), (1, .int x), (0, .ref 17)]) ⟨rfl, rfl, rfl, trivial⟩ ?_
  refine ad_step hB x 24 T hT (by decide) l1 (fun I1 f1 t1 => ?_)
  rw [show (24 : Int32) + -8 = 16 by decide]
  refine ad_step (w := hp_wi w I1) hB x 16 _ t1 (by decide) l2 (fun I2 f2 t2 => ?_)
  rw [show (16 : Int32) + -8 = 8 by decide]
  refine ad_step (w := hp_wi w I2) hB x 8 _ t2 (by decide) l3 (fun I3 f3 t3 => ?_)
  rw [show (8 : Int32) + -8 = 0 by decide]
  refine ad_step (w := hp_wi w I3) hB x 0 _ t3 (by decide) hl (fun I4 f4 t4 => ?_)
  rw [show (0 : Int32) + -8 = -8 by decide]
  exact ad_out (h I4 (fr_tr (fr_tr (fr_tr f1 f2 (fun _ z => z)) f3 (fun _ z => z)) f4 (fun _ z => z)) t4)

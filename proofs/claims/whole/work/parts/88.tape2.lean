/-! the tape, read -/
def tc_ (T : List Int32) (p : Nat) : Int32 := if p < T.length then T.getD p 0 else -1
def skf (T : List Int32) : Nat → Nat → Nat
  | 0, p => p
  | d + 1, p => if p < T.length ∧ T.getD p 0 = 32 then skf T d (p + 1) else p
def skp_ (T : List Int32) (p : Nat) : Nat := skf T (T.length - p) p
theorem skf_ge (T : List Int32) : ∀ d p, p ≤ skf T d p
  | 0, p => Nat.le_refl _
  | d + 1, p => by
    unfold skf
    split
    · exact Nat.le_trans (Nat.le_succ p) (skf_ge T d (p + 1))
    · exact Nat.le_refl _
theorem skf_le (T : List Int32) : ∀ d p M, T.length ≤ M → p ≤ M → skf T d p ≤ M
  | 0, p, M, _, h => h
  | d + 1, p, M, h1, h2 => by
    unfold skf
    split
    · next z => exact skf_le T d (p + 1) M h1 (by omega)
    · exact h2
theorem skp_le {T : List Int32} {p M : Nat} (h1 : T.length ≤ M) (h2 : p ≤ M) : skp_ T p ≤ M := skf_le T _ p M h1 h2
theorem skp_ge (T : List Int32) (p : Nat) : p ≤ skp_ T p := skf_ge T _ p
/-- the class's head is at p -/
def hd9 (w : hpW) (p : Nat) : hpW := hp_wi w (hp_u (hp_i w) 17 2 (nI p))
def at9 (w : hpW) (p : Nat) : hpW := hp_wi w (hp_u (hp_i w) 381 3 (nI p))
theorem hd9_id {w : hpW} {p : Nat} (e : hp_i w 17 2 = nI p) : hd9 w p = w := by
  unfold hd9
  rw [← e, hp_u_id]
  rfl
theorem at9_id {w : hpW} {p : Nat} (e : hp_i w 381 3 = nI p) : at9 w p = w := by
  unfold at9
  rw [← e, hp_u_id]
  rfl
theorem hd9_o {w : hpW} {p b j : Nat} (h : ¬ (b = 17 ∧ j = 2)) : hp_i (hd9 w p) b j = hp_i w b j := by
  show hp_u (hp_i w) 17 2 (nI p) b j = _
  exact hp_u_nk _ _ h
theorem at9_o {w : hpW} {p b j : Nat} (h : ¬ (b = 381 ∧ j = 3)) : hp_i (at9 w p) b j = hp_i w b j := by
  show hp_u (hp_i w) 381 3 (nI p) b j = _
  exact hp_u_nk _ _ h
theorem hd9_s (w : hpW) (p q : Nat) : hp_si (hd9 w p) 17 2 (nI q) = hd9 w q := by
  show hp_wi w (hp_u (hp_u (hp_i w) 17 2 (nI p)) 17 2 (nI q)) = _
  rw [hp_uu]
  rfl
theorem at9_s (w : hpW) (p q : Nat) : hp_si (at9 w p) 381 3 (nI q) = at9 w q := by
  show hp_wi w (hp_u (hp_u (hp_i w) 381 3 (nI p)) 381 3 (nI q)) = _
  rw [hp_uu]
  rfl
set_option maxHeartbeats 2000000 in
set_option maxRecDepth 20000 in
theorem sg_lp {E : sxE} {w : hpW} {Q : Option Value → hpW → Prop} (hB : ly_B w) {T : List Int32} (hT : tp_ w 17 1 18 T) : ∀ d p, T.length ≤ p + d → p ≤ 1000 → Q (some (.int (tc_ T (skf T d p)))) (hd9 w (skf T d p)) → V E mX10_sign (sx_rm 1 0 0) 0 0 0 0 0 [(0, .ref 17)] [] (hd9 w p) Q := by
  intro d
  have hl := hT.1
  have e1 : ∀ p, hp_i (hd9 w p) 17 2 = nI p := fun p => hp_u_at (hp_i w) 17 2 (nI p)
  have e2 : ∀ p, hp_i (hd9 w p) 17 1 = nI T.length := fun p => (hd9_o (by omega)).trans hT.2.1
  have e3 : ∀ p k, k < T.length → hp_i (hd9 w p) 18 k = T.getD k 0 := fun p k hk => (hd9_o (by omega)).trans (hT.2.2 k hk)
  have hend : ∀ p, p ≤ 1000 → T.length ≤ p → Q (some (.int (-1))) (hd9 w p) → V E mX10_sign (sx_rm 1 0 0) 0 0 0 0 0 [(0, .ref 17)] [] (hd9 w p) Q := fun p hp hpl hz => by
    refine V_aload_n (i := 0) (sx_di dX10_sign 0 rfl) rfl rfl ?_
    refine V_getI (sx_di dX10_sign 1 rfl) fX10_19 (fun _ => rfl) (hB.k _ rfl) ?_
    refine V_iv (y := nI p) (e1 p) ?_
    refine V_aload_n (i := 0) (sx_di dX10_sign 2 rfl) rfl rfl ?_
    refine V_getI (sx_di dX10_sign 3 rfl) fX10_15 (fun _ => rfl) (hB.k _ rfl) ?_
    refine V_iv (y := nI T.length) (e2 p) ?_
    refine V_icN_ge (a := p) (b := T.length) (rfl) (rfl) (by omega) (by omega) (tgt := 48) (sx_di dX10_sign 4 rfl) (by decide) (fun _ => ?_) (fun h8 => absurd h8 (by omega))
    refine V_aload_n (i := 0) (sx_di dX10_sign 23 rfl) rfl rfl ?_
    refine V_getI (sx_di dX10_sign 24 rfl) fX10_19 (fun _ => rfl) (hB.k _ rfl) ?_
    refine V_iv (y := nI p) (e1 p) ?_
    refine V_ifN_lt (a := p) (rfl) (by omega) (tgt := 88) (sx_di dX10_sign 25 rfl) (by decide) (fun h52 => absurd h52 (by omega)) (fun _ => ?_)
    refine V_aload_n (i := 0) (sx_di dX10_sign 26 rfl) rfl rfl ?_
    refine V_getI (sx_di dX10_sign 27 rfl) fX10_19 (fun _ => rfl) (hB.k _ rfl) ?_
    refine V_iv (y := nI p) (e1 p) ?_
    refine V_aload_n (i := 0) (sx_di dX10_sign 28 rfl) rfl rfl ?_
    refine V_getI (sx_di dX10_sign 29 rfl) fX10_15 (fun _ => rfl) (hB.k _ rfl) ?_
    refine V_iv (y := nI T.length) (e2 p) ?_
    refine V_icN_ge (a := p) (b := T.length) (rfl) (rfl) (by omega) (by omega) (tgt := 88) (sx_di dX10_sign 30 rfl) (by decide) (fun _ => ?_) (fun h63 => absurd h63 (by omega))
    refine V_iconst (v := -1) (sx_di dX10_sign 41 rfl) (by decide) ?_
    refine V_iret (sx_di dX10_sign 42 rfl) rfl (Nat.le_refl _) (Nat.le_refl _) ?_
    exact hz
  induction d with
  | zero =>
    intro p hpl hp h
    unfold skf at h
    have ec : tc_ T p = -1 := if_neg (by omega)
    rw [ec] at h
    exact hend p hp (by omega) h
  | succ d ih =>
    intro p hpl hp h
    unfold skf at h
    by_cases hlt : p < T.length
    · have ec : tc_ T p = T.getD p 0 := if_pos hlt
      refine V_aload_n (i := 0) (sx_di dX10_sign 0 rfl) rfl rfl ?_
      refine V_getI (sx_di dX10_sign 1 rfl) fX10_19 (fun _ => rfl) (hB.k _ rfl) ?_
      refine V_iv (y := nI p) (e1 p) ?_
      refine V_aload_n (i := 0) (sx_di dX10_sign 2 rfl) rfl rfl ?_
      refine V_getI (sx_di dX10_sign 3 rfl) fX10_15 (fun _ => rfl) (hB.k _ rfl) ?_
      refine V_iv (y := nI T.length) (e2 p) ?_
      refine V_icN_ge (a := p) (b := T.length) (rfl) (rfl) (by omega) (by omega) (tgt := 48) (sx_di dX10_sign 4 rfl) (by decide) (fun h8 => absurd h8 (by omega)) (fun _ => ?_)
      refine V_aload_n (i := 0) (sx_di dX10_sign 5 rfl) rfl rfl ?_
      refine V_getI (sx_di dX10_sign 6 rfl) fX10_19 (fun _ => rfl) (hB.k _ rfl) ?_
      refine V_iv (y := nI p) (e1 p) ?_
      refine V_sipush (v := 240) (sx_di dX10_sign 7 rfl) (by decide) ?_
      refine V_icN_ge (a := p) (b := 240) (rfl) (rfl) (by omega) (by omega) (tgt := 48) (sx_di dX10_sign 8 rfl) (by decide) (fun h18 => absurd h18 (by omega)) (fun _ => ?_)
      refine V_aload_n (i := 0) (sx_di dX10_sign 9 rfl) rfl rfl ?_
      refine V_getR (sx_di dX10_sign 10 rfl) fX10_9 (fun _ => rfl) (hB.k _ rfl) (hB.r _ _ rfl) ?_
      refine V_aload_n (i := 0) (sx_di dX10_sign 11 rfl) rfl rfl ?_
      refine V_getI (sx_di dX10_sign 12 rfl) fX10_19 (fun _ => rfl) (hB.k _ rfl) ?_
      refine V_iv (y := nI p) (e1 p) ?_
      refine V_ialdN (n := 240) (j := p) (sx_di dX10_sign 13 rfl) (hB.k _ rfl) (rfl) (by omega) (by omega) ?_
      refine V_iv (y := T.getD p 0) (e3 p p (by omega)) ?_
      refine V_bipush (v := 32) (sx_di dX10_sign 14 rfl) (by decide) ?_
      refine V_icmp_ne (tgt := 48) (sx_di dX10_sign 15 rfl) (by decide) (fun h32 => ?_) (fun h32 => ?_)
      · rw [if_neg (fun z => h32 z.2), ec] at h
        refine V_aload_n (i := 0) (sx_di dX10_sign 23 rfl) rfl rfl ?_
        refine V_getI (sx_di dX10_sign 24 rfl) fX10_19 (fun _ => rfl) (hB.k _ rfl) ?_
        refine V_iv (y := nI p) (e1 p) ?_
        refine V_ifN_lt (a := p) (rfl) (by omega) (tgt := 88) (sx_di dX10_sign 25 rfl) (by decide) (fun h52 => absurd h52 (by omega)) (fun _ => ?_)
        refine V_aload_n (i := 0) (sx_di dX10_sign 26 rfl) rfl rfl ?_
        refine V_getI (sx_di dX10_sign 27 rfl) fX10_19 (fun _ => rfl) (hB.k _ rfl) ?_
        refine V_iv (y := nI p) (e1 p) ?_
        refine V_aload_n (i := 0) (sx_di dX10_sign 28 rfl) rfl rfl ?_
        refine V_getI (sx_di dX10_sign 29 rfl) fX10_15 (fun _ => rfl) (hB.k _ rfl) ?_
        refine V_iv (y := nI T.length) (e2 p) ?_
        refine V_icN_ge (a := p) (b := T.length) (rfl) (rfl) (by omega) (by omega) (tgt := 88) (sx_di dX10_sign 30 rfl) (by decide) (fun h63 => absurd h63 (by omega)) (fun _ => ?_)
        refine V_aload_n (i := 0) (sx_di dX10_sign 31 rfl) rfl rfl ?_
        refine V_getI (sx_di dX10_sign 32 rfl) fX10_19 (fun _ => rfl) (hB.k _ rfl) ?_
        refine V_iv (y := nI p) (e1 p) ?_
        refine V_sipush (v := 240) (sx_di dX10_sign 33 rfl) (by decide) ?_
        refine V_icN_ge (a := p) (b := 240) (rfl) (rfl) (by omega) (by omega) (tgt := 88) (sx_di dX10_sign 34 rfl) (by decide) (fun h73 => absurd h73 (by omega)) (fun _ => ?_)
        refine V_aload_n (i := 0) (sx_di dX10_sign 35 rfl) rfl rfl ?_
        refine V_getR (sx_di dX10_sign 36 rfl) fX10_9 (fun _ => rfl) (hB.k _ rfl) (hB.r _ _ rfl) ?_
        refine V_aload_n (i := 0) (sx_di dX10_sign 37 rfl) rfl rfl ?_
        refine V_getI (sx_di dX10_sign 38 rfl) fX10_19 (fun _ => rfl) (hB.k _ rfl) ?_
        refine V_iv (y := nI p) (e1 p) ?_
        refine V_ialdN (n := 240) (j := p) (sx_di dX10_sign 39 rfl) (hB.k _ rfl) (rfl) (by omega) (by omega) ?_
        refine V_iv (y := T.getD p 0) (e3 p p (by omega)) ?_
        refine V_goto (tgt := 89) (sx_di dX10_sign 40 rfl) (by decide) ?_
        refine V_iret (sx_di dX10_sign 42 rfl) rfl (Nat.le_refl _) (Nat.le_refl _) ?_
        exact h
      · rw [if_pos ⟨hlt, h32⟩] at h
        refine V_aload_n (i := 0) (sx_di dX10_sign 16 rfl) rfl rfl ?_
        refine V_dup (sx_di dX10_sign 17 rfl) rfl ?_
        refine V_getI (sx_di dX10_sign 18 rfl) fX10_19 (fun _ => rfl) (hB.k _ rfl) ?_
        refine V_iv (y := nI p) (e1 p) ?_
        refine V_iconst (v := 1) (sx_di dX10_sign 19 rfl) (by decide) ?_
        refine V_iadd (sx_di dX10_sign 20 rfl) ?_
        refine V_iv (y := nI (p + 1)) (nI_add p 1) ?_
        refine V_putI (sx_di dX10_sign 21 rfl) fX10_19 (fun _ => rfl) rfl (hB.k _ rfl) (rfl) (rfl) ?_
        refine V_ww (w2 := hd9 w (p + 1)) (hd9_s w p (p + 1)) ?_
        refine V_goto (tgt := 0) (sx_di dX10_sign 22 rfl) (by decide) ?_
        exact ih (p + 1) (by omega) (by omega) h
    · rw [if_neg (fun z => hlt z.1)] at h
      have ec : tc_ T p = -1 := if_neg hlt
      rw [ec] at h
      exact hend p hp (by omega) h
theorem c_X10_sign {E : sxE} {w : hpW} {Q : Option Value → hpW → Prop} (hB : ly_B w) {T : List Int32} (hT : tp_ w 17 1 18 T) {p : Nat} (hp : p ≤ 1000) (e : hp_i w 17 2 = nI p) (h : Q (some (.int (tc_ T (skp_ T p)))) (hd9 w (skp_ T p))) : sx_C E mX10_sign 1 0 0 [.ref 17] w Q := by
  refine C_of (by decide +kernel) (Nat.le_of_ble_eq_true rfl) ?_
  refine V_ww (hd9_id e).symm ?_
  refine V_sub (ls' := [(0, .ref 17)]) ⟨rfl, trivial⟩ ?_
  exact sg_lp hB hT (T.length - p) p (by omega) hp h
set_option maxHeartbeats 2000000 in
set_option maxRecDepth 20000 in
theorem c_X12_here {E : sxE} {w : hpW} {Q : Option Value → hpW → Prop} (hB : ly_B w) {T : List Int32} (hT : tp_ w 381 2 382 T) {p : Nat} (hp : p ≤ 1000) (e : hp_i w 381 3 = nI p) (h : Q (some (.int (tc_ T p))) w) : sx_C E mX12_here 1 0 0 [.ref 381] w Q := by
  have hl := hT.1
  unfold tc_ at h
  refine C_of (by decide +kernel) (Nat.le_of_ble_eq_true rfl) ?_
  refine V_aload_n (i := 0) (sx_di dX12_here 0 rfl) rfl rfl ?_
  refine V_getI (sx_di dX12_here 1 rfl) fX12_109 (fun _ => rfl) (hB.k _ rfl) ?_
  refine V_iv (y := nI p) (e) ?_
  refine V_aload_n (i := 0) (sx_di dX12_here 2 rfl) rfl rfl ?_
  refine V_getI (sx_di dX12_here 3 rfl) fX12_106 (fun _ => rfl) (hB.k _ rfl) ?_
  refine V_iv (y := nI T.length) (hT.2.1) ?_
  refine V_icN_ge (a := p) (b := T.length) (rfl) (rfl) (by omega) (by omega) (tgt := 23) (sx_di dX12_here 4 rfl) (by decide) (fun h8 => ?_) (fun h8 => ?_)
  · rw [if_neg (by omega)] at h
    refine V_iconst (v := -1) (sx_di dX12_here 11 rfl) (by decide) ?_
    refine V_iret (sx_di dX12_here 12 rfl) rfl (Nat.le_refl _) (Nat.le_refl _) ?_
    exact h
  · rw [if_pos (by omega)] at h
    refine V_aload_n (i := 0) (sx_di dX12_here 5 rfl) rfl rfl ?_
    refine V_getR (sx_di dX12_here 6 rfl) fX12_9 (fun _ => rfl) (hB.k _ rfl) (hB.r _ _ rfl) ?_
    refine V_aload_n (i := 0) (sx_di dX12_here 7 rfl) rfl rfl ?_
    refine V_getI (sx_di dX12_here 8 rfl) fX12_109 (fun _ => rfl) (hB.k _ rfl) ?_
    refine V_iv (y := nI p) (e) ?_
    refine V_ialdN (n := 240) (j := p) (sx_di dX12_here 9 rfl) (hB.k _ rfl) (rfl) (by omega) (by omega) ?_
    refine V_iv (y := T.getD p 0) (hT.2.2 p (by omega)) ?_
    refine V_goto (tgt := 24) (sx_di dX12_here 10 rfl) (by decide) ?_
    refine V_iret (sx_di dX12_here 12 rfl) rfl (Nat.le_refl _) (Nat.le_refl _) ?_
    exact h
set_option maxHeartbeats 2000000 in
set_option maxRecDepth 20000 in
theorem lk_lp {E : sxE} {w : hpW} {Q : Option Value → hpW → Prop} (hB : ly_B w) {T : List Int32} (hT : tp_ w 381 2 382 T) : ∀ d p, T.length ≤ p + d → p ≤ 1000 → Q (some (.int (tc_ T (skf T d p)))) (at9 w (skf T d p)) → V E mX12_look (sx_rm 2 0 0) 0 0 0 0 0 [(0, .ref 381)] [] (at9 w p) Q := by
  intro d
  have hl := hT.1
  have e1 : ∀ p, hp_i (at9 w p) 381 3 = nI p := fun p => hp_u_at (hp_i w) 381 3 (nI p)
  have hT2 : ∀ p, tp_ (at9 w p) 381 2 382 T := fun p => ⟨hT.1, (at9_o (by omega)).trans hT.2.1, fun k hk => (at9_o (by omega)).trans (hT.2.2 k hk)⟩
  have hend : ∀ p, p ≤ 1000 → ¬ tc_ T p = 32 → Q (some (.int (tc_ T p))) (at9 w p) → V E mX12_look (sx_rm 2 0 0) 0 0 0 0 0 [(0, .ref 381)] [] (at9 w p) Q := fun p hp hpl hz => by
    refine V_aload_n (i := 0) (sx_di dX12_look 0 rfl) rfl rfl ?_
    refine V_cV0 (mc' := 0) (ms' := 0) (M' := mX12_here) 1 (sx_di dX12_look 1 rfl) lX12_112 vX12_here (hB.k _ rfl) (by decide) rfl (Nat.le_of_ble_eq_true rfl) ⟨Nat.le_of_ble_eq_true rfl, Nat.le_of_ble_eq_true rfl⟩ ⟨Nat.le_refl _, Nat.le_refl _⟩ ?_
    refine c_X12_here hB (hT2 p) hp (e1 p) ?_
    refine V_bipush (v := 32) (sx_di dX12_look 2 rfl) (by decide) ?_
    refine V_icmp_ne (tgt := 22) (sx_di dX12_look 3 rfl) (by decide) (fun _ => ?_) (fun h6 => absurd h6 hpl)
    refine V_aload_n (i := 0) (sx_di dX12_look 11 rfl) rfl rfl ?_
    refine V_cV0 (mc' := 0) (ms' := 0) (M' := mX12_here) 1 (sx_di dX12_look 12 rfl) lX12_112 vX12_here (hB.k _ rfl) (by decide) rfl (Nat.le_of_ble_eq_true rfl) ⟨Nat.le_of_ble_eq_true rfl, Nat.le_of_ble_eq_true rfl⟩ ⟨Nat.le_refl _, Nat.le_refl _⟩ ?_
    refine c_X12_here hB (hT2 p) hp (e1 p) ?_
    refine V_iret (sx_di dX12_look 13 rfl) rfl (Nat.le_refl _) (Nat.le_refl _) ?_
    exact hz
  induction d with
  | zero =>
    intro p hpl hp h
    unfold skf at h
    have ec : tc_ T p = -1 := if_neg (by omega)
    exact hend p hp (by rw [ec]; decide) h
  | succ d ih =>
    intro p hpl hp h
    unfold skf at h
    by_cases hlt : p < T.length ∧ T.getD p 0 = 32
    · rw [if_pos hlt] at h
      have ec : tc_ T p = 32 := by unfold tc_; rw [if_pos hlt.1]; exact hlt.2
      refine V_aload_n (i := 0) (sx_di dX12_look 0 rfl) rfl rfl ?_
      refine V_cV0 (mc' := 0) (ms' := 0) (M' := mX12_here) 1 (sx_di dX12_look 1 rfl) lX12_112 vX12_here (hB.k _ rfl) (by decide) rfl (Nat.le_of_ble_eq_true rfl) ⟨Nat.le_of_ble_eq_true rfl, Nat.le_of_ble_eq_true rfl⟩ ⟨Nat.le_refl _, Nat.le_refl _⟩ ?_
      refine c_X12_here hB (hT2 p) hp (e1 p) ?_
      refine V_bipush (v := 32) (sx_di dX12_look 2 rfl) (by decide) ?_
      refine V_icmp_ne (tgt := 22) (sx_di dX12_look 3 rfl) (by decide) (fun h6 => absurd ec h6) (fun _ => ?_)
      refine V_aload_n (i := 0) (sx_di dX12_look 4 rfl) rfl rfl ?_
      refine V_dup (sx_di dX12_look 5 rfl) rfl ?_
      refine V_getI (sx_di dX12_look 6 rfl) fX12_109 (fun _ => rfl) (hB.k _ rfl) ?_
      refine V_iv (y := nI p) (e1 p) ?_
      refine V_iconst (v := 1) (sx_di dX12_look 7 rfl) (by decide) ?_
      refine V_iadd (sx_di dX12_look 8 rfl) ?_
      refine V_iv (y := nI (p + 1)) (nI_add p 1) ?_
      refine V_putI (sx_di dX12_look 9 rfl) fX12_109 (fun _ => rfl) rfl (hB.k _ rfl) (rfl) (rfl) ?_
      refine V_ww (w2 := at9 w (p + 1)) (at9_s w p (p + 1)) ?_
      refine V_goto (tgt := 0) (sx_di dX12_look 10 rfl) (by decide) ?_
      exact ih (p + 1) (by omega) (by omega) h
    · rw [if_neg hlt] at h
      refine hend p hp (fun z => hlt ?_) h
      unfold tc_ at z
      by_cases hx : p < T.length
      · rw [if_pos hx] at z
        exact ⟨hx, z⟩
      · rw [if_neg hx] at z
        exact absurd z (by decide)
theorem c_X12_look {E : sxE} {w : hpW} {Q : Option Value → hpW → Prop} (hB : ly_B w) {T : List Int32} (hT : tp_ w 381 2 382 T) {p : Nat} (hp : p ≤ 1000) (e : hp_i w 381 3 = nI p) (h : Q (some (.int (tc_ T (skp_ T p)))) (at9 w (skp_ T p))) : sx_C E mX12_look 2 0 0 [.ref 381] w Q := by
  refine C_of (by decide +kernel) (Nat.le_of_ble_eq_true rfl) ?_
  refine V_ww (at9_id e).symm ?_
  refine V_sub (ls' := [(0, .ref 381)]) ⟨rfl, trivial⟩ ?_
  exact lk_lp hB hT (T.length - p) p (by omega) hp h
def dg_ (c : Int32) : Prop := 48 ≤ c ∧ c ≤ 57
set_option maxHeartbeats 2000000 in
set_option maxRecDepth 20000 in
theorem c_X12_isDigit {E : sxE} {w : hpW} {Q : Option Value → hpW → Prop} {c : Int32} (h1 : dg_ c → Q (some (.int 1)) w) (h0 : ¬ dg_ c → Q (some (.int 0)) w) : sx_C E mX12_isDigit 1 0 0 [.int c] w Q := by
  refine C_of (by decide +kernel) (Nat.le_of_ble_eq_true rfl) ?_
  refine V_iload_n (i := 0) (sx_di dX12_isDigit 0 rfl) rfl rfl ?_
  refine V_bipush (v := 48) (sx_di dX12_isDigit 1 rfl) (by decide) ?_
  refine V_icmp_lt (tgt := 16) (sx_di dX12_isDigit 2 rfl) (by decide) (fun h3 => ?_) (fun h3 => ?_)
  · refine V_iconst (v := 0) (sx_di dX12_isDigit 8 rfl) (by decide) ?_
    refine V_zret (sx_di dX12_isDigit 9 rfl) rfl (by first | rfl | decide) (Nat.le_refl _) (Nat.le_refl _) ?_
    exact h0 (fun z => absurd z.1 (Int32.not_le.mpr h3))
  · refine V_iload_n (i := 0) (sx_di dX12_isDigit 3 rfl) rfl rfl ?_
    refine V_bipush (v := 57) (sx_di dX12_isDigit 4 rfl) (by decide) ?_
    refine V_icmp_gt (tgt := 16) (sx_di dX12_isDigit 5 rfl) (by decide) (fun h9 => ?_) (fun h9 => ?_)
    · refine V_iconst (v := 0) (sx_di dX12_isDigit 8 rfl) (by decide) ?_
      refine V_zret (sx_di dX12_isDigit 9 rfl) rfl (by first | rfl | decide) (Nat.le_refl _) (Nat.le_refl _) ?_
      exact h0 (fun z => absurd z.2 (Int32.not_le.mpr h9))
    · refine V_iconst (v := 1) (sx_di dX12_isDigit 6 rfl) (by decide) ?_
      refine V_goto (tgt := 17) (sx_di dX12_isDigit 7 rfl) (by decide) ?_
      refine V_zret (sx_di dX12_isDigit 9 rfl) rfl (by first | rfl | decide) (Nat.le_refl _) (Nat.le_refl _) ?_
      exact h1 ⟨Int32.not_lt.mp h3, Int32.not_lt.mp h9⟩
set_option maxHeartbeats 2000000 in
set_option maxRecDepth 20000 in
theorem c_X12_bad {E : sxE} {w : hpW} {Q : Option Value → hpW → Prop} (hB : ly_B w) (h1 : hp_i w 381 4 = -1 → Q none (hp_si w 381 4 (hp_i w 381 3))) (h0 : ¬ hp_i w 381 4 = -1 → Q none w) : sx_C E mX12_bad 1 0 0 [.ref 381] w Q := by
  refine C_of (by decide +kernel) (Nat.le_of_ble_eq_true rfl) ?_
  refine V_aload_n (i := 0) (sx_di dX12_bad 0 rfl) rfl rfl ?_
  refine V_aload_n (i := 0) (sx_di dX12_bad 1 rfl) rfl rfl ?_
  refine V_getI (sx_di dX12_bad 2 rfl) fX12_116 (fun _ => rfl) (hB.k _ rfl) ?_
  refine V_iconst (v := -1) (sx_di dX12_bad 3 rfl) (by decide) ?_
  refine V_icmp_ne (tgt := 16) (sx_di dX12_bad 4 rfl) (by decide) (fun h6 => ?_) (fun h6 => ?_)
  · refine V_aload_n (i := 0) (sx_di dX12_bad 8 rfl) rfl rfl ?_
    refine V_getI (sx_di dX12_bad 9 rfl) fX12_116 (fun _ => rfl) (hB.k _ rfl) ?_
    refine V_putI (sx_di dX12_bad 10 rfl) fX12_116 (fun _ => rfl) rfl (hB.k _ rfl) (rfl) (rfl) ?_
    refine V_vret (sx_di dX12_bad 11 rfl) rfl (Nat.le_refl _) (Nat.le_refl _) ?_
    refine Q_w (h0 h6) ?_
    show w = hp_wi w (hp_u (hp_i w) 381 4 (hp_i w 381 4))
    rw [hp_u_id]
    rfl
  · refine V_aload_n (i := 0) (sx_di dX12_bad 5 rfl) rfl rfl ?_
    refine V_getI (sx_di dX12_bad 6 rfl) fX12_109 (fun _ => rfl) (hB.k _ rfl) ?_
    refine V_goto (tgt := 20) (sx_di dX12_bad 7 rfl) (by decide) ?_
    refine V_putI (sx_di dX12_bad 10 rfl) fX12_116 (fun _ => rfl) rfl (hB.k _ rfl) (rfl) (rfl) ?_
    refine V_vret (sx_di dX12_bad 11 rfl) rfl (Nat.le_refl _) (Nat.le_refl _) ?_
    exact h1 h6

/-! constructors: rows made one behind the other -/
def stp (w : hpW) (a : Nat) (q : Nat × Nat × Nat) : hpW := hp_sr (hp_new w q.1 q.2.1) a q.2.2 (some (hp_n w))
def stps (w : hpW) (a : Nat) : List (Nat × Nat × Nat) → hpW
  | [] => w
  | q :: L => stps (stp w a q) a L
theorem nw_k (w : hpW) (c n b : Nat) : hp_k (hp_new w c n) b = if b = hp_n w then (c, n) else hp_k w b := rfl
theorem nw_r (w : hpW) (c n b : Nat) : hp_r (hp_new w c n) b = if b = hp_n w then (fun _ => none) else hp_r w b := rfl
theorem nw_i (w : hpW) (c n b : Nat) : hp_i (hp_new w c n) b = if b = hp_n w then (fun _ => 0) else hp_i w b := rfl
theorem nw_j (w : hpW) (c n b : Nat) : hp_j (hp_new w c n) b = if b = hp_n w then (fun _ => 0) else hp_j w b := rfl
/-- b stays as it was, but for references of a -/
def sm9 (a : Nat) (w w' : hpW) (b : Nat) : Prop := hp_k w' b = hp_k w b ∧ hp_i w' b = hp_i w b ∧ hp_j w' b = hp_j w b ∧ (b ≠ a → hp_r w' b = hp_r w b)
theorem sm9_tr {a b : Nat} {w w2 w3 : hpW} (f : sm9 a w w2 b) (g : sm9 a w2 w3 b) : sm9 a w w3 b := ⟨g.1.trans f.1, g.2.1.trans f.2.1, g.2.2.1.trans f.2.2.1, fun h => (g.2.2.2 h).trans (f.2.2.2 h)⟩
theorem stp_sm {w : hpW} {a : Nat} {q : Nat × Nat × Nat} {b : Nat} (hb : b < hp_n w) : sm9 a w (stp w a q) b := by
  refine ⟨?_, ?_, ?_, fun h => ?_⟩
  · show hp_k (hp_new w q.1 q.2.1) b = _
    rw [nw_k, if_neg (by omega)]
  · show hp_i (hp_new w q.1 q.2.1) b = _
    rw [nw_i, if_neg (by omega)]
  · show hp_j (hp_new w q.1 q.2.1) b = _
    rw [nw_j, if_neg (by omega)]
  · funext j
    show hp_u (hp_r (hp_new w q.1 q.2.1)) a q.2.2 (some (hp_n w)) b j = _
    rw [hp_u_nk _ _ (fun z => h z.1), nw_r, if_neg (by omega)]
theorem stps_ok {a : Nat} : ∀ (L : List (Nat × Nat × Nat)) (w : hpW), a < hp_n w → (∀ (i j : Nat) (q r : Nat × Nat × Nat), L[i]? = some q → L[j]? = some r → i ≠ j → q.2.2 ≠ r.2.2) → hp_n (stps w a L) = hp_n w + L.length ∧ (∀ b, b < hp_n w → sm9 a w (stps w a L) b) ∧ (∀ k, (∀ q, q ∈ L → q.2.2 ≠ k) → hp_r (stps w a L) a k = hp_r w a k) ∧ (∀ i q, L[i]? = some q → hp_k (stps w a L) (hp_n w + i) = (q.1, q.2.1) ∧ hp_r (stps w a L) a q.2.2 = some (hp_n w + i)) ∧ ∀ b j, hp_n w ≤ b → b < hp_n w + L.length → hp_i (stps w a L) b j = 0
  | [], w, ha, _ => ⟨rfl, fun b _ => ⟨rfl, rfl, rfl, fun _ => rfl⟩, fun _ _ => rfl, fun i q h => absurd h (by simp), fun b j h1 h2 => absurd h2 (by simp; omega)⟩
  | q :: L, w, ha, hd => by
    have n1 : hp_n (stp w a q) = hp_n w + 1 := rfl
    obtain ⟨i1, i2, i3, i4, i5⟩ := stps_ok (a := a) L (stp w a q) (by omega) (fun i j x y hx hy hij => hd (i + 1) (j + 1) x y hx hy (by omega))
    have k1 : hp_k (stp w a q) (hp_n w) = (q.1, q.2.1) := by
      show hp_k (hp_new w q.1 q.2.1) (hp_n w) = _
      rw [nw_k, if_pos rfl]
    have l1 : (q :: L).length = L.length + 1 := rfl
    have nq : ∀ r, r ∈ L → r.2.2 ≠ q.2.2 := fun r hr => by
      obtain ⟨i, hi⟩ := List.getElem?_of_mem hr
      exact fun z => hd (i + 1) 0 r q hi rfl (by omega) z
    refine ⟨by show hp_n (stps (stp w a q) a L) = _; rw [i1, n1, l1]; omega, fun b hb => sm9_tr (stp_sm hb) (i2 b (by omega)), fun k hk => ?_, fun i r hr => ?_, fun b j h1 h2 => ?_⟩
    · show hp_r (stps (stp w a q) a L) a k = _
      rw [i3 k (fun r hr => hk r (List.mem_cons_of_mem _ hr))]
      show hp_u (hp_r (hp_new w q.1 q.2.1)) a q.2.2 (some (hp_n w)) a k = _
      rw [hp_u_nk _ _ (fun z => hk q List.mem_cons_self z.2.symm), nw_r, if_neg (by omega)]
    · cases i with
      | zero =>
        have e : q = r := Option.some.inj hr
        subst e
        refine ⟨?_, ?_⟩
        · show hp_k (stps (stp w a q) a L) (hp_n w + 0) = _
          rw [Nat.add_zero, (i2 (hp_n w) (by omega)).1, k1]
        · show hp_r (stps (stp w a q) a L) a q.2.2 = _
          rw [i3 _ nq]
          show hp_u (hp_r (hp_new w q.1 q.2.1)) a q.2.2 (some (hp_n w)) a q.2.2 = _
          rw [hp_u_at]
          rfl
      | succ i =>
        obtain ⟨e1, e2⟩ := i4 i r hr
        rw [n1] at e1 e2
        rw [show hp_n w + (i + 1) = hp_n w + 1 + i by omega]
        exact ⟨e1, e2⟩
    · by_cases e : b = hp_n w
      · subst e
        show hp_i (stps (stp w a q) a L) (hp_n w) j = _
        rw [(i2 (hp_n w) (by omega)).2.1]
        show hp_i (hp_new w q.1 q.2.1) (hp_n w) j = _
        rw [nw_i, if_pos rfl]
      · exact i5 b j (by omega) (by omega)
theorem k_st {w : hpW} {a c n : Nat} (L : List (Nat × Nat × Nat)) (ha : a < hp_n w) : hp_k (hp_new (stps w a L) c n) a = hp_k w a := by
  have key : ∀ L w, a < hp_n w → hp_k (stps w a L) a = hp_k w a ∧ a < hp_n (stps w a L) := by
    intro L
    induction L with
    | nil => exact fun w h => ⟨rfl, h⟩
    | cons q L ih =>
      intro w h
      obtain ⟨i1, i2⟩ := ih (stp w a q) (by show a < hp_n w + 1; omega)
      exact ⟨i1.trans (stp_sm h).1, i2⟩
  obtain ⟨k1, k2⟩ := key L w ha
  rw [nw_k, if_neg (by omega), k1]
theorem k_st0 {w : hpW} {a : Nat} (L : List (Nat × Nat × Nat)) (ha : a < hp_n w) : hp_k (stps w a L) a = hp_k w a := by
  have h := k_st (c := 0) (n := 0) L ha
  have key : ∀ L w, a < hp_n w → a < hp_n (stps w a L) := by
    intro L
    induction L with
    | nil => exact fun w h => h
    | cons q L ih => exact fun w h => ih (stp w a q) (by show a < hp_n w + 1; omega)
  have k2 := key L w ha
  rw [nw_k, if_neg (by omega)] at h
  exact h
set_option maxHeartbeats 2000000 in
set_option maxRecDepth 20000 in
theorem c_X1_init {E : sxE} {w : hpW} {Q : Option Value → hpW → Prop} {a : Nat} (ha : a < hp_n w) (hk : hp_k w a = (1, 7)) (h : Q none (stps w a [(13, 240, 2), (13, 64, 3), (13, 64, 4), (13, 6, 5), (13, 48, 6)])) : sx_C E mX1_init 2 5 422 [.ref a] w Q := by
  refine C_of (by decide +kernel) (Nat.le_of_ble_eq_true rfl) ?_
  refine V_aload_n (i := 0) (sx_di dX1_init 0 rfl) rfl rfl ?_
  refine V_objInit (sx_di dX1_init 1 rfl) (sx_a1 80 rfl rfl) (sx_a1 31 rfl rfl) (sx_a1 32 rfl rfl) (Nat.le_of_ble_eq_true rfl) ⟨Nat.le_of_ble_eq_true rfl, Nat.le_of_ble_eq_true rfl⟩ ?_
  refine V_aload_n (i := 0) (sx_di dX1_init 2 rfl) rfl rfl ?_
  refine V_sipush (v := 240) (sx_di dX1_init 3 rfl) (by decide) ?_
  refine V_newa (c := 13) (sx_di dX1_init 4 rfl) (Or.inl ⟨rfl, rfl⟩) rfl (sx_a1 57 rfl rfl) (by decide) rfl (by decide) (Nat.le_of_ble_eq_true rfl) (Nat.le_of_ble_eq_true rfl) ?_
  refine V_putFR (c := 1) (k := 2) (sx_di dX1_init 5 rfl) (by decide) (by decide) (sx_a1 83 rfl rfl) rfl rfl rfl (fun _ => rfl) ((k_st [] ha).trans hk) (fun _ => rfl) (fun _ => rfl) ?_
  refine V_aload_n (i := 0) (sx_di dX1_init 6 rfl) rfl rfl ?_
  refine V_bipush (v := 64) (sx_di dX1_init 7 rfl) (by decide) ?_
  refine V_newa (c := 13) (sx_di dX1_init 8 rfl) (Or.inl ⟨rfl, rfl⟩) rfl (sx_a1 57 rfl rfl) (by decide) rfl (by decide) (Nat.le_of_ble_eq_true rfl) (Nat.le_of_ble_eq_true rfl) ?_
  refine V_putFR (c := 1) (k := 3) (sx_di dX1_init 9 rfl) (by decide) (by decide) (sx_a1 84 rfl rfl) rfl rfl rfl (fun _ => rfl) ((k_st [(13, 240, 2)] ha).trans hk) (fun _ => rfl) (fun _ => rfl) ?_
  refine V_aload_n (i := 0) (sx_di dX1_init 10 rfl) rfl rfl ?_
  refine V_bipush (v := 64) (sx_di dX1_init 11 rfl) (by decide) ?_
  refine V_newa (c := 13) (sx_di dX1_init 12 rfl) (Or.inl ⟨rfl, rfl⟩) rfl (sx_a1 57 rfl rfl) (by decide) rfl (by decide) (Nat.le_of_ble_eq_true rfl) (Nat.le_of_ble_eq_true rfl) ?_
  refine V_putFR (c := 1) (k := 4) (sx_di dX1_init 13 rfl) (by decide) (by decide) (sx_a1 85 rfl rfl) rfl rfl rfl (fun _ => rfl) ((k_st [(13, 240, 2), (13, 64, 3)] ha).trans hk) (fun _ => rfl) (fun _ => rfl) ?_
  refine V_aload_n (i := 0) (sx_di dX1_init 14 rfl) rfl rfl ?_
  refine V_bipush (v := 6) (sx_di dX1_init 15 rfl) (by decide) ?_
  refine V_newa (c := 13) (sx_di dX1_init 16 rfl) (Or.inl ⟨rfl, rfl⟩) rfl (sx_a1 57 rfl rfl) (by decide) rfl (by decide) (Nat.le_of_ble_eq_true rfl) (Nat.le_of_ble_eq_true rfl) ?_
  refine V_putFR (c := 1) (k := 5) (sx_di dX1_init 17 rfl) (by decide) (by decide) (sx_a1 86 rfl rfl) rfl rfl rfl (fun _ => rfl) ((k_st [(13, 240, 2), (13, 64, 3), (13, 64, 4)] ha).trans hk) (fun _ => rfl) (fun _ => rfl) ?_
  refine V_aload_n (i := 0) (sx_di dX1_init 18 rfl) rfl rfl ?_
  refine V_bipush (v := 48) (sx_di dX1_init 19 rfl) (by decide) ?_
  refine V_newa (c := 13) (sx_di dX1_init 20 rfl) (Or.inl ⟨rfl, rfl⟩) rfl (sx_a1 57 rfl rfl) (by decide) rfl (by decide) (Nat.le_of_ble_eq_true rfl) (Nat.le_of_ble_eq_true rfl) ?_
  refine V_putFR (c := 1) (k := 6) (sx_di dX1_init 21 rfl) (by decide) (by decide) (sx_a1 87 rfl rfl) rfl rfl rfl (fun _ => rfl) ((k_st [(13, 240, 2), (13, 64, 3), (13, 64, 4), (13, 6, 5)] ha).trans hk) (fun _ => rfl) (fun _ => rfl) ?_
  refine V_vret (sx_di dX1_init 22 rfl) rfl (Nat.le_refl _) (Nat.le_refl _) ?_
  exact h
set_option maxHeartbeats 2000000 in
set_option maxRecDepth 20000 in
theorem c_X4_init {E : sxE} {w : hpW} {Q : Option Value → hpW → Prop} {a : Nat} (ha : a < hp_n w) (hk : hp_k w a = (4, 3)) (h : Q none (stps w a [(13, 128, 0), (13, 128, 1), (13, 128, 2)])) : sx_C E mX4_init 2 3 384 [.ref a] w Q := by
  refine C_of (by decide +kernel) (Nat.le_of_ble_eq_true rfl) ?_
  refine V_aload_n (i := 0) (sx_di dX4_init 0 rfl) rfl rfl ?_
  refine V_objInit (sx_di dX4_init 1 rfl) (sx_a1 222 rfl rfl) (sx_a1 31 rfl rfl) (sx_a1 32 rfl rfl) (Nat.le_of_ble_eq_true rfl) ⟨Nat.le_of_ble_eq_true rfl, Nat.le_of_ble_eq_true rfl⟩ ?_
  refine V_aload_n (i := 0) (sx_di dX4_init 2 rfl) rfl rfl ?_
  refine V_sipush (v := 128) (sx_di dX4_init 3 rfl) (by decide) ?_
  refine V_newa (c := 13) (sx_di dX4_init 4 rfl) (Or.inl ⟨rfl, rfl⟩) rfl (sx_a1 57 rfl rfl) (by decide) rfl (by decide) (Nat.le_of_ble_eq_true rfl) (Nat.le_of_ble_eq_true rfl) ?_
  refine V_putFR (c := 4) (k := 0) (sx_di dX4_init 5 rfl) (by decide) (by decide) (sx_a1 223 rfl rfl) rfl rfl rfl (fun _ => rfl) ((k_st [] ha).trans hk) (fun _ => rfl) (fun _ => rfl) ?_
  refine V_aload_n (i := 0) (sx_di dX4_init 6 rfl) rfl rfl ?_
  refine V_sipush (v := 128) (sx_di dX4_init 7 rfl) (by decide) ?_
  refine V_newa (c := 13) (sx_di dX4_init 8 rfl) (Or.inl ⟨rfl, rfl⟩) rfl (sx_a1 57 rfl rfl) (by decide) rfl (by decide) (Nat.le_of_ble_eq_true rfl) (Nat.le_of_ble_eq_true rfl) ?_
  refine V_putFR (c := 4) (k := 1) (sx_di dX4_init 9 rfl) (by decide) (by decide) (sx_a1 224 rfl rfl) rfl rfl rfl (fun _ => rfl) ((k_st [(13, 128, 0)] ha).trans hk) (fun _ => rfl) (fun _ => rfl) ?_
  refine V_aload_n (i := 0) (sx_di dX4_init 10 rfl) rfl rfl ?_
  refine V_sipush (v := 128) (sx_di dX4_init 11 rfl) (by decide) ?_
  refine V_newa (c := 13) (sx_di dX4_init 12 rfl) (Or.inl ⟨rfl, rfl⟩) rfl (sx_a1 57 rfl rfl) (by decide) rfl (by decide) (Nat.le_of_ble_eq_true rfl) (Nat.le_of_ble_eq_true rfl) ?_
  refine V_putFR (c := 4) (k := 2) (sx_di dX4_init 13 rfl) (by decide) (by decide) (sx_a1 225 rfl rfl) rfl rfl rfl (fun _ => rfl) ((k_st [(13, 128, 0), (13, 128, 1)] ha).trans hk) (fun _ => rfl) (fun _ => rfl) ?_
  refine V_vret (sx_di dX4_init 14 rfl) rfl (Nat.le_refl _) (Nat.le_refl _) ?_
  exact h
set_option maxHeartbeats 2000000 in
set_option maxRecDepth 20000 in
theorem c_X5_init {E : sxE} {w : hpW} {Q : Option Value → hpW → Prop} {a : Nat} (ha : a < hp_n w) (hk : hp_k w a = (5, 4)) (h : Q none (stps w a [(13, 10, 0), (13, 10, 1), (14, 10, 2)])) : sx_C E mX5_init 2 3 30 [.ref a] w Q := by
  refine C_of (by decide +kernel) (Nat.le_of_ble_eq_true rfl) ?_
  refine V_aload_n (i := 0) (sx_di dX5_init 0 rfl) rfl rfl ?_
  refine V_objInit (sx_di dX5_init 1 rfl) (sx_a2 39 rfl rfl) (sx_a1 31 rfl rfl) (sx_a1 32 rfl rfl) (Nat.le_of_ble_eq_true rfl) ⟨Nat.le_of_ble_eq_true rfl, Nat.le_of_ble_eq_true rfl⟩ ?_
  refine V_aload_n (i := 0) (sx_di dX5_init 2 rfl) rfl rfl ?_
  refine V_bipush (v := 10) (sx_di dX5_init 3 rfl) (by decide) ?_
  refine V_newa (c := 13) (sx_di dX5_init 4 rfl) (Or.inl ⟨rfl, rfl⟩) rfl (sx_a1 57 rfl rfl) (by decide) rfl (by decide) (Nat.le_of_ble_eq_true rfl) (Nat.le_of_ble_eq_true rfl) ?_
  refine V_putFR (c := 5) (k := 0) (sx_di dX5_init 5 rfl) (by decide) (by decide) (sx_a2 40 rfl rfl) rfl rfl rfl (fun _ => rfl) ((k_st [] ha).trans hk) (fun _ => rfl) (fun _ => rfl) ?_
  refine V_aload_n (i := 0) (sx_di dX5_init 6 rfl) rfl rfl ?_
  refine V_bipush (v := 10) (sx_di dX5_init 7 rfl) (by decide) ?_
  refine V_newa (c := 13) (sx_di dX5_init 8 rfl) (Or.inl ⟨rfl, rfl⟩) rfl (sx_a1 57 rfl rfl) (by decide) rfl (by decide) (Nat.le_of_ble_eq_true rfl) (Nat.le_of_ble_eq_true rfl) ?_
  refine V_putFR (c := 5) (k := 1) (sx_di dX5_init 9 rfl) (by decide) (by decide) (sx_a2 42 rfl rfl) rfl rfl rfl (fun _ => rfl) ((k_st [(13, 10, 0)] ha).trans hk) (fun _ => rfl) (fun _ => rfl) ?_
  refine V_aload_n (i := 0) (sx_di dX5_init 10 rfl) rfl rfl ?_
  refine V_bipush (v := 10) (sx_di dX5_init 11 rfl) (by decide) ?_
  refine V_newa (c := 14) (sx_di dX5_init 12 rfl) (Or.inr (Or.inl ⟨rfl, rfl⟩)) rfl (sx_a2 57 rfl rfl) (by decide) rfl (by decide) (Nat.le_of_ble_eq_true rfl) (Nat.le_of_ble_eq_true rfl) ?_
  refine V_putFR (c := 5) (k := 2) (sx_di dX5_init 13 rfl) (by decide) (by decide) (sx_a2 44 rfl rfl) rfl rfl rfl (fun _ => rfl) ((k_st [(13, 10, 0), (13, 10, 1)] ha).trans hk) (fun _ => rfl) (fun _ => rfl) ?_
  refine V_vret (sx_di dX5_init 14 rfl) rfl (Nat.le_refl _) (Nat.le_refl _) ?_
  exact h
set_option maxHeartbeats 2000000 in
set_option maxRecDepth 20000 in
theorem c_X8_init {E : sxE} {w : hpW} {Q : Option Value → hpW → Prop} {a : Nat} (ha : a < hp_n w) (hk : hp_k w a = (8, 4)) (h : Q none (stps w a [(13, 48, 3)])) : sx_C E mX8_init 2 1 48 [.ref a] w Q := by
  refine C_of (by decide +kernel) (Nat.le_of_ble_eq_true rfl) ?_
  refine V_aload_n (i := 0) (sx_di dX8_init 0 rfl) rfl rfl ?_
  refine V_objInit (sx_di dX8_init 1 rfl) (sx_a1 137 rfl rfl) (sx_a1 31 rfl rfl) (sx_a1 32 rfl rfl) (Nat.le_of_ble_eq_true rfl) ⟨Nat.le_of_ble_eq_true rfl, Nat.le_of_ble_eq_true rfl⟩ ?_
  refine V_aload_n (i := 0) (sx_di dX8_init 2 rfl) rfl rfl ?_
  refine V_bipush (v := 48) (sx_di dX8_init 3 rfl) (by decide) ?_
  refine V_newa (c := 13) (sx_di dX8_init 4 rfl) (Or.inl ⟨rfl, rfl⟩) rfl (sx_a1 57 rfl rfl) (by decide) rfl (by decide) (Nat.le_of_ble_eq_true rfl) (Nat.le_of_ble_eq_true rfl) ?_
  refine V_putFR (c := 8) (k := 3) (sx_di dX8_init 5 rfl) (by decide) (by decide) (sx_a1 146 rfl rfl) rfl rfl rfl (fun _ => rfl) ((k_st [] ha).trans hk) (fun _ => rfl) (fun _ => rfl) ?_
  refine V_vret (sx_di dX8_init 6 rfl) rfl (Nat.le_refl _) (Nat.le_refl _) ?_
  exact h
set_option maxHeartbeats 2000000 in
set_option maxRecDepth 20000 in
theorem c_X10_init {E : sxE} {w : hpW} {Q : Option Value → hpW → Prop} {a : Nat} (ha : a < hp_n w) (hk : hp_k w a = (10, 4)) (h : Q none (stps w a [(13, 240, 0)])) : sx_C E mX10_init 2 1 240 [.ref a] w Q := by
  refine C_of (by decide +kernel) (Nat.le_of_ble_eq_true rfl) ?_
  refine V_aload_n (i := 0) (sx_di dX10_init 0 rfl) rfl rfl ?_
  refine V_objInit (sx_di dX10_init 1 rfl) (sx_a1 38 rfl rfl) (sx_a1 31 rfl rfl) (sx_a1 32 rfl rfl) (Nat.le_of_ble_eq_true rfl) ⟨Nat.le_of_ble_eq_true rfl, Nat.le_of_ble_eq_true rfl⟩ ?_
  refine V_aload_n (i := 0) (sx_di dX10_init 2 rfl) rfl rfl ?_
  refine V_sipush (v := 240) (sx_di dX10_init 3 rfl) (by decide) ?_
  refine V_newa (c := 13) (sx_di dX10_init 4 rfl) (Or.inl ⟨rfl, rfl⟩) rfl (sx_a1 57 rfl rfl) (by decide) rfl (by decide) (Nat.le_of_ble_eq_true rfl) (Nat.le_of_ble_eq_true rfl) ?_
  refine V_putFR (c := 10) (k := 0) (sx_di dX10_init 5 rfl) (by decide) (by decide) (sx_a1 39 rfl rfl) rfl rfl rfl (fun _ => rfl) ((k_st [] ha).trans hk) (fun _ => rfl) (fun _ => rfl) ?_
  refine V_vret (sx_di dX10_init 6 rfl) rfl (Nat.le_refl _) (Nat.le_refl _) ?_
  exact h
set_option maxHeartbeats 2000000 in
set_option maxRecDepth 20000 in
theorem c_X7_init {E : sxE} {w : hpW} {Q : Option Value → hpW → Prop} {a t : Nat} (ha : a < hp_n w) (hk : hp_k w a = (7, 13)) (h : Q none (hp_sr (hp_si (stps w a [(13, 8, 1), (13, 8, 2), (13, 8, 3), (13, 8, 4), (13, 8, 5), (13, 8, 6)]) a 9 (-1)) a 0 (some t))) : sx_C E mX7_init 2 6 48 [.ref a, .ref t] w Q := by
  refine C_of (by decide +kernel) (Nat.le_of_ble_eq_true rfl) ?_
  refine V_aload_n (i := 0) (sx_di dX7_init 0 rfl) rfl rfl ?_
  refine V_objInit (sx_di dX7_init 1 rfl) (sx_a1 161 rfl rfl) (sx_a1 31 rfl rfl) (sx_a1 32 rfl rfl) (Nat.le_of_ble_eq_true rfl) ⟨Nat.le_of_ble_eq_true rfl, Nat.le_of_ble_eq_true rfl⟩ ?_
  refine V_aload_n (i := 0) (sx_di dX7_init 2 rfl) rfl rfl ?_
  refine V_bipush (v := 8) (sx_di dX7_init 3 rfl) (by decide) ?_
  refine V_newa (c := 13) (sx_di dX7_init 4 rfl) (Or.inl ⟨rfl, rfl⟩) rfl (sx_a1 57 rfl rfl) (by decide) rfl (by decide) (Nat.le_of_ble_eq_true rfl) (Nat.le_of_ble_eq_true rfl) ?_
  refine V_putFR (c := 7) (k := 1) (sx_di dX7_init 5 rfl) (by decide) (by decide) (sx_a1 163 rfl rfl) rfl rfl rfl (fun _ => rfl) ((k_st [] ha).trans hk) (fun _ => rfl) (fun _ => rfl) ?_
  refine V_aload_n (i := 0) (sx_di dX7_init 6 rfl) rfl rfl ?_
  refine V_bipush (v := 8) (sx_di dX7_init 7 rfl) (by decide) ?_
  refine V_newa (c := 13) (sx_di dX7_init 8 rfl) (Or.inl ⟨rfl, rfl⟩) rfl (sx_a1 57 rfl rfl) (by decide) rfl (by decide) (Nat.le_of_ble_eq_true rfl) (Nat.le_of_ble_eq_true rfl) ?_
  refine V_putFR (c := 7) (k := 2) (sx_di dX7_init 9 rfl) (by decide) (by decide) (sx_a1 164 rfl rfl) rfl rfl rfl (fun _ => rfl) ((k_st [(13, 8, 1)] ha).trans hk) (fun _ => rfl) (fun _ => rfl) ?_
  refine V_aload_n (i := 0) (sx_di dX7_init 10 rfl) rfl rfl ?_
  refine V_bipush (v := 8) (sx_di dX7_init 11 rfl) (by decide) ?_
  refine V_newa (c := 13) (sx_di dX7_init 12 rfl) (Or.inl ⟨rfl, rfl⟩) rfl (sx_a1 57 rfl rfl) (by decide) rfl (by decide) (Nat.le_of_ble_eq_true rfl) (Nat.le_of_ble_eq_true rfl) ?_
  refine V_putFR (c := 7) (k := 3) (sx_di dX7_init 13 rfl) (by decide) (by decide) (sx_a1 166 rfl rfl) rfl rfl rfl (fun _ => rfl) ((k_st [(13, 8, 1), (13, 8, 2)] ha).trans hk) (fun _ => rfl) (fun _ => rfl) ?_
  refine V_aload_n (i := 0) (sx_di dX7_init 14 rfl) rfl rfl ?_
  refine V_bipush (v := 8) (sx_di dX7_init 15 rfl) (by decide) ?_
  refine V_newa (c := 13) (sx_di dX7_init 16 rfl) (Or.inl ⟨rfl, rfl⟩) rfl (sx_a1 57 rfl rfl) (by decide) rfl (by decide) (Nat.le_of_ble_eq_true rfl) (Nat.le_of_ble_eq_true rfl) ?_
  refine V_putFR (c := 7) (k := 4) (sx_di dX7_init 17 rfl) (by decide) (by decide) (sx_a1 168 rfl rfl) rfl rfl rfl (fun _ => rfl) ((k_st [(13, 8, 1), (13, 8, 2), (13, 8, 3)] ha).trans hk) (fun _ => rfl) (fun _ => rfl) ?_
  refine V_aload_n (i := 0) (sx_di dX7_init 18 rfl) rfl rfl ?_
  refine V_bipush (v := 8) (sx_di dX7_init 19 rfl) (by decide) ?_
  refine V_newa (c := 13) (sx_di dX7_init 20 rfl) (Or.inl ⟨rfl, rfl⟩) rfl (sx_a1 57 rfl rfl) (by decide) rfl (by decide) (Nat.le_of_ble_eq_true rfl) (Nat.le_of_ble_eq_true rfl) ?_
  refine V_putFR (c := 7) (k := 5) (sx_di dX7_init 21 rfl) (by decide) (by decide) (sx_a1 170 rfl rfl) rfl rfl rfl (fun _ => rfl) ((k_st [(13, 8, 1), (13, 8, 2), (13, 8, 3), (13, 8, 4)] ha).trans hk) (fun _ => rfl) (fun _ => rfl) ?_
  refine V_aload_n (i := 0) (sx_di dX7_init 22 rfl) rfl rfl ?_
  refine V_bipush (v := 8) (sx_di dX7_init 23 rfl) (by decide) ?_
  refine V_newa (c := 13) (sx_di dX7_init 24 rfl) (Or.inl ⟨rfl, rfl⟩) rfl (sx_a1 57 rfl rfl) (by decide) rfl (by decide) (Nat.le_of_ble_eq_true rfl) (Nat.le_of_ble_eq_true rfl) ?_
  refine V_putFR (c := 7) (k := 6) (sx_di dX7_init 25 rfl) (by decide) (by decide) (sx_a1 172 rfl rfl) rfl rfl rfl (fun _ => rfl) ((k_st [(13, 8, 1), (13, 8, 2), (13, 8, 3), (13, 8, 4), (13, 8, 5)] ha).trans hk) (fun _ => rfl) (fun _ => rfl) ?_
  refine V_aload_n (i := 0) (sx_di dX7_init 26 rfl) rfl rfl ?_
  refine V_iconst (v := -1) (sx_di dX7_init 27 rfl) (by decide) ?_
  refine V_putI (sx_di dX7_init 28 rfl) fX7_30 (fun _ => rfl) rfl ((k_st0 [(13, 8, 1), (13, 8, 2), (13, 8, 3), (13, 8, 4), (13, 8, 5), (13, 8, 6)] ha).trans hk) (rfl) (rfl) ?_
  refine V_aload_n (i := 0) (sx_di dX7_init 29 rfl) rfl rfl ?_
  refine V_aload_n (i := 1) (sx_di dX7_init 30 rfl) rfl rfl ?_
  refine V_putR (sx_di dX7_init 31 rfl) fX7_34 (fun _ => rfl) rfl ((k_st0 [(13, 8, 1), (13, 8, 2), (13, 8, 3), (13, 8, 4), (13, 8, 5), (13, 8, 6)] ha).trans hk) (fun _ => rfl) (fun _ => rfl) ?_
  refine V_vret (sx_di dX7_init 32 rfl) rfl (Nat.le_refl _) (Nat.le_refl _) ?_
  exact h
set_option maxHeartbeats 2000000 in
set_option maxRecDepth 20000 in
theorem c_X9_init {E : sxE} {w : hpW} {Q : Option Value → hpW → Prop} {a t : Nat} (hk : hp_k w a = (9, 1)) (h : Q none (hp_sr w a 0 (some t))) : sx_C E mX9_init 2 0 0 [.ref a, .ref t] w Q := by
  refine C_of (by decide +kernel) (Nat.le_of_ble_eq_true rfl) ?_
  refine V_aload_n (i := 0) (sx_di dX9_init 0 rfl) rfl rfl ?_
  refine V_objInit (sx_di dX9_init 1 rfl) (sx_a1 63 rfl rfl) (sx_a1 31 rfl rfl) (sx_a1 32 rfl rfl) (Nat.le_of_ble_eq_true rfl) ⟨Nat.le_of_ble_eq_true rfl, Nat.le_of_ble_eq_true rfl⟩ ?_
  refine V_aload_n (i := 0) (sx_di dX9_init 2 rfl) rfl rfl ?_
  refine V_aload_n (i := 1) (sx_di dX9_init 3 rfl) rfl rfl ?_
  refine V_putFR (c := 9) (k := 0) (sx_di dX9_init 4 rfl) (by decide) (by decide) (sx_a1 64 rfl rfl) rfl rfl rfl (fun _ => rfl) (hk) (fun _ => rfl) (fun _ => rfl) ?_
  refine V_vret (sx_di dX9_init 5 rfl) rfl (Nat.le_refl _) (Nat.le_refl _) ?_
  exact h
set_option maxHeartbeats 2000000 in
set_option maxRecDepth 20000 in
theorem c_X3_init {E : sxE} {w : hpW} {Q : Option Value → hpW → Prop} {a t u : Nat} (hk : hp_k w a = (3, 2)) (h : Q none (hp_sr (hp_sr w a 0 (some t)) a 1 (some u))) : sx_C E mX3_init 2 0 0 [.ref a, .ref t, .ref u] w Q := by
  refine C_of (by decide +kernel) (Nat.le_of_ble_eq_true rfl) ?_
  refine V_aload_n (i := 0) (sx_di dX3_init 0 rfl) rfl rfl ?_
  refine V_objInit (sx_di dX3_init 1 rfl) (sx_a1 124 rfl rfl) (sx_a1 31 rfl rfl) (sx_a1 32 rfl rfl) (Nat.le_of_ble_eq_true rfl) ⟨Nat.le_of_ble_eq_true rfl, Nat.le_of_ble_eq_true rfl⟩ ?_
  refine V_aload_n (i := 0) (sx_di dX3_init 2 rfl) rfl rfl ?_
  refine V_aload_n (i := 1) (sx_di dX3_init 3 rfl) rfl rfl ?_
  refine V_putFR (c := 3) (k := 0) (sx_di dX3_init 4 rfl) (by decide) (by decide) (sx_a1 125 rfl rfl) rfl rfl rfl (fun _ => rfl) (hk) (fun _ => rfl) (fun _ => rfl) ?_
  refine V_aload_n (i := 0) (sx_di dX3_init 5 rfl) rfl rfl ?_
  refine V_aload_n (i := 2) (sx_di dX3_init 6 rfl) rfl rfl ?_
  refine V_putR (sx_di dX3_init 7 rfl) fX3_15 (fun _ => rfl) rfl (hk) (fun _ => rfl) (fun _ => rfl) ?_
  refine V_vret (sx_di dX3_init 8 rfl) rfl (Nat.le_refl _) (Nat.le_refl _) ?_
  exact h

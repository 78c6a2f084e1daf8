/-! the class reads a street -/
theorem nar_bz (b : Bool) : narrow .boolean (.int (bz9 b)) = .int (bz9 b) := by cases b <;> decide
def sg9 (n m : Nat) (S s : Nat → Int32) : Prop := (∀ j, j < 4 → S j = s j) ∧ (∀ j, j < 4 * n → S (4 + j) = s (4 + j)) ∧ ∀ j, j < 2 * m → S (36 + j) = s (36 + j)
theorem sg_up {n m j : Nat} {S s : Nat → Int32} {v : Int32} (h : sg9 n m S s) : sg9 n m (up_ S j v) (up_ s j v) := by
  refine ⟨fun i hi => ?_, fun i hi => ?_, fun i hi => ?_⟩ <;> unfold up_ <;> split <;> first | rfl | exact h.1 i hi | exact h.2.1 i hi | exact h.2.2 i hi
/-- the class's reader is at p, the street at a is as x tells -/
def sB (T : List Int32) (a p : Nat) (hr : Bool) (n m : Nat) (w : hpW) : Prop := ly_B w ∧ tp_ w 17 1 18 T ∧ hp_i w 17 2 = nI p ∧ hp_i w a 0 = nI n ∧ hp_i w a 1 = nI m ∧ hp_i w a 2 = bz9 hr
def sP (T : List Int32) (a p : Nat) (x : srT) (w : hpW) : Prop := sB T a p x.1 x.2.1 x.2.2.1 w ∧ sg9 x.2.1 x.2.2.1 (hp_i w (a + 1)) x.2.2.2
def fS (a : Nat) (w w' : hpW) : Prop := w' = hp_wi w (hp_i w') ∧ (∀ b, b ≠ 17 → b ≠ a → b ≠ a + 1 → hp_i w' b = hp_i w b) ∧ ∀ j, j ≠ 2 → j ≠ 3 → hp_i w' 17 j = hp_i w 17 j
theorem fS_rf {a : Nat} {w : hpW} : fS a w w := ⟨rfl, fun _ _ _ _ => rfl, fun _ _ _ => rfl⟩
theorem fS_tr {a : Nat} {w w2 w3 : hpW} (f : fS a w w2) (g : fS a w2 w3) : fS a w w3 := by
  refine ⟨?_, fun b h1 h2 h3 => (g.2.1 b h1 h2 h3).trans (f.2.1 b h1 h2 h3), fun j h1 h2 => (g.2.2 j h1 h2).trans (f.2.2 j h1 h2)⟩
  have e := g.1
  rw [f.1] at e
  exact e
theorem fH_fS {a : Nat} {w w' : hpW} (f : fH w w') : fS a w w' := ⟨f.1, fun b h1 _ _ => f.2.1 b h1, f.2.2⟩
def a2_ (a : Nat) : Prop := a = 53 ∨ a = 55
theorem fH_sB {T : List Int32} {a p q n m : Nat} {hr : Bool} {w w' : hpW} (ha : a2_ a) (f : fH w w') (H : sB T a p hr n m w) (e : hp_i w' 17 2 = nI q) : sB T a q hr n m w' := by
  have e1 := f.1
  unfold a2_ at ha
  have e2 := f.2.1 a (by omega)
  exact ⟨by rw [e1]; exact ly_wi H.1 _, tp_mv (f.2.2 1 (by decide) (by decide)) (f.2.1 18 (by decide)) H.2.1, e, by rw [e2]; exact H.2.2.2.1, by rw [e2]; exact H.2.2.2.2.1, by rw [e2]; exact H.2.2.2.2.2⟩
theorem a2_St {w : hpW} {a : Nat} (hB : ly_B w) (ha : a2_ a) : is_St w a := by
  rcases ha with rfl | rfl
  · exact ⟨hB.k _ rfl, hB.k _ rfl, hB.r _ _ rfl⟩
  · exact ⟨hB.k _ rfl, hB.k _ rfl, hB.r _ _ rfl⟩
theorem c_signS {E : sxE} {w : hpW} {Q : Option Value → hpW → Prop} {T : List Int32} {a p n m : Nat} {hr : Bool} (ha : a2_ a) (H : sB T a p hr n m w) (hp : p ≤ T.length) (h : ∀ w', sB T a (skp_ T p) hr n m w' → fS a w w' → hp_i w' (a + 1) = hp_i w (a + 1) → Q (some (.int (cz_ T p))) w') : sx_C E mX10_sign 1 0 0 [.ref 17] w Q := by
  have hl := H.2.1.1
  unfold a2_ at ha
  exact c_X10_sign H.1 H.2.1 (p := p) (by omega) H.2.2.1 (h _ (fH_sB ha fH_hd H (hd9_2 w _)) (fH_fS fH_hd) (fH_hd.2.1 (a + 1) (by omega)))
section SRV
variable {E : sxE} {M : sxM} {R : Room} {mc ms ce sl pc : Nat} {ls : List (Nat × Value)} {st : List Value} {w : hpW} {Q : Option Value → hpW → Prop}
theorem V_hdS {T : List Int32} {a p q n m : Nat} {hr : Bool} (ha : a2_ a) (H : sB T a p hr n m w) (k : ∀ w', sB T a q hr n m w' → fS a w w' → hp_i w' (a + 1) = hp_i w (a + 1) → V E M R mc ms ce sl pc ls st w' Q) : V E M R mc ms ce sl pc ls st (hp_si w 17 2 (nI q)) Q := k (hd9 w q) (fH_sB ha fH_hd H (hd9_2 w _)) (fH_fS fH_hd) (fH_hd.2.1 (a + 1) (by unfold a2_ at ha; omega))
end SRV
set_option maxHeartbeats 2000000 in
set_option maxRecDepth 20000 in
theorem c_X8_put {E : sxE} {w : hpW} {Q : Option Value → hpW → Prop} {a j : Nat} {v : Int32} (hs : is_St w a) (hj : j < 48) (h : Q none (hp_si w (a + 1) j v)) : sx_C E mX8_put 1 0 0 [.ref a, .int (nI j), .int v] w Q := by
  refine C_of (by decide +kernel) (Nat.le_of_ble_eq_true rfl) ?_
  refine V_iload_n (i := 1) (sx_di dX8_put 0 rfl) rfl rfl ?_
  refine V_ifN_lt (a := j) (rfl) (by omega) (tgt := 17) (sx_di dX8_put 1 rfl) (by decide) (fun h1 => absurd h1 (by omega)) (fun _ => ?_)
  refine V_iload_n (i := 1) (sx_di dX8_put 2 rfl) rfl rfl ?_
  refine V_bipush (v := 48) (sx_di dX8_put 3 rfl) (by decide) ?_
  refine V_icN_ge (a := j) (b := 48) (rfl) (rfl) (by omega) (by omega) (tgt := 17) (sx_di dX8_put 4 rfl) (by decide) (fun h7 => absurd h7 (by omega)) (fun _ => ?_)
  refine V_aload_n (i := 0) (sx_di dX8_put 5 rfl) rfl rfl ?_
  refine V_getR (sx_di dX8_put 6 rfl) fX8_9 (fun _ => rfl) (by first | exact hs.1 | exact hs.2.1) (hs.2.2) ?_
  refine V_iload_n (i := 1) (sx_di dX8_put 7 rfl) rfl rfl ?_
  refine V_iload_n (i := 2) (sx_di dX8_put 8 rfl) rfl rfl ?_
  refine V_iastN (n := 48) (j := j) (sx_di dX8_put 9 rfl) (by first | exact hs.1 | exact hs.2.1) (rfl) (by omega) (by omega) ?_
  refine V_vret (sx_di dX8_put 10 rfl) rfl (Nat.le_refl _) (Nat.le_refl _) ?_
  exact h
/-- the street at a has the slots S -/
def sw9 (w : hpW) (a : Nat) (S : Nat → Int32) : hpW := hp_wi w (fun c => if c = a + 1 then S else hp_i w c)
theorem sw9_u (w : hpW) (a : Nat) (S : Nat → Int32) (j : Nat) (v : Int32) : hp_si (sw9 w a S) (a + 1) j v = sw9 w a (up_ S j v) := by
  show hp_wi w (hp_u (fun c => if c = a + 1 then S else hp_i w c) (a + 1) j v) = _
  unfold sw9
  congr 1
  funext c i
  unfold hp_u up_
  by_cases e : c = a + 1
  · subst e
    by_cases e2 : i = j
    · rw [if_pos ⟨rfl, e2⟩, if_pos rfl, if_pos e2]
    · rw [if_neg (fun z => e2 z.2), if_pos rfl, if_neg e2]
      show (if a + 1 = a + 1 then S else hp_i w (a + 1)) i = S i
      rw [if_pos rfl]
  · rw [if_neg (fun z => e z.1), if_neg e]
    show (if c = a + 1 then S else hp_i w c) i = _
    rw [if_neg e]
theorem sw9_id (w : hpW) (a : Nat) : sw9 w a (hp_i w (a + 1)) = w := by
  unfold sw9
  have e : (fun c => if c = a + 1 then hp_i w (a + 1) else hp_i w c) = hp_i w := by
    funext c
    by_cases e : c = a + 1
    · rw [if_pos e, e]
    · rw [if_neg e]
  rw [e]
  rfl
theorem us9_s (b k o : Nat) (s : Nat → Int32) : up_ (us9_ b k o s) (o + k) (it_us (b + k)) = us9_ b (k + 1) o s := by
  funext j
  unfold up_ us9_
  by_cases e : j = o + k
  · rw [if_pos e, if_pos (by omega), e, Nat.add_sub_cancel_left]
  · rw [if_neg e]
    by_cases e2 : o ≤ j ∧ j < o + k
    · rw [if_pos e2, if_pos (by omega)]
    · rw [if_neg e2, if_neg (by omega)]
theorem us9_0 (b o : Nat) (s : Nat → Int32) : us9_ b 0 o s = s := by
  funext j
  unfold us9_
  rw [if_neg (by omega)]
theorem st_sw {w : hpW} {a : Nat} {S : Nat → Int32} (h : is_St w a) : is_St (sw9 w a S) a := h
set_option maxHeartbeats 2000000 in
set_option maxRecDepth 20000 in
theorem us_lp {E : sxE} {w : hpW} {Q : Option Value → hpW → Prop} (hX : XO E) {a b m o : Nat} (hs : is_St w a) (hb : b + m ≤ 10) (ho : o + m ≤ 48) {S : Nat → Int32} (h : Q none (sw9 w a (us9_ b m o S))) : ∀ d k, k + d = m → V E mX8_setUsual (sx_rm 2 0 0) 0 0 0 0 3 [(4, .int (nI (b + k))), (3, .int (nI o)), (2, .int (nI (b + m))), (1, .int (nI b)), (0, .ref a)] [] (sw9 w a (us9_ b k o S)) Q := by
  intro d
  induction d with
  | zero =>
    intro k hk
    have e : k = m := by omega
    subst e
    refine V_iload (sx_di dX8_setUsual 2 rfl) rfl ?_
    refine V_iload_n (i := 2) (sx_di dX8_setUsual 3 rfl) rfl rfl ?_
    refine V_icN_ge (a := (b + k)) (b := (b + k)) (rfl) (rfl) (by omega) (by omega) (tgt := 38) (sx_di dX8_setUsual 4 rfl) (by decide) (fun _ => ?_) (fun h6 => absurd h6 (by omega))
    refine V_vret (sx_di dX8_setUsual 20 rfl) rfl (Nat.le_refl _) (Nat.le_refl _) ?_
    exact h
  | succ d ih =>
    intro k hk
    have q1 := ih (k + 1) (by omega)
    rw [← us9_s, ← sw9_u, show b + (k + 1) = (b + k) + 1 by omega, ← nI_1] at q1
    refine V_iload (sx_di dX8_setUsual 2 rfl) rfl ?_
    refine V_iload_n (i := 2) (sx_di dX8_setUsual 3 rfl) rfl rfl ?_
    refine V_icN_ge (a := (b + k)) (b := (b + m)) (rfl) (rfl) (by omega) (by omega) (tgt := 38) (sx_di dX8_setUsual 4 rfl) (by decide) (fun h6 => absurd h6 (by omega)) (fun _ => ?_)
    refine V_iload (sx_di dX8_setUsual 5 rfl) rfl ?_
    refine V_bipush (v := 10) (sx_di dX8_setUsual 6 rfl) (by decide) ?_
    refine V_icN_ge (a := (b + k)) (b := 10) (rfl) (rfl) (by omega) (by omega) (tgt := 38) (sx_di dX8_setUsual 7 rfl) (by decide) (fun h13 => absurd h13 (by omega)) (fun _ => ?_)
    refine V_aload_n (i := 0) (sx_di dX8_setUsual 8 rfl) rfl rfl ?_
    refine V_iload_n (i := 3) (sx_di dX8_setUsual 9 rfl) rfl rfl ?_
    refine V_iload (sx_di dX8_setUsual 10 rfl) rfl ?_
    refine V_iadd (sx_di dX8_setUsual 11 rfl) ?_
    refine V_iload_n (i := 1) (sx_di dX8_setUsual 12 rfl) rfl rfl ?_
    refine V_isub (sx_di dX8_setUsual 13 rfl) ?_
    refine V_iv (y := nI (o + k)) (by rw [nI_add, pk_sub (show b ≤ o + (b + k) by omega)]; exact congrArg nI (by omega)) ?_
    refine V_getsN (v := .ref 7) (sx_di dX8_setUsual 14 rfl) (sx_a2 147 rfl rfl) (fun U H z => (hX.1 U H z).2.2.2.2.2.1) ?_
    refine V_iload (sx_di dX8_setUsual 15 rfl) rfl ?_
    refine V_ialdO (sx_di dX8_setUsual 16 rfl) (fun U H z => (hX.1 U H z).2.2.2.2.2.2) (vp_in_nI (show b + k < 10 by omega) (by decide)) ?_
    refine V_iv (y := it_us (b + k)) (by rw [nI_clamp (by omega)]) ?_
    refine V_cV2 (mc' := 0) (ms' := 0) (M' := mX8_put) 1 (sx_di dX8_setUsual 17 rfl) lX8_39 vX8_put ((st_sw hs).1) (by decide) rfl (Nat.le_of_ble_eq_true rfl) ⟨Nat.le_of_ble_eq_true rfl, Nat.le_of_ble_eq_true rfl⟩ ⟨Nat.le_refl _, Nat.le_refl _⟩ ?_
    refine c_X8_put (st_sw hs) (show o + k < 48 by omega) ?_
    refine V_inc (c := 1) (sx_di dX8_setUsual 18 rfl) (by decide) rfl (by decide) (rfl) ?_
    refine V_goto (tgt := 3) (sx_di dX8_setUsual 19 rfl) (by decide) ?_
    exact V_subk q1 ⟨rfl, rfl, rfl, rfl, rfl, trivial⟩
set_option maxHeartbeats 2000000 in
set_option maxRecDepth 20000 in
theorem c_X8_setUsual {E : sxE} {w : hpW} {Q : Option Value → hpW → Prop} (hX : XO E) {a b m o : Nat} (hs : is_St w a) (hb : b + m ≤ 10) (ho : o + m ≤ 48) (h : Q none (sw9 w a (us9_ b m o (hp_i w (a + 1))))) : sx_C E mX8_setUsual 2 0 0 [.ref a, .int (nI b), .int (nI (b + m)), .int (nI o)] w Q := by
  refine C_of (by decide +kernel) (Nat.le_of_ble_eq_true rfl) ?_
  refine V_iload_n (i := 1) (sx_di dX8_setUsual 0 rfl) rfl rfl ?_
  refine V_istore (sx_di dX8_setUsual 1 rfl) (by decide) (rfl) ?_
  refine V_sub (ls' := [(4, .int (nI (b + 0))), (3, .int (nI o)), (2, .int (nI (b + m))), (1, .int (nI b)), (0, .ref a)]) ⟨rfl, rfl, rfl, rfl, rfl, trivial⟩ ?_
  have q := us_lp hX hs hb ho (S := hp_i w (a + 1)) h m 0 (by omega)
  rw [us9_0, sw9_id] at q
  exact q
theorem ltr2_255 : ∀ i, i < 10 → ltrs2.getD i 0 &&& 255 = ltrs2.getD i 0 := by decide
def iv9 (b m : Nat) (c : Int32) : Int32 := if ix_ b m c < m then nI (b + ix_ b m c) else -1
set_option maxHeartbeats 2000000 in
set_option maxRecDepth 20000 in
theorem io_lp {E : sxE} {w : hpW} {Q : Option Value → hpW → Prop} (hX : XO E) {b m : Nat} {c : Int32} (hb : b + m ≤ 10) : ∀ d j, j + d = m → Q (some (.int (if ixF c b d j < m then nI (b + ixF c b d j) else -1))) w → V E mX9_itemOf (sx_rm 5 0 0) 0 0 0 0 2 [(3, .int (nI (b + j))), (2, .int (nI (b + m))), (0, .int c)] [] w Q := by
  intro d
  induction d with
  | zero =>
    intro j hj h
    have e : j = m := by omega
    subst e
    rw [ixF, if_neg (by omega)] at h
    refine V_iload_n (i := 3) (sx_di dX9_itemOf 2 rfl) rfl rfl ?_
    refine V_iload_n (i := 2) (sx_di dX9_itemOf 3 rfl) rfl rfl ?_
    refine V_icN_ge (a := (b + j)) (b := (b + j)) (rfl) (rfl) (by omega) (by omega) (tgt := 31) (sx_di dX9_itemOf 4 rfl) (by decide) (fun _ => ?_) (fun h4 => absurd h4 (by omega))
    refine V_iconst (v := -1) (sx_di dX9_itemOf 17 rfl) (by decide) ?_
    refine V_iret (sx_di dX9_itemOf 18 rfl) rfl (Nat.le_refl _) (Nat.le_refl _) ?_
    exact h
  | succ d ih =>
    intro j hj h
    unfold ixF at h
    refine V_iload_n (i := 3) (sx_di dX9_itemOf 2 rfl) rfl rfl ?_
    refine V_iload_n (i := 2) (sx_di dX9_itemOf 3 rfl) rfl rfl ?_
    refine V_icN_ge (a := (b + j)) (b := (b + m)) (rfl) (rfl) (by omega) (by omega) (tgt := 31) (sx_di dX9_itemOf 4 rfl) (by decide) (fun h4 => absurd h4 (by omega)) (fun _ => ?_)
    refine V_iload_n (i := 3) (sx_di dX9_itemOf 5 rfl) rfl rfl ?_
    refine V_bipush (v := 10) (sx_di dX9_itemOf 6 rfl) (by decide) ?_
    refine V_icN_ge (a := (b + j)) (b := 10) (rfl) (rfl) (by omega) (by omega) (tgt := 31) (sx_di dX9_itemOf 7 rfl) (by decide) (fun h10 => absurd h10 (by omega)) (fun _ => ?_)
    refine V_ldcS (a := 2) (sx_di dX9_itemOf 8 rfl) (fun U H z => (hX.1 U H z).2.1.1) ?_
    refine V_iload_n (i := 3) (sx_di dX9_itemOf 9 rfl) rfl rfl ?_
    refine V_co1 (M' := mJ0_charAt_5068e) 4 (sx_di dX9_itemOf 10 rfl) (sx_a2 170 rfl rfl) vJ0_charAt_5068e (fun U H z => (hX.1 U H z).2.1.2.1) (Nat.le_of_ble_eq_true rfl) ⟨Nat.le_of_ble_eq_true rfl, Nat.le_of_ble_eq_true rfl⟩ ⟨Nat.le_refl _, Nat.le_refl _⟩ ?_
    refine c_str_at hX (fun U H z => (hX.1 U H z).2.1.2) (show b + j < 10 by omega) (by decide) ?_
    refine V_iv (y := ltrs2.getD (b + j) 0) (ltr2_255 (b + j) (by omega)) ?_
    refine V_iload_n (i := 0) (sx_di dX9_itemOf 11 rfl) rfl rfl ?_
    refine V_icmp_ne (tgt := 25) (sx_di dX9_itemOf 12 rfl) (by decide) (fun h20 => ?_) (fun h20 => ?_)
    · rw [if_neg h20] at h
      have q1 := ih (j + 1) (by omega) h
      rw [show b + (j + 1) = (b + j) + 1 by omega, ← nI_1] at q1
      refine V_inc (c := 1) (sx_di dX9_itemOf 15 rfl) (by decide) rfl (by decide) (rfl) ?_
      refine V_goto (tgt := 2) (sx_di dX9_itemOf 16 rfl) (by decide) ?_
      exact V_subk q1 ⟨rfl, rfl, rfl, trivial⟩
    · rw [if_pos h20, if_pos (by omega)] at h
      refine V_iload_n (i := 3) (sx_di dX9_itemOf 13 rfl) rfl rfl ?_
      refine V_iret (sx_di dX9_itemOf 14 rfl) rfl (Nat.le_refl _) (Nat.le_refl _) ?_
      exact h
set_option maxHeartbeats 2000000 in
set_option maxRecDepth 20000 in
theorem c_X9_itemOf {E : sxE} {w : hpW} {Q : Option Value → hpW → Prop} (hX : XO E) {b m : Nat} {c : Int32} (hb : b + m ≤ 10) (h : Q (some (.int (iv9 b m c))) w) : sx_C E mX9_itemOf 5 0 0 [.int c, .int (nI b), .int (nI (b + m))] w Q := by
  refine C_of (by decide +kernel) (Nat.le_of_ble_eq_true rfl) ?_
  refine V_iload_n (i := 1) (sx_di dX9_itemOf 0 rfl) rfl rfl ?_
  refine V_istore_n (i := 3) (sx_di dX9_itemOf 1 rfl) rfl (by decide) (rfl) ?_
  refine V_sub (ls' := [(3, .int (nI (b + 0))), (2, .int (nI (b + m))), (0, .int c)]) ⟨rfl, rfl, rfl, trivial⟩ ?_
  exact io_lp hX hb m 0 (by omega) h
theorem rn_no2 {T : List Int32} {p : Nat} (h : ¬ dg_ (tc_ T p)) : rn_ T 2 p = (false, p, 0) := by
  show rnF T 2 3 0 0 p = _
  unfold rnF
  rw [if_neg (fun z => h (dg_tc.mpr z))]
  rfl
set_option maxHeartbeats 2000000 in
set_option maxRecDepth 20000 in
theorem c_bounded9 {E : sxE} {w : hpW} {Q : Option Value → hpW → Prop} (hX : XO E) {T : List Int32} {a p n m j : Nat} {hr : Bool} (ha : a2_ a) (hj : j < 10) (H : sB T a p hr n m w) (hp : p ≤ T.length) (h : ∀ w', sB T a (nb9_ T j p).2.2 hr n m w' → fS a w w' → hp_i w' (a + 1) = hp_i w (a + 1) → ((nb9_ T j p).1 = true → hp_i w' 17 3 = (nb9_ T j p).2.1) → Q (some (.int (bz9 (nb9_ T j p).1))) w') : sx_C E mX9_readBounded 2 0 0 [.ref 19, .int (nI j)] w Q := by
  have hT := H.2.1.1
  have g2 := skq_le (T := T) hp
  have gr := rn_go (mx := 2) g2
  have cnum : ∀ w1, sB T a (skp_ T p) hr n m w1 → ∀ Q' : Option Value → hpW → Prop, (∀ w2, sB T a (rn_ T 2 (skp_ T p)).2.1 hr n m w2 → fS a w1 w2 → hp_i w2 (a + 1) = hp_i w1 (a + 1) → hp_i w2 17 3 = (rn_ T 2 (skp_ T p)).2.2 → Q' (some (.int (bz9 (rn_ T 2 (skp_ T p)).1))) w2) → sx_C E mX10_readNumber 1 0 0 [.ref 17, .int (nI 2)] w1 Q' := fun w1 H1 Q' k => c_X10_readNumber H1.1 H1.2.1 (by decide) (by omega) H1.2.2.1 (k _ (fH_sB ha fH_nw H1 (nw9_2 w1 _ _)) (fH_fS fH_nw) (fH_nw.2.1 (a + 1) (by unfold a2_ at ha; omega)) (nw9_3 w1 _ _))
  unfold nb9_ at h
  refine C_of (by decide +kernel) (Nat.le_of_ble_eq_true rfl) ?_
  refine V_iload_n (i := 1) (sx_di dX9_readBounded 0 rfl) rfl rfl ?_
  refine V_ifN_lt (a := j) (rfl) (by omega) (tgt := 32) (sx_di dX9_readBounded 1 rfl) (by decide) (fun h1 => absurd h1 (by omega)) (fun _ => ?_)
  refine V_iload_n (i := 1) (sx_di dX9_readBounded 2 rfl) rfl rfl ?_
  refine V_bipush (v := 10) (sx_di dX9_readBounded 3 rfl) (by decide) ?_
  refine V_icN_ge (a := j) (b := 10) (rfl) (rfl) (by omega) (by omega) (tgt := 32) (sx_di dX9_readBounded 4 rfl) (by decide) (fun h7 => absurd h7 (by omega)) (fun _ => ?_)
  refine V_aload_n (i := 0) (sx_di dX9_readBounded 5 rfl) rfl rfl ?_
  refine V_getR (sx_di dX9_readBounded 6 rfl) fX9_9 (fun _ => rfl) (by first | exact H.1.k _ rfl | exact H1.1.k _ rfl | exact H2.1.k _ rfl | exact H3.1.k _ rfl | exact H4.1.k _ rfl | exact H5.1.k _ rfl) (by first | exact H.1.r _ _ rfl | exact H1.1.r _ _ rfl | exact H2.1.r _ _ rfl | exact H3.1.r _ _ rfl | exact H4.1.r _ _ rfl | exact H5.1.r _ _ rfl) ?_
  refine V_cV0 (mc' := 0) (ms' := 0) (M' := mX10_sign) 1 (sx_di dX9_readBounded 7 rfl) lX9_30 vX10_sign (by first | exact H.1.k _ rfl | exact H1.1.k _ rfl | exact H2.1.k _ rfl | exact H3.1.k _ rfl | exact H4.1.k _ rfl | exact H5.1.k _ rfl) (by decide) rfl (Nat.le_of_ble_eq_true rfl) ⟨Nat.le_of_ble_eq_true rfl, Nat.le_of_ble_eq_true rfl⟩ ⟨Nat.le_refl _, Nat.le_refl _⟩ ?_
  refine c_signS ha H hp (fun w1 H1 f1 s1 => ?_)
  refine V_iconst (v := -1) (sx_di dX9_readBounded 8 rfl) (by decide) ?_
  refine V_icmp_eq (tgt := 32) (sx_di dX9_readBounded 9 rfl) (by decide) (fun h18 => ?_) (fun h18 => ?_)
  · have hd9 : ¬ dg_ (tc_ T (skp_ T p)) := fun z => absurd z.1 (by rw [show tc_ T (skp_ T p) = -1 from h18]; decide)
    rw [rn_no2 hd9, if_neg (show ¬ (false, skp_ T p, (0 : Int32)).1 = true from Bool.false_ne_true)] at h
    refine V_iconst (v := 0) (sx_di dX9_readBounded 15 rfl) (by decide) ?_
    refine V_zret (sx_di dX9_readBounded 16 rfl) rfl (by first | rfl | decide) (Nat.le_refl _) (Nat.le_refl _) ?_
    exact h w1 H1 f1 s1 (fun z => absurd z Bool.false_ne_true)
  · refine V_aload_n (i := 0) (sx_di dX9_readBounded 10 rfl) rfl rfl ?_
    refine V_getR (sx_di dX9_readBounded 11 rfl) fX9_9 (fun _ => rfl) (by first | exact H.1.k _ rfl | exact H1.1.k _ rfl | exact H2.1.k _ rfl | exact H3.1.k _ rfl | exact H4.1.k _ rfl | exact H5.1.k _ rfl) (by first | exact H.1.r _ _ rfl | exact H1.1.r _ _ rfl | exact H2.1.r _ _ rfl | exact H3.1.r _ _ rfl | exact H4.1.r _ _ rfl | exact H5.1.r _ _ rfl) ?_
    refine V_iconst (v := 2) (sx_di dX9_readBounded 12 rfl) (by decide) ?_
    refine V_cV1 (mc' := 0) (ms' := 0) (M' := mX10_readNumber) 1 (sx_di dX9_readBounded 13 rfl) lX9_71 vX10_readNumber (by first | exact H.1.k _ rfl | exact H1.1.k _ rfl | exact H2.1.k _ rfl | exact H3.1.k _ rfl | exact H4.1.k _ rfl | exact H5.1.k _ rfl) (by decide) rfl (Nat.le_of_ble_eq_true rfl) ⟨Nat.le_of_ble_eq_true rfl, Nat.le_of_ble_eq_true rfl⟩ ⟨Nat.le_refl _, Nat.le_refl _⟩ ?_
    refine cnum w1 H1 _ (fun w2 H2 f2 s2 n2 => ?_)
    refine V_if_ne (tgt := 34) (sx_di dX9_readBounded 14 rfl) (by decide) (fun h29 => ?_) (fun h29 => ?_)
    · have b29 := bz9t h29
      rw [if_pos b29] at h
      refine V_aload_n (i := 0) (sx_di dX9_readBounded 17 rfl) rfl rfl ?_
      refine V_getR (sx_di dX9_readBounded 18 rfl) fX9_9 (fun _ => rfl) (by first | exact H.1.k _ rfl | exact H1.1.k _ rfl | exact H2.1.k _ rfl | exact H3.1.k _ rfl | exact H4.1.k _ rfl | exact H5.1.k _ rfl) (by first | exact H.1.r _ _ rfl | exact H1.1.r _ _ rfl | exact H2.1.r _ _ rfl | exact H3.1.r _ _ rfl | exact H4.1.r _ _ rfl | exact H5.1.r _ _ rfl) ?_
      refine V_getI (sx_di dX9_readBounded 19 rfl) fX9_64 (fun _ => rfl) (by first | exact H.1.k _ rfl | exact H1.1.k _ rfl | exact H2.1.k _ rfl | exact H3.1.k _ rfl | exact H4.1.k _ rfl | exact H5.1.k _ rfl) ?_
      refine V_iv (y := (rn_ T 2 (skp_ T p)).2.2) (n2) ?_
      refine V_getsN (v := .ref 5) (sx_di dX9_readBounded 20 rfl) (sx_a2 218 rfl rfl) (fun U H z => (hX.1 U H z).2.2.2.1.1) ?_
      refine V_iload_n (i := 1) (sx_di dX9_readBounded 21 rfl) rfl rfl ?_
      refine V_ialdO (sx_di dX9_readBounded 22 rfl) (fun U H z => (hX.1 U H z).2.2.2.1.2) (vp_in_nI hj (by decide)) ?_
      refine V_iv (y := it_lo j) (by rw [nI_clamp (by omega)]) ?_
      refine V_icmp_lt (tgt := 64) (sx_di dX9_readBounded 23 rfl) (by decide) (fun h46 => ?_) (fun h46 => ?_)
      · rw [if_pos (Or.inl h46)] at h
        refine V_aload_n (i := 0) (sx_di dX9_readBounded 31 rfl) rfl rfl ?_
        refine V_getR (sx_di dX9_readBounded 32 rfl) fX9_9 (fun _ => rfl) (by first | exact H.1.k _ rfl | exact H1.1.k _ rfl | exact H2.1.k _ rfl | exact H3.1.k _ rfl | exact H4.1.k _ rfl | exact H5.1.k _ rfl) (by first | exact H.1.r _ _ rfl | exact H1.1.r _ _ rfl | exact H2.1.r _ _ rfl | exact H3.1.r _ _ rfl | exact H4.1.r _ _ rfl | exact H5.1.r _ _ rfl) ?_
        refine V_dup (sx_di dX9_readBounded 33 rfl) rfl ?_
        refine V_getI (sx_di dX9_readBounded 34 rfl) fX9_20 (fun _ => rfl) (by first | exact H.1.k _ rfl | exact H1.1.k _ rfl | exact H2.1.k _ rfl | exact H3.1.k _ rfl | exact H4.1.k _ rfl | exact H5.1.k _ rfl) ?_
        refine V_iv (y := nI (rn_ T 2 (skp_ T p)).2.1) (H2.2.2.1) ?_
        refine V_iconst (v := 1) (sx_di dX9_readBounded 35 rfl) (by decide) ?_
        refine V_isub (sx_di dX9_readBounded 36 rfl) ?_
        refine V_iv (y := nI ((rn_ T 2 (skp_ T p)).2.1 - 1)) (pk_sub (show 1 ≤ (rn_ T 2 (skp_ T p)).2.1 by have := gr.2.2 b29; omega)) ?_
        refine V_putI (sx_di dX9_readBounded 37 rfl) fX9_20 (fun _ => rfl) rfl (by first | exact H.1.k _ rfl | exact H1.1.k _ rfl | exact H2.1.k _ rfl | exact H3.1.k _ rfl | exact H4.1.k _ rfl | exact H5.1.k _ rfl) (rfl) (rfl) ?_
        refine V_hdS ha H2 (fun w3 H3 f3 s3 => ?_)
        refine V_iconst (v := 0) (sx_di dX9_readBounded 38 rfl) (by decide) ?_
        refine V_zret (sx_di dX9_readBounded 39 rfl) rfl (by first | rfl | decide) (Nat.le_refl _) (Nat.le_refl _) ?_
        exact h w3 H3 (fS_tr f1 (fS_tr f2 f3)) (s3.trans (s2.trans s1)) (fun z => absurd z Bool.false_ne_true)
      · refine V_aload_n (i := 0) (sx_di dX9_readBounded 24 rfl) rfl rfl ?_
        refine V_getR (sx_di dX9_readBounded 25 rfl) fX9_9 (fun _ => rfl) (by first | exact H.1.k _ rfl | exact H1.1.k _ rfl | exact H2.1.k _ rfl | exact H3.1.k _ rfl | exact H4.1.k _ rfl | exact H5.1.k _ rfl) (by first | exact H.1.r _ _ rfl | exact H1.1.r _ _ rfl | exact H2.1.r _ _ rfl | exact H3.1.r _ _ rfl | exact H4.1.r _ _ rfl | exact H5.1.r _ _ rfl) ?_
        refine V_getI (sx_di dX9_readBounded 26 rfl) fX9_64 (fun _ => rfl) (by first | exact H.1.k _ rfl | exact H1.1.k _ rfl | exact H2.1.k _ rfl | exact H3.1.k _ rfl | exact H4.1.k _ rfl | exact H5.1.k _ rfl) ?_
        refine V_iv (y := (rn_ T 2 (skp_ T p)).2.2) (n2) ?_
        refine V_getsN (v := .ref 6) (sx_di dX9_readBounded 27 rfl) (sx_a2 220 rfl rfl) (fun U H z => (hX.1 U H z).2.2.2.2.1.1) ?_
        refine V_iload_n (i := 1) (sx_di dX9_readBounded 28 rfl) rfl rfl ?_
        refine V_ialdO (sx_di dX9_readBounded 29 rfl) (fun U H z => (hX.1 U H z).2.2.2.2.1.2) (vp_in_nI hj (by decide)) ?_
        refine V_iv (y := it_hi j) (by rw [nI_clamp (by omega)]) ?_
        refine V_icmp_le (tgt := 79) (sx_di dX9_readBounded 30 rfl) (by decide) (fun h61 => ?_) (fun h61 => ?_)
        · rw [if_neg (fun z => z.elim h46 (Int32.not_lt.mpr h61))] at h
          refine V_iconst (v := 1) (sx_di dX9_readBounded 40 rfl) (by decide) ?_
          refine V_zret (sx_di dX9_readBounded 41 rfl) rfl (by first | rfl | decide) (Nat.le_refl _) (Nat.le_refl _) ?_
          exact h w2 H2 (fS_tr f1 f2) (s2.trans s1) (fun _ => n2)
        · rw [if_pos (Or.inr (Int32.not_le.mp h61))] at h
          refine V_aload_n (i := 0) (sx_di dX9_readBounded 31 rfl) rfl rfl ?_
          refine V_getR (sx_di dX9_readBounded 32 rfl) fX9_9 (fun _ => rfl) (by first | exact H.1.k _ rfl | exact H1.1.k _ rfl | exact H2.1.k _ rfl | exact H3.1.k _ rfl | exact H4.1.k _ rfl | exact H5.1.k _ rfl) (by first | exact H.1.r _ _ rfl | exact H1.1.r _ _ rfl | exact H2.1.r _ _ rfl | exact H3.1.r _ _ rfl | exact H4.1.r _ _ rfl | exact H5.1.r _ _ rfl) ?_
          refine V_dup (sx_di dX9_readBounded 33 rfl) rfl ?_
          refine V_getI (sx_di dX9_readBounded 34 rfl) fX9_20 (fun _ => rfl) (by first | exact H.1.k _ rfl | exact H1.1.k _ rfl | exact H2.1.k _ rfl | exact H3.1.k _ rfl | exact H4.1.k _ rfl | exact H5.1.k _ rfl) ?_
          refine V_iv (y := nI (rn_ T 2 (skp_ T p)).2.1) (H2.2.2.1) ?_
          refine V_iconst (v := 1) (sx_di dX9_readBounded 35 rfl) (by decide) ?_
          refine V_isub (sx_di dX9_readBounded 36 rfl) ?_
          refine V_iv (y := nI ((rn_ T 2 (skp_ T p)).2.1 - 1)) (pk_sub (show 1 ≤ (rn_ T 2 (skp_ T p)).2.1 by have := gr.2.2 b29; omega)) ?_
          refine V_putI (sx_di dX9_readBounded 37 rfl) fX9_20 (fun _ => rfl) rfl (by first | exact H.1.k _ rfl | exact H1.1.k _ rfl | exact H2.1.k _ rfl | exact H3.1.k _ rfl | exact H4.1.k _ rfl | exact H5.1.k _ rfl) (rfl) (rfl) ?_
          refine V_hdS ha H2 (fun w3 H3 f3 s3 => ?_)
          refine V_iconst (v := 0) (sx_di dX9_readBounded 38 rfl) (by decide) ?_
          refine V_zret (sx_di dX9_readBounded 39 rfl) rfl (by first | rfl | decide) (Nat.le_refl _) (Nat.le_refl _) ?_
          exact h w3 H3 (fS_tr f1 (fS_tr f2 f3)) (s3.trans (s2.trans s1)) (fun z => absurd z Bool.false_ne_true)
    · rw [if_neg (bz9f h29)] at h
      refine V_iconst (v := 0) (sx_di dX9_readBounded 15 rfl) (by decide) ?_
      refine V_zret (sx_di dX9_readBounded 16 rfl) rfl (by first | rfl | decide) (Nat.le_refl _) (Nat.le_refl _) ?_
      exact h w2 H2 (fS_tr f1 f2) (s2.trans s1) (fun z => absurd z Bool.false_ne_true)

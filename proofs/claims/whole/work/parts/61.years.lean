/-! years -/
def d1r (z : Int64) : Int64 := z * 6364136223846793005 + 1442695040888963407
def dsh (z : Int64) : Int64 := ((d1r z).toUInt64 >>> ((33 : Int32).toInt64.toUInt64 &&& Int64.toUInt64 63)).toInt64
def dvr (z : Int64) (m : Int32) : Int32 := (dsh z - dsh z / m.toInt64 * m.toInt64).toInt32
theorem u64_i (u : UInt64) (h : u.toNat < 2 ^ 31) : u.toInt64.toInt = u.toNat := by
  show (u.toBitVec.toInt) = _
  rw [BitVec.toInt_eq_toNat_of_lt (by show 2 * u.toNat < 2 ^ 64; omega)]
  rfl
theorem dsh_n (z : Int64) : ∃ k : Nat, k < 2 ^ 31 ∧ (dsh z).toInt = k := by
  have e : (33 : Int32).toInt64.toUInt64 &&& Int64.toUInt64 63 = 33 := by decide
  unfold dsh
  rw [e]
  generalize (d1r z).toUInt64 = u
  have h1 : (u >>> 33).toNat = u.toNat / 2 ^ 33 := by
    rw [UInt64.toNat_shiftRight, show (33 : UInt64).toNat % 64 = 33 by decide, Nat.shiftRight_eq_div_pow]
  have h2 := u.toNat_lt
  have h3 : (u >>> 33).toNat < 2 ^ 31 := by rw [h1]; omega
  exact ⟨(u >>> 33).toNat, h3, u64_i _ h3⟩
theorem bm64 {n : Int} (h1 : 0 ≤ n) (h2 : n < 2147483648) : n.bmod (2 ^ 64) = n := by
  apply Int.bmod_eq_of_le
  · omega
  · omega
theorem bm32 {n : Int} (h1 : 0 ≤ n) (h2 : n < 2147483648) : n.bmod (2 ^ 32) = n := by
  apply Int.bmod_eq_of_le
  · omega
  · omega
theorem dv_x (d : Int64) {q m : Nat} (h0 : 0 < m) (hm : m < 2 ^ 31) (hq : q < 2 ^ 31) (e : d.toInt = q) : (d - d / (nI m).toInt64 * (nI m).toInt64).toInt32 = nI (q % m) := by
  have em : (nI m).toInt64.toInt = (m : Int) := by rw [Int32.toInt_toInt64, nI_toInt hm]
  have hle : q / m ≤ q := Nat.div_le_self _ _
  have e1 : (d / (nI m).toInt64).toInt = ((q / m : Nat) : Int) := by
    rw [Int64.toInt_div, e, em, ← Int.ofNat_tdiv]
    exact bm64 (Int.natCast_nonneg _) (by omega)
  have hq2 : q / m * m ≤ q := Nat.div_mul_le_self _ _
  have e2 : (d / (nI m).toInt64 * (nI m).toInt64).toInt = ((q / m * m : Nat) : Int) := by
    rw [Int64.toInt_mul, e1, em, ← Int.natCast_mul]
    exact bm64 (Int.natCast_nonneg _) (by omega)
  have hmod : (q : Int) - ((q / m * m : Nat) : Int) = ((q % m : Nat) : Int) := by
    have := Nat.div_add_mod q m
    rw [Nat.mul_comm] at this
    omega
  have hlt : q % m < m := Nat.mod_lt _ h0
  have e3 : (d - d / (nI m).toInt64 * (nI m).toInt64).toInt = ((q % m : Nat) : Int) := by
    rw [Int64.toInt_sub, e, e2, hmod]
    exact bm64 (Int.natCast_nonneg _) (by omega)
  rw [fa_eq, Int64.toInt_toInt32, e3, nI_toInt (by omega)]
  exact bm32 (Int.natCast_nonneg _) (by omega)
theorem dvr_n (z : Int64) {m : Nat} (h0 : 0 < m) (hm : m < 2 ^ 31) : ∃ k, k < m ∧ dvr z (nI m) = nI k := by
  obtain ⟨q, hq, e⟩ := dsh_n z
  exact ⟨q % m, Nat.mod_lt _ h0, dv_x (dsh z) h0 hm hq e⟩
/-- what is drawn of a day: the state, the draws -/
noncomputable def st1 (f : Int64 → Int64) (v : Int64 → Int32 → Int32) (n : Nat) (md : Int32) (r : Nat → Int32) (z : Int64) : (Nat → Int32) × Int64 := if v z (nI 10) < md then (up_ r (v (f z) (nI n)).toNatClampNeg (v (f (f z)) (nI 10)), f (f (f z))) else (r, f z)
noncomputable def st2 (f : Int64 → Int64) (v : Int64 → Int32 → Int32) (n : Nat) (r : Nat → Int32) (z : Int64) : (Nat → Int32) × Int64 := if v z (nI n) ≠ v (f z) (nI n) ∧ 0 < r (32 + (v z (nI n)).toNatClampNeg) ∧ r (32 + (v (f z) (nI n)).toNatClampNeg) < 9 then (up_ (up_ r (32 + (v z (nI n)).toNatClampNeg) (r (32 + (v z (nI n)).toNatClampNeg) - 1)) (32 + (v (f z) (nI n)).toNatClampNeg) (r (32 + (v (f z) (nI n)).toNatClampNeg) + 1), f (f z)) else (r, f (f z))
noncomputable def stx (f : Int64 → Int64) (v : Int64 → Int32 → Int32) (n : Nat) (md : Int32) (r : Nat → Int32) (z : Int64) : (Nat → Int32) × Int64 := st2 f v n (st1 f v n md r z).1 (st1 f v n md r z).2
noncomputable def yr_ (f : Int64 → Int64) (v : Int64 → Int32 → Int32) (B : AS × Int64) : AS × Int64 := (pt_r (kp2_ B.1) (P_ B.1 (stx f v (a_n B.1) (a_d B.1) (a_r B.1) B.2).1), (stx f v (a_n B.1) (a_d B.1) (a_r B.1) B.2).2)
noncomputable def yit_ (f : Int64 → Int64) (v : Int64 → Int32 → Int32) (A : AS) (z : Int64) : Nat → AS × Int64
  | 0 => (A, z)
  | k + 1 => yr_ f v (yit_ f v A z k)
theorem OKF_st1 {f : Int64 → Int64} {v : Int64 → Int32 → Int32} (hv : ∀ z m, 0 < m → m < 2 ^ 31 → ∃ k, k < m ∧ v z (nI m) = nI k) {n m : Nat} {r : Nat → Int32} (hn : n ≤ 8) (h0 : 0 < n) (H : OKF n m r) (md : Int32) (z : Int64) : OKF n m (st1 f v n md r z).1 ∧ ∀ j, 8 ≤ j → (st1 f v n md r z).1 j = r j := by
  unfold st1
  obtain ⟨k, hk, e⟩ := hv (f z) n h0 (by omega)
  obtain ⟨q, hq, e2⟩ := hv (f (f z)) 10 (by decide) (by decide)
  split
  · rw [e, nI_clamp (by omega)]
    exact ⟨OKF_up H (by omega) (by omega) (by omega) (by omega) (fun h hh => ⟨fun _ => ⟨q, by omega, e2⟩, by omega, by omega, by omega, by omega⟩), fun j hj => up_ne (by omega)⟩
  · exact ⟨H, fun _ _ => rfl⟩
theorem OKF_st2 {f : Int64 → Int64} {v : Int64 → Int32 → Int32} (hv : ∀ z m, 0 < m → m < 2 ^ 31 → ∃ k, k < m ∧ v z (nI m) = nI k) {n m : Nat} {r : Nat → Int32} (hn : n ≤ 8) (h0 : 0 < n) (H : OKF n m r) (z : Int64) : OKF n m (st2 f v n r z).1 ∧ ∀ j, 40 ≤ j → (st2 f v n r z).1 j = r j := by
  unfold st2
  obtain ⟨k, hk, e⟩ := hv z n h0 (by omega)
  obtain ⟨q, hq, e2⟩ := hv (f z) n h0 (by omega)
  split
  · next hc =>
    rw [e, e2, nI_clamp (by omega), nI_clamp (by omega)] at hc
    rw [e, e2, nI_clamp (by omega), nI_clamp (by omega)]
    obtain ⟨_, _, _, _, ⟨u, hu, eu⟩⟩ := H.1.1 k hk
    obtain ⟨_, _, _, _, ⟨s, hs, es⟩⟩ := H.1.1 q hq
    have hs9 : s < 9 := by
      have := hc.2.2
      rw [es] at this
      exact (nI_ltI (b := 9) (by omega) (by decide)).mp this
    have hu1 : 1 ≤ u := by
      have := hc.2.1
      rw [eu] at this
      exact (nI_ltI (a := 0) (by decide) (by omega)).mp this
    exact ⟨OKF_up (OKF_up H (by omega) (by omega) (by omega) (by omega) (fun h hh => ⟨by omega, by omega, by omega, by omega, fun _ => ⟨u - 1, by omega, by rw [eu]; exact pk_sub hu1⟩⟩)) (by omega) (by omega) (by omega) (by omega) (fun h hh => ⟨by omega, by omega, by omega, by omega, fun _ => ⟨s + 1, by omega, by rw [es]; exact nI_add s 1⟩⟩), fun j hj => (up_ne (by omega)).trans (up_ne (by omega))⟩
  · exact ⟨H, fun _ _ => rfl⟩
theorem OKF_stx {f : Int64 → Int64} {v : Int64 → Int32 → Int32} (hv : ∀ z m, 0 < m → m < 2 ^ 31 → ∃ k, k < m ∧ v z (nI m) = nI k) {n m : Nat} {r : Nat → Int32} (hn : n ≤ 8) (h0 : 0 < n) (H : OKF n m r) (md : Int32) (z : Int64) : OKF n m (stx f v n md r z).1 ∧ ∀ j, 40 ≤ j → (stx f v n md r z).1 j = r j := by
  have q := OKF_st1 (f := f) hv hn h0 H md z
  have q2 := OKF_st2 (f := f) hv hn h0 q.1 (st1 f v n md r z).2
  exact ⟨q2.1, fun j hj => (q2.2 j hj).trans (q.2 j (by omega))⟩
theorem yit_ok {f : Int64 → Int64} {v : Int64 → Int32 → Int32} (hv : ∀ z m, 0 < m → m < 2 ^ 31 → ∃ k, k < m ∧ v z (nI m) = nI k) {A : AS} (V : AV A) (h0 : 0 < a_n A) {d : Nat} (e : a_r A 44 = nI d) (z : Int64) : ∀ k, d + k ≤ 9999 → AV (yit_ f v A z k).1 ∧ a_n (yit_ f v A z k).1 = a_n A ∧ a_r (yit_ f v A z k).1 44 = nI (d + k)
  | 0, _ => ⟨V, rfl, e⟩
  | k + 1, hk => by
    obtain ⟨v1, en, e4⟩ := yit_ok (f := f) hv V h0 e z k (by omega)
    have q0 := OKF_stx (f := f) hv (md := a_d (yit_ f v A z k).1) (z := (yit_ f v A z k).2) v1.2.2.1.1 (by omega) v1.2.2.2.1.1
    have q := OKF_P v1 (by omega) q0.1 (by omega) ((q0.2 44 (by omega)).trans e4)
    exact ⟨AV_r (AV_k v1 (by omega)) q.1, en, q.2⟩
theorem yit_n {f : Int64 → Int64} {v : Int64 → Int32 → Int32} (A : AS) (z : Int64) : ∀ k, a_n (yit_ f v A z k).1 = a_n A
  | 0 => rfl
  | k + 1 => yit_n A z k
theorem wd_y {A : AS} (V : AV A) {x : Int32} : (wdays (a_n A) x (a_r A 44) = -1) ↔ (¬ a_n A = 0 ∧ ¬ (x < 1 ∨ 60 < x) ∧ ¬ 9999 < a_r A 44 + x) := by
  unfold wdays
  constructor
  · intro h
    obtain ⟨h1, h⟩ := if_m1 h (by decide)
    obtain ⟨h2, h⟩ := if_m1 h (by decide)
    obtain ⟨h3, h⟩ := if_m1 h (by decide)
    exact ⟨h1, h2, h3⟩
  · intro h
    rw [if_neg h.1, if_neg h.2.1, if_neg h.2.2]
noncomputable def qy_ (f : Int64 → Int64) (v : Int64 → Int32 → Int32) (A : AS) (x : Int32) (z : Int64) : Int32 × AS := if wdays (a_n A) x (a_r A 44) = -1 then (a_r (yit_ f v A z x.toNatClampNeg).1 44, (yit_ f v A z x.toNatClampNeg).1) else (-1, A)
theorem AVy_ {f : Int64 → Int64} {v : Int64 → Int32 → Int32} (hv : ∀ z m, 0 < m → m < 2 ^ 31 → ∃ k, k < m ∧ v z (nI m) = nI k) {A : AS} (V : AV A) (x : Int32) (z : Int64) : AV (qy_ f v A x z).2 := by
  unfold qy_
  split
  · next e =>
    obtain ⟨h0, k, d, hk, ex, ed, hd⟩ := wdays_ok V e
    show AV (yit_ f v A z x.toNatClampNeg).1
    rw [ex, nI_clamp (by omega)]
    exact (yit_ok (f := f) hv V h0 ed z k hd).1
  · exact V
set_option maxHeartbeats 2000000 in
set_option maxRecDepth 20000 in
theorem c_X12_draw {E : sxE} {w : hpW} {Q : Option Value → hpW → Prop} {f : Int64 → Int64} {v : Int64 → Int32 → Int32} (hf : f = d1r) (hv : v = dvr) (hB : ly_B w) {m : Int32} (hm : ¬ m.toInt64 = 0) (h : Q (some (.int (v (hp_j w 381 33) m))) (hp_sj w 381 33 (f (hp_j w 381 33)))) : sx_C E mX12_draw 1 0 0 [.ref 381, .int m] w Q := by
  subst hf hv
  have e1 : hp_j (hp_sj w 381 33 (d1r (hp_j w 381 33))) 381 33 = d1r (hp_j w 381 33) := by rw [hp_j_sj, if_pos ⟨rfl, rfl⟩]
  refine C_of (by decide +kernel) (Nat.le_of_ble_eq_true rfl) ?_
  refine V_aload_n (i := 0) (sx_di dX12_draw 0 rfl) rfl rfl ?_
  refine V_aload_n (i := 0) (sx_di dX12_draw 1 rfl) rfl rfl ?_
  refine V_getJ (sx_di dX12_draw 2 rfl) fX12_336 (fun _ => rfl) (hB.k _ rfl) ?_
  refine V_ldc2 (sx_di dX12_draw 3 rfl) kX12_340 ?_
  refine V_lmul (sx_di dX12_draw 4 rfl) ?_
  refine V_ldc2 (sx_di dX12_draw 5 rfl) kX12_342 ?_
  refine V_ladd (sx_di dX12_draw 6 rfl) ?_
  refine V_eq rfl rfl (show _ = [Value.long (d1r (hp_j w 381 33)), .ref 381] from rfl) rfl ?_
  refine V_putJ (sx_di dX12_draw 7 rfl) fX12_336 (fun _ => rfl) rfl (hB.k _ rfl) rfl rfl ?_
  refine V_aload_n (i := 0) (sx_di dX12_draw 8 rfl) rfl rfl ?_
  refine V_getJ (sx_di dX12_draw 9 rfl) fX12_336 (fun _ => rfl) (hB.k _ rfl) ?_
  refine V_eq rfl rfl (congrArg (fun q => [Value.long q]) e1) rfl ?_
  refine V_bipush (v := 33) (sx_di dX12_draw 10 rfl) (by decide) ?_
  refine V_lushr (sx_di dX12_draw 11 rfl) ?_
  refine V_iload_n (i := 1) (sx_di dX12_draw 12 rfl) rfl rfl ?_
  refine V_i2l (sx_di dX12_draw 13 rfl) ?_
  refine V_lrem (sx_di dX12_draw 14 rfl) (hm) ?_
  refine V_l2i (sx_di dX12_draw 15 rfl) ?_
  refine V_iret (sx_di dX12_draw 16 rfl) rfl (Nat.le_refl _) (Nat.le_refl _) ?_
  exact h
set_option maxHeartbeats 2000000 in
set_option maxRecDepth 20000 in
theorem c_X11_draw {E : sxE} {w : hpW} {Q : Option Value → hpW → Prop} {f : Int64 → Int64} {v : Int64 → Int32 → Int32} (hf : f = d1r) (hv : v = dvr) (hB : ly_B w) {m : Int32} (hm : ¬ m.toInt64 = 0) (hm1 : 1 ≤ m) (h : Q (some (.int (v (hp_j w 16 15) m))) (hp_sj w 16 15 (f (hp_j w 16 15)))) : sx_C E mX11_draw 1 0 0 [.ref 16, .int m] w Q := by
  subst hf hv
  have e1 : hp_j (hp_sj w 16 15 (d1r (hp_j w 16 15))) 16 15 = d1r (hp_j w 16 15) := by rw [hp_j_sj, if_pos ⟨rfl, rfl⟩]
  refine C_of (by decide +kernel) (Nat.le_of_ble_eq_true rfl) ?_
  refine V_aload_n (i := 0) (sx_di dX11_draw 0 rfl) rfl rfl ?_
  refine V_aload_n (i := 0) (sx_di dX11_draw 1 rfl) rfl rfl ?_
  refine V_getJ (sx_di dX11_draw 2 rfl) fX11_269 (fun _ => rfl) (hB.k _ rfl) ?_
  refine V_ldc2 (sx_di dX11_draw 3 rfl) kX11_279 ?_
  refine V_lmul (sx_di dX11_draw 4 rfl) ?_
  refine V_ldc2 (sx_di dX11_draw 5 rfl) kX11_281 ?_
  refine V_ladd (sx_di dX11_draw 6 rfl) ?_
  refine V_eq rfl rfl (show _ = [Value.long (d1r (hp_j w 16 15)), .ref 16] from rfl) rfl ?_
  refine V_putJ (sx_di dX11_draw 7 rfl) fX11_269 (fun _ => rfl) rfl (hB.k _ rfl) rfl rfl ?_
  refine V_iload_n (i := 1) (sx_di dX11_draw 8 rfl) rfl rfl ?_
  refine V_iconst (v := 1) (sx_di dX11_draw 9 rfl) (by decide) ?_
  refine V_icmp_ge (tgt := 25) (sx_di dX11_draw 10 rfl) (by decide) (fun _ => ?_) (fun h18 => absurd hm1 h18)
  refine V_aload_n (i := 0) (sx_di dX11_draw 13 rfl) rfl rfl ?_
  refine V_getJ (sx_di dX11_draw 14 rfl) fX11_269 (fun _ => rfl) (hB.k _ rfl) ?_
  refine V_eq rfl rfl (congrArg (fun q => [Value.long q]) e1) rfl ?_
  refine V_bipush (v := 33) (sx_di dX11_draw 15 rfl) (by decide) ?_
  refine V_lushr (sx_di dX11_draw 16 rfl) ?_
  refine V_iload_n (i := 1) (sx_di dX11_draw 17 rfl) rfl rfl ?_
  refine V_i2l (sx_di dX11_draw 18 rfl) ?_
  refine V_lrem (sx_di dX11_draw 19 rfl) (hm) ?_
  refine V_l2i (sx_di dX11_draw 20 rfl) ?_
  refine V_iret (sx_di dX11_draw 21 rfl) rfl (Nat.le_refl _) (Nat.le_refl _) ?_
  exact h

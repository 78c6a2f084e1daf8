/-! what an act leaves is in its bounds -/
theorem nb_ {v : Int32} {k : Nat} (hk : k < 2 ^ 31) (h : ¬ v < 0) (h2 : ¬ nI k < v) : ∃ q, q ≤ k ∧ v = nI q := by
  obtain ⟨j, hj, rfl⟩ := nI_of h
  refine ⟨j, ?_, rfl⟩
  rcases Nat.lt_or_ge k j with z | z
  · exact absurd ((nI_ltI hk hj).mpr z) h2
  · exact z
theorem if_m1 {p : Prop} [Decidable p] {a b : Int32} (h : (if p then a else b) = -1) (ha : ¬ a = -1) : ¬ p ∧ b = -1 := by
  by_cases z : p
  · rw [if_pos z] at h; exact absurd h ha
  · rw [if_neg z] at h; exact ⟨z, h⟩
theorem AV_n0 {A : AS} (V : AV A) {x : Int32} (h : ¬ ih_ (a_n A) x = 0) : 0 < a_n A ∧ x.toNatClampNeg < a_n A ∧ a_n A ≤ 8 := by
  have hn := V.2.2.1.1
  have z := (ih_cl hn h).1
  exact ⟨by omega, z, hn⟩
theorem AV_sham {A : AS} (V : AV A) (x v : Int32) : AV (q_sham A x v).2 := by
  unfold q_sham
  split
  · next hw =>
    unfold wsham at hw
    obtain ⟨h1, hw⟩ := if_m1 hw (by decide)
    obtain ⟨h2, hw⟩ := if_m1 hw (by decide)
    obtain ⟨h0, hx, hn⟩ := AV_n0 V h1
    refine AV_kp V h0 (OKF_up V.2.2.2.1.1 (by omega) (by omega) (by omega) (by omega) (fun h hh => ⟨by omega, fun _ => ?_, by omega, by omega, by omega⟩))
    have z1 : ¬ v < -9 := fun z => h2 (Or.inl z)
    have z2 : ¬ 9 < v := fun z => h2 (Or.inr z)
    rw [fa_lt, ti_m9] at z1
    rw [fa_lt, ti_9] at z2
    omega
  · exact AV_rj V
theorem AV_hang {A : AS} (V : AV A) (x v : Int32) : AV (q_hang A x v).2 := by
  unfold q_hang
  split
  · next hw =>
    unfold whang at hw
    obtain ⟨h1, hw⟩ := if_m1 hw (by decide)
    obtain ⟨h2, hw⟩ := if_m1 hw (by decide)
    obtain ⟨_, hw⟩ := if_m1 hw (by decide)
    obtain ⟨h3, _⟩ := if_m1 hw (by decide)
    obtain ⟨h0, hx, hn⟩ := AV_n0 V h1
    obtain ⟨q, hq, eq⟩ := nb_ (v := v) (k := 9) (by decide) (fun z => h2 (Or.inl z)) (fun z => h2 (Or.inr z))
    obtain ⟨_, _, _, ⟨u, hu, eu⟩, _⟩ := V.2.2.2.1.1.1.1 _ hx
    obtain ⟨k, hk, ek⟩ := V.2.2.2.1.1.2.1
    have hc : ∃ c, c ≤ 999 ∧ a_r A 41 - mx_ 0 (v - a_r A (24 + x.toNatClampNeg)) = nI c := by
      rw [eq, eu, ek] at h3 ⊢
      by_cases z : u < q
      · rw [pk_sub (by omega)] at h3 ⊢
        have e : mx_ 0 (nI (q - u)) = nI (q - u) := if_pos ((nI_ltI (a := 0) (by decide) (by omega)).mpr (by omega))
        rw [e] at h3 ⊢
        have : q - u ≤ k := by
          rcases Nat.lt_or_ge k (q - u) with y | y
          · exact absurd ((nI_ltI (by omega) (by omega)).mpr y) h3
          · exact y
        exact ⟨k - (q - u), by omega, pk_sub (by omega)⟩
      · have e : mx_ 0 (nI q - nI u) = 0 := if_neg (by rw [fa_lt, pk_sub_toInt (by omega) (by omega), ti_0]; omega)
        rw [e]
        exact ⟨k, hk, by rw [Int32.sub_zero]⟩
    exact AV_kp V h0 (OKF_up (OKF_up V.2.2.2.1.1 (by omega) (by omega) (by omega) (fun _ => hc) (fun h hh => ⟨by omega, by omega, by omega, by omega, by omega⟩)) (by omega) (by omega) (by omega) (by omega) (fun h hh => ⟨by omega, by omega, by omega, fun _ => ⟨q, hq, eq⟩, by omega⟩))
  · exact AV_rj V
theorem co_dn {k c : Nat} {r : Int32} (hk : k ≤ 999) (hc : c < 2 ^ 31) (e : r = nI k) (h : ¬ r < nI c) : ∃ q, q ≤ 999 ∧ r - nI c = nI q := by
  rw [e] at h ⊢
  have : c ≤ k := by
    rcases Nat.lt_or_ge k c with y | y
    · exact absurd ((nI_ltI (by omega) (by omega)).mpr y) h
    · exact y
  exact ⟨k - c, by omega, pk_sub this⟩
theorem AV_whiten {A : AS} (V : AV A) (x : Int32) : AV (q_whiten A x).2 := by
  unfold q_whiten
  split
  · next hw =>
    unfold wwhit at hw
    obtain ⟨h1, hw⟩ := if_m1 hw (by decide)
    obtain ⟨h2, hw⟩ := if_m1 hw (by decide)
    obtain ⟨h3, _⟩ := if_m1 hw (by decide)
    obtain ⟨h0, hx, hn⟩ := AV_n0 V h1
    obtain ⟨_, _, ⟨u, hu, eu⟩, _, _⟩ := V.2.2.2.1.1.1.1 _ hx
    obtain ⟨k, hk, ek⟩ := V.2.2.2.1.1.2.1
    have hu9 : u < 9 := by
      rw [eu] at h2
      rcases Nat.lt_or_ge u 9 with y | y
      · exact y
      · exact absurd ((nI_leI (a := 9) (by decide) (by omega)).mpr y) h2
    refine AV_kp V h0 (OKF_up (OKF_up V.2.2.2.1.1 (by omega) (by omega) (by omega) (by omega) (fun h hh => ⟨by omega, by omega, fun _ => ⟨u + 1, by omega, by rw [eu]; exact nI_add u 1⟩, by omega, by omega⟩)) (by omega) (by omega) (by omega) (fun _ => co_dn (c := 2) hk (by decide) ek h3) (fun h hh => ⟨by omega, by omega, by omega, by omega, by omega⟩))
  · exact AV_rj V
theorem AV_piano {A : AS} (V : AV A) (x : Int32) : AV (q_piano A x).2 := by
  unfold q_piano
  split
  · next hw =>
    unfold wpian at hw
    obtain ⟨h1, hw⟩ := if_m1 hw (by decide)
    obtain ⟨h2, hw⟩ := if_m1 hw (by decide)
    obtain ⟨h3, _⟩ := if_m1 hw (by decide)
    obtain ⟨h0, hx, hn⟩ := AV_n0 V h1
    obtain ⟨k, hk, ek⟩ := V.2.2.2.1.1.2.1
    refine AV_kp V h0 (OKF_up (OKF_up V.2.2.2.1.1 (by omega) (by omega) (by omega) (by omega) (fun h hh => ⟨by omega, by omega, by omega, by omega, by omega⟩)) (by omega) (by omega) (by omega) (fun _ => co_dn (c := 3) hk (by decide) ek h3) (fun h hh => ⟨by omega, by omega, by omega, by omega, by omega⟩))
  · exact AV_rj V
theorem AV_give {A : AS} (V : AV A) (v : Int32) : AV (q_give A v).2 := by
  unfold q_give
  split
  · next hw =>
    unfold wgive at hw
    obtain ⟨h1, hw⟩ := if_m1 hw (by decide)
    obtain ⟨h2, _⟩ := if_m1 hw (by decide)
    have hn := V.2.2.1.1
    have h0 : 0 < a_n A := by omega
    obtain ⟨k, hk, ek⟩ := V.2.2.2.1.1.2.1
    have z1 : ¬ v < 1 := fun z => h2 (Or.inl z)
    obtain ⟨q, hq, eq⟩ := nb_ (v := v) (k := 50) (by decide) (by rw [fa_lt, ti_0]; rw [fa_lt, ti_1] at z1; omega) (fun z => h2 (Or.inr (Or.inl z)))
    have z3 : ¬ 999 < a_r A 41 + v := fun z => h2 (Or.inr (Or.inr z))
    rw [eq, ek, nI_add] at z3
    refine AV_kp V h0 (OKF_up V.2.2.2.1.1 (by omega) (by omega) (by omega) (fun _ => ⟨k + q, ?_, by rw [eq, ek, nI_add]⟩) (fun h hh => ⟨by omega, by omega, by omega, by omega, by omega⟩))
    rcases Nat.lt_or_ge 999 (k + q) with y | y
    · exact absurd ((nI_ltI (a := 999) (by decide) (by omega)).mpr y) z3
    · exact y
  · exact AV_rj V
theorem AV_move {A : AS} (V : AV A) (x y : Int32) : AV (q_move A x y).2 := by
  unfold q_move
  split
  · next hw =>
    unfold wmove at hw
    obtain ⟨h1, hw⟩ := if_m1 hw (by decide)
    obtain ⟨_, hw⟩ := if_m1 hw (by decide)
    obtain ⟨h2, hw⟩ := if_m1 hw (by decide)
    obtain ⟨h3, _⟩ := if_m1 hw (by decide)
    obtain ⟨h0, hx, hn⟩ := AV_n0 V (fun z => h1 (Or.inl z))
    obtain ⟨_, hy, _⟩ := AV_n0 V (fun z => h1 (Or.inr z))
    obtain ⟨_, _, _, _, ⟨u, hu, eu⟩⟩ := V.2.2.2.1.1.1.1 _ hx
    obtain ⟨_, _, _, _, ⟨s, hs, es⟩⟩ := V.2.2.2.1.1.1.1 _ hy
    have hs9 : s < 9 := by
      rw [es] at h2
      rcases Nat.lt_or_ge s 9 with y | y
      · exact y
      · exact absurd ((nI_leI (a := 9) (by decide) (by omega)).mpr y) h2
    have hu1 : 1 ≤ u := by
      rw [eu] at h3
      rcases Nat.lt_or_ge u 1 with y | y
      · exact absurd ((nI_ltI (b := 1) (by omega) (by decide)).mpr y) h3
      · exact y
    refine AV_kp V h0 (OKF_up (OKF_up V.2.2.2.1.1 (by omega) (by omega) (by omega) (by omega) (fun h hh => ⟨by omega, by omega, by omega, by omega, fun _ => ⟨u - 1, by omega, by rw [eu]; exact pk_sub hu1⟩⟩)) (by omega) (by omega) (by omega) (by omega) (fun h hh => ⟨by omega, by omega, by omega, by omega, fun _ => ⟨s + 1, by omega, by rw [es]; exact nI_add s 1⟩⟩))
  · exact AV_rj V

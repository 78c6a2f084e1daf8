/-! rows of V with numbers that count from 0 -/
theorem nx_add {x y : Int32} {a b : Nat} (hx : x = nI a) (hy : y = nI b) : x + y = nI (a + b) := by rw [hx, hy, nI_add]
theorem nx_mul {x y : Int32} {a b : Nat} (hx : x = nI a) (hy : y = nI b) : x * y = nI (a * b) := by rw [hx, hy, pk_mul]
theorem nx_sub {x y : Int32} {a b : Nat} (hx : x = nI a) (hy : y = nI b) (h : b ≤ a) : x - y = nI (a - b) := by rw [hx, hy, pk_sub h]
theorem nx_dec {x : Int32} {a : Nat} (hx : x = nI a) (h : 1 ≤ a) : x + -1 = nI (a - 1) := by
  obtain ⟨k, rfl⟩ : ∃ k, a = k + 1 := ⟨a - 1, by omega⟩
  rw [hx, pk_m1]; rfl
/-- the answer in other words -/
theorem Q_int {Q : Option Value → hpW → Prop} {w : hpW} {x y : Int32} (h : Q (some (.int x)) w) (e : x = y) : Q (some (.int y)) w := e ▸ h
theorem Q_w {Q : Option Value → hpW → Prop} {w w' : hpW} {r : Option Value} (h : Q r w) (e : w = w') : Q r w' := e ▸ h
theorem Q_iw {Q : Option Value → hpW → Prop} {w w' : hpW} {x y : Int32} (h : Q (some (.int x)) w) (e : x = y) (e2 : w = w') : Q (some (.int y)) w' := e ▸ e2 ▸ h
section SXI
variable {E : sxE} {M : sxM} {R : Room} {mc ms ce sl pc : Nat} {ls : List (Nat × Value)} {st : List Value} {w : hpW} {Q : Option Value → hpW → Prop}
theorem V_ialdN {i : Int32} {a n j : Nat} (hd : decode M.2.1 pc = .ok (.iaload, 1)) (hk : hp_k w a = (13, n)) (hi : i = nI j) (hj : j < n) (hn : n < 2 ^ 31) (kk : V E M R mc ms ce sl (pc + 1) ls (.int (hp_i w a j) :: st) w Q) : V E M R mc ms ce sl pc ls (.int i :: .ref a :: st) w Q := by
  subst hi
  refine V_iald hd hk (vp_in_nI hj hn) ?_
  rw [nI_clamp (by omega)]
  exact kk
theorem V_iastN {i x : Int32} {a n j : Nat} (hd : decode M.2.1 pc = .ok (.iastore, 1)) (hk : hp_k w a = (13, n)) (hi : i = nI j) (hj : j < n) (hn : n < 2 ^ 31) (kk : V E M R mc ms ce sl (pc + 1) ls st (hp_si w a j x) Q) : V E M R mc ms ce sl pc ls (.int x :: .int i :: .ref a :: st) w Q := by
  subst hi
  refine V_iast hd hk (vp_in_nI hj hn) ?_
  rw [nI_clamp (by omega)]
  exact kk
theorem V_icN_eq {x y : Int32} {off : Int} {tgt a b : Nat} (hx : x = nI a) (hy : y = nI b) (ha : a < 2 ^ 31) (hb : b < 2 ^ 31) (hd : decode M.2.1 pc = .ok (.if_icmp .eq off, 3)) (ht : (pc : Int) + off = (tgt : Int)) (kt : a = b → V E M R mc ms ce sl tgt ls st w Q) (kf : ¬ a = b → V E M R mc ms ce sl (pc + 3) ls st w Q) : V E M R mc ms ce sl pc ls (.int y :: .int x :: st) w Q := by
  subst hx hy
  exact V_icmp_eq hd ht (fun z => kt ((nI_eq ha hb).mp z)) (fun z => kf (fun q => z ((nI_eq ha hb).mpr q)))
theorem V_ifN_eq {x : Int32} {off : Int} {tgt a : Nat} (hx : x = nI a) (ha : a < 2 ^ 31) (hd : decode M.2.1 pc = .ok (.ifCond .eq off, 3)) (ht : (pc : Int) + off = (tgt : Int)) (kt : a = 0 → V E M R mc ms ce sl tgt ls st w Q) (kf : ¬ a = 0 → V E M R mc ms ce sl (pc + 3) ls st w Q) : V E M R mc ms ce sl pc ls (.int x :: st) w Q := by
  subst hx
  have hb : 0 < 2 ^ 31 := by decide
  exact V_if_eq hd ht (fun z => kt ((nI_eq ha hb).mp z)) (fun z => kf (fun q => z ((nI_eq ha hb).mpr q)))
theorem V_icN_ne {x y : Int32} {off : Int} {tgt a b : Nat} (hx : x = nI a) (hy : y = nI b) (ha : a < 2 ^ 31) (hb : b < 2 ^ 31) (hd : decode M.2.1 pc = .ok (.if_icmp .ne off, 3)) (ht : (pc : Int) + off = (tgt : Int)) (kt : ¬ a = b → V E M R mc ms ce sl tgt ls st w Q) (kf : a = b → V E M R mc ms ce sl (pc + 3) ls st w Q) : V E M R mc ms ce sl pc ls (.int y :: .int x :: st) w Q := by
  subst hx hy
  exact V_icmp_ne hd ht (fun z => kt (((not_congr (nI_eq ha hb))).mp z)) (fun z => kf ((nI_eq ha hb).mp z))
theorem V_ifN_ne {x : Int32} {off : Int} {tgt a : Nat} (hx : x = nI a) (ha : a < 2 ^ 31) (hd : decode M.2.1 pc = .ok (.ifCond .ne off, 3)) (ht : (pc : Int) + off = (tgt : Int)) (kt : ¬ a = 0 → V E M R mc ms ce sl tgt ls st w Q) (kf : a = 0 → V E M R mc ms ce sl (pc + 3) ls st w Q) : V E M R mc ms ce sl pc ls (.int x :: st) w Q := by
  subst hx
  have hb : 0 < 2 ^ 31 := by decide
  exact V_if_ne hd ht (fun z => kt (((not_congr (nI_eq ha hb))).mp z)) (fun z => kf ((nI_eq ha hb).mp z))
theorem V_icN_lt {x y : Int32} {off : Int} {tgt a b : Nat} (hx : x = nI a) (hy : y = nI b) (ha : a < 2 ^ 31) (hb : b < 2 ^ 31) (hd : decode M.2.1 pc = .ok (.if_icmp .lt off, 3)) (ht : (pc : Int) + off = (tgt : Int)) (kt : a < b → V E M R mc ms ce sl tgt ls st w Q) (kf : ¬ a < b → V E M R mc ms ce sl (pc + 3) ls st w Q) : V E M R mc ms ce sl pc ls (.int y :: .int x :: st) w Q := by
  subst hx hy
  exact V_icmp_lt hd ht (fun z => kt ((nI_ltI ha hb).mp z)) (fun z => kf (fun q => z ((nI_ltI ha hb).mpr q)))
theorem V_ifN_lt {x : Int32} {off : Int} {tgt a : Nat} (hx : x = nI a) (ha : a < 2 ^ 31) (hd : decode M.2.1 pc = .ok (.ifCond .lt off, 3)) (ht : (pc : Int) + off = (tgt : Int)) (kt : a < 0 → V E M R mc ms ce sl tgt ls st w Q) (kf : ¬ a < 0 → V E M R mc ms ce sl (pc + 3) ls st w Q) : V E M R mc ms ce sl pc ls (.int x :: st) w Q := by
  subst hx
  have hb : 0 < 2 ^ 31 := by decide
  exact V_if_lt hd ht (fun z => kt ((nI_ltI ha hb).mp z)) (fun z => kf (fun q => z ((nI_ltI ha hb).mpr q)))
theorem V_icN_ge {x y : Int32} {off : Int} {tgt a b : Nat} (hx : x = nI a) (hy : y = nI b) (ha : a < 2 ^ 31) (hb : b < 2 ^ 31) (hd : decode M.2.1 pc = .ok (.if_icmp .ge off, 3)) (ht : (pc : Int) + off = (tgt : Int)) (kt : b ≤ a → V E M R mc ms ce sl tgt ls st w Q) (kf : ¬ b ≤ a → V E M R mc ms ce sl (pc + 3) ls st w Q) : V E M R mc ms ce sl pc ls (.int y :: .int x :: st) w Q := by
  subst hx hy
  exact V_icmp_ge hd ht (fun z => kt ((nI_leI hb ha).mp z)) (fun z => kf (fun q => z ((nI_leI hb ha).mpr q)))
theorem V_ifN_ge {x : Int32} {off : Int} {tgt a : Nat} (hx : x = nI a) (ha : a < 2 ^ 31) (hd : decode M.2.1 pc = .ok (.ifCond .ge off, 3)) (ht : (pc : Int) + off = (tgt : Int)) (kt : 0 ≤ a → V E M R mc ms ce sl tgt ls st w Q) (kf : ¬ 0 ≤ a → V E M R mc ms ce sl (pc + 3) ls st w Q) : V E M R mc ms ce sl pc ls (.int x :: st) w Q := by
  subst hx
  have hb : 0 < 2 ^ 31 := by decide
  exact V_if_ge hd ht (fun z => kt ((nI_leI hb ha).mp z)) (fun z => kf (fun q => z ((nI_leI hb ha).mpr q)))
theorem V_icN_gt {x y : Int32} {off : Int} {tgt a b : Nat} (hx : x = nI a) (hy : y = nI b) (ha : a < 2 ^ 31) (hb : b < 2 ^ 31) (hd : decode M.2.1 pc = .ok (.if_icmp .gt off, 3)) (ht : (pc : Int) + off = (tgt : Int)) (kt : b < a → V E M R mc ms ce sl tgt ls st w Q) (kf : ¬ b < a → V E M R mc ms ce sl (pc + 3) ls st w Q) : V E M R mc ms ce sl pc ls (.int y :: .int x :: st) w Q := by
  subst hx hy
  exact V_icmp_gt hd ht (fun z => kt ((nI_ltI hb ha).mp z)) (fun z => kf (fun q => z ((nI_ltI hb ha).mpr q)))
theorem V_ifN_gt {x : Int32} {off : Int} {tgt a : Nat} (hx : x = nI a) (ha : a < 2 ^ 31) (hd : decode M.2.1 pc = .ok (.ifCond .gt off, 3)) (ht : (pc : Int) + off = (tgt : Int)) (kt : 0 < a → V E M R mc ms ce sl tgt ls st w Q) (kf : ¬ 0 < a → V E M R mc ms ce sl (pc + 3) ls st w Q) : V E M R mc ms ce sl pc ls (.int x :: st) w Q := by
  subst hx
  have hb : 0 < 2 ^ 31 := by decide
  exact V_if_gt hd ht (fun z => kt ((nI_ltI hb ha).mp z)) (fun z => kf (fun q => z ((nI_ltI hb ha).mpr q)))
theorem V_icN_le {x y : Int32} {off : Int} {tgt a b : Nat} (hx : x = nI a) (hy : y = nI b) (ha : a < 2 ^ 31) (hb : b < 2 ^ 31) (hd : decode M.2.1 pc = .ok (.if_icmp .le off, 3)) (ht : (pc : Int) + off = (tgt : Int)) (kt : a ≤ b → V E M R mc ms ce sl tgt ls st w Q) (kf : ¬ a ≤ b → V E M R mc ms ce sl (pc + 3) ls st w Q) : V E M R mc ms ce sl pc ls (.int y :: .int x :: st) w Q := by
  subst hx hy
  exact V_icmp_le hd ht (fun z => kt ((nI_leI ha hb).mp z)) (fun z => kf (fun q => z ((nI_leI ha hb).mpr q)))
theorem V_ifN_le {x : Int32} {off : Int} {tgt a : Nat} (hx : x = nI a) (ha : a < 2 ^ 31) (hd : decode M.2.1 pc = .ok (.ifCond .le off, 3)) (ht : (pc : Int) + off = (tgt : Int)) (kt : a ≤ 0 → V E M R mc ms ce sl tgt ls st w Q) (kf : ¬ a ≤ 0 → V E M R mc ms ce sl (pc + 3) ls st w Q) : V E M R mc ms ce sl pc ls (.int x :: st) w Q := by
  subst hx
  have hb : 0 < 2 ^ 31 := by decide
  exact V_if_le hd ht (fun z => kt ((nI_leI ha hb).mp z)) (fun z => kf (fun q => z ((nI_leI ha hb).mpr q)))
end SXI

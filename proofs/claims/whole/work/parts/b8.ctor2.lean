/-! constructors: the layout grows -/
def zi9 (b j : Nat) : Prop := ¬ (ly_k b = (7, 13) ∧ j = 9) ∧ ¬ (b = 20 ∧ j = 2) ∧ ¬ (b = 381 ∧ j = 29)
/-- all below n is laid out; but for the references of X -/
def LB (n : Nat) (X : Nat → Prop) (w : hpW) : Prop := hp_n w = n ∧ (∀ b, 16 ≤ b → b < n → hp_k w b = ly_k b) ∧ (∀ b j t, b < n → ¬ X b → ly_r b j = some t → hp_r w b j = some t) ∧ ∀ b j, 16 ≤ b → b < n → zi9 b j → hp_i w b j = 0
def ge9 (a : Nat) (w w' : hpW) : Prop := ∀ b, b < a → hp_k w' b = hp_k w b ∧ hp_r w' b = hp_r w b ∧ hp_i w' b = hp_i w b ∧ hp_j w' b = hp_j w b
theorem ge9_rf {a : Nat} {w : hpW} : ge9 a w w := fun _ _ => ⟨rfl, rfl, rfl, rfl⟩
theorem ge9_tr {a : Nat} {w w2 w3 : hpW} (f : ge9 a w w2) (g : ge9 a w2 w3) : ge9 a w w3 := fun b hb => ⟨(g b hb).1.trans (f b hb).1, (g b hb).2.1.trans (f b hb).2.1, (g b hb).2.2.1.trans (f b hb).2.2.1, (g b hb).2.2.2.trans (f b hb).2.2.2⟩
theorem ge9_le {a c : Nat} {w w2 : hpW} (h : c ≤ a) (f : ge9 a w w2) : ge9 c w w2 := fun b hb => f b (by omega)
theorem LB_ext {n n2 : Nat} {X : Nat → Prop} {w w' : hpW} (H : LB n X w) (e : ge9 n w w') (hn : hp_n w' = n2) (k : ∀ b, n ≤ b → b < n2 → hp_k w' b = ly_k b) (r : ∀ b j t, n ≤ b → b < n2 → ¬ X b → ly_r b j = some t → hp_r w' b j = some t) (z : ∀ b j, n ≤ b → b < n2 → zi9 b j → hp_i w' b j = 0) : LB n2 X w' := by
  refine ⟨hn, fun b h1 h2 => ?_, fun b j t h1 h2 h3 => ?_, fun b j h1 h2 h3 => ?_⟩
  · rcases Nat.lt_or_ge b n with q | q
    · rw [(e b q).1]; exact H.2.1 b h1 q
    · exact k b q h2
  · rcases Nat.lt_or_ge b n with q | q
    · rw [(e b q).2.1]; exact H.2.2.1 b j t q h2 h3
    · exact r b j t q h1 h2 h3
  · rcases Nat.lt_or_ge b n with q | q
    · rw [(e b q).2.2.1]; exact H.2.2.2 b j h1 q h3
    · exact z b j q h2 h3
/-- the layout at n: an object of kind c, N fields, its rows L behind it -/
def lyC (n c N : Nat) (L : List (Nat × Nat × Nat)) : Bool := decide (ly_k n = (c, N)) && (List.range L.length).all (fun i => decide (ly_k (n + 1 + i) = ((L.getD i (0, 0, 0)).1, (L.getD i (0, 0, 0)).2.1)) && decide (ly_R.getD (n + 1 + i - 16) [] = [])) && decide ((ly_R.getD (n - 16) []).length ≤ 48) && (List.range 48).all (fun j => match ly_r n j with
  | none => true
  | some t => decide (n < t) && decide (t ≤ n + L.length) && decide ((L.getD (t - n - 1) (0, 0, 0)).2.2 = j))
theorem ly_big {b j : Nat} (h : (ly_R.getD (b - 16) []).length ≤ j) : ly_r b j = none := by
  unfold ly_r
  rw [List.getD_eq_getElem?_getD, List.getElem?_eq_none h]
  rfl
theorem lyC_e {n c N : Nat} {L : List (Nat × Nat × Nat)} (h : lyC n c N L = true) : ly_k n = (c, N) ∧ (∀ i, i < L.length → ly_k (n + 1 + i) = ((L.getD i (0, 0, 0)).1, (L.getD i (0, 0, 0)).2.1) ∧ ∀ j, ly_r (n + 1 + i) j = none) ∧ ∀ j t, ly_r n j = some t → ∃ i, i < L.length ∧ t = n + 1 + i ∧ (L.getD i (0, 0, 0)).2.2 = j := by
  unfold lyC at h
  rw [Bool.and_eq_true, Bool.and_eq_true, Bool.and_eq_true] at h
  obtain ⟨⟨⟨h1, h2⟩, h3⟩, h4⟩ := h
  refine ⟨of_decide_eq_true h1, fun i hi => ?_, fun j t hj => ?_⟩
  · have q := List.all_eq_true.mp h2 i (List.mem_range.mpr hi)
    rw [Bool.and_eq_true] at q
    refine ⟨of_decide_eq_true q.1, fun j => ?_⟩
    unfold ly_r
    rw [of_decide_eq_true q.2]
    rfl
  · have hj48 : j < 48 := Classical.byContradiction (fun z => by
      have l := of_decide_eq_true h3
      unfold ly_r at hj
      rw [List.getD_eq_getElem?_getD, List.getElem?_eq_none (by omega)] at hj
      exact absurd hj (by simp))
    have q := List.all_eq_true.mp h4 j (List.mem_range.mpr hj48)
    rw [hj] at q
    have q2 : (decide (n < t) && decide (t ≤ n + L.length) && decide ((L.getD (t - n - 1) (0, 0, 0)).2.2 = j)) = true := q
    rw [Bool.and_eq_true, Bool.and_eq_true] at q2
    have q3 := of_decide_eq_true q2.1.1
    have q4 := of_decide_eq_true q2.1.2
    exact ⟨t - n - 1, by omega, by omega, of_decide_eq_true q2.2⟩
def dst9 (L : List (Nat × Nat × Nat)) : Bool := (List.range L.length).all (fun i => (List.range L.length).all (fun j => decide (i = j) || decide ((L.getD i (0, 0, 0)).2.2 ≠ (L.getD j (0, 0, 0)).2.2)))
theorem gd9 {L : List (Nat × Nat × Nat)} {i : Nat} {q : Nat × Nat × Nat} (h : L[i]? = some q) : i < L.length ∧ L.getD i (0, 0, 0) = q := ⟨(List.getElem?_eq_some_iff.mp h).1, by rw [List.getD_eq_getElem?_getD, h]; rfl⟩
theorem dst_e {L : List (Nat × Nat × Nat)} (h : dst9 L = true) (i j : Nat) (q r : Nat × Nat × Nat) (hi : L[i]? = some q) (hj : L[j]? = some r) (hij : i ≠ j) : q.2.2 ≠ r.2.2 := by
  obtain ⟨l1, e1⟩ := gd9 hi
  obtain ⟨l2, e2⟩ := gd9 hj
  have a := List.all_eq_true.mp (List.all_eq_true.mp h i (List.mem_range.mpr l1)) j (List.mem_range.mpr l2)
  rw [Bool.or_eq_true, e1, e2] at a
  rcases a with a | a
  · exact absurd (of_decide_eq_true a) hij
  · exact of_decide_eq_true a
theorem LB_leaf {n c N : Nat} {X : Nat → Prop} {w : hpW} {L : List (Nat × Nat × Nat)} (H : LB n X w) (h16 : 16 ≤ n) (hd : dst9 L = true) (hl : lyC n c N L = true) : LB (n + 1 + L.length) X (stps (hp_new w c N) n L) ∧ ge9 n w (stps (hp_new w c N) n L) ∧ (∀ j, (∀ q, q ∈ L → q.2.2 ≠ j) → hp_r (stps (hp_new w c N) n L) n j = none) ∧ hp_k (stps (hp_new w c N) n L) n = (c, N) := by
  have hN := H.1
  have n1 : hp_n (hp_new w c N) = n + 1 := by show hp_n w + 1 = _; rw [hN]
  obtain ⟨s1, s2, s3, s4, s5⟩ := stps_ok (a := n) L (hp_new w c N) (by omega) (dst_e hd)
  rw [n1] at s1 s2 s4 s5
  obtain ⟨l1, l2, l3⟩ := lyC_e hl
  have kn : hp_k (hp_new w c N) n = (c, N) := by rw [nw_k, if_pos hN.symm]
  have ge : ge9 n w (stps (hp_new w c N) n L) := fun b hb => by
    obtain ⟨a1, a2, a3, a4⟩ := s2 b (by omega)
    rw [a1, a2, a3, a4 (by omega), nw_k, nw_r, nw_i, nw_j, if_neg (by omega), if_neg (by omega), if_neg (by omega), if_neg (by omega)]
    exact ⟨rfl, rfl, rfl, rfl⟩
  refine ⟨LB_ext H ge s1 (fun b h1 h2 => ?_) (fun b j t h1 h2 _ h3 => ?_) (fun b j h1 h2 _ => ?_), ge, fun j hj => ?_, (s2 n (by omega)).1.trans kn⟩
  · by_cases e : b = n
    · rw [e, (s2 n (by omega)).1, kn, l1]
    · obtain ⟨i, rfl⟩ : ∃ i, b = n + 1 + i := ⟨b - n - 1, by omega⟩
      have hi : i < L.length := by omega
      have hq : L[i]? = some L[i] := List.getElem?_eq_getElem hi
      rw [(s4 i _ hq).1, (l2 i hi).1, (gd9 hq).2]
  · by_cases e : b = n
    · subst e
      obtain ⟨i, hi, rfl, e2⟩ := l3 j t h3
      have hq : L[i]? = some L[i] := List.getElem?_eq_getElem hi
      rw [(gd9 hq).2] at e2
      rw [← e2]
      exact (s4 i _ hq).2
    · obtain ⟨i, rfl⟩ : ∃ i, b = n + 1 + i := ⟨b - n - 1, by omega⟩
      rw [(l2 i (by omega)).2 j] at h3
      exact absurd h3 (by simp)
  · by_cases e : b = n
    · rw [e, (s2 n (by omega)).2.1, nw_i, if_pos hN.symm]
    · exact s5 b j (by omega) (by omega)
  · rw [s3 j hj, nw_r, if_pos hN.symm]
/-- an object without rows -/
theorem LB_set {n a k : Nat} {X : Nat → Prop} {w : hpW} {t : Nat} (H : LB n X w) (h : ly_r a k = none ∨ ly_r a k = some t ∨ X a) : LB n X (hp_sr w a k (some t)) := by
  refine ⟨H.1, H.2.1, fun b j u h1 h2 h3 => ?_, H.2.2.2⟩
  show hp_u (hp_r w) a k (some t) b j = _
  by_cases e : b = a ∧ j = k
  · obtain ⟨rfl, rfl⟩ := e
    rw [hp_u_at]
    rcases h with q | q | q
    · rw [h3] at q; exact absurd q (by simp)
    · rw [← q]; exact h3
    · exact absurd q h2
  · rw [hp_u_nk _ _ e]
    exact H.2.2.1 b j u h1 h2 h3
theorem LB_int {n a k : Nat} {X : Nat → Prop} {w : hpW} {v : Int32} (H : LB n X w) (h : ¬ zi9 a k) : LB n X (hp_si w a k v) := by
  refine ⟨H.1, H.2.1, H.2.2.1, fun b j h1 h2 h3 => ?_⟩
  rw [si_p (fun z => h (by rw [← z.1, ← z.2]; exact h3))]
  exact H.2.2.2 b j h1 h2 h3
theorem LB_more {n : Nat} {X Y : Nat → Prop} {w : hpW} (H : LB n X w) (h : ∀ b, X b → Y b) : LB n Y w := ⟨H.1, H.2.1, fun b j t h1 h2 h3 => H.2.2.1 b j t h1 (fun z => h2 (h b z)) h3, H.2.2.2⟩
theorem LB_less {n : Nat} {X Y : Nat → Prop} {w : hpW} (H : LB n X w) (h : ∀ b, b < n → X b → ¬ Y b → ∀ j t, ly_r b j = some t → hp_r w b j = some t) : LB n Y w := ⟨H.1, H.2.1, fun b j t h1 h2 h3 => by
  by_cases c : X b
  · exact h b h1 c h2 j t h3
  · exact H.2.2.1 b j t h1 c h3, H.2.2.2⟩
theorem ge9_sr {a b k : Nat} {w : hpW} {x : Option Nat} (h : a ≤ b) : ge9 a w (hp_sr w b k x) := fun c hc => ⟨rfl, by funext j; exact hp_u_nk _ _ (by omega), rfl, rfl⟩
theorem ge9_si {a b k : Nat} {w : hpW} {x : Int32} (h : a ≤ b) : ge9 a w (hp_si w b k x) := fun c hc => ⟨rfl, rfl, by funext j; exact si_p (by omega), rfl⟩
theorem ge9_nw {a c n : Nat} {w : hpW} (h : a ≤ hp_n w) : ge9 a w (hp_new w c n) := fun b hb => by
  rw [nw_k, nw_r, nw_i, nw_j, if_neg (by omega), if_neg (by omega), if_neg (by omega), if_neg (by omega)]
  exact ⟨rfl, rfl, rfl, rfl⟩
theorem ge9_up {a : Nat} {X : Nat → Prop} {w w' : hpW} {n : Nat} (H : LB n X w') (h : a ≤ n) (f : ge9 a w w') : True := trivial
section CSV
variable {E : sxE} {M : sxM} {R : Room} {mc ms ce sl pc : Nat} {ls : List (Nat × Value)} {st : List Value} {w : hpW} {Q : Option Value → hpW → Prop}
theorem V_cs {ce2 sl2 : Nat} (h1 : ce = ce2) (h2 : sl = sl2) (k : V E M R mc ms ce2 sl2 pc ls st w Q) : V E M R mc ms ce sl pc ls st w Q := by subst h1 h2; exact k
end CSV
section ANX
variable {E : sxE} {M : sxM} {R : Room} {mc ms ce sl pc : Nat} {ls : List (Nat × Value)} {st : List Value} {w : hpW} {Q : Option Value → hpW → Prop} {idx a a0 n0 n1 n : Nat}
theorem V_anewX {x : Int32} {c ci : Nat} (hd : decode M.2.1 pc = .ok (.anewarray idx, 3)) (hc : (c = 15 ∧ ci = 1) ∨ (c = 16 ∧ ci = 7)) (hl : sx_w (.classLink M.1.cls idx (cl_R ci))) (ho : ∀ U H, sx_X E U H → ∀ a, (Cond.arrayOver (.object (cl_R ci))).before a U = true) (hx : ¬ x < 0) (hn : x.toNatClampNeg = n) (hby : n * 4 ≤ 536870912) (h1 : ce + 1 ≤ R.cells) (h2 : sl + n ≤ R.slots) (kk : V E M R mc ms (ce + 1) (sl + n) (pc + 3) ls (.ref (hp_n w) :: st) (hp_new w c n) Q) : V E M R mc ms ce sl pc ls (.int x :: st) w Q := by
  intro p e s m args below meth c0 H locs la g
  have hT := g.1.2.2.2.2.2.2.2.1
  have e0 := sx_sz g.2.1
  subst hn
  refine W.anew g.1.1 g.1.2.1 g.1.2.2.2.2.2.1 (hT _ hl _) (ho s s.heap g.1.2.2.2.2.2.2.2.2.2.2 _) rfl hd rfl hx hby h1 h2 fun cA kA comp f1 f2 f3 f4 => ?_
  generalize hH1 : H.push ({ cls := cA, slots := Array.replicate x.toNatClampNeg .null, vm := .none } : Cell) = H1
  have z1 : H1.size = H.size + 1 := by rw [← hH1, Array.size_push]
  have e1 : H1[H.size]? = some (arrV cA x.toNatClampNeg (fun _ => .null)) := by rw [← hH1, Array.getElem?_push_size, ← arrV_new]
  have o1 : ∀ q, q < H.size → H1[q]? = H[q]? := fun q hq => by rw [← hH1, Array.getElem?_push, if_neg (Nat.ne_of_lt hq)]
  have hst : F0 m (pc + 3) la (.ref H.size :: st.map (sx_v E)) = F0 m (pc + 3) la ((Value.ref (hp_n w) :: st).map (sx_v E)) := by rw [e0]; rfl
  show W p (sx_l E) e R s m args below meth c0 H1 locs (ce + 1) (sl + x.toNatClampNeg) _ (F0 m (pc + 3) la (.ref H.size :: st.map (sx_v E)))
  rw [hst]
  refine kk p e s m args below meth c0 H1 locs la (sx_nw g (g.2.1.push z1 o1 rfl (fun b h => hp_e_new h) ?_) o1)
  have hc1 : 15 ≤ c ∧ c < 17 := by omega
  have e2 : cA = sx_c E c := by
    rcases hc with ⟨rfl, rfl⟩ | ⟨rfl, rfl⟩
    · obtain ⟨_, _, -, -, -, h3⟩ := (g.1.2.2.2.2.2.2.2.2.1.2 2 (sx_c E 15, .object "StainStreet$Law") rfl).2
      exact Option.some.inj (f1.symm.trans h3)
    · obtain ⟨_, _, -, -, -, h3⟩ := (g.1.2.2.2.2.2.2.2.2.1.2 3 (sx_c E 16, .object "StainStreet$State") rfl).2
      exact Option.some.inj (f1.symm.trans h3)
  rw [hp_e_r (c := c) (n := x.toNatClampNeg) (by rw [hp_k_new, if_pos rfl]) hc1.1 hc1.2]
  show H1[H.size]? = some (vp_cell _ _)
  rw [e1, e2, vp_cell_q, hp_r_new, if_pos rfl]
  rfl
end ANX
/-- arrays of laws and of states have been made before -/
def AO9 (E : sxE) : Prop := ∀ U H, sx_X E U H → ∀ a, (Cond.arrayOver (.object (cl_R 1))).before a U = true ∧ (Cond.arrayOver (.object (cl_R 7))).before a U = true
theorem k_X1_init {E : sxE} {w : hpW} {Q : Option Value → hpW → Prop} {n : Nat} {X : Nat → Prop} (H : LB n X w) (h16 : 16 ≤ n) (hl : lyC n 1 7 [(13, 240, 2), (13, 64, 3), (13, 64, 4), (13, 6, 5), (13, 48, 6)] = true) (h : ∀ w', LB (n + 1 + 5) X w' → ge9 n w w' → hp_k w' n = (1, 7) → Q none w') : sx_C E mX1_init 2 5 422 [.ref n] (hp_new w 1 7) Q := by
  obtain ⟨a1, a2, a3, a4⟩ := LB_leaf (L := [(13, 240, 2), (13, 64, 3), (13, 64, 4), (13, 6, 5), (13, 48, 6)]) H h16 (by decide) hl
  have hN := H.1
  exact c_X1_init (by show n < hp_n w + 1; omega) (by rw [nw_k, if_pos hN.symm]) (h _ a1 a2 a4)
theorem k_X4_init {E : sxE} {w : hpW} {Q : Option Value → hpW → Prop} {n : Nat} {X : Nat → Prop} (H : LB n X w) (h16 : 16 ≤ n) (hl : lyC n 4 3 [(13, 128, 0), (13, 128, 1), (13, 128, 2)] = true) (h : ∀ w', LB (n + 1 + 3) X w' → ge9 n w w' → hp_k w' n = (4, 3) → Q none w') : sx_C E mX4_init 2 3 384 [.ref n] (hp_new w 4 3) Q := by
  obtain ⟨a1, a2, a3, a4⟩ := LB_leaf (L := [(13, 128, 0), (13, 128, 1), (13, 128, 2)]) H h16 (by decide) hl
  have hN := H.1
  exact c_X4_init (by show n < hp_n w + 1; omega) (by rw [nw_k, if_pos hN.symm]) (h _ a1 a2 a4)
theorem k_X5_init {E : sxE} {w : hpW} {Q : Option Value → hpW → Prop} {n : Nat} {X : Nat → Prop} (H : LB n X w) (h16 : 16 ≤ n) (hl : lyC n 5 4 [(13, 10, 0), (13, 10, 1), (14, 10, 2)] = true) (h : ∀ w', LB (n + 1 + 3) X w' → ge9 n w w' → hp_k w' n = (5, 4) → Q none w') : sx_C E mX5_init 2 3 30 [.ref n] (hp_new w 5 4) Q := by
  obtain ⟨a1, a2, a3, a4⟩ := LB_leaf (L := [(13, 10, 0), (13, 10, 1), (14, 10, 2)]) H h16 (by decide) hl
  have hN := H.1
  exact c_X5_init (by show n < hp_n w + 1; omega) (by rw [nw_k, if_pos hN.symm]) (h _ a1 a2 a4)
theorem k_X8_init {E : sxE} {w : hpW} {Q : Option Value → hpW → Prop} {n : Nat} {X : Nat → Prop} (H : LB n X w) (h16 : 16 ≤ n) (hl : lyC n 8 4 [(13, 48, 3)] = true) (h : ∀ w', LB (n + 1 + 1) X w' → ge9 n w w' → hp_k w' n = (8, 4) → Q none w') : sx_C E mX8_init 2 1 48 [.ref n] (hp_new w 8 4) Q := by
  obtain ⟨a1, a2, a3, a4⟩ := LB_leaf (L := [(13, 48, 3)]) H h16 (by decide) hl
  have hN := H.1
  exact c_X8_init (by show n < hp_n w + 1; omega) (by rw [nw_k, if_pos hN.symm]) (h _ a1 a2 a4)
theorem k_X10_init {E : sxE} {w : hpW} {Q : Option Value → hpW → Prop} {n : Nat} {X : Nat → Prop} (H : LB n X w) (h16 : 16 ≤ n) (hl : lyC n 10 4 [(13, 240, 0)] = true) (h : ∀ w', LB (n + 1 + 1) X w' → ge9 n w w' → hp_k w' n = (10, 4) → Q none w') : sx_C E mX10_init 2 1 240 [.ref n] (hp_new w 10 4) Q := by
  obtain ⟨a1, a2, a3, a4⟩ := LB_leaf (L := [(13, 240, 0)]) H h16 (by decide) hl
  have hN := H.1
  exact c_X10_init (by show n < hp_n w + 1; omega) (by rw [nw_k, if_pos hN.symm]) (h _ a1 a2 a4)
theorem k_X7_init {E : sxE} {w : hpW} {Q : Option Value → hpW → Prop} {n t : Nat} {X : Nat → Prop} (H : LB n X w) (h16 : 16 ≤ n) (hl : lyC n 7 13 [(13, 8, 1), (13, 8, 2), (13, 8, 3), (13, 8, 4), (13, 8, 5), (13, 8, 6)] = true) (h : ∀ w', LB (n + 1 + 6) X w' → ge9 n w w' → hp_k w' n = (7, 13) → hp_r w' n 0 = some t → Q none w') : sx_C E mX7_init 2 6 48 [.ref n, .ref t] (hp_new w 7 13) Q := by
  obtain ⟨a1, a2, a3, a4⟩ := LB_leaf (L := [(13, 8, 1), (13, 8, 2), (13, 8, 3), (13, 8, 4), (13, 8, 5), (13, 8, 6)]) H h16 (by decide) hl
  have hN := H.1
  obtain ⟨l1, l2, l3⟩ := lyC_e hl
  have r0 : ly_r n 0 = none := by
    cases e : ly_r n 0 with
    | none => rfl
    | some t =>
      obtain ⟨i, hi, -, e2⟩ := l3 0 t e
      have key : ∀ i, i < 6 → ¬ (([(13, 8, 1), (13, 8, 2), (13, 8, 3), (13, 8, 4), (13, 8, 5), (13, 8, 6)] : List (Nat × Nat × Nat)).getD i (0, 0, 0)).2.2 = 0 := by decide
      exact absurd e2 (key i hi)
  refine c_X7_init (by show n < hp_n w + 1; omega) (by rw [nw_k, if_pos hN.symm]) (h _ (LB_set (LB_int a1 (fun z => z.1 ⟨l1, rfl⟩)) (Or.inl r0)) (ge9_tr a2 (ge9_tr (ge9_si (Nat.le_refl _)) (ge9_sr (Nat.le_refl _)))) a4 ?_)
  show hp_u (hp_r _) n 0 (some t) n 0 = _
  rw [hp_u_at]
set_option maxHeartbeats 2000000 in
set_option maxRecDepth 20000 in
theorem bk9_lp {E : sxE} {w0 : hpW} {Q : Option Value → hpW → Prop} {X : Nat → Prop} (h : ∀ w', LB 52 (fun b => X b ∨ b = 21) w' → (∀ k, k < 5 → hp_r w' 21 k = some (22 + 6 * k)) → ge9 20 w0 w' → hp_i w' 20 2 = -1 → Q none w') : ∀ d i w, i + d = 5 → LB (22 + 6 * i) (fun b => X b ∨ b = 21) w → (∀ k, k < i → hp_r w 21 k = some (22 + 6 * k)) → ge9 20 w0 w → hp_i w 20 2 = -1 → hp_r w 20 0 = some 21 → V E mX2_init (sx_rm 3 31 2150) 31 2150 (1 + 6 * i) (5 + 429 * i) 19 [(1, .int (nI i)), (0, .ref 20)] [] w Q := by
  intro d
  induction d with
  | zero =>
    intro i w hi H hr hg h2 h0
    have e : i = 5 := by omega
    subst e
    refine V_iload_n (i := 1) (sx_di dX2_init 11 rfl) rfl rfl ?_
    refine V_iconst (v := 4) (sx_di dX2_init 12 rfl) (by decide) ?_
    refine V_icN_gt (a := 5) (b := 4) (rfl) (rfl) (by omega) (by omega) (tgt := 43) (sx_di dX2_init 13 rfl) (by decide) (fun _ => ?_) (fun h21 => absurd h21 (by omega))
    refine V_vret (sx_di dX2_init 23 rfl) rfl (by decide) (by decide) ?_
    exact h w H hr hg h2
  | succ d ih =>
    intro i w hi H hr hg h2 h0
    have hN := H.1
    have k20 : hp_k w 20 = (2, 3) := H.2.1 20 (by omega) (by omega)
    have k21 : hp_k w 21 = (15, 5) := H.2.1 21 (by omega) (by omega)
    have ly : ∀ i, i < 5 → lyC (22 + 6 * i) 1 7 [(13, 240, 2), (13, 64, 3), (13, 64, 4), (13, 6, 5), (13, 48, 6)] = true := by decide +kernel
    refine V_iload_n (i := 1) (sx_di dX2_init 11 rfl) rfl rfl ?_
    refine V_iconst (v := 4) (sx_di dX2_init 12 rfl) (by decide) ?_
    refine V_icN_gt (a := i) (b := 4) (rfl) (rfl) (by omega) (by omega) (tgt := 43) (sx_di dX2_init 13 rfl) (by decide) (fun h21 => absurd h21 (by omega)) (fun _ => ?_)
    refine V_aload_n (i := 0) (sx_di dX2_init 14 rfl) rfl rfl ?_
    refine V_getR (sx_di dX2_init 15 rfl) fX2_11 (fun _ => rfl) (k20) (h0) ?_
    refine V_iload_n (i := 1) (sx_di dX2_init 16 rfl) rfl rfl ?_
    refine V_new (c := 1) (sx_di dX2_init 17 rfl) (by decide) (sx_a1 74 rfl rfl) (sx_a1 76 rfl rfl) (sx_a1 5 rfl rfl) (by show 1 + 6 * i + 1 ≤ 31; omega) (by show 5 + 429 * i + 7 ≤ 2150; omega) ?_
    refine V_dup (sx_di dX2_init 18 rfl) rfl ?_
    refine V_cI0 (mc' := 5) (ms' := 422) (M' := mX1_init) 2 (sx_di dX2_init 19 rfl) lX2_21 vX1_init (Nat.le_of_ble_eq_true rfl) ⟨Nat.le_of_ble_eq_true rfl, Nat.le_of_ble_eq_true rfl⟩ ⟨by show 1 + 6 * i + 1 + 5 ≤ 31; omega, by show 5 + 429 * i + 7 + 422 ≤ 2150; omega⟩ ?_
    rw [hN]
    refine k_X1_init H (by omega) (ly i (by omega)) (fun w1 H1 g1 k1 => ?_)
    refine V_aast (sx_di dX2_init 20 rfl) ((g1 21 (by omega)).1.trans k21) (Or.inl ⟨rfl, rfl⟩) (vp_in_nI (show i < 5 by omega) (by decide)) (k1) ?_
    rw [nI_clamp (by omega)]
    refine V_inc (c := 1) (sx_di dX2_init 21 rfl) (by decide) rfl (by decide) (rfl) ?_
    refine V_goto (tgt := 19) (sx_di dX2_init 22 rfl) (by decide) ?_
    have q1 : _ := ih (i + 1) (hp_sr w1 21 i (some (22 + 6 * i))) (by omega) (LB_set (by rw [show 22 + 6 * (i + 1) = 22 + 6 * i + 1 + 5 by omega]; exact H1) (Or.inr (Or.inr (Or.inr rfl)))) (fun k hk => ?_) (ge9_tr hg (ge9_tr (ge9_le (by omega) g1) (ge9_sr (by omega)))) (by show hp_i w1 20 2 = -1; rw [(g1 20 (by omega)).2.2.1]; exact h2) (by show hp_u (hp_r w1) 21 i (some (22 + 6 * i)) 20 0 = _; rw [hp_u_nk _ _ (by omega), (g1 20 (by omega)).2.1]; exact h0)
    · rw [← nI_1 (a := i)] at q1
      exact V_cs (by omega) (by have z9 : cl_N 1 = 7 := rfl; omega) (V_subk q1 ⟨rfl, rfl, trivial⟩)
    · show hp_u (hp_r w1) 21 i (some (22 + 6 * i)) 21 k = _
      by_cases e : k = i
      · rw [e, hp_u_at]
      · rw [hp_u_nk _ _ (by omega), (g1 21 (by omega)).2.1]
        exact hr k (by omega)
set_option maxHeartbeats 2000000 in
set_option maxRecDepth 20000 in
theorem k_X2_init {E : sxE} {w : hpW} {Q : Option Value → hpW → Prop} {X : Nat → Prop} (hA : AO9 E) (H : LB 20 X w) (h : ∀ w', LB 52 X w' → ge9 20 w w' → hp_i w' 20 2 = -1 → Q none w') : sx_C E mX2_init 3 31 2150 [.ref 20] (hp_new w 2 3) Q := by
  have hN := H.1
  have n1 : hp_n (hp_new w 2 3) = 21 := by show hp_n w + 1 = _; rw [hN]
  have k20 : hp_k (hp_new w 2 3) 20 = (2, 3) := by rw [nw_k, if_pos hN.symm]
  have k20b : hp_k (hp_new (hp_new w 2 3) 15 5) 20 = (2, 3) := by rw [nw_k, n1, if_neg (by decide)]; exact k20
  have r21 : ∀ j t, ly_r 21 j = some t → j < 5 ∧ t = 22 + 6 * j := fun j t hj => by
    have e5 : (ly_R.getD (21 - 16) []).length = 5 := by decide +kernel
    have l48 : j < 5 := Classical.byContradiction (fun z => by
      rw [ly_big (show (ly_R.getD (21 - 16) []).length ≤ j by omega)] at hj
      exact absurd hj (by simp))
    have key : ∀ j, j < 5 → ly_r 21 j = some (22 + 6 * j) := by decide +kernel
    rw [key j l48] at hj
    exact ⟨l48, (Option.some.inj hj).symm⟩
  have l20 : ly_k 20 = (2, 3) ∧ ly_k 21 = (15, 5) ∧ (ly_R.getD 4 []) = [some 21, none, none] := by decide +kernel
  have r20 : ∀ j t, ly_r 20 j = some t → j = 0 ∧ t = 21 := fun j t hj => by
    have e : ly_r 20 j = ([some 21, none, none] : List (Option Nat)).getD j none := by unfold ly_r; rw [show 20 - 16 = 4 from rfl, l20.2.2]
    rw [e] at hj
    match j, hj with
    | 0, hj => exact ⟨rfl, (Option.some.inj hj).symm⟩
    | 1, hj => exact absurd hj (by simp)
    | 2, hj => exact absurd hj (by simp)
    | j + 3, hj => exact absurd hj (by simp)
  refine C_of (by decide +kernel) (Nat.le_of_ble_eq_true rfl) ?_
  refine V_aload_n (i := 0) (sx_di dX2_init 0 rfl) rfl rfl ?_
  refine V_objInit (sx_di dX2_init 1 rfl) (sx_a1 73 rfl rfl) (sx_a1 31 rfl rfl) (sx_a1 32 rfl rfl) (Nat.le_of_ble_eq_true rfl) ⟨Nat.le_of_ble_eq_true rfl, Nat.le_of_ble_eq_true rfl⟩ ?_
  refine V_aload_n (i := 0) (sx_di dX2_init 2 rfl) rfl rfl ?_
  refine V_iconst (v := 5) (sx_di dX2_init 3 rfl) (by decide) ?_
  refine V_anewX (c := 15) (ci := 1) (sx_di dX2_init 4 rfl) (Or.inl ⟨rfl, rfl⟩) (sx_a1 74 rfl rfl) (fun U H z a => (hA U H z a).1) (by decide) rfl (by decide) (Nat.le_of_ble_eq_true rfl) (Nat.le_of_ble_eq_true rfl) ?_
  refine V_putFR (c := 2) (k := 0) (sx_di dX2_init 5 rfl) (by decide) (by decide) (sx_a1 103 rfl rfl) rfl rfl rfl (fun _ => rfl) (k20b) (fun _ => rfl) (fun _ => rfl) ?_
  refine V_aload_n (i := 0) (sx_di dX2_init 6 rfl) rfl rfl ?_
  refine V_iconst (v := -1) (sx_di dX2_init 7 rfl) (by decide) ?_
  refine V_putI (sx_di dX2_init 8 rfl) fX2_17 (fun _ => rfl) rfl (k20b) (rfl) (rfl) ?_
  refine V_iconst (v := 0) (sx_di dX2_init 9 rfl) (by decide) ?_
  refine V_istore_n (i := 1) (sx_di dX2_init 10 rfl) rfl (by decide) (rfl) ?_
  refine V_sub (ls' := [(1, .int (nI 0)), (0, .ref 20)]) ⟨rfl, rfl, trivial⟩ ?_
  refine V_cs (ce2 := 1 + 6 * 0) (sl2 := 5 + 429 * 0) rfl rfl ?_
  have g2 : ge9 20 w (hp_si (hp_sr (hp_new (hp_new w 2 3) 15 5) 20 0 (some (hp_n (hp_new w 2 3)))) 20 2 (-1)) := ge9_tr (ge9_nw (by omega)) (ge9_tr (ge9_nw (by omega)) (ge9_tr (ge9_sr (by omega)) (ge9_si (by omega))))
  refine bk9_lp (w0 := w) (X := X) (fun w3 H3 r3 g3 h3 => ?_) 5 0 _ rfl (LB_ext (LB_more H (fun b z => Or.inl z)) g2 (show hp_n (hp_new w 2 3) + 1 = 22 by omega) (fun b b1 b2 => ?_) (fun b j t b1 b2 b3 b4 => ?_) (fun b j b1 b2 b3 => ?_)) (fun k hk => absurd hk (Nat.not_lt_zero k)) g2 (by rw [hp_i_si, if_pos ⟨rfl, rfl⟩]) ?_
  · exact h w3 (LB_less H3 (fun b b1 b2 b3 j t hj => by
      rcases b2 with z | z
      · exact absurd z b3
      · subst z
        obtain ⟨q1, q2⟩ := r21 j t hj
        rw [q2]; exact r3 j q1)) g3 h3
  · rcases (show b = 20 ∨ b = 21 by omega) with rfl | rfl
    · exact k20b.trans l20.1.symm
    · show hp_k (hp_new (hp_new w 2 3) 15 5) 21 = _
      rw [nw_k, n1, if_pos rfl]; exact l20.2.1.symm
  · rcases (show b = 20 ∨ b = 21 by omega) with rfl | rfl
    · obtain ⟨rfl, rfl⟩ := r20 j t b4
      show hp_u (hp_r (hp_new (hp_new w 2 3) 15 5)) 20 0 (some (hp_n (hp_new w 2 3))) 20 0 = _
      rw [hp_u_at, n1]
    · exact absurd (Or.inr rfl) b3
  · rcases (show b = 20 ∨ b = 21 by omega) with rfl | rfl
    · rw [si_p (fun z => b3.2.1 ⟨rfl, z.2⟩)]
      show hp_i (hp_new (hp_new w 2 3) 15 5) 20 j = _
      rw [nw_i, n1, if_neg (by decide), nw_i, if_pos hN.symm]
    · rw [si_p (by omega)]
      show hp_i (hp_new (hp_new w 2 3) 15 5) 21 j = _
      rw [nw_i, n1, if_pos rfl]
  · show hp_u (hp_r (hp_new (hp_new w 2 3) 15 5)) 20 0 (some (hp_n (hp_new w 2 3))) 20 0 = _
    rw [hp_u_at, n1]

/-! THE CLAIM OUT OF ONE WALK OF THE LAW'S BODY -/
def R_law : String := "StainStreetLaw"
def lw_P (b : Addr) (xs : List Int32) (args : Array Value) (s : State) : Prop := args = #[.ref b] ∧ s.IntsAt b xs ∧ xs.length ≤ 3072 ∧ (Jvm.Cond.and given_1 narrow_1).before args s = true
def lw_Q (_ : Array Value) (s : State) (o : Outcome) (t : State) : Prop := o = .returned (some (.int 1)) ∧ Framed s o t [] 601024 7293034
def lw_Z (below : List Frame) (a : Array Value) (s : State) : State → Prop := fun t => ∃ o, t.status = .running ∧ Ended t below o ∧ lw_Q a s o t
/-- what holds at the law's entry -/
def lw_At (p : Program) (s : State) (m : MethodId) (meth : Method) (c : Code) (b L : Nat) (xs : Nat → Int32) : Prop :=
  p.tables.exec = Jvm.exec ∧ c.code = code ∧ meth.sig.returnType = ret ∧ c.maxLocals = 7 ∧ s.vm.findClass R_law = some m.cls ∧ (∀ w ∈ lw_tbl, w.before #[Value.ref b] s = true) ∧ va_X b L xs s s.heap ∧ b < s.heap.size ∧ meth.locks = false ∧ (Jvm.Cond.and given_1 narrow_1).before #[Value.ref b] s = true
set_option maxRecDepth 100000 in
theorem nr_lo : ∀ j, j < 10 → Cond.eq (.elem (.static "StainStreet" "ITEM_LOWEST" "[I") (.int (Int32.ofNat j))) (.int (it_lo j)) ∈ flatC (Jvm.Cond.and given_1 narrow_1) := by decide +kernel
set_option maxRecDepth 100000 in
theorem nr_hi : ∀ j, j < 10 → Cond.eq (.elem (.static "StainStreet" "ITEM_HIGHEST" "[I") (.int (Int32.ofNat j))) (.int (it_hi j)) ∈ flatC (Jvm.Cond.and given_1 narrow_1) := by decide +kernel
set_option maxRecDepth 100000 in
theorem nr_us : ∀ j, j < 10 → Cond.eq (.elem (.static "StainStreet" "ITEM_USUAL" "[I") (.int (Int32.ofNat j))) (.int (it_us j)) ∈ flatC (Jvm.Cond.and given_1 narrow_1) := by decide +kernel
set_option maxRecDepth 100000 in
theorem nr_s1 : ∀ j, j < ltrs1.length → Cond.eq (.elem (.field (.string "StainStreet$LawReader" 69) "java/lang/String" "value" "[B") (.int (Int32.ofNat j))) (.int (ltrs1.getD j 0)) ∈ flatC (Jvm.Cond.and given_1 narrow_1) := by decide +kernel
set_option maxRecDepth 100000 in
theorem nr_s2 : ∀ j, j < ltrs2.length → Cond.eq (.elem (.field (.string "StainStreet$StreetReader" 81) "java/lang/String" "value" "[B") (.int (Int32.ofNat j))) (.int (ltrs2.getD j 0)) ∈ flatC (Jvm.Cond.and given_1 narrow_1) := by decide +kernel
def st_E0 (l : Launch) (D : va_G) (cc : Nat → ClassId) (sz : Nat) (R : List Nat) : sxE := (l, D, cc, sz, (fun k => R.getD k 0), fun _ _ => True)
set_option maxRecDepth 100000 in
set_option maxHeartbeats 2000000 in
theorem st_K {s : State} {b L : Nat} {xs : Nat → Int32} (l : Launch) (hts : ∀ w ∈ lw_tbl, w.before #[Value.ref b] s = true) (hX : va_X b L xs s s.heap) (hb : b < s.heap.size) (hgv : (Jvm.Cond.and given_1 narrow_1).before #[Value.ref b] s = true) :
    ∃ (D : va_G) (cc : Nat → ClassId) (R : List Nat) (v : Value), is_rv v ∧ R.getD 0 0 = b ∧ sx_K (we_E (st_E0 l D cc s.heap.size R) v L xs) s s.heap := by
  have hs := flat_of_before _ hgv
  have hA : ∀ a : Nat, a < s.heap.size → ¬ (fun q : Nat => s.heap.size ≤ q) a := fun a h z => absurd h (Nat.not_lt.mpr z)
  obtain ⟨D, hD⟩ := st_D hts
  obtain ⟨cc, hC⟩ := st_A hts
  have iS := hts _ (tb_1 1 rfl)
  obtain ⟨tl, zl, al⟩ := st_I (nm := "ITEM_LOWEST") (it := it_lo) (hts _ (tb_2 219 rfl)) iS (hs _ (by decide +kernel)) (hs _ (by decide +kernel)) (fun j hj => hs _ (nr_lo j hj)) hA
  obtain ⟨th, zh, ah⟩ := st_I (nm := "ITEM_HIGHEST") (it := it_hi) (hts _ (tb_2 221 rfl)) iS (hs _ (by decide +kernel)) (hs _ (by decide +kernel)) (fun j hj => hs _ (nr_hi j hj)) hA
  obtain ⟨tu, zu, au⟩ := st_I (nm := "ITEM_USUAL") (it := it_us) (hts _ (tb_2 148 rfl)) iS (hs _ (by decide +kernel)) (hs _ (by decide +kernel)) (fun j hj => hs _ (nr_us j hj)) hA
  obtain ⟨a1, t1, r1, o1, o2, o3, o4⟩ := st_S (own := "StainStreet$LawReader") (k := 69) (tx := "mwgptd") (L := ltrs1) (by decide) (hts _ (tb_3 28 rfl)) (hs _ (by decide +kernel)) (hs _ (by decide +kernel)) (hs _ (by decide +kernel)) (hs _ (by decide +kernel)) (fun j hj => hs _ (nr_s1 j hj)) hA
  obtain ⟨a2, t2, r2, p1, p2, p3, p4⟩ := st_S (own := "StainStreet$StreetReader") (k := 81) (tx := "dhfcmwgptn") (L := ltrs2) (by decide) (hts _ (tb_2 169 rfl)) (hs _ (by decide +kernel)) (hs _ (by decide +kernel)) (hs _ (by decide +kernel)) (hs _ (by decide +kernel)) (fun j hj => hs _ (nr_s2 j hj)) hA
  have z1 : va_Z "java/lang/String" "COMPACT_STRINGS" "Z" (.int 1) (fun q : Nat => s.heap.size ≤ q) s s.heap := va_Zof (hts _ (tb_2 179 rfl)) (hts _ (tb_1 14 rfl)) (va_eqt (hs _ (by decide +kernel))) hA
  have zf : ∃ (t9 : Nat) (v : Value), is_rv v ∧ ∀ E : sxE, sx_ad E 8 = t9 → va_Z "jdk/internal/util/Preconditions" "SIOOBE_FORMATTER" "Ljava/util/function/BiFunction;" (sx_v E v) (fun q : Nat => s.heap.size ≤ q) s s.heap := by
    rcases va_Zqof (C := "jdk/internal/util/Preconditions") (n := "SIOOBE_FORMATTER") (d := "Ljava/util/function/BiFunction;") (hts _ (tb_2 187 rfl)) (hts _ (tb_1 16 rfl)) (hs _ (by decide +kernel)) hA with h | ⟨t, h⟩
    · exact ⟨0, .null, Or.inl rfl, fun E _ => h⟩
    · exact ⟨t, .ref 8, Or.inr ⟨8, rfl⟩, fun E hE => by
        show va_Z _ _ _ (.ref (sx_ad E 8)) _ _ _
        rw [hE]
        exact h⟩
  obtain ⟨t9, v, hv, zf⟩ := zf
  obtain ⟨scr, x1, x2, x3, x4, x5⟩ := hX
  have hT : va_T .int b L (fun j => .int (xs j)) (fun q : Nat => s.heap.size ≤ q) s s.heap := ⟨scr, x1, x2, x3, Nat.le_of_eq x4.symm, by rw [x4], x5, hA b hb⟩
  have y1 := vx_Zqof (C := Bundle.tN) (n := "UNASSIGNED_STACK") (d := Bundle.steD) (hts _ (tb_5 84 rfl)) (hts _ (tb_1 18 rfl)) (hs _ (by decide +kernel)) hA
  have y2 := vx_Zqof (C := Bundle.tN) (n := "SUPPRESSED_SENTINEL") (d := Bundle.listD) (hts _ (tb_5 86 rfl)) (hts _ (tb_1 18 rfl)) (hs _ (by decide +kernel)) hA
  refine ⟨D, cc, [b, a1, a2, t1, t2, tl, th, tu, t9], v, hv, rfl, st_TB hts, ⟨hD, hC⟩, we_St, ?_⟩
  show we_X (st_E0 l D cc s.heap.size [b, a1, a2, t1, t2, tl, th, tu, t9]) v L xs s s.heap
  refine ⟨⟨⟨r1, o1, o2, o3, o4⟩, ⟨r2, p1, p2, p3, p4⟩, z1, ⟨zl, al⟩, ⟨zh, ah⟩, zu, au⟩, zf _ rfl, fun a => ⟨va_AO.use (va_AO.of (hts _ (tb_1 75 rfl))), va_AO.use (va_AO.of (hts _ (tb_2 0 rfl)))⟩, hT, fun a w hw => ?_, y1, y2⟩
  have q := hts w (List.mem_append_right _ (xe_in w hw))
  have g := xe_gd w hw
  rw [Bool.or_eq_true] at g
  rcases g with g | g
  · rw [Bool.and_eq_true] at g
    exact va_tabs g.1 rfl q
  · exact word_at (State.WarmedH.refl s) (good_of_word g) q
def st_w0 : hpW := (16, (fun _ => (99, 0)), (fun _ j => ly_r 0 j), (fun _ _ => 0), (fun _ _ => 0))
theorem st_LB : LB 16 (fun _ => False) st_w0 := by
  refine ⟨rfl, fun b h1 h2 => absurd h1 (by omega), fun b j t hb _ h => ?_, fun b j h1 h2 => absurd h1 (by omega)⟩
  have e : ly_r b j = ly_r 0 j := by
    unfold ly_r
    rw [show b - 16 = 0 - 16 by omega]
  rw [e] at h
  exact h
set_option maxHeartbeats 2000000 in
theorem whole_start {p : Program} {e : Env} {s : State} {m : MethodId} {below : List Frame} {meth : Method} {c : Code} (l : Launch) (hl : l.stackTraces = false) (hnm : meth.name = "law") {b L : Nat} {xs : Nat → Int32} (hL : L ≤ 3072) (C0 : lw_At p s m meth c b L xs) : W p l e room_1 s m #[Value.ref b] below meth c s.heap [] 0 0 (lw_Z below #[Value.ref b] s) (entryFrame m ([Value.ref b] : List Value).toArray 7) := by
  obtain ⟨hx, hb, hr, hml, hown, hts, hX, hbl, hlocks, hgv⟩ := id C0
  obtain ⟨D, cc, R, v, hv, hR, hK⟩ := st_K l hts hX hbl hgv
  have k := law_run (E := we_E (st_E0 l D cc s.heap.size R) v L xs) (n := L) (f := xs) (Q := fun r _ => r = some (.int 1)) (we_XO hv) we_AO we_scr (hs9_of (we_XE hl) we_scr) hL (fun _ => rfl) st_LB
  obtain ⟨la, hent, hla⟩ := sx_ent (we_E (st_E0 l D cc s.heap.size R) v L xs) m [.ref 0] 7 (Nat.le_of_ble_eq_true rfl)
  have e0 : ([Value.ref 0].map (sx_v (we_E (st_E0 l D cc s.heap.size R) v L xs))) = [Value.ref b] := by
    show [Value.ref (R.getD 0 0)] = [Value.ref b]
    rw [hR]
  rw [e0] at hent
  rw [hent]
  intro T hT X
  obtain ⟨t, q1, o, q2, q3, ⟨r, w', ho, hP', hQ, hB'⟩, L9, hF, hfr⟩ := k p e s m #[Value.ref b] below meth c s.heap [] la ⟨⟨hx, hb, hml, hr, hlocks, hown, hnm, hK⟩, ⟨rfl, Nat.le_refl _, fun a ha => absurd ha (show ¬ (99 : Nat) < 18 by decide)⟩, fun _ _ => rfl, (fun q h => by cases h), hla⟩ T hT X
  have hr9 : r = some (.int 1) := hQ
  subst hr9
  refine ⟨t, q1, o, q2, q3, ho, hF.1, hF.2.1, hF.2.2.weaken (fun y hy hlt => absurd hlt (Nat.not_lt.mpr (hfr y hy))) (Nat.le_refl _) (Nat.le_refl _)⟩

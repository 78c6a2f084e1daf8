/-! house throws: the heap grows, all that is told stays -/
def nse : String := "java/util/NoSuchElementException"
def nup : List String := ["java/lang/RuntimeException", "java/lang/Exception"]
def wn (w : hpW) (d : Nat) : hpW := (hp_n w + d, w.2)
theorem P_wn {E : sxE} {w : hpW} {H H1 : Heap} {d : Nat} (h : sx_P E w H) (hs : H1.size = H.size + d) (hq : ∀ q : Nat, q < H.size → H1[q]? = H[q]?) : sx_P E (wn w d) H1 := by
  have e1 := h.1
  have e2 := h.2.1
  refine ⟨?_, ?_, fun a ha => ?_⟩
  · show H1.size + 16 = sx_b E + (hp_n w + d)
    omega
  · show 16 ≤ hp_n w + d
    omega
  · obtain ⟨a1, a2, a3⟩ := h.2.2 a ha
    exact ⟨a1, (by show a < hp_n w + d; omega), va_at.kept a3 (hq _ a3.lt)⟩
theorem CR_wn {A : AS} {w : hpW} {d : Nat} (h : CR A w) : CR A (wn w d) := h
theorem RR_wn {A : AS} {w : hpW} {d : Nat} (h : RR A w) : RR A (wn w d) := h
/-- what house's exception is told to leave -/
def sx_XC (E : sxE) (XQ : hpW → Prop) : String → State → State → Prop := fun nm st t => nm = nse ∧ ∃ w', sx_P E w' t.heap ∧ XQ w' ∧ ∀ q, q < sx_b E → t.heap[q]? = st.heap[q]?
/-- the surroundings let house throw -/
def XE9 (E : sxE) : Prop := (sx_l E).stackTraces = false ∧ ∀ U H, sx_X E U H → (∀ a, ∀ w ∈ Cond.classLink "StainStreet" 174 nse :: Cond.initialized nse :: vx_at0 "StainStreet" 176 nse nup, w.before a U = true) ∧ vx_Zq Bundle.tN "UNASSIGNED_STACK" Bundle.steD (ox_A E) U H ∧ vx_Zq Bundle.tN "SUPPRESSED_SENTINEL" Bundle.listD (ox_A E) U H
set_option maxRecDepth 20000 in
theorem thr9 {E : sxE} {w : hpW} {Q : Option Value → hpW → Prop} {XQ : hpW → Prop} (hE : XE9 E) (hx : ∀ d, XQ (wn w d)) {ls : List (Nat × Value)} {p : Program} {e : Env} {s : State} {m : MethodId} {args : Array Value} {below : List Frame} {meth : Method} {c : Code} {H : Heap} {locs : List Loc} {la : Array Slot} (g : sx_In E mX11_house p s m meth c H locs la ls w) (hout : ∀ x ∈ c.exceptionTable.toList, covers x 25 = false) : W p (sx_l E) e (sx_rm 6 64 1024) s m args below meth c H locs 0 0 (vx_MQ below (sx_Qc E Q) (sx_XC E XQ) args s 64 1024 (fun q => sx_b E ≤ q)) (F0 m 18 la []) := by
  refine W_sz fun hz => ?_
  obtain ⟨hw, hU, hN⟩ := hE.2 s s.heap g.1.2.2.2.2.2.2.2.2.2.2
  refine vx_throw0 (cc := mX11_house.2.1) (own := "StainStreet") (cls := nse) (names := nup) (ik := 174) (ic := 176) (A := ox_A E) g.1.1 g.1.2.1 hE.1 g.1.2.2.2.2.2.1 (by decide +kernel) (by decide +kernel) (hw args _ List.mem_cons_self) (hw args _ (List.mem_cons_of_mem _ List.mem_cons_self)) (fun x h => hw args x (List.mem_cons_of_mem _ (List.mem_cons_of_mem _ h))) (by decide +kernel) hU hN (sx_S9 g hz) (g.2.2.2.2.1.trans g.1.2.2.1.symm) (sx_di dX11_house 9 rfl) (sx_di dX11_house 10 rfl) (sx_di dX11_house 11 rfl) (sx_di dX11_house 12 rfl) hout (by decide) (by decide) (by decide) (by decide) g.1.2.2.2.2.1 (fun t _ h1 h2 => ⟨rfl, wn w (t.heap.size - H.size), P_wn g.2.1 (by omega) h2, hx _, fun q hq => ?_⟩) g.2.2.2.1 (by decide) (by decide)
  have e1 := g.2.1.1
  have e2 := g.2.1.2.1
  rw [h2 q (by omega)]
  exact g.2.2.1 q hq

/-! what both sides hold: tape, laws, law that holds; houses, forms, slots told; the state, kept ones (newest first), image; notes; refusals, moods -/
abbrev n3T : Type := Int32 × Int32 × Int32
abbrev AS : Type := (List Int32 × List lwT × Int32) × (Nat × Nat × (Nat → Int32)) × ((Nat → Int32) × List (Nat → Int32) × Option (Nat → Int32)) × (List n3T × List n3T) × ((Nat → Int32) × Int32)
def a_T (A : AS) : List Int32 := A.1.1
def a_W (A : AS) : List lwT := A.1.2.1
def a_h (A : AS) : Int32 := A.1.2.2
def a_n (A : AS) : Nat := A.2.1.1
def a_m (A : AS) : Nat := A.2.1.2.1
def a_s (A : AS) : Nat → Int32 := A.2.1.2.2
def a_r (A : AS) : Nat → Int32 := A.2.2.1.1
def a_K (A : AS) : List (Nat → Int32) := A.2.2.1.2.1
def a_I (A : AS) : Option (Nat → Int32) := A.2.2.1.2.2
def a_S (A : AS) : List n3T := A.2.2.2.1.1
def a_Q (A : AS) : List n3T := A.2.2.2.1.2
def a_c (A : AS) : Nat → Int32 := A.2.2.2.2.1
def a_d (A : AS) : Int32 := A.2.2.2.2.2
/-- size, follower of a form, days between, MIND told, by the slots -/
def z_s (s : Nat → Int32) : Int32 → Int32 := fun x => s (36 + 2 * x.toNatClampNeg)
def z_f (s : Nat → Int32) : Int32 → Int32 := fun x => s (36 + 2 * x.toNatClampNeg + 1)
def z_m (s : Nat → Int32) : Nat → Int32 := fun h => s (4 + 4 * h)
/-- the law that holds -/
def z_F (W : List lwT) (h : Int32) : wF := if h = -1 then wf0 else wfL (W.getD h.toNatClampNeg [])
/-- a state in its bounds -/
def OKF (n m : Nat) (r : Nat → Int32) : Prop := OKS n m r ∧ (∃ c, c ≤ 999 ∧ r 41 = nI c) ∧ (∃ d, d ≤ 9999 ∧ r 44 = nI d) ∧ (∃ g, g ≤ 60 ∧ r 45 = nI g) ∧ ∀ j, 226 ≤ j → r j = 0
/-- a street in its bounds -/
def OKT (n m : Nat) (s : Nat → Int32) : Prop := 0 < m ∧ (∃ b, 0 < b ∧ b ≤ 9 ∧ s 0 = nI b) ∧ (s 1 = nI 8 ∨ ∃ p, p < n ∧ s 1 = nI p) ∧ (∃ f, f < m ∧ s 2 = nI f) ∧ (∃ c, c ≤ 99 ∧ s 3 = nI c) ∧ (∀ h i, h < n → i < 4 → ∃ k, k ≤ 9 ∧ s (4 + 4 * h + i) = nI k) ∧ ∀ f, f < m → (∃ k, k ≤ 9 ∧ s (36 + 2 * f) = nI k) ∧ ∃ g, g < m ∧ s (36 + 2 * f + 1) = nI g
def b01 (z : Int32) : Prop := z = 0 ∨ z = 1
def AV (A : AS) : Prop := (a_T A).length ≤ 240 ∧ ((a_W A).length ≤ 4 ∧ (∀ V, V ∈ a_W A → lwo_ V ∧ V.length ≤ 64) ∧ (a_h A = -1 ∨ ∃ k, k < (a_W A).length ∧ a_h A = nI k)) ∧ (a_n A ≤ 8 ∧ a_m A ≤ 6 ∧ (0 < a_n A → OKT (a_n A) (a_m A) (a_s A)) ∧ (a_n A = 0 → a_m A = 0)) ∧ (OKF (a_n A) (a_m A) (a_r A) ∧ (a_K A).length ≤ 40 ∧ (∀ r, r ∈ a_K A → OKF (a_n A) (a_m A) r) ∧ ∀ r, a_I A = some r → OKF (a_n A) (a_m A) r) ∧ ((a_S A).length ≤ 10 ∧ (∀ q, q ∈ a_S A → (∃ k, 0 < k ∧ k ≤ 40 ∧ q.1 = nI k) ∧ (∃ h, h < a_n A ∧ q.2.1 = nI h) ∧ b01 q.2.2) ∧ (a_Q A).length ≤ 10 ∧ ∀ q, q ∈ a_Q A → (∃ k, k ≤ 60 ∧ q.1 = nI k) ∧ (∃ f, f < a_m A ∧ q.2.1 = nI f) ∧ b01 q.2.2) ∧ (a_n A = 0 → a_K A = [] ∧ a_I A = none ∧ a_S A = [] ∧ a_Q A = [])
/-- a list of notes in three rows -/
def nts_ (I : Nat → Nat → Int32) (x y z : Nat) (L : List n3T) : Prop := ∀ i q, L[i]? = some q → I x i = q.1 ∧ I y i = q.2.1 ∧ I z i = q.2.2
/-! THE REFERENCE holds A -/
def Rtape (w : hpW) (T : List Int32) : Prop := tp_ w 381 2 382 T
def Rlaws (I : Nat → Nat → Int32) (W : List lwT) (h : Int32) : Prop := I 381 13 = nI W.length ∧ I 381 29 = h ∧ ∀ k V, W[k]? = some V → rl_ I k V
def Rstr (I : Nat → Nat → Int32) (n m : Nat) (s : Nat → Int32) : Prop := I 381 25 = nI n ∧ I 381 26 = nI m ∧ (∀ j, j < 4 → I 395 j = s j) ∧ (∀ j, j < 4 * n → I 396 j = s (4 + j)) ∧ ∀ j, j < 2 * m → I 397 j = s (36 + j)
def Rkept (I : Nat → Nat → Int32) (K : List (Nat → Int32)) : Prop := I 381 32 = nI K.length ∧ ∀ i r, K[i]? = some r → ∀ j, j < 226 → I 400 (226 * (K.length - 1 - i) + j) = r j
def Rimg (I : Nat → Nat → Int32) (o : Option (Nat → Int32)) : Prop := (I 381 47 = if o.isSome then 1 else 0) ∧ ∀ r, o = some r → ∀ j, j < 226 → I 409 j = r j
def RR (A : AS) (w : hpW) : Prop := ly_B w ∧ Rtape w (a_T A) ∧ Rlaws (hp_i w) (a_W A) (a_h A) ∧ Rstr (hp_i w) (a_n A) (a_m A) (a_s A) ∧ hp_i w 398 = a_r A ∧ Rkept (hp_i w) (a_K A) ∧ Rimg (hp_i w) (a_I A) ∧ (hp_i w 381 40 = nI (a_S A).length ∧ nts_ (hp_i w) 402 403 404 (a_S A)) ∧ (hp_i w 381 45 = nI (a_Q A).length ∧ nts_ (hp_i w) 406 407 408 (a_Q A)) ∧ (∀ j, j < 5 → hp_i w 399 j = a_c A j) ∧ hp_i w 381 30 = a_d A
/-! THE CLASS holds A -/
/-- the rows of the log at L, g written in all, as the state r lays them -/
def rg_ (I : Nat → Nat → Int32) (L g : Nat) (r : Nat → Int32) : Prop := g ≤ (r 44).toNatClampNeg ∧ r 45 = nI (if g < 60 then g else 60) ∧ ∀ i, i < (if g < 60 then g else 60) → I (L + 1) ((g - 1 - i) % 128) = r (46 + 3 * ((if g < 60 then g else 60) - 1 - i)) ∧ I (L + 2) ((g - 1 - i) % 128) = r (46 + 3 * ((if g < 60 then g else 60) - 1 - i) + 1) ∧ I (L + 3) ((g - 1 - i) % 128) = r (46 + 3 * ((if g < 60 then g else 60) - 1 - i) + 2)
/-- clauses in the cells of the law at a -/
def cl_ (I : Nat → Nat → Int32) (a : Nat) (V : lwT) : Prop := ∃ sz cd sm, ld_ I a V.length sz cd sm ∧ ∀ c q, V[c]? = some q → sm c = cd c + q.1.length ∧ (if c + 1 < V.length then cd (c + 1) else sz) = sm c + q.2.length ∧ (∀ j x, q.1[j]? = some x → I (a + 1) (cd c + j) = x) ∧ ∀ j x, q.2[j]? = some x → I (a + 1) (sm c + j) = x
def Claws (I : Nat → Nat → Int32) (W : List lwT) (h : Int32) : Prop := I 20 1 = nI W.length ∧ I 20 2 = h ∧ ∀ k V, W[k]? = some V → cl_ I (22 + 6 * k) V
def Cstr (w : hpW) (t n m : Nat) (s : Nat → Int32) : Prop := hp_r w 16 4 = some t ∧ hp_r w 16 5 = some (108 - t) ∧ (t = 53 ∨ t = 55) ∧ hp_i w t 0 = nI n ∧ hp_i w t 1 = nI m ∧ (∀ j, j < 4 → hp_i w (t + 1) j = s j) ∧ (∀ j, j < 4 * n → hp_i w (t + 1) (4 + j) = s (4 + j)) ∧ ∀ j, j < 2 * m → hp_i w (t + 1) (36 + j) = s (36 + j)
/-- the State at a holds r, its log is at L -/
def Cst (w : hpW) (t n : Nat) (s : Nat → Int32) (a L g : Nat) (r : Nat → Int32) : Prop := hp_r w a 0 = some t ∧ vw_ n (hp_i w) a r ∧ tm_ n (hp_i w) a (z_m s) ∧ hp_i w a 12 = nI g ∧ rg_ (hp_i w) L g r
def Cnow (w : hpW) (t n : Nat) (s : Nat → Int32) (g : Nat) (r : Nat → Int32) : Prop := hp_r w 57 0 = some t ∧ hp_i w 57 7 = r 40 ∧ hp_i w 57 11 = r 44 ∧ hp_i w 57 12 = nI g ∧ rg_ (hp_i w) 71 g r ∧ (0 < n → Cst w t n s 57 71 g r)
/-- how many were written, of those kept -/
def gc_ (g : Nat) (G : Nat → Nat) (k : Nat) : Prop := (0 < k → G 0 ≤ g ∧ g ≤ G 0 + 1) ∧ ∀ i, i + 1 < k → G (i + 1) ≤ G i ∧ G i ≤ G (i + 1) + 1
def Cpast (w : hpW) (t n : Nat) (s : Nat → Int32) (g : Nat) (K : List (Nat → Int32)) : Prop := ∃ p, p < 40 ∧ hp_i w 75 1 = nI p ∧ hp_i w 75 2 = nI K.length ∧ ∃ G, gc_ g G K.length ∧ ∀ i r, K[i]? = some r → Cst w t n s (77 + 7 * ((p + 39 - i) % 40)) 71 (G i) r
def Cimg (w : hpW) (t n : Nat) (s : Nat → Int32) (o : Option (Nat → Int32)) : Prop := (hp_i w 357 2 = if o.isSome then 1 else 0) ∧ ∀ r, o = some r → ∃ g, Cst w t n s 362 358 g r
def CR (A : AS) (w : hpW) : Prop := ly_B w ∧ tp_ w 17 1 18 (a_T A) ∧ Claws (hp_i w) (a_W A) (a_h A) ∧ ∃ t g, Cstr w t (a_n A) (a_m A) (a_s A) ∧ Cnow w t (a_n A) (a_s A) g (a_r A) ∧ Cpast w t (a_n A) (a_s A) g (a_K A) ∧ Cimg w t (a_n A) (a_s A) (a_I A) ∧ (hp_i w 369 3 = nI (a_S A).length ∧ nts_ (hp_i w) 370 371 372 (a_S A)) ∧ (hp_i w 373 3 = nI (a_Q A).length ∧ nts_ (hp_i w) 374 375 376 (a_Q A)) ∧ (∀ j, j < 5 → hp_i w 377 j = a_c A j) ∧ hp_i w 16 14 = a_d A

/-! sums and conditions of a law as lists of signs; both sides reckon alike -/
def bd_ (v : Int64) : Int32 := (mxl_ (-1000000) (mnl_ 1000000 v)).toInt32
/-- the reference's sign and value of a sign -/
def ec_ (c : Int32) : Int32 := if c < -6 then (if c = -43 then 2 else if c = -45 then 3 else if c = -42 then 4 else if c = -47 then 5 else if c = -61 then 6 else if c = -60 then 7 else if c = -62 then 8 else if c = -33 then 9 else if c = -38 then 10 else 11) else if c < 0 then 1 else 0
def ev_ (c : Int32) : Int32 := if c < -6 then 0 else if c < 0 then -1 - c else c
def wke_ (e : Int32) (a b : Int64) : Int32 := if e = 2 then bd_ (a + b) else if e = 3 then bd_ (a - b) else if e = 4 then bd_ (a * b) else if e = 5 then (if b = 0 then 0 else bd_ (a / b)) else if e = 6 then (if a = b then 1 else 0) else if e = 7 then (if a < b then 1 else 0) else if e = 8 then (if b < a then 1 else 0) else if e = 10 then (if a = 0 then 0 else if b = 0 then 0 else 1) else (if a = 0 then (if b = 0 then 0 else 1) else 1)
/-- a sign that joins two of a sort to one -/
def op_ (c : Int32) (t1 t2 : Bool) : Prop := (t1 = false ∧ t2 = false ∧ (c = -43 ∨ c = -45 ∨ c = -42 ∨ c = -47)) ∨ (t1 = false ∧ t2 = true ∧ (c = -61 ∨ c = -60 ∨ c = -62)) ∨ (t1 = true ∧ t2 = true ∧ (c = -38 ∨ c = -124))
/-- T is a sum (false) or a condition (true), reckoned within h places of the stack -/
def SE (T : List Int32) (h : Nat) (t : Bool) : Prop := ∀ P : List Int32 → Nat → Bool → Prop, (∀ c, ¬ c < -6 → c ≤ 9999 → P [c] 1 false) → (∀ A B a c t1 t2, op_ c t1 t2 → P A (a + 1) t1 → P B a t1 → P (A ++ B ++ [c]) (a + 1) t2) → (∀ A a, P A a true → P (A ++ [-33]) a true) → (∀ A a b t, a ≤ b → P A a t → P A b t) → P T h t
theorem SE_1 {c : Int32} (h1 : ¬ c < -6) (h2 : c ≤ 9999) : SE [c] 1 false := fun _ p1 _ _ _ => p1 c h1 h2
theorem SE_2 {A B : List Int32} {a : Nat} {c : Int32} {t1 t2 : Bool} (h : op_ c t1 t2) (hA : SE A (a + 1) t1) (hB : SE B a t1) : SE (A ++ B ++ [c]) (a + 1) t2 := fun P p1 p2 p3 p4 => p2 A B a c t1 t2 h (hA P p1 p2 p3 p4) (hB P p1 p2 p3 p4)
theorem SE_n {A : List Int32} {a : Nat} (hA : SE A a true) : SE (A ++ [-33]) a true := fun P p1 p2 p3 p4 => p3 A a (hA P p1 p2 p3 p4)
theorem SE_up {A : List Int32} {a b : Nat} {t : Bool} (h : a ≤ b) (hA : SE A a t) : SE A b t := fun P p1 p2 p3 p4 => p4 A a b t h (hA P p1 p2 p3 p4)
/-- within a million -/
def bn_ (v : Int32) : Prop := -1000000 ≤ v.toInt ∧ v.toInt ≤ 1000000
theorem jb_bd (r : Int64) : jb_ r = bd_ r := by
  have e1 : (1000000 : Int64).toInt = 1000000 := by decide
  have e2 : (-1000000 : Int64).toInt = -1000000 := by decide
  unfold jb_ bd_ mxl_ mnl_
  by_cases h1 : 1000000 < r
  · have m : (if r < 1000000 then r else (1000000 : Int64)) = 1000000 := if_neg (fun z => by rw [fa_lt64, e1] at h1 z; omega)
    rw [if_pos h1, m, if_neg (by decide)]; decide
  · rw [if_neg h1]
    by_cases h3 : r < 1000000
    · rw [if_pos h3]
      by_cases h2 : r < -1000000
      · rw [if_pos h2, if_pos h2]; decide
      · rw [if_neg h2, if_neg h2]
    · have er : r = 1000000 := by rw [fa_eq64, e1]; rw [fa_lt64, e1] at h1 h3; omega
      subst er
      decide
theorem bd_bn (r : Int64) : bn_ (bd_ r) := by
  have e1 : (1000000 : Int64).toInt = 1000000 := by decide
  have e2 : (-1000000 : Int64).toInt = -1000000 := by decide
  have key : ∀ q : Int64, -1000000 ≤ q.toInt → q.toInt ≤ 1000000 → bn_ q.toInt32 := by
    intro q h1 h2
    unfold bn_
    rw [Int64.toInt_toInt32, Int.bmod_eq_of_le (by omega) (by omega)]
    exact ⟨h1, h2⟩
  unfold bd_ mxl_ mnl_
  by_cases h3 : r < 1000000
  · rw [if_pos h3]
    by_cases h2 : r < -1000000
    · rw [if_pos h2]; exact key _ (by rw [e2]; omega) (by rw [e2]; omega)
    · rw [if_neg h2]
      rw [fa_lt64, e1] at h3
      rw [fa_lt64, e2] at h2
      exact key _ (by omega) (by omega)
  · have m : (if r < 1000000 then r else (1000000 : Int64)) = 1000000 := if_neg h3
    rw [m, if_neg (by decide)]; exact key _ (by rw [e1]; omega) (by rw [e1]; omega)
theorem bn_w {a : Int32} : a.toInt64.toInt = a.toInt := Int32.toInt_toInt64 a
theorem bn_add {a b : Int32} (ha : bn_ a) (hb : bn_ b) : (a + b).toInt64 = a.toInt64 + b.toInt64 := by
  unfold bn_ at ha hb
  rw [fa_eq64, Int32.toInt_toInt64, Int64.toInt_add, Int32.toInt_add, Int32.toInt_toInt64, Int32.toInt_toInt64, Int.bmod_eq_of_le (by omega) (by omega), Int.bmod_eq_of_le (by omega) (by omega)]
theorem bn_sub {a b : Int32} (ha : bn_ a) (hb : bn_ b) : (a - b).toInt64 = a.toInt64 - b.toInt64 := by
  unfold bn_ at ha hb
  rw [fa_eq64, Int32.toInt_toInt64, Int64.toInt_sub, Int32.toInt_sub, Int32.toInt_toInt64, Int32.toInt_toInt64, Int.bmod_eq_of_le (by omega) (by omega), Int.bmod_eq_of_le (by omega) (by omega)]
theorem bn_div {a b : Int32} (ha : bn_ a) : (a / b).toInt64 = a.toInt64 / b.toInt64 := by
  unfold bn_ at ha
  have q : ∀ x y : Int, -1000000 ≤ x → x ≤ 1000000 → -1000000 ≤ x.tdiv y ∧ x.tdiv y ≤ 1000000 := by
    intro x y h1 h2
    have := Int.natAbs_tdiv_le_natAbs x y
    omega
  have q2 := q a.toInt b.toInt ha.1 ha.2
  rw [fa_eq64, Int32.toInt_toInt64, Int64.toInt_div, Int32.toInt_div, Int32.toInt_toInt64, Int32.toInt_toInt64, Int.bmod_eq_of_le (by omega) (by omega), Int.bmod_eq_of_le (by omega) (by omega)]
theorem bn_01 {v : Int32} (h : v = 0 ∨ v = 1) : bn_ v := by rcases h with rfl | rfl <;> (unfold bn_; decide)
theorem if01 (c : Prop) [Decidable c] : (if c then (1 : Int32) else 0) = 0 ∨ (if c then (1 : Int32) else 0) = 1 := by split <;> simp
theorem w0 (a : Int32) : a.toInt64 = 0 ↔ a = 0 := fa_wide_eq a 0
theorem wk_jn {a b c : Int32} {t1 t2 : Bool} (ho : op_ c t1 t2) (ha : bn_ a) (hb : bn_ b) (ha2 : t1 = true → a = 0 ∨ a = 1) (hb2 : t1 = true → b = 0 ∨ b = 1) : wke_ (ec_ c) a.toInt64 b.toInt64 = jn_ (-c) a b ∧ bn_ (jn_ (-c) a b) ∧ (t2 = true → jn_ (-c) a b = 0 ∨ jn_ (-c) a b = 1) := by
  rcases ho with ⟨rfl, rfl, hc⟩ | ⟨rfl, rfl, hc⟩ | ⟨rfl, rfl, hc⟩
  · rcases hc with rfl | rfl | rfl | rfl
    · have e1 : ec_ (-43) = 2 := by decide
      have e2 : (- -43 : Int32) = 43 := by decide
      have j : jn_ 43 a b = bd_ ((a + b).toInt64) := by unfold jn_ ja_; rw [if_neg (by decide), if_neg (by decide), if_neg (by decide), if_neg (by decide), if_neg (by decide), if_pos rfl, jb_bd]
      have k : wke_ 2 a.toInt64 b.toInt64 = bd_ (a.toInt64 + b.toInt64) := by unfold wke_; rw [if_pos rfl]
      rw [e1, e2, j, k]
      exact ⟨by rw [bn_add ha hb], bd_bn _, fun h => absurd h (by decide)⟩
    · have e1 : ec_ (-45) = 3 := by decide
      have e2 : (- -45 : Int32) = 45 := by decide
      have j : jn_ 45 a b = bd_ ((a - b).toInt64) := by unfold jn_ ja_; rw [if_neg (by decide), if_neg (by decide), if_neg (by decide), if_neg (by decide), if_neg (by decide), if_neg (by decide), if_pos rfl, jb_bd]
      have k : wke_ 3 a.toInt64 b.toInt64 = bd_ (a.toInt64 - b.toInt64) := by unfold wke_; rw [if_neg (by decide), if_pos rfl]
      rw [e1, e2, j, k]
      exact ⟨by rw [bn_sub ha hb], bd_bn _, fun h => absurd h (by decide)⟩
    · have e1 : ec_ (-42) = 4 := by decide
      have e2 : (- -42 : Int32) = 42 := by decide
      have j : jn_ 42 a b = bd_ (a.toInt64 * b.toInt64) := by unfold jn_ ja_; rw [if_neg (by decide), if_neg (by decide), if_neg (by decide), if_neg (by decide), if_neg (by decide), if_neg (by decide), if_neg (by decide), if_pos rfl, jb_bd]
      have k : wke_ 4 a.toInt64 b.toInt64 = bd_ (a.toInt64 * b.toInt64) := by unfold wke_; rw [if_neg (by decide), if_neg (by decide), if_pos rfl]
      rw [e1, e2, j, k]
      exact ⟨rfl, bd_bn _, fun h => absurd h (by decide)⟩
    · have e1 : ec_ (-47) = 5 := by decide
      have e2 : (- -47 : Int32) = 47 := by decide
      have j : jn_ 47 a b = bd_ (if b = 0 then 0 else (a / b).toInt64) := by unfold jn_ ja_; rw [if_neg (by decide), if_neg (by decide), if_neg (by decide), if_neg (by decide), if_neg (by decide), if_neg (by decide), if_neg (by decide), if_neg (by decide), jb_bd]
      have k : wke_ 5 a.toInt64 b.toInt64 = (if b.toInt64 = 0 then 0 else bd_ (a.toInt64 / b.toInt64)) := by unfold wke_; rw [if_neg (by decide), if_neg (by decide), if_neg (by decide), if_pos rfl]
      rw [e1, e2, j, k]
      refine ⟨?_, bd_bn _, fun h => absurd h (by decide)⟩
      by_cases h0 : b = 0
      · rw [if_pos h0, if_pos ((w0 b).mpr h0)]; decide
      · rw [if_neg h0, if_neg (fun z => h0 ((w0 b).mp z)), bn_div ha]
  · rcases hc with rfl | rfl | rfl
    · have e1 : ec_ (-61) = 6 := by decide
      have e2 : (- -61 : Int32) = 61 := by decide
      have j : jn_ 61 a b = (if a = b then 1 else 0) := by unfold jn_; rw [if_neg (by decide), if_neg (by decide), if_pos rfl]
      have k : wke_ 6 a.toInt64 b.toInt64 = (if a.toInt64 = b.toInt64 then 1 else 0) := by unfold wke_; rw [if_neg (by decide), if_neg (by decide), if_neg (by decide), if_neg (by decide), if_pos rfl]
      rw [e1, e2, j, k]
      exact ⟨by simp only [fa_wide_eq], bn_01 (if01 _), fun _ => if01 _⟩
    · have e1 : ec_ (-60) = 7 := by decide
      have e2 : (- -60 : Int32) = 60 := by decide
      have j : jn_ 60 a b = (if a < b then 1 else 0) := by unfold jn_; rw [if_neg (by decide), if_pos rfl]
      have k : wke_ 7 a.toInt64 b.toInt64 = (if a.toInt64 < b.toInt64 then 1 else 0) := by unfold wke_; rw [if_neg (by decide), if_neg (by decide), if_neg (by decide), if_neg (by decide), if_neg (by decide), if_pos rfl]
      rw [e1, e2, j, k]
      exact ⟨by simp only [fa_wide_lt], bn_01 (if01 _), fun _ => if01 _⟩
    · have e1 : ec_ (-62) = 8 := by decide
      have e2 : (- -62 : Int32) = 62 := by decide
      have j : jn_ 62 a b = (if b < a then 1 else 0) := by unfold jn_; rw [if_neg (by decide), if_neg (by decide), if_neg (by decide), if_pos rfl]
      have k : wke_ 8 a.toInt64 b.toInt64 = (if b.toInt64 < a.toInt64 then 1 else 0) := by unfold wke_; rw [if_neg (by decide), if_neg (by decide), if_neg (by decide), if_neg (by decide), if_neg (by decide), if_neg (by decide), if_pos rfl]
      rw [e1, e2, j, k]
      exact ⟨by simp only [fa_wide_lt], bn_01 (if01 _), fun _ => if01 _⟩
  · have a1 := ha2 rfl
    have b1 := hb2 rfl
    rcases hc with rfl | rfl <;> rcases a1 with rfl | rfl <;> rcases b1 with rfl | rfl <;> (refine ⟨by decide, bn_01 (by decide), fun _ => by decide⟩)
/-- one sign, as the reference reckons it -/
def rr_ (L : Nat → Int32) (st : List Int32) (c : Int32) : List Int32 :=
  if c < -6 then (if c = -33 then (match st with
      | x :: r => (1 - x) :: r
      | [] => [])
    else (match st with
      | b :: a :: r => wke_ (ec_ c) a.toInt64 b.toInt64 :: r
      | s => s))
  else (if c < 0 then L (-1 - c).toNatClampNeg else c) :: st
/-- no sign asks for more than there is, from a stack of k on -/
def ro_ : List Int32 → Nat → Prop
  | [], _ => True
  | c :: T, k => if c < -6 then (if c = -33 then 1 ≤ k ∧ ro_ T k else 2 ≤ k ∧ (c = -43 ∨ c = -45 ∨ c = -42 ∨ c = -47 ∨ c = -61 ∨ c = -60 ∨ c = -62 ∨ c = -38 ∨ c = -124) ∧ ro_ T (k - 1)) else k < 48 ∧ ro_ T (k + 1)
theorem op_7 {c : Int32} {t1 t2 : Bool} (h : op_ c t1 t2) : c < -6 ∧ ¬ c = -33 ∧ (c = -43 ∨ c = -45 ∨ c = -42 ∨ c = -47 ∨ c = -61 ∨ c = -60 ∨ c = -62 ∨ c = -38 ∨ c = -124) := by
  rcases h with ⟨_, _, h⟩ | ⟨_, _, h⟩ | ⟨_, _, h⟩
  · rcases h with rfl | rfl | rfl | rfl <;> decide
  · rcases h with rfl | rfl | rfl <;> decide
  · rcases h with rfl | rfl <;> decide
/-- the letters are small -/
def lb_ (L : Nat → Int32) : Prop := ∀ j, j < 6 → bn_ (L j)
theorem SE_ok {L : Nat → Int32} (hL : lb_ L) {T : List Int32} {h : Nat} {t : Bool} (hT : SE T h t) : 1 ≤ h ∧ ∃ v, bn_ v ∧ (t = true → v = 0 ∨ v = 1) ∧ (∀ st, st.length + h ≤ 48 → T.foldl (rs_ L) st = v :: st) ∧ (∀ st, T.foldl (rr_ L) st = v :: st) ∧ (∀ T' k, k + h ≤ 48 → ro_ T' (k + 1) → ro_ (T ++ T') k) := by
  refine hT (fun T h t => 1 ≤ h ∧ ∃ v, bn_ v ∧ (t = true → v = 0 ∨ v = 1) ∧ (∀ st, st.length + h ≤ 48 → T.foldl (rs_ L) st = v :: st) ∧ (∀ st, T.foldl (rr_ L) st = v :: st) ∧ (∀ T' k, k + h ≤ 48 → ro_ T' (k + 1) → ro_ (T ++ T') k)) ?_ ?_ ?_ ?_
  · intro c h1 h2
    refine ⟨Nat.le_refl _, if c < 0 then L (-1 - c).toNatClampNeg else c, ?_, fun h => absurd h (by decide), ?_, ?_, ?_⟩
    · split
      · next h3 => exact hL _ (sx_in (rk_ix h1 h3))
      · next h3 =>
        unfold bn_
        rw [fa_lt] at h3
        rw [fa_le] at h2
        have e0 : (0 : Int32).toInt = 0 := by decide
        have e9 : (9999 : Int32).toInt = 9999 := by decide
        omega
    · intro st hs
      show rs_ L st c = _
      unfold rs_
      rw [if_neg h1, if_pos (by omega)]
    · intro st
      show rr_ L st c = _
      unfold rr_
      rw [if_neg h1]
    · intro T' k hk hr
      show ro_ (c :: T') k
      rw [ro_, if_neg h1]
      exact ⟨by omega, hr⟩
  · intro A B a c t1 t2 ho ⟨ha1, va, a1, a2, a3, a4, a5⟩ ⟨_, vb, b1, b2, b3, b4, b5⟩
    obtain ⟨w1, w2, w3⟩ := wk_jn ho a1 b1 a2 b2
    obtain ⟨o1, o2, o3⟩ := op_7 ho
    refine ⟨by omega, jn_ (-c) va vb, w2, w3, ?_, ?_, ?_⟩
    · intro st hs
      rw [List.foldl_append, List.foldl_append, a3 st (by omega), b3 (va :: st) (by simp; omega)]
      show rs_ L (vb :: va :: st) c = _
      rw [rs_, if_pos o1, if_neg o2]
    · intro st
      rw [List.foldl_append, List.foldl_append, a4 st, b4 (va :: st)]
      show rr_ L (vb :: va :: st) c = _
      rw [rr_, if_pos o1, if_neg o2]
      show wke_ (ec_ c) va.toInt64 vb.toInt64 :: st = _
      rw [w1]
    · intro T' k hk hr
      rw [List.append_assoc, List.append_assoc]
      refine a5 _ k (by omega) (b5 _ (k + 1) (by omega) ?_)
      show ro_ (c :: T') (k + 1 + 1)
      rw [ro_, if_pos o1, if_neg o2]
      exact ⟨by omega, o3, hr⟩
  · intro A a ⟨ha1, va, a1, a2, a3, a4, a5⟩
    have e := a2 rfl
    refine ⟨ha1, 1 - va, bn_01 ?_, fun _ => ?_, ?_, ?_, ?_⟩
    · rcases e with rfl | rfl <;> decide
    · rcases e with rfl | rfl <;> decide
    · intro st hs
      rw [List.foldl_append, a3 st hs]
      show rs_ L (va :: st) (-33) = _
      rw [rs_, if_pos (by decide), if_pos rfl]
    · intro st
      rw [List.foldl_append, a4 st]
      show rr_ L (va :: st) (-33) = _
      rw [rr_, if_pos (by decide), if_pos rfl]
    · intro T' k hk hr
      rw [List.append_assoc]
      refine a5 _ k hk ?_
      show ro_ (-33 :: T') (k + 1)
      rw [ro_, if_pos (by decide), if_pos rfl]
      exact ⟨by omega, hr⟩
  · intro A a b t hab ⟨ha1, va, a1, a2, a3, a4, a5⟩
    exact ⟨by omega, va, a1, a2, fun st hs => a3 st (by omega), a4, fun T' k hk hr => a5 T' k (by omega) hr⟩

/-! names: the law's own house, which catches -/
abbrev mL_house : sxM := (⟨"StainStreetLaw", "house", "(LStainStreet;II[J)I"⟩, method_3_code, 5, some FieldType.int)
def iL_house : List (Nat × Instr × Nat) := [(0, .aload_n 3, 1), (1, .iconst 0, 1), (2, .aload_n 0, 1), (3, .iload_n 1, 1), (4, .iload_n 2, 1), (5, .invokevirtual 7, 3), (8, .i2l, 1), (9, .lastore, 1), (10, .goto 7, 3), (13, .astore 4, 2), (15, .iconst 1, 1), (16, .ireturn, 1), (17, .iconst 0, 1), (18, .ireturn, 1)]
set_option maxRecDepth 100000 in
theorem dL_house : sx_dec method_3_code iL_house = true := by decide +kernel
theorem lh_static : sx_w (.static mL_house.1) := sx_a5 50 rfl rfl
theorem lh_link : sx_w (.classLink "StainStreetLaw" 13 "java/util/NoSuchElementException") := sx_a5 52 rfl rfl
theorem lh_code : sx_w (.codeWith mL_house.1 method_3_code 5 (some FieldType.int) [(0, 10, 13, 13)]) := sx_a5 51 rfl rfl
theorem lh_cast {E : sxE} (hE : XE9 E) {U : State} {H : Heap} (h : sx_X E U H) (a : Array Value) : (Cond.castable nse nse).before a U = true := (hE.2 U H h).1 a _ (by decide +kernel)
theorem lh_init : sx_w (.initialized "StainStreetLaw") := sx_a1 0 rfl rfl

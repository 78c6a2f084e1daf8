/-! names: a method's name, bytes, locals, answer; its instructions; what the tables say of it -/

theorem nh_of {c : String} (h : (c == "java/lang/invoke/MethodHandle" || c == "java/lang/invoke/VarHandle") = false) : c ≠ "java/lang/invoke/MethodHandle" ∧ c ≠ "java/lang/invoke/VarHandle" := by
  simp only [Bool.or_eq_false_iff, beq_eq_false_iff_ne] at h
  exact h
theorem nh_X0 : "StainStreet$Image" ≠ "java/lang/invoke/MethodHandle" ∧ "StainStreet$Image" ≠ "java/lang/invoke/VarHandle" := nh_of (by decide +kernel)
theorem nh_X1 : "StainStreet$Law" ≠ "java/lang/invoke/MethodHandle" ∧ "StainStreet$Law" ≠ "java/lang/invoke/VarHandle" := nh_of (by decide +kernel)
theorem nh_X2 : "StainStreet$LawBook" ≠ "java/lang/invoke/MethodHandle" ∧ "StainStreet$LawBook" ≠ "java/lang/invoke/VarHandle" := nh_of (by decide +kernel)
theorem nh_X3 : "StainStreet$LawReader" ≠ "java/lang/invoke/MethodHandle" ∧ "StainStreet$LawReader" ≠ "java/lang/invoke/VarHandle" := nh_of (by decide +kernel)
theorem nh_X4 : "StainStreet$Log" ≠ "java/lang/invoke/MethodHandle" ∧ "StainStreet$Log" ≠ "java/lang/invoke/VarHandle" := nh_of (by decide +kernel)
theorem nh_X5 : "StainStreet$Notes" ≠ "java/lang/invoke/MethodHandle" ∧ "StainStreet$Notes" ≠ "java/lang/invoke/VarHandle" := nh_of (by decide +kernel)
theorem nh_X6 : "StainStreet$Past" ≠ "java/lang/invoke/MethodHandle" ∧ "StainStreet$Past" ≠ "java/lang/invoke/VarHandle" := nh_of (by decide +kernel)
theorem nh_X7 : "StainStreet$State" ≠ "java/lang/invoke/MethodHandle" ∧ "StainStreet$State" ≠ "java/lang/invoke/VarHandle" := nh_of (by decide +kernel)
theorem nh_X8 : "StainStreet$Street" ≠ "java/lang/invoke/MethodHandle" ∧ "StainStreet$Street" ≠ "java/lang/invoke/VarHandle" := nh_of (by decide +kernel)
theorem nh_X9 : "StainStreet$StreetReader" ≠ "java/lang/invoke/MethodHandle" ∧ "StainStreet$StreetReader" ≠ "java/lang/invoke/VarHandle" := nh_of (by decide +kernel)
theorem nh_X10 : "StainStreet$Tape" ≠ "java/lang/invoke/MethodHandle" ∧ "StainStreet$Tape" ≠ "java/lang/invoke/VarHandle" := nh_of (by decide +kernel)
theorem nh_X11 : "StainStreet" ≠ "java/lang/invoke/MethodHandle" ∧ "StainStreet" ≠ "java/lang/invoke/VarHandle" := nh_of (by decide +kernel)
theorem nh_X12 : "StainStreetModel" ≠ "java/lang/invoke/MethodHandle" ∧ "StainStreetModel" ≠ "java/lang/invoke/VarHandle" := nh_of (by decide +kernel)
theorem nh_Jx145de : "java/io/Serializable" ≠ "java/lang/invoke/MethodHandle" ∧ "java/io/Serializable" ≠ "java/lang/invoke/VarHandle" := nh_of (by decide +kernel)
theorem nh_Jx9f9b0 : "java/lang/CharSequence" ≠ "java/lang/invoke/MethodHandle" ∧ "java/lang/CharSequence" ≠ "java/lang/invoke/VarHandle" := nh_of (by decide +kernel)
theorem nh_Jxb160c : "java/lang/Comparable" ≠ "java/lang/invoke/MethodHandle" ∧ "java/lang/Comparable" ≠ "java/lang/invoke/VarHandle" := nh_of (by decide +kernel)
theorem nh_J6 : "java/lang/Integer" ≠ "java/lang/invoke/MethodHandle" ∧ "java/lang/Integer" ≠ "java/lang/invoke/VarHandle" := nh_of (by decide +kernel)
theorem nh_J9 : "java/lang/Math" ≠ "java/lang/invoke/MethodHandle" ∧ "java/lang/Math" ≠ "java/lang/invoke/VarHandle" := nh_of (by decide +kernel)
theorem nh_J0 : "java/lang/String" ≠ "java/lang/invoke/MethodHandle" ∧ "java/lang/String" ≠ "java/lang/invoke/VarHandle" := nh_of (by decide +kernel)
theorem nh_J1 : "java/lang/StringLatin1" ≠ "java/lang/invoke/MethodHandle" ∧ "java/lang/StringLatin1" ≠ "java/lang/invoke/VarHandle" := nh_of (by decide +kernel)
theorem nh_J2 : "java/lang/StringUTF16" ≠ "java/lang/invoke/MethodHandle" ∧ "java/lang/StringUTF16" ≠ "java/lang/invoke/VarHandle" := nh_of (by decide +kernel)
theorem nh_J10 : "java/lang/System" ≠ "java/lang/invoke/MethodHandle" ∧ "java/lang/System" ≠ "java/lang/invoke/VarHandle" := nh_of (by decide +kernel)
theorem nh_Jxfd54e : "java/lang/constant/Constable" ≠ "java/lang/invoke/MethodHandle" ∧ "java/lang/constant/Constable" ≠ "java/lang/invoke/VarHandle" := nh_of (by decide +kernel)
theorem nh_Jx3cf43 : "java/lang/constant/ConstantDesc" ≠ "java/lang/invoke/MethodHandle" ∧ "java/lang/constant/ConstantDesc" ≠ "java/lang/invoke/VarHandle" := nh_of (by decide +kernel)
theorem nh_J3 : "jdk/internal/util/Preconditions" ≠ "java/lang/invoke/MethodHandle" ∧ "jdk/internal/util/Preconditions" ≠ "java/lang/invoke/VarHandle" := nh_of (by decide +kernel)
theorem nh_L : "StainStreetLaw" ≠ "java/lang/invoke/MethodHandle" ∧ "StainStreetLaw" ≠ "java/lang/invoke/VarHandle" := nh_of (by decide +kernel)
def sx_dec (b : ByteArray) (l : List (Nat × Instr × Nat)) : Bool := l.all (fun q => decide (decode b q.1 = .ok q.2))
theorem sx_di {b : ByteArray} {l : List (Nat × Instr × Nat)} (h : sx_dec b l = true) (i : Nat) {pc n : Nat} {x : Instr} (hq : l[i]? = some (pc, x, n)) : decode b pc = .ok (x, n) := by
  have h1 := List.all_eq_true.mp h (pc, x, n) (List.mem_of_getElem? hq)
  simpa using h1

abbrev mX0_init : sxM := (⟨"StainStreet$Image", "<init>", "(LStainStreet$Street;)V"⟩, prog_2_method_1_code, 2, none)
def iX0_init : List (Nat × Instr × Nat) := [(0, .aload_n 0, 1), (1, .invokespecial 1, 3), (4, .aload_n 0, 1), (5, .new 7, 3), (8, .dup, 1), (9, .invokespecial 9, 3), (12, .putfield 10, 3), (15, .aload_n 0, 1), (16, .new 16, 3), (19, .dup, 1), (20, .aload_n 1, 1), (21, .invokespecial 18, 3), (24, .putfield 21, 3), (27, .return_, 1)]
set_option maxRecDepth 100000 in
theorem dX0_init : sx_dec prog_2_method_1_code iX0_init = true := by decide +kernel
set_option maxRecDepth 100000 in
theorem vX0_init : sx_mi mX0_init 1 := ⟨⟨sx_a2 17 rfl rfl, sx_a1 11 rfl rfl, nh_X0, by decide +kernel, Nat.le_of_ble_eq_true rfl⟩, sx_a2 16 rfl rfl, rfl, rfl⟩
abbrev mX0_keep : sxM := (⟨"StainStreet$Image", "keep", "(LStainStreet$State;LStainStreet$Log;)V"⟩, prog_2_method_2_code, 3, none)
def iX0_keep : List (Nat × Instr × Nat) := [(0, .aload_n 0, 1), (1, .getfield 21, 3), (4, .aload_n 1, 1), (5, .invokevirtual 25, 3), (8, .aload_n 0, 1), (9, .getfield 10, 3), (12, .aload_n 2, 1), (13, .invokevirtual 29, 3), (16, .aload_n 0, 1), (17, .iconst 1, 1), (18, .putfield 32, 3), (21, .return_, 1)]
set_option maxRecDepth 100000 in
theorem dX0_keep : sx_dec prog_2_method_2_code iX0_keep = true := by decide +kernel
set_option maxRecDepth 100000 in
theorem vX0_keep : sx_mv mX0_keep 2 := ⟨⟨sx_a4 59 rfl rfl, sx_a1 11 rfl rfl, nh_X0, by decide +kernel, Nat.le_of_ble_eq_true rfl⟩, sx_a4 57 rfl rfl, sx_a4 58 rfl rfl⟩
abbrev mX0_bringBack : sxM := (⟨"StainStreet$Image", "bringBack", "(LStainStreet$State;LStainStreet$Log;)V"⟩, prog_2_method_3_code, 3, none)
def iX0_bringBack : List (Nat × Instr × Nat) := [(0, .aload_n 1, 1), (1, .aload_n 0, 1), (2, .getfield 21, 3), (5, .invokevirtual 25, 3), (8, .aload_n 2, 1), (9, .aload_n 0, 1), (10, .getfield 10, 3), (13, .invokevirtual 29, 3), (16, .return_, 1)]
set_option maxRecDepth 100000 in
theorem dX0_bringBack : sx_dec prog_2_method_3_code iX0_bringBack = true := by decide +kernel
set_option maxRecDepth 100000 in
theorem vX0_bringBack : sx_mv mX0_bringBack 2 := ⟨⟨sx_a4 73 rfl rfl, sx_a1 11 rfl rfl, nh_X0, by decide +kernel, Nat.le_of_ble_eq_true rfl⟩, sx_a4 71 rfl rfl, sx_a4 72 rfl rfl⟩
abbrev mX1_init : sxM := (⟨"StainStreet$Law", "<init>", "()V"⟩, prog_3_method_1_code, 1, none)
def iX1_init : List (Nat × Instr × Nat) := [(0, .aload_n 0, 1), (1, .invokespecial 3, 3), (4, .aload_n 0, 1), (5, .sipush 240, 3), (8, .newarray .int, 2), (10, .putfield 9, 3), (13, .aload_n 0, 1), (14, .bipush 64, 2), (16, .newarray .int, 2), (18, .putfield 15, 3), (21, .aload_n 0, 1), (22, .bipush 64, 2), (24, .newarray .int, 2), (26, .putfield 18, 3), (29, .aload_n 0, 1), (30, .bipush 6, 2), (32, .newarray .int, 2), (34, .putfield 21, 3), (37, .aload_n 0, 1), (38, .bipush 48, 2), (40, .newarray .int, 2), (42, .putfield 24, 3), (45, .return_, 1)]
set_option maxRecDepth 100000 in
theorem dX1_init : sx_dec prog_3_method_1_code iX1_init = true := by decide +kernel
set_option maxRecDepth 100000 in
theorem vX1_init : sx_mi mX1_init 0 := ⟨⟨sx_a1 79 rfl rfl, sx_a1 5 rfl rfl, nh_X1, by decide +kernel, Nat.le_of_ble_eq_true rfl⟩, sx_a1 78 rfl rfl, rfl, rfl⟩
abbrev mX1_clear : sxM := (⟨"StainStreet$Law", "clear", "()V"⟩, prog_3_method_2_code, 1, none)
def iX1_clear : List (Nat × Instr × Nat) := [(0, .aload_n 0, 1), (1, .iconst 0, 1), (2, .putfield 27, 3), (5, .aload_n 0, 1), (6, .iconst 0, 1), (7, .putfield 31, 3), (10, .return_, 1)]
set_option maxRecDepth 100000 in
theorem dX1_clear : sx_dec prog_3_method_2_code iX1_clear = true := by decide +kernel
set_option maxRecDepth 100000 in
theorem vX1_clear : sx_mv mX1_clear 0 := ⟨⟨sx_a3 10 rfl rfl, sx_a1 5 rfl rfl, nh_X1, by decide +kernel, Nat.le_of_ble_eq_true rfl⟩, sx_a3 8 rfl rfl, sx_a3 9 rfl rfl⟩
abbrev mX1_openClause : sxM := (⟨"StainStreet$Law", "openClause", "()V"⟩, prog_3_method_3_code, 1, none)
def iX1_openClause : List (Nat × Instr × Nat) := [(0, .aload_n 0, 1), (1, .getfield 31, 3), (4, .bipush 64, 2), (6, .if_icmp .ge 39, 3), (9, .aload_n 0, 1), (10, .getfield 15, 3), (13, .aload_n 0, 1), (14, .getfield 31, 3), (17, .aload_n 0, 1), (18, .getfield 27, 3), (21, .iastore, 1), (22, .aload_n 0, 1), (23, .getfield 18, 3), (26, .aload_n 0, 1), (27, .getfield 31, 3), (30, .aload_n 0, 1), (31, .getfield 27, 3), (34, .iastore, 1), (35, .aload_n 0, 1), (36, .dup, 1), (37, .getfield 31, 3), (40, .iconst 1, 1), (41, .iadd, 1), (42, .putfield 31, 3), (45, .return_, 1)]
set_option maxRecDepth 100000 in
theorem dX1_openClause : sx_dec prog_3_method_3_code iX1_openClause = true := by decide +kernel
set_option maxRecDepth 100000 in
theorem vX1_openClause : sx_mv mX1_openClause 0 := ⟨⟨sx_a3 19 rfl rfl, sx_a1 5 rfl rfl, nh_X1, by decide +kernel, Nat.le_of_ble_eq_true rfl⟩, sx_a3 17 rfl rfl, sx_a3 18 rfl rfl⟩
abbrev mX1_closeCondition : sxM := (⟨"StainStreet$Law", "closeCondition", "()V"⟩, prog_3_method_4_code, 1, none)
def iX1_closeCondition : List (Nat × Instr × Nat) := [(0, .aload_n 0, 1), (1, .getfield 31, 3), (4, .ifCond .le 27, 3), (7, .aload_n 0, 1), (8, .getfield 31, 3), (11, .bipush 64, 2), (13, .if_icmp .gt 18, 3), (16, .aload_n 0, 1), (17, .getfield 18, 3), (20, .aload_n 0, 1), (21, .getfield 31, 3), (24, .iconst 1, 1), (25, .isub, 1), (26, .aload_n 0, 1), (27, .getfield 27, 3), (30, .iastore, 1), (31, .return_, 1)]
set_option maxRecDepth 100000 in
theorem dX1_closeCondition : sx_dec prog_3_method_4_code iX1_closeCondition = true := by decide +kernel
set_option maxRecDepth 100000 in
theorem vX1_closeCondition : sx_mv mX1_closeCondition 0 := ⟨⟨sx_a3 61 rfl rfl, sx_a1 5 rfl rfl, nh_X1, by decide +kernel, Nat.le_of_ble_eq_true rfl⟩, sx_a3 59 rfl rfl, sx_a3 60 rfl rfl⟩
abbrev mX1_add : sxM := (⟨"StainStreet$Law", "add", "(I)V"⟩, prog_3_method_5_code, 2, none)
def iX1_add : List (Nat × Instr × Nat) := [(0, .aload_n 0, 1), (1, .getfield 27, 3), (4, .sipush 240, 3), (7, .if_icmp .ge 23, 3), (10, .aload_n 0, 1), (11, .getfield 9, 3), (14, .aload_n 0, 1), (15, .getfield 27, 3), (18, .iload_n 1, 1), (19, .iastore, 1), (20, .aload_n 0, 1), (21, .dup, 1), (22, .getfield 27, 3), (25, .iconst 1, 1), (26, .iadd, 1), (27, .putfield 27, 3), (30, .return_, 1)]
set_option maxRecDepth 100000 in
theorem dX1_add : sx_dec prog_3_method_5_code iX1_add = true := by decide +kernel
set_option maxRecDepth 100000 in
theorem vX1_add : sx_mv mX1_add 1 := ⟨⟨sx_a3 41 rfl rfl, sx_a1 5 rfl rfl, nh_X1, by decide +kernel, Nat.le_of_ble_eq_true rfl⟩, sx_a3 39 rfl rfl, sx_a3 40 rfl rfl⟩
abbrev mX1_worth : sxM := (⟨"StainStreet$Law", "worth", "(IIIIII)I"⟩, prog_3_method_6_code, 10, some FieldType.int)
def iX1_worth : List (Nat × Instr × Nat) := [(0, .aload_n 0, 1), (1, .getfield 21, 3), (4, .iconst 0, 1), (5, .iload_n 1, 1), (6, .iastore, 1), (7, .aload_n 0, 1), (8, .getfield 21, 3), (11, .iconst 1, 1), (12, .iload_n 2, 1), (13, .iastore, 1), (14, .aload_n 0, 1), (15, .getfield 21, 3), (18, .iconst 2, 1), (19, .iload_n 3, 1), (20, .iastore, 1), (21, .aload_n 0, 1), (22, .getfield 21, 3), (25, .iconst 3, 1), (26, .iload 4, 2), (28, .iastore, 1), (29, .aload_n 0, 1), (30, .getfield 21, 3), (33, .iconst 4, 1), (34, .iload 5, 2), (36, .iastore, 1), (37, .aload_n 0, 1), (38, .getfield 21, 3), (41, .iconst 5, 1), (42, .iload 6, 2), (44, .iastore, 1), (45, .iconst 0, 1), (46, .istore 7, 2), (48, .iload 7, 2), (50, .aload_n 0, 1), (51, .getfield 31, 3), (54, .if_icmp .ge 95, 3), (57, .iload 7, 2), (59, .bipush 64, 2), (61, .if_icmp .ge 88, 3), (64, .aload_n 0, 1), (65, .getfield 15, 3), (68, .iload 7, 2), (70, .iaload, 1), (71, .istore 8, 2), (73, .aload_n 0, 1), (74, .getfield 18, 3), (77, .iload 7, 2), (79, .iaload, 1), (80, .istore 9, 2), (82, .iload 8, 2), (84, .iload 9, 2), (86, .if_icmp .eq 14, 3), (89, .aload_n 0, 1), (90, .iload 8, 2), (92, .iload 9, 2), (94, .invokevirtual 34, 3), (97, .ifCond .eq 46, 3), (100, .aload_n 0, 1), (101, .iload 9, 2), (103, .iload 7, 2), (105, .iconst 1, 1), (106, .iadd, 1), (107, .aload_n 0, 1), (108, .getfield 31, 3), (111, .if_icmp .ge 24, 3), (114, .iload 7, 2), (116, .iconst 1, 1), (117, .iadd, 1), (118, .bipush 64, 2), (120, .if_icmp .ge 15, 3), (123, .aload_n 0, 1), (124, .getfield 15, 3), (127, .iload 7, 2), (129, .iconst 1, 1), (130, .iadd, 1), (131, .iaload, 1), (132, .goto 7, 3), (135, .aload_n 0, 1), (136, .getfield 27, 3), (139, .invokevirtual 34, 3), (142, .ireturn, 1), (143, .iinc 7 1, 3), (146, .goto (-98), 3), (149, .iconst 0, 1), (150, .ireturn, 1)]
set_option maxRecDepth 100000 in
theorem dX1_worth : sx_dec prog_3_method_6_code iX1_worth = true := by decide +kernel
set_option maxRecDepth 100000 in
theorem vX1_worth : sx_mv mX1_worth 6 := ⟨⟨sx_a4 6 rfl rfl, sx_a1 5 rfl rfl, nh_X1, by decide +kernel, Nat.le_of_ble_eq_true rfl⟩, sx_a4 4 rfl rfl, sx_a4 5 rfl rfl⟩
abbrev mX1_reckon : sxM := (⟨"StainStreet$Law", "reckon", "(II)I"⟩, prog_3_method_7_code, 6, some FieldType.int)
def iX1_reckon : List (Nat × Instr × Nat) := [(0, .iconst 0, 1), (1, .istore_n 3, 1), (2, .iconst 0, 1), (3, .iload_n 1, 1), (4, .invokestatic 38, 3), (7, .istore 4, 2), (9, .iload 4, 2), (11, .iload_n 2, 1), (12, .if_icmp .ge 138, 3), (15, .iload 4, 2), (17, .sipush 240, 3), (20, .if_icmp .ge 130, 3), (23, .aload_n 0, 1), (24, .getfield 9, 3), (27, .iload 4, 2), (29, .iaload, 1), (30, .istore 5, 2), (32, .iload 5, 2), (34, .bipush (-6), 2), (36, .if_icmp .lt 40, 3), (39, .iload_n 3, 1), (40, .bipush 48, 2), (42, .if_icmp .ge 102, 3), (45, .aload_n 0, 1), (46, .getfield 24, 3), (49, .iload_n 3, 1), (50, .iload 5, 2), (52, .ifCond .lt 8, 3), (55, .iload 5, 2), (57, .goto 12, 3), (60, .aload_n 0, 1), (61, .getfield 21, 3), (64, .iconst (-1), 1), (65, .iload 5, 2), (67, .isub, 1), (68, .iaload, 1), (69, .iastore, 1), (70, .iinc 3 1, 3), (73, .goto 71, 3), (76, .iload 5, 2), (78, .bipush (-33), 2), (80, .if_icmp .ne 28, 3), (83, .iload_n 3, 1), (84, .ifCond .le 60, 3), (87, .aload_n 0, 1), (88, .getfield 24, 3), (91, .iload_n 3, 1), (92, .iconst 1, 1), (93, .isub, 1), (94, .iconst 1, 1), (95, .aload_n 0, 1), (96, .getfield 24, 3), (99, .iload_n 3, 1), (100, .iconst 1, 1), (101, .isub, 1), (102, .iaload, 1), (103, .isub, 1), (104, .iastore, 1), (105, .goto 39, 3), (108, .iload_n 3, 1), (109, .iconst 1, 1), (110, .if_icmp .le 34, 3), (113, .iinc 3 (-1), 3), (116, .aload_n 0, 1), (117, .getfield 24, 3), (120, .iload_n 3, 1), (121, .iconst 1, 1), (122, .isub, 1), (123, .iload 5, 2), (125, .ineg, 1), (126, .aload_n 0, 1), (127, .getfield 24, 3), (130, .iload_n 3, 1), (131, .iconst 1, 1), (132, .isub, 1), (133, .iaload, 1), (134, .aload_n 0, 1), (135, .getfield 24, 3), (138, .iload_n 3, 1), (139, .iaload, 1), (140, .invokestatic 43, 3), (143, .iastore, 1), (144, .iinc 4 1, 3), (147, .goto (-138), 3), (150, .iload_n 3, 1), (151, .ifCond .le 14, 3), (154, .aload_n 0, 1), (155, .getfield 24, 3), (158, .iload_n 3, 1), (159, .iconst 1, 1), (160, .isub, 1), (161, .iaload, 1), (162, .goto 4, 3), (165, .iconst 0, 1), (166, .ireturn, 1)]
set_option maxRecDepth 100000 in
theorem dX1_reckon : sx_dec prog_3_method_7_code iX1_reckon = true := by decide +kernel
set_option maxRecDepth 100000 in
theorem vX1_reckon : sx_mv mX1_reckon 2 := ⟨⟨sx_a4 10 rfl rfl, sx_a1 5 rfl rfl, nh_X1, by decide +kernel, Nat.le_of_ble_eq_true rfl⟩, sx_a4 9 rfl rfl, sx_pv 17 rfl rfl⟩
abbrev mX1_joined : sxM := (⟨"StainStreet$Law", "joined", "(III)I"⟩, prog_3_method_8_code, 5, some FieldType.int)
def iX1_joined : List (Nat × Instr × Nat) := [(0, .iload_n 0, 1), (1, .lookupswitch 92 #[(38, 84), (60, 62), (61, 51), (62, 73), (124, 88)], 51), (52, .iload_n 1, 1), (53, .iload_n 2, 1), (54, .if_icmp .ne 7, 3), (57, .iconst 1, 1), (58, .goto 4, 3), (61, .iconst 0, 1), (62, .ireturn, 1), (63, .iload_n 1, 1), (64, .iload_n 2, 1), (65, .if_icmp .ge 7, 3), (68, .iconst 1, 1), (69, .goto 4, 3), (72, .iconst 0, 1), (73, .ireturn, 1), (74, .iload_n 1, 1), (75, .iload_n 2, 1), (76, .if_icmp .le 7, 3), (79, .iconst 1, 1), (80, .goto 4, 3), (83, .iconst 0, 1), (84, .ireturn, 1), (85, .iload_n 1, 1), (86, .iload_n 2, 1), (87, .iand, 1), (88, .ireturn, 1), (89, .iload_n 1, 1), (90, .iload_n 2, 1), (91, .ior, 1), (92, .ireturn, 1), (93, .lconst 0, 1), (94, .lstore_n 3, 1), (95, .iload_n 0, 1), (96, .bipush 43, 2), (98, .if_icmp .ne 11, 3), (101, .iload_n 1, 1), (102, .iload_n 2, 1), (103, .iadd, 1), (104, .i2l, 1), (105, .lstore_n 3, 1), (106, .goto 41, 3), (109, .iload_n 0, 1), (110, .bipush 45, 2), (112, .if_icmp .ne 11, 3), (115, .iload_n 1, 1), (116, .iload_n 2, 1), (117, .isub, 1), (118, .i2l, 1), (119, .lstore_n 3, 1), (120, .goto 27, 3), (123, .iload_n 0, 1), (124, .bipush 42, 2), (126, .if_icmp .ne 12, 3), (129, .iload_n 1, 1), (130, .i2l, 1), (131, .iload_n 2, 1), (132, .i2l, 1), (133, .lmul, 1), (134, .lstore_n 3, 1), (135, .goto 12, 3), (138, .iload_n 2, 1), (139, .ifCond .eq 8, 3), (142, .iload_n 1, 1), (143, .iload_n 2, 1), (144, .idiv, 1), (145, .i2l, 1), (146, .lstore_n 3, 1), (147, .lload_n 3, 1), (148, .ldc2_w 47, 3), (151, .lcmp, 1), (152, .ifCond .le 6, 3), (155, .ldc 49, 2), (157, .ireturn, 1), (158, .lload_n 3, 1), (159, .ldc2_w 50, 3), (162, .lcmp, 1), (163, .ifCond .ge 8, 3), (166, .ldc 52, 2), (168, .goto 5, 3), (171, .lload_n 3, 1), (172, .l2i, 1), (173, .ireturn, 1)]
set_option maxRecDepth 100000 in
theorem dX1_joined : sx_dec prog_3_method_8_code iX1_joined = true := by decide +kernel
set_option maxRecDepth 100000 in
theorem vX1_joined : sx_ms mX1_joined 3 := ⟨⟨sx_a4 14 rfl rfl, sx_a1 5 rfl rfl, nh_X1, by decide +kernel, Nat.le_of_ble_eq_true rfl⟩, sx_a4 13 rfl rfl⟩
abbrev mX2_init : sxM := (⟨"StainStreet$LawBook", "<init>", "()V"⟩, prog_4_method_1_code, 2, none)
def iX2_init : List (Nat × Instr × Nat) := [(0, .aload_n 0, 1), (1, .invokespecial 3, 3), (4, .aload_n 0, 1), (5, .iconst 5, 1), (6, .anewarray 9, 3), (9, .putfield 11, 3), (12, .aload_n 0, 1), (13, .iconst (-1), 1), (14, .putfield 17, 3), (17, .iconst 0, 1), (18, .istore_n 1, 1), (19, .iload_n 1, 1), (20, .iconst 4, 1), (21, .if_icmp .gt 22, 3), (24, .aload_n 0, 1), (25, .getfield 11, 3), (28, .iload_n 1, 1), (29, .new 9, 3), (32, .dup, 1), (33, .invokespecial 21, 3), (36, .aastore, 1), (37, .iinc 1 1, 3), (40, .goto (-21), 3), (43, .return_, 1)]
set_option maxRecDepth 100000 in
theorem dX2_init : sx_dec prog_4_method_1_code iX2_init = true := by decide +kernel
set_option maxRecDepth 100000 in
theorem vX2_init : sx_mi mX2_init 0 := ⟨⟨sx_a1 72 rfl rfl, sx_a1 4 rfl rfl, nh_X2, by decide +kernel, Nat.le_of_ble_eq_true rfl⟩, sx_a1 71 rfl rfl, rfl, rfl⟩
abbrev mX2_next : sxM := (⟨"StainStreet$LawBook", "next", "()LStainStreet$Law;"⟩, prog_4_method_2_code, 1, some (FieldType.object "StainStreet$Law"))
def iX2_next : List (Nat × Instr × Nat) := [(0, .aload_n 0, 1), (1, .getfield 11, 3), (4, .aload_n 0, 1), (5, .getfield 22, 3), (8, .ifCond .lt 18, 3), (11, .aload_n 0, 1), (12, .getfield 22, 3), (15, .iconst 4, 1), (16, .if_icmp .ge 10, 3), (19, .aload_n 0, 1), (20, .getfield 22, 3), (23, .goto 4, 3), (26, .iconst 4, 1), (27, .aaload, 1), (28, .areturn, 1)]
set_option maxRecDepth 100000 in
theorem dX2_next : sx_dec prog_4_method_2_code iX2_next = true := by decide +kernel
set_option maxRecDepth 100000 in
theorem vX2_next : sx_mv mX2_next 0 := ⟨⟨sx_a1 120 rfl rfl, sx_a1 4 rfl rfl, nh_X2, by decide +kernel, Nat.le_of_ble_eq_true rfl⟩, sx_a1 118 rfl rfl, sx_a1 119 rfl rfl⟩
abbrev mX2_take : sxM := (⟨"StainStreet$LawBook", "take", "()I"⟩, prog_4_method_3_code, 1, some FieldType.int)
def iX2_take : List (Nat × Instr × Nat) := [(0, .aload_n 0, 1), (1, .getfield 22, 3), (4, .iconst 4, 1), (5, .if_icmp .ge 13, 3), (8, .aload_n 0, 1), (9, .dup, 1), (10, .getfield 22, 3), (13, .iconst 1, 1), (14, .iadd, 1), (15, .putfield 22, 3), (18, .aload_n 0, 1), (19, .getfield 22, 3), (22, .iconst 1, 1), (23, .isub, 1), (24, .ireturn, 1)]
set_option maxRecDepth 100000 in
theorem dX2_take : sx_dec prog_4_method_3_code iX2_take = true := by decide +kernel
set_option maxRecDepth 100000 in
theorem vX2_take : sx_mv mX2_take 0 := ⟨⟨sx_a3 92 rfl rfl, sx_a1 4 rfl rfl, nh_X2, by decide +kernel, Nat.le_of_ble_eq_true rfl⟩, sx_a3 90 rfl rfl, sx_a3 91 rfl rfl⟩
abbrev mX2_holding : sxM := (⟨"StainStreet$LawBook", "holding", "()LStainStreet$Law;"⟩, prog_4_method_4_code, 1, some (FieldType.object "StainStreet$Law"))
def iX2_holding : List (Nat × Instr × Nat) := [(0, .aload_n 0, 1), (1, .getfield 17, 3), (4, .ifCond .lt 34, 3), (7, .aload_n 0, 1), (8, .getfield 17, 3), (11, .aload_n 0, 1), (12, .getfield 22, 3), (15, .if_icmp .ge 23, 3), (18, .aload_n 0, 1), (19, .getfield 17, 3), (22, .iconst 4, 1), (23, .if_icmp .ge 15, 3), (26, .aload_n 0, 1), (27, .getfield 11, 3), (30, .aload_n 0, 1), (31, .getfield 17, 3), (34, .aaload, 1), (35, .goto 4, 3), (38, .aconst_null, 1), (39, .areturn, 1)]
set_option maxRecDepth 100000 in
theorem dX2_holding : sx_dec prog_4_method_4_code iX2_holding = true := by decide +kernel
set_option maxRecDepth 100000 in
theorem vX2_holding : sx_mv mX2_holding 0 := ⟨⟨sx_a3 219 rfl rfl, sx_a1 4 rfl rfl, nh_X2, by decide +kernel, Nat.le_of_ble_eq_true rfl⟩, sx_a3 217 rfl rfl, sx_a3 218 rfl rfl⟩
abbrev mX3_init : sxM := (⟨"StainStreet$LawReader", "<init>", "(LStainStreet$Tape;LStainStreet$Law;)V"⟩, prog_5_method_1_code, 3, none)
def iX3_init : List (Nat × Instr × Nat) := [(0, .aload_n 0, 1), (1, .invokespecial 3, 3), (4, .aload_n 0, 1), (5, .aload_n 1, 1), (6, .putfield 9, 3), (9, .aload_n 0, 1), (10, .aload_n 2, 1), (11, .putfield 15, 3), (14, .return_, 1)]
set_option maxRecDepth 100000 in
theorem dX3_init : sx_dec prog_5_method_1_code iX3_init = true := by decide +kernel
set_option maxRecDepth 100000 in
theorem vX3_init : sx_mi mX3_init 2 := ⟨⟨sx_a1 123 rfl rfl, sx_a1 6 rfl rfl, nh_X3, by decide +kernel, Nat.le_of_ble_eq_true rfl⟩, sx_a1 122 rfl rfl, rfl, rfl⟩
abbrev mX3_read : sxM := (⟨"StainStreet$LawReader", "read", "(LStainStreet$Law;)I"⟩, prog_5_method_2_code, 4, some FieldType.int)
def iX3_read : List (Nat × Instr × Nat) := [(0, .aload_n 0, 1), (1, .aload_n 1, 1), (2, .putfield 15, 3), (5, .aload_n 0, 1), (6, .getfield 15, 3), (9, .invokevirtual 19, 3), (12, .aload_n 0, 1), (13, .getfield 9, 3), (16, .iconst 0, 1), (17, .putfield 24, 3), (20, .iconst 0, 1), (21, .istore_n 2, 1), (22, .iload_n 2, 1), (23, .sipush 240, 3), (26, .if_icmp .gt 66, 3), (29, .aload_n 0, 1), (30, .invokevirtual 30, 3), (33, .ifCond .ne 11, 3), (36, .aload_n 0, 1), (37, .getfield 9, 3), (40, .getfield 24, 3), (43, .ireturn, 1), (44, .aload_n 0, 1), (45, .getfield 9, 3), (48, .invokevirtual 34, 3), (51, .istore_n 3, 1), (52, .iload_n 3, 1), (53, .iconst (-1), 1), (54, .if_icmp .ne 5, 3), (57, .iconst (-1), 1), (58, .ireturn, 1), (59, .iload_n 3, 1), (60, .bipush 59, 2), (62, .if_icmp .eq 11, 3), (65, .aload_n 0, 1), (66, .getfield 9, 3), (69, .getfield 24, 3), (72, .ireturn, 1), (73, .aload_n 0, 1), (74, .getfield 9, 3), (77, .dup, 1), (78, .getfield 24, 3), (81, .iconst 1, 1), (82, .iadd, 1), (83, .putfield 24, 3), (86, .iinc 2 1, 3), (89, .goto (-67), 3), (92, .aload_n 0, 1), (93, .getfield 9, 3), (96, .getfield 24, 3), (99, .ireturn, 1)]
set_option maxRecDepth 100000 in
theorem dX3_read : sx_dec prog_5_method_2_code iX3_read = true := by decide +kernel
set_option maxRecDepth 100000 in
theorem vX3_read : sx_mv mX3_read 1 := ⟨⟨sx_a3 6 rfl rfl, sx_a1 6 rfl rfl, nh_X3, by decide +kernel, Nat.le_of_ble_eq_true rfl⟩, sx_a3 4 rfl rfl, sx_a3 5 rfl rfl⟩
abbrev mX3_readClause : sxM := (⟨"StainStreet$LawReader", "readClause", "()Z"⟩, prog_5_method_3_code, 3, some FieldType.boolean)
def iX3_readClause : List (Nat × Instr × Nat) := [(0, .aload_n 0, 1), (1, .getfield 9, 3), (4, .invokevirtual 34, 3), (7, .bipush 121, 2), (9, .if_icmp .eq 5, 3), (12, .iconst 0, 1), (13, .ireturn, 1), (14, .aload_n 0, 1), (15, .getfield 9, 3), (18, .dup, 1), (19, .getfield 24, 3), (22, .iconst 1, 1), (23, .iadd, 1), (24, .putfield 24, 3), (27, .aload_n 0, 1), (28, .getfield 9, 3), (31, .invokevirtual 34, 3), (34, .bipush 58, 2), (36, .if_icmp .eq 5, 3), (39, .iconst 0, 1), (40, .ireturn, 1), (41, .aload_n 0, 1), (42, .getfield 9, 3), (45, .dup, 1), (46, .getfield 24, 3), (49, .iconst 1, 1), (50, .iadd, 1), (51, .putfield 24, 3), (54, .aload_n 0, 1), (55, .getfield 15, 3), (58, .invokevirtual 38, 3), (61, .aload_n 0, 1), (62, .getfield 9, 3), (65, .invokevirtual 34, 3), (68, .istore_n 1, 1), (69, .iload_n 1, 1), (70, .bipush 33, 2), (72, .if_icmp .eq 9, 3), (75, .iload_n 1, 1), (76, .bipush 40, 2), (78, .if_icmp .ne 7, 3), (81, .iconst 1, 1), (82, .goto 4, 3), (85, .iconst 0, 1), (86, .istore_n 2, 1), (87, .iload_n 2, 1), (88, .ifCond .ne 28, 3), (91, .aload_n 0, 1), (92, .iconst 0, 1), (93, .invokevirtual 41, 3), (96, .ifCond .ne 5, 3), (99, .iconst 0, 1), (100, .ireturn, 1), (101, .aload_n 0, 1), (102, .getfield 9, 3), (105, .invokevirtual 34, 3), (108, .invokestatic 45, 3), (111, .ifCond .ne 5, 3), (114, .iconst 1, 1), (115, .ireturn, 1), (116, .aload_n 0, 1), (117, .iconst 0, 1), (118, .iload_n 2, 1), (119, .ifCond .ne 7, 3), (122, .iconst 1, 1), (123, .goto 4, 3), (126, .iconst 0, 1), (127, .invokevirtual 48, 3), (130, .ifCond .eq 15, 3), (133, .aload_n 0, 1), (134, .getfield 9, 3), (137, .invokevirtual 34, 3), (140, .bipush 63, 2), (142, .if_icmp .eq 5, 3), (145, .iconst 0, 1), (146, .ireturn, 1), (147, .aload_n 0, 1), (148, .getfield 9, 3), (151, .dup, 1), (152, .getfield 24, 3), (155, .iconst 1, 1), (156, .iadd, 1), (157, .putfield 24, 3), (160, .aload_n 0, 1), (161, .getfield 15, 3), (164, .invokevirtual 52, 3), (167, .aload_n 0, 1), (168, .iconst 0, 1), (169, .invokevirtual 41, 3), (172, .ireturn, 1)]
set_option maxRecDepth 100000 in
theorem dX3_readClause : sx_dec prog_5_method_3_code iX3_readClause = true := by decide +kernel
set_option maxRecDepth 100000 in
theorem vX3_readClause : sx_mv mX3_readClause 0 := ⟨⟨sx_a3 14 rfl rfl, sx_a1 6 rfl rfl, nh_X3, by decide +kernel, Nat.le_of_ble_eq_true rfl⟩, sx_a3 13 rfl rfl, sx_pv 4 rfl rfl⟩
abbrev mX3_readCondition : sxM := (⟨"StainStreet$LawReader", "readCondition", "(IZ)Z"⟩, prog_5_method_4_code, 6, some FieldType.boolean)
def iX3_readCondition : List (Nat × Instr × Nat) := [(0, .aload_n 0, 1), (1, .iload_n 1, 1), (2, .iload_n 2, 1), (3, .invokevirtual 55, 3), (6, .ifCond .ne 5, 3), (9, .iconst 0, 1), (10, .ireturn, 1), (11, .iconst 0, 1), (12, .istore_n 3, 1), (13, .iconst 0, 1), (14, .istore 4, 2), (16, .iload 4, 2), (18, .sipush 240, 3), (21, .if_icmp .ge 97, 3), (24, .aload_n 0, 1), (25, .getfield 9, 3), (28, .invokevirtual 34, 3), (31, .istore 5, 2), (33, .iload 5, 2), (35, .bipush 38, 2), (37, .if_icmp .eq 13, 3), (40, .iload 5, 2), (42, .bipush 124, 2), (44, .if_icmp .eq 6, 3), (47, .goto 71, 3), (50, .aload_n 0, 1), (51, .getfield 9, 3), (54, .dup, 1), (55, .getfield 24, 3), (58, .iconst 1, 1), (59, .iadd, 1), (60, .putfield 24, 3), (63, .iload 5, 2), (65, .bipush 124, 2), (67, .if_icmp .ne 18, 3), (70, .iload_n 3, 1), (71, .ifCond .eq 12, 3), (74, .aload_n 0, 1), (75, .getfield 15, 3), (78, .bipush (-124), 2), (80, .invokevirtual 58, 3), (83, .iconst 1, 1), (84, .istore_n 3, 1), (85, .aload_n 0, 1), (86, .iload_n 1, 1), (87, .iconst 0, 1), (88, .invokevirtual 55, 3), (91, .ifCond .ne 5, 3), (94, .iconst 0, 1), (95, .ireturn, 1), (96, .iload 5, 2), (98, .bipush 38, 2), (100, .if_icmp .ne 12, 3), (103, .aload_n 0, 1), (104, .getfield 15, 3), (107, .bipush (-38), 2), (109, .invokevirtual 58, 3), (112, .iinc 4 1, 3), (115, .goto (-99), 3), (118, .iload_n 3, 1), (119, .ifCond .eq 12, 3), (122, .aload_n 0, 1), (123, .getfield 15, 3), (126, .bipush (-124), 2), (128, .invokevirtual 58, 3), (131, .iconst 1, 1), (132, .ireturn, 1)]
set_option maxRecDepth 100000 in
theorem dX3_readCondition : sx_dec prog_5_method_4_code iX3_readCondition = true := by decide +kernel
set_option maxRecDepth 100000 in
theorem vX3_readCondition : sx_mv mX3_readCondition 2 := ⟨⟨sx_a3 49 rfl rfl, sx_a1 6 rfl rfl, nh_X3, by decide +kernel, Nat.le_of_ble_eq_true rfl⟩, sx_a3 48 rfl rfl, sx_pv 7 rfl rfl⟩
abbrev mX3_readUnit : sxM := (⟨"StainStreet$LawReader", "readUnit", "(IZ)Z"⟩, prog_5_method_5_code, 5, some FieldType.boolean)
def iX3_readUnit : List (Nat × Instr × Nat) := [(0, .aload_n 0, 1), (1, .getfield 9, 3), (4, .invokevirtual 34, 3), (7, .istore_n 3, 1), (8, .iload_n 2, 1), (9, .ifCond .ne 38, 3), (12, .iload_n 3, 1), (13, .bipush 33, 2), (15, .if_icmp .eq 9, 3), (18, .iload_n 3, 1), (19, .bipush 40, 2), (21, .if_icmp .ne 26, 3), (24, .iload_n 1, 1), (25, .bipush 6, 2), (27, .if_icmp .ge 18, 3), (30, .aload_n 0, 1), (31, .iload_n 1, 1), (32, .iconst 1, 1), (33, .iadd, 1), (34, .iload_n 3, 1), (35, .invokevirtual 62, 3), (38, .ifCond .eq 7, 3), (41, .iconst 1, 1), (42, .goto 4, 3), (45, .iconst 0, 1), (46, .ireturn, 1), (47, .iload_n 2, 1), (48, .ifCond .ne 13, 3), (51, .aload_n 0, 1), (52, .iload_n 1, 1), (53, .invokevirtual 41, 3), (56, .ifCond .ne 5, 3), (59, .iconst 0, 1), (60, .ireturn, 1), (61, .aload_n 0, 1), (62, .getfield 9, 3), (65, .invokevirtual 34, 3), (68, .istore 4, 2), (70, .iload 4, 2), (72, .invokestatic 45, 3), (75, .ifCond .ne 5, 3), (78, .iconst 0, 1), (79, .ireturn, 1), (80, .aload_n 0, 1), (81, .getfield 9, 3), (84, .dup, 1), (85, .getfield 24, 3), (88, .iconst 1, 1), (89, .iadd, 1), (90, .putfield 24, 3), (93, .aload_n 0, 1), (94, .iload_n 1, 1), (95, .invokevirtual 41, 3), (98, .ifCond .ne 5, 3), (101, .iconst 0, 1), (102, .ireturn, 1), (103, .aload_n 0, 1), (104, .getfield 15, 3), (107, .iload 4, 2), (109, .ineg, 1), (110, .invokevirtual 58, 3), (113, .iconst 1, 1), (114, .ireturn, 1)]
set_option maxRecDepth 100000 in
theorem dX3_readUnit : sx_dec prog_5_method_5_code iX3_readUnit = true := by decide +kernel
set_option maxRecDepth 100000 in
theorem vX3_readUnit : sx_mv mX3_readUnit 2 := ⟨⟨sx_a3 53 rfl rfl, sx_a1 6 rfl rfl, nh_X3, by decide +kernel, Nat.le_of_ble_eq_true rfl⟩, sx_a3 52 rfl rfl, sx_pv 8 rfl rfl⟩
abbrev mX3_readOpened : sxM := (⟨"StainStreet$LawReader", "readOpened", "(II)Z"⟩, prog_5_method_6_code, 3, some FieldType.boolean)
def iX3_readOpened : List (Nat × Instr × Nat) := [(0, .aload_n 0, 1), (1, .getfield 9, 3), (4, .dup, 1), (5, .getfield 24, 3), (8, .iconst 1, 1), (9, .iadd, 1), (10, .putfield 24, 3), (13, .iload_n 2, 1), (14, .bipush 33, 2), (16, .if_icmp .ne 25, 3), (19, .aload_n 0, 1), (20, .iload_n 1, 1), (21, .iconst 0, 1), (22, .invokevirtual 55, 3), (25, .ifCond .ne 5, 3), (28, .iconst 0, 1), (29, .ireturn, 1), (30, .aload_n 0, 1), (31, .getfield 15, 3), (34, .bipush (-33), 2), (36, .invokevirtual 58, 3), (39, .iconst 1, 1), (40, .ireturn, 1), (41, .aload_n 0, 1), (42, .iload_n 1, 1), (43, .iconst 0, 1), (44, .invokevirtual 48, 3), (47, .ifCond .eq 15, 3), (50, .aload_n 0, 1), (51, .getfield 9, 3), (54, .invokevirtual 34, 3), (57, .bipush 41, 2), (59, .if_icmp .eq 5, 3), (62, .iconst 0, 1), (63, .ireturn, 1), (64, .aload_n 0, 1), (65, .getfield 9, 3), (68, .dup, 1), (69, .getfield 24, 3), (72, .iconst 1, 1), (73, .iadd, 1), (74, .putfield 24, 3), (77, .iconst 1, 1), (78, .ireturn, 1)]
set_option maxRecDepth 100000 in
theorem dX3_readOpened : sx_dec prog_5_method_6_code iX3_readOpened = true := by decide +kernel
set_option maxRecDepth 100000 in
theorem vX3_readOpened : sx_mv mX3_readOpened 2 := ⟨⟨sx_a3 57 rfl rfl, sx_a1 6 rfl rfl, nh_X3, by decide +kernel, Nat.le_of_ble_eq_true rfl⟩, sx_a3 56 rfl rfl, sx_pv 9 rfl rfl⟩
abbrev mX3_readSum : sxM := (⟨"StainStreet$LawReader", "readSum", "(I)Z"⟩, prog_5_method_7_code, 6, some FieldType.boolean)
def iX3_readSum : List (Nat × Instr × Nat) := [(0, .aload_n 0, 1), (1, .iload_n 1, 1), (2, .invokevirtual 66, 3), (5, .ifCond .ne 5, 3), (8, .iconst 0, 1), (9, .ireturn, 1), (10, .iconst 0, 1), (11, .istore_n 2, 1), (12, .iconst 0, 1), (13, .istore_n 3, 1), (14, .iload_n 3, 1), (15, .sipush 240, 3), (18, .if_icmp .ge 120, 3), (21, .aload_n 0, 1), (22, .getfield 9, 3), (25, .invokevirtual 34, 3), (28, .istore 4, 2), (30, .iload 4, 2), (32, .bipush 43, 2), (34, .if_icmp .eq 10, 3), (37, .iload 4, 2), (39, .bipush 45, 2), (41, .if_icmp .ne 7, 3), (44, .iconst 1, 1), (45, .goto 4, 3), (48, .iconst 0, 1), (49, .istore 5, 2), (51, .iload 5, 2), (53, .ifCond .ne 20, 3), (56, .iload 4, 2), (58, .bipush 42, 2), (60, .if_icmp .eq 13, 3), (63, .iload 4, 2), (65, .bipush 47, 2), (67, .if_icmp .eq 6, 3), (70, .goto 68, 3), (73, .aload_n 0, 1), (74, .getfield 9, 3), (77, .dup, 1), (78, .getfield 24, 3), (81, .iconst 1, 1), (82, .iadd, 1), (83, .putfield 24, 3), (86, .iload 5, 2), (88, .ifCond .eq 19, 3), (91, .iload_n 2, 1), (92, .ifCond .eq 12, 3), (95, .aload_n 0, 1), (96, .getfield 15, 3), (99, .iload_n 2, 1), (100, .ineg, 1), (101, .invokevirtual 58, 3), (104, .iload 4, 2), (106, .istore_n 2, 1), (107, .aload_n 0, 1), (108, .iload_n 1, 1), (109, .invokevirtual 66, 3), (112, .ifCond .ne 5, 3), (115, .iconst 0, 1), (116, .ireturn, 1), (117, .iload 5, 2), (119, .ifCond .ne 13, 3), (122, .aload_n 0, 1), (123, .getfield 15, 3), (126, .iload 4, 2), (128, .ineg, 1), (129, .invokevirtual 58, 3), (132, .iinc 3 1, 3), (135, .goto (-121), 3), (138, .iload_n 2, 1), (139, .ifCond .eq 12, 3), (142, .aload_n 0, 1), (143, .getfield 15, 3), (146, .iload_n 2, 1), (147, .ineg, 1), (148, .invokevirtual 58, 3), (151, .iconst 1, 1), (152, .ireturn, 1)]
set_option maxRecDepth 100000 in
theorem dX3_readSum : sx_dec prog_5_method_7_code iX3_readSum = true := by decide +kernel
set_option maxRecDepth 100000 in
theorem vX3_readSum : sx_mv mX3_readSum 1 := ⟨⟨sx_a3 23 rfl rfl, sx_a1 6 rfl rfl, nh_X3, by decide +kernel, Nat.le_of_ble_eq_true rfl⟩, sx_a3 22 rfl rfl, sx_pv 5 rfl rfl⟩
abbrev mX3_readAtom : sxM := (⟨"StainStreet$LawReader", "readAtom", "(I)Z"⟩, prog_5_method_8_code, 4, some FieldType.boolean)
def iX3_readAtom : List (Nat × Instr × Nat) := [(0, .aload_n 0, 1), (1, .getfield 9, 3), (4, .invokevirtual 34, 3), (7, .istore_n 2, 1), (8, .iload_n 2, 1), (9, .bipush 91, 2), (11, .if_icmp .ne 63, 3), (14, .iload_n 1, 1), (15, .bipush 6, 2), (17, .if_icmp .lt 5, 3), (20, .iconst 0, 1), (21, .ireturn, 1), (22, .aload_n 0, 1), (23, .getfield 9, 3), (26, .dup, 1), (27, .getfield 24, 3), (30, .iconst 1, 1), (31, .iadd, 1), (32, .putfield 24, 3), (35, .aload_n 0, 1), (36, .iload_n 1, 1), (37, .iconst 1, 1), (38, .iadd, 1), (39, .invokevirtual 41, 3), (42, .ifCond .eq 15, 3), (45, .aload_n 0, 1), (46, .getfield 9, 3), (49, .invokevirtual 34, 3), (52, .bipush 93, 2), (54, .if_icmp .eq 5, 3), (57, .iconst 0, 1), (58, .ireturn, 1), (59, .aload_n 0, 1), (60, .getfield 9, 3), (63, .dup, 1), (64, .getfield 24, 3), (67, .iconst 1, 1), (68, .iadd, 1), (69, .putfield 24, 3), (72, .iconst 1, 1), (73, .ireturn, 1), (74, .iconst 0, 1), (75, .istore_n 3, 1), (76, .iload_n 3, 1), (77, .ldc 69, 2), (79, .invokevirtual 71, 3), (82, .if_icmp .ge 44, 3), (85, .ldc 69, 2), (87, .iload_n 3, 1), (88, .invokevirtual 76, 3), (91, .iload_n 2, 1), (92, .if_icmp .ne 28, 3), (95, .aload_n 0, 1), (96, .getfield 9, 3), (99, .dup, 1), (100, .getfield 24, 3), (103, .iconst 1, 1), (104, .iadd, 1), (105, .putfield 24, 3), (108, .aload_n 0, 1), (109, .getfield 15, 3), (112, .iconst (-1), 1), (113, .iload_n 3, 1), (114, .isub, 1), (115, .invokevirtual 58, 3), (118, .iconst 1, 1), (119, .ireturn, 1), (120, .iinc 3 1, 3), (123, .goto (-47), 3), (126, .aload_n 0, 1), (127, .getfield 9, 3), (130, .iconst 4, 1), (131, .invokevirtual 80, 3), (134, .ifCond .ne 5, 3), (137, .iconst 0, 1), (138, .ireturn, 1), (139, .aload_n 0, 1), (140, .getfield 15, 3), (143, .aload_n 0, 1), (144, .getfield 9, 3), (147, .getfield 83, 3), (150, .invokevirtual 58, 3), (153, .iconst 1, 1), (154, .ireturn, 1)]
set_option maxRecDepth 100000 in
theorem dX3_readAtom : sx_dec prog_5_method_8_code iX3_readAtom = true := by decide +kernel
set_option maxRecDepth 100000 in
theorem vX3_readAtom : sx_mv mX3_readAtom 1 := ⟨⟨sx_a3 27 rfl rfl, sx_a1 6 rfl rfl, nh_X3, by decide +kernel, Nat.le_of_ble_eq_true rfl⟩, sx_a3 26 rfl rfl, sx_pv 6 rfl rfl⟩
abbrev mX3_isComparing : sxM := (⟨"StainStreet$LawReader", "isComparing", "(I)Z"⟩, prog_5_method_9_code, 1, some FieldType.boolean)
def iX3_isComparing : List (Nat × Instr × Nat) := [(0, .iload_n 0, 1), (1, .bipush 61, 2), (3, .if_icmp .eq 15, 3), (6, .iload_n 0, 1), (7, .bipush 60, 2), (9, .if_icmp .eq 9, 3), (12, .iload_n 0, 1), (13, .bipush 62, 2), (15, .if_icmp .ne 7, 3), (18, .iconst 1, 1), (19, .goto 4, 3), (22, .iconst 0, 1), (23, .ireturn, 1)]
set_option maxRecDepth 100000 in
theorem dX3_isComparing : sx_dec prog_5_method_9_code iX3_isComparing = true := by decide +kernel
set_option maxRecDepth 100000 in
theorem vX3_isComparing : sx_ms mX3_isComparing 1 := ⟨⟨sx_a3 45 rfl rfl, sx_a1 6 rfl rfl, nh_X3, by decide +kernel, Nat.le_of_ble_eq_true rfl⟩, sx_a3 44 rfl rfl⟩
abbrev mX4_init : sxM := (⟨"StainStreet$Log", "<init>", "()V"⟩, prog_6_method_1_code, 1, none)
def iX4_init : List (Nat × Instr × Nat) := [(0, .aload_n 0, 1), (1, .invokespecial 3, 3), (4, .aload_n 0, 1), (5, .sipush 128, 3), (8, .newarray .int, 2), (10, .putfield 9, 3), (13, .aload_n 0, 1), (14, .sipush 128, 3), (17, .newarray .int, 2), (19, .putfield 15, 3), (22, .aload_n 0, 1), (23, .sipush 128, 3), (26, .newarray .int, 2), (28, .putfield 18, 3), (31, .return_, 1)]
set_option maxRecDepth 100000 in
theorem dX4_init : sx_dec prog_6_method_1_code iX4_init = true := by decide +kernel
set_option maxRecDepth 100000 in
theorem vX4_init : sx_mi mX4_init 0 := ⟨⟨sx_a1 221 rfl rfl, sx_a1 9 rfl rfl, nh_X4, by decide +kernel, Nat.le_of_ble_eq_true rfl⟩, sx_a1 220 rfl rfl, rfl, rfl⟩
abbrev mX4_slot : sxM := (⟨"StainStreet$Log", "slot", "(I)I"⟩, prog_6_method_2_code, 1, some FieldType.int)
def iX4_slot : List (Nat × Instr × Nat) := [(0, .iload_n 0, 1), (1, .bipush 127, 2), (3, .iand, 1), (4, .ireturn, 1)]
set_option maxRecDepth 100000 in
theorem dX4_slot : sx_dec prog_6_method_2_code iX4_slot = true := by decide +kernel
set_option maxRecDepth 100000 in
theorem vX4_slot : sx_ms mX4_slot 1 := ⟨⟨sx_a3 144 rfl rfl, sx_a1 9 rfl rfl, nh_X4, by decide +kernel, Nat.le_of_ble_eq_true rfl⟩, sx_a3 143 rfl rfl⟩
abbrev mX4_write : sxM := (⟨"StainStreet$Log", "write", "(LStainStreet$State;)V"⟩, prog_6_method_3_code, 3, none)
def iX4_write : List (Nat × Instr × Nat) := [(0, .aload_n 1, 1), (1, .getfield 21, 3), (4, .invokestatic 27, 3), (7, .istore_n 2, 1), (8, .aload_n 0, 1), (9, .getfield 9, 3), (12, .iload_n 2, 1), (13, .aload_n 1, 1), (14, .getfield 31, 3), (17, .iastore, 1), (18, .aload_n 0, 1), (19, .getfield 15, 3), (22, .iload_n 2, 1), (23, .aload_n 1, 1), (24, .getfield 34, 3), (27, .iastore, 1), (28, .aload_n 0, 1), (29, .getfield 18, 3), (32, .iload_n 2, 1), (33, .aload_n 1, 1), (34, .getfield 37, 3), (37, .iastore, 1), (38, .aload_n 1, 1), (39, .dup, 1), (40, .getfield 21, 3), (43, .iconst 1, 1), (44, .iadd, 1), (45, .putfield 21, 3), (48, .return_, 1)]
set_option maxRecDepth 100000 in
theorem dX4_write : sx_dec prog_6_method_3_code iX4_write = true := by decide +kernel
set_option maxRecDepth 100000 in
theorem vX4_write : sx_mv mX4_write 1 := ⟨⟨sx_a4 25 rfl rfl, sx_a1 9 rfl rfl, nh_X4, by decide +kernel, Nat.le_of_ble_eq_true rfl⟩, sx_a4 23 rfl rfl, sx_a4 24 rfl rfl⟩
abbrev mX4_dayAt : sxM := (⟨"StainStreet$Log", "dayAt", "(I)I"⟩, prog_6_method_4_code, 2, some FieldType.int)
def iX4_dayAt : List (Nat × Instr × Nat) := [(0, .aload_n 0, 1), (1, .getfield 9, 3), (4, .iload_n 1, 1), (5, .invokestatic 27, 3), (8, .iaload, 1), (9, .ireturn, 1)]
set_option maxRecDepth 100000 in
theorem dX4_dayAt : sx_dec prog_6_method_4_code iX4_dayAt = true := by decide +kernel
set_option maxRecDepth 100000 in
theorem vX4_dayAt : sx_mv mX4_dayAt 1 := ⟨⟨sx_a3 141 rfl rfl, sx_a1 9 rfl rfl, nh_X4, by decide +kernel, Nat.le_of_ble_eq_true rfl⟩, sx_a3 139 rfl rfl, sx_a3 140 rfl rfl⟩
abbrev mX4_placeAt : sxM := (⟨"StainStreet$Log", "placeAt", "(I)I"⟩, prog_6_method_5_code, 2, some FieldType.int)
def iX4_placeAt : List (Nat × Instr × Nat) := [(0, .aload_n 0, 1), (1, .getfield 15, 3), (4, .iload_n 1, 1), (5, .invokestatic 27, 3), (8, .iaload, 1), (9, .ireturn, 1)]
set_option maxRecDepth 100000 in
theorem dX4_placeAt : sx_dec prog_6_method_5_code iX4_placeAt = true := by decide +kernel
set_option maxRecDepth 100000 in
theorem vX4_placeAt : sx_mv mX4_placeAt 1 := ⟨⟨sx_a3 148 rfl rfl, sx_a1 9 rfl rfl, nh_X4, by decide +kernel, Nat.le_of_ble_eq_true rfl⟩, sx_a3 146 rfl rfl, sx_a3 147 rfl rfl⟩
abbrev mX4_formAt : sxM := (⟨"StainStreet$Log", "formAt", "(I)I"⟩, prog_6_method_6_code, 2, some FieldType.int)
def iX4_formAt : List (Nat × Instr × Nat) := [(0, .aload_n 0, 1), (1, .getfield 18, 3), (4, .iload_n 1, 1), (5, .invokestatic 27, 3), (8, .iaload, 1), (9, .ireturn, 1)]
set_option maxRecDepth 100000 in
theorem dX4_formAt : sx_dec prog_6_method_6_code iX4_formAt = true := by decide +kernel
set_option maxRecDepth 100000 in
theorem vX4_formAt : sx_mv mX4_formAt 1 := ⟨⟨sx_a3 152 rfl rfl, sx_a1 9 rfl rfl, nh_X4, by decide +kernel, Nat.le_of_ble_eq_true rfl⟩, sx_a3 150 rfl rfl, sx_a3 151 rfl rfl⟩
abbrev mX4_copyFrom : sxM := (⟨"StainStreet$Log", "copyFrom", "(LStainStreet$Log;)V"⟩, prog_6_method_7_code, 2, none)
def iX4_copyFrom : List (Nat × Instr × Nat) := [(0, .aload_n 1, 1), (1, .getfield 9, 3), (4, .iconst 0, 1), (5, .aload_n 0, 1), (6, .getfield 9, 3), (9, .iconst 0, 1), (10, .sipush 128, 3), (13, .invokestatic 40, 3), (16, .aload_n 1, 1), (17, .getfield 15, 3), (20, .iconst 0, 1), (21, .aload_n 0, 1), (22, .getfield 15, 3), (25, .iconst 0, 1), (26, .sipush 128, 3), (29, .invokestatic 40, 3), (32, .aload_n 1, 1), (33, .getfield 18, 3), (36, .iconst 0, 1), (37, .aload_n 0, 1), (38, .getfield 18, 3), (41, .iconst 0, 1), (42, .sipush 128, 3), (45, .invokestatic 40, 3), (48, .return_, 1)]
set_option maxRecDepth 100000 in
theorem dX4_copyFrom : sx_dec prog_6_method_7_code iX4_copyFrom = true := by decide +kernel
set_option maxRecDepth 100000 in
theorem vX4_copyFrom : sx_mv mX4_copyFrom 1 := ⟨⟨sx_a4 64 rfl rfl, sx_a1 9 rfl rfl, nh_X4, by decide +kernel, Nat.le_of_ble_eq_true rfl⟩, sx_a4 62 rfl rfl, sx_a4 63 rfl rfl⟩
abbrev mX5_init : sxM := (⟨"StainStreet$Notes", "<init>", "()V"⟩, prog_7_method_1_code, 1, none)
def iX5_init : List (Nat × Instr × Nat) := [(0, .aload_n 0, 1), (1, .invokespecial 3, 3), (4, .aload_n 0, 1), (5, .bipush 10, 2), (7, .newarray .int, 2), (9, .putfield 9, 3), (12, .aload_n 0, 1), (13, .bipush 10, 2), (15, .newarray .int, 2), (17, .putfield 15, 3), (20, .aload_n 0, 1), (21, .bipush 10, 2), (23, .newarray .boolean, 2), (25, .putfield 18, 3), (28, .return_, 1)]
set_option maxRecDepth 100000 in
theorem dX5_init : sx_dec prog_7_method_1_code iX5_init = true := by decide +kernel
set_option maxRecDepth 100000 in
theorem vX5_init : sx_mi mX5_init 0 := ⟨⟨sx_a2 38 rfl rfl, sx_a1 12 rfl rfl, nh_X5, by decide +kernel, Nat.le_of_ble_eq_true rfl⟩, sx_a2 37 rfl rfl, rfl, rfl⟩
abbrev mX5_add : sxM := (⟨"StainStreet$Notes", "add", "(IIZ)Z"⟩, prog_7_method_2_code, 4, some FieldType.boolean)
def iX5_add : List (Nat × Instr × Nat) := [(0, .aload_n 0, 1), (1, .getfield 22, 3), (4, .ifCond .lt 12, 3), (7, .aload_n 0, 1), (8, .getfield 22, 3), (11, .bipush 10, 2), (13, .if_icmp .lt 5, 3), (16, .iconst 0, 1), (17, .ireturn, 1), (18, .aload_n 0, 1), (19, .getfield 9, 3), (22, .aload_n 0, 1), (23, .getfield 22, 3), (26, .iload_n 1, 1), (27, .iastore, 1), (28, .aload_n 0, 1), (29, .getfield 15, 3), (32, .aload_n 0, 1), (33, .getfield 22, 3), (36, .iload_n 2, 1), (37, .iastore, 1), (38, .aload_n 0, 1), (39, .getfield 18, 3), (42, .aload_n 0, 1), (43, .getfield 22, 3), (46, .iload_n 3, 1), (47, .bastore, 1), (48, .aload_n 0, 1), (49, .dup, 1), (50, .getfield 22, 3), (53, .iconst 1, 1), (54, .iadd, 1), (55, .putfield 22, 3), (58, .iconst 1, 1), (59, .ireturn, 1)]
set_option maxRecDepth 100000 in
theorem dX5_add : sx_dec prog_7_method_2_code iX5_add = true := by decide +kernel
set_option maxRecDepth 100000 in
theorem vX5_add : sx_mv mX5_add 3 := ⟨⟨sx_a4 186 rfl rfl, sx_a1 12 rfl rfl, nh_X5, by decide +kernel, Nat.le_of_ble_eq_true rfl⟩, sx_a4 184 rfl rfl, sx_a4 185 rfl rfl⟩
abbrev mX6_init : sxM := (⟨"StainStreet$Past", "<init>", "(LStainStreet$Street;)V"⟩, prog_8_method_1_code, 3, none)
def iX6_init : List (Nat × Instr × Nat) := [(0, .aload_n 0, 1), (1, .invokespecial 3, 3), (4, .aload_n 0, 1), (5, .bipush 40, 2), (7, .anewarray 9, 3), (10, .putfield 11, 3), (13, .iconst 0, 1), (14, .istore_n 2, 1), (15, .iload_n 2, 1), (16, .bipush 40, 2), (18, .if_icmp .ge 23, 3), (21, .aload_n 0, 1), (22, .getfield 11, 3), (25, .iload_n 2, 1), (26, .new 9, 3), (29, .dup, 1), (30, .aload_n 1, 1), (31, .invokespecial 17, 3), (34, .aastore, 1), (35, .iinc 2 1, 3), (38, .goto (-23), 3), (41, .return_, 1)]
set_option maxRecDepth 100000 in
theorem dX6_init : sx_dec prog_8_method_1_code iX6_init = true := by decide +kernel
set_option maxRecDepth 100000 in
theorem vX6_init : sx_mi mX6_init 1 := ⟨⟨sx_a1 237 rfl rfl, sx_a1 10 rfl rfl, nh_X6, by decide +kernel, Nat.le_of_ble_eq_true rfl⟩, sx_a1 236 rfl rfl, rfl, rfl⟩
abbrev mX6_keep : sxM := (⟨"StainStreet$Past", "keep", "(LStainStreet$State;)V"⟩, prog_8_method_2_code, 2, none)
def iX6_keep : List (Nat × Instr × Nat) := [(0, .aload_n 0, 1), (1, .getfield 20, 3), (4, .ifCond .lt 12, 3), (7, .aload_n 0, 1), (8, .getfield 20, 3), (11, .bipush 40, 2), (13, .if_icmp .lt 8, 3), (16, .aload_n 0, 1), (17, .iconst 0, 1), (18, .putfield 20, 3), (21, .aload_n 0, 1), (22, .getfield 11, 3), (25, .aload_n 0, 1), (26, .getfield 20, 3), (29, .aaload, 1), (30, .aload_n 1, 1), (31, .invokevirtual 24, 3), (34, .aload_n 0, 1), (35, .aload_n 0, 1), (36, .getfield 20, 3), (39, .iconst 1, 1), (40, .iadd, 1), (41, .bipush 40, 2), (43, .irem, 1), (44, .putfield 20, 3), (47, .aload_n 0, 1), (48, .aload_n 0, 1), (49, .getfield 28, 3), (52, .iconst 1, 1), (53, .iadd, 1), (54, .bipush 40, 2), (56, .invokestatic 31, 3), (59, .putfield 28, 3), (62, .return_, 1)]
set_option maxRecDepth 100000 in
theorem dX6_keep : sx_dec prog_8_method_2_code iX6_keep = true := by decide +kernel
set_option maxRecDepth 100000 in
theorem vX6_keep : sx_mv mX6_keep 1 := ⟨⟨sx_a3 172 rfl rfl, sx_a1 10 rfl rfl, nh_X6, by decide +kernel, Nat.le_of_ble_eq_true rfl⟩, sx_a3 170 rfl rfl, sx_a3 171 rfl rfl⟩
abbrev mX6_takeBack : sxM := (⟨"StainStreet$Past", "takeBack", "(LStainStreet$State;)Z"⟩, prog_8_method_3_code, 2, some FieldType.boolean)
def iX6_takeBack : List (Nat × Instr × Nat) := [(0, .aload_n 0, 1), (1, .getfield 28, 3), (4, .iconst 1, 1), (5, .if_icmp .ge 5, 3), (8, .iconst 0, 1), (9, .ireturn, 1), (10, .aload_n 0, 1), (11, .dup, 1), (12, .getfield 28, 3), (15, .iconst 1, 1), (16, .isub, 1), (17, .putfield 28, 3), (20, .aload_n 0, 1), (21, .aload_n 0, 1), (22, .getfield 20, 3), (25, .iconst 1, 1), (26, .if_icmp .lt 12, 3), (29, .aload_n 0, 1), (30, .getfield 20, 3), (33, .bipush 40, 2), (35, .if_icmp .lt 8, 3), (38, .bipush 39, 2), (40, .goto 9, 3), (43, .aload_n 0, 1), (44, .getfield 20, 3), (47, .iconst 1, 1), (48, .isub, 1), (49, .putfield 20, 3), (52, .aload_n 1, 1), (53, .aload_n 0, 1), (54, .getfield 11, 3), (57, .aload_n 0, 1), (58, .getfield 20, 3), (61, .aaload, 1), (62, .invokevirtual 24, 3), (65, .iconst 1, 1), (66, .ireturn, 1)]
set_option maxRecDepth 100000 in
theorem dX6_takeBack : sx_dec prog_8_method_3_code iX6_takeBack = true := by decide +kernel
set_option maxRecDepth 100000 in
theorem vX6_takeBack : sx_mv mX6_takeBack 1 := ⟨⟨sx_a4 51 rfl rfl, sx_a1 10 rfl rfl, nh_X6, by decide +kernel, Nat.le_of_ble_eq_true rfl⟩, sx_a4 49 rfl rfl, sx_a4 50 rfl rfl⟩
abbrev mX6_forget : sxM := (⟨"StainStreet$Past", "forget", "()V"⟩, prog_8_method_4_code, 1, none)
def iX6_forget : List (Nat × Instr × Nat) := [(0, .aload_n 0, 1), (1, .iconst 0, 1), (2, .putfield 28, 3), (5, .return_, 1)]
set_option maxRecDepth 100000 in
theorem dX6_forget : sx_dec prog_8_method_4_code iX6_forget = true := by decide +kernel
set_option maxRecDepth 100000 in
theorem vX6_forget : sx_mv mX6_forget 0 := ⟨⟨sx_a3 88 rfl rfl, sx_a1 10 rfl rfl, nh_X6, by decide +kernel, Nat.le_of_ble_eq_true rfl⟩, sx_a3 86 rfl rfl, sx_a3 87 rfl rfl⟩
abbrev mX7_init : sxM := (⟨"StainStreet$State", "<init>", "(LStainStreet$Street;)V"⟩, prog_9_method_1_code, 2, none)
def iX7_init : List (Nat × Instr × Nat) := [(0, .aload_n 0, 1), (1, .invokespecial 3, 3), (4, .aload_n 0, 1), (5, .bipush 8, 2), (7, .newarray .int, 2), (9, .putfield 9, 3), (12, .aload_n 0, 1), (13, .bipush 8, 2), (15, .newarray .int, 2), (17, .putfield 15, 3), (20, .aload_n 0, 1), (21, .bipush 8, 2), (23, .newarray .int, 2), (25, .putfield 18, 3), (28, .aload_n 0, 1), (29, .bipush 8, 2), (31, .newarray .int, 2), (33, .putfield 21, 3), (36, .aload_n 0, 1), (37, .bipush 8, 2), (39, .newarray .int, 2), (41, .putfield 24, 3), (44, .aload_n 0, 1), (45, .bipush 8, 2), (47, .newarray .int, 2), (49, .putfield 27, 3), (52, .aload_n 0, 1), (53, .iconst (-1), 1), (54, .putfield 30, 3), (57, .aload_n 0, 1), (58, .aload_n 1, 1), (59, .putfield 34, 3), (62, .return_, 1)]
set_option maxRecDepth 100000 in
theorem dX7_init : sx_dec prog_9_method_1_code iX7_init = true := by decide +kernel
set_option maxRecDepth 100000 in
theorem vX7_init : sx_mi mX7_init 1 := ⟨⟨sx_a1 160 rfl rfl, sx_a1 8 rfl rfl, nh_X7, by decide +kernel, Nat.le_of_ble_eq_true rfl⟩, sx_a1 159 rfl rfl, rfl, rfl⟩
abbrev mX7_begin : sxM := (⟨"StainStreet$State", "begin", "(LStainStreet$Street;)V"⟩, prog_9_method_2_code, 3, none)
def iX7_begin : List (Nat × Instr × Nat) := [(0, .aload_n 0, 1), (1, .aload_n 1, 1), (2, .putfield 34, 3), (5, .iconst 0, 1), (6, .istore_n 2, 1), (7, .iload_n 2, 1), (8, .bipush 8, 2), (10, .if_icmp .ge 76, 3), (13, .aload_n 0, 1), (14, .getfield 9, 3), (17, .iload_n 2, 1), (18, .aload_n 1, 1), (19, .iload_n 2, 1), (20, .iconst 0, 1), (21, .invokevirtual 38, 3), (24, .iastore, 1), (25, .aload_n 0, 1), (26, .getfield 15, 3), (29, .iload_n 2, 1), (30, .aload_n 0, 1), (31, .getfield 9, 3), (34, .iload_n 2, 1), (35, .iaload, 1), (36, .iastore, 1), (37, .aload_n 0, 1), (38, .getfield 18, 3), (41, .iload_n 2, 1), (42, .iconst 0, 1), (43, .iastore, 1), (44, .aload_n 0, 1), (45, .getfield 21, 3), (48, .iload_n 2, 1), (49, .aload_n 1, 1), (50, .iload_n 2, 1), (51, .iconst 1, 1), (52, .invokevirtual 38, 3), (55, .iastore, 1), (56, .aload_n 0, 1), (57, .getfield 24, 3), (60, .iload_n 2, 1), (61, .aload_n 1, 1), (62, .iload_n 2, 1), (63, .iconst 2, 1), (64, .invokevirtual 38, 3), (67, .iastore, 1), (68, .aload_n 0, 1), (69, .getfield 27, 3), (72, .iload_n 2, 1), (73, .aload_n 1, 1), (74, .iload_n 2, 1), (75, .iconst 3, 1), (76, .invokevirtual 38, 3), (79, .iastore, 1), (80, .iinc 2 1, 3), (83, .goto (-76), 3), (86, .aload_n 0, 1), (87, .iconst 0, 1), (88, .putfield 44, 3), (91, .aload_n 0, 1), (92, .aload_n 1, 1), (93, .invokevirtual 47, 3), (96, .putfield 51, 3), (99, .aload_n 0, 1), (100, .aload_n 1, 1), (101, .invokevirtual 54, 3), (104, .bipush 8, 2), (106, .if_icmp .ne 7, 3), (109, .iconst (-1), 1), (110, .goto 7, 3), (113, .aload_n 1, 1), (114, .invokevirtual 54, 3), (117, .putfield 30, 3), (120, .aload_n 0, 1), (121, .aload_n 1, 1), (122, .invokevirtual 57, 3), (125, .putfield 60, 3), (128, .aload_n 0, 1), (129, .iconst 0, 1), (130, .putfield 63, 3), (133, .aload_n 0, 1), (134, .iconst 0, 1), (135, .putfield 66, 3), (138, .return_, 1)]
set_option maxRecDepth 100000 in
theorem dX7_begin : sx_dec prog_9_method_2_code iX7_begin = true := by decide +kernel
set_option maxRecDepth 100000 in
theorem vX7_begin : sx_mv mX7_begin 1 := ⟨⟨sx_a3 74 rfl rfl, sx_a1 8 rfl rfl, nh_X7, by decide +kernel, Nat.le_of_ble_eq_true rfl⟩, sx_a3 72 rfl rfl, sx_a3 73 rfl rfl⟩
abbrev mX7_copyFrom : sxM := (⟨"StainStreet$State", "copyFrom", "(LStainStreet$State;)V"⟩, prog_9_method_3_code, 2, none)
def iX7_copyFrom : List (Nat × Instr × Nat) := [(0, .aload_n 0, 1), (1, .aload_n 1, 1), (2, .getfield 34, 3), (5, .putfield 34, 3), (8, .aload_n 1, 1), (9, .getfield 9, 3), (12, .iconst 0, 1), (13, .aload_n 0, 1), (14, .getfield 9, 3), (17, .iconst 0, 1), (18, .bipush 8, 2), (20, .invokestatic 69, 3), (23, .aload_n 1, 1), (24, .getfield 15, 3), (27, .iconst 0, 1), (28, .aload_n 0, 1), (29, .getfield 15, 3), (32, .iconst 0, 1), (33, .bipush 8, 2), (35, .invokestatic 69, 3), (38, .aload_n 1, 1), (39, .getfield 18, 3), (42, .iconst 0, 1), (43, .aload_n 0, 1), (44, .getfield 18, 3), (47, .iconst 0, 1), (48, .bipush 8, 2), (50, .invokestatic 69, 3), (53, .aload_n 1, 1), (54, .getfield 21, 3), (57, .iconst 0, 1), (58, .aload_n 0, 1), (59, .getfield 21, 3), (62, .iconst 0, 1), (63, .bipush 8, 2), (65, .invokestatic 69, 3), (68, .aload_n 1, 1), (69, .getfield 24, 3), (72, .iconst 0, 1), (73, .aload_n 0, 1), (74, .getfield 24, 3), (77, .iconst 0, 1), (78, .bipush 8, 2), (80, .invokestatic 69, 3), (83, .aload_n 1, 1), (84, .getfield 27, 3), (87, .iconst 0, 1), (88, .aload_n 0, 1), (89, .getfield 27, 3), (92, .iconst 0, 1), (93, .bipush 8, 2), (95, .invokestatic 69, 3), (98, .aload_n 0, 1), (99, .aload_n 1, 1), (100, .getfield 44, 3), (103, .putfield 44, 3), (106, .aload_n 0, 1), (107, .aload_n 1, 1), (108, .getfield 51, 3), (111, .putfield 51, 3), (114, .aload_n 0, 1), (115, .aload_n 1, 1), (116, .getfield 30, 3), (119, .putfield 30, 3), (122, .aload_n 0, 1), (123, .aload_n 1, 1), (124, .getfield 60, 3), (127, .putfield 60, 3), (130, .aload_n 0, 1), (131, .aload_n 1, 1), (132, .getfield 63, 3), (135, .putfield 63, 3), (138, .aload_n 0, 1), (139, .aload_n 1, 1), (140, .getfield 66, 3), (143, .putfield 66, 3), (146, .return_, 1)]
set_option maxRecDepth 100000 in
theorem dX7_copyFrom : sx_dec prog_9_method_3_code iX7_copyFrom = true := by decide +kernel
set_option maxRecDepth 100000 in
theorem vX7_copyFrom : sx_mv mX7_copyFrom 1 := ⟨⟨sx_a3 176 rfl rfl, sx_a1 8 rfl rfl, nh_X7, by decide +kernel, Nat.le_of_ble_eq_true rfl⟩, sx_a3 174 rfl rfl, sx_a3 175 rfl rfl⟩
abbrev mX7_mindMore : sxM := (⟨"StainStreet$State", "mindMore", "(II)V"⟩, prog_9_method_4_code, 3, none)
def iX7_mindMore : List (Nat × Instr × Nat) := [(0, .iload_n 1, 1), (1, .ifCond .lt 40, 3), (4, .iload_n 1, 1), (5, .bipush 8, 2), (7, .if_icmp .ge 34, 3), (10, .aload_n 0, 1), (11, .getfield 9, 3), (14, .iload_n 1, 1), (15, .bipush 9, 2), (17, .aload_n 0, 1), (18, .getfield 9, 3), (21, .iload_n 1, 1), (22, .iaload, 1), (23, .iload_n 2, 1), (24, .iadd, 1), (25, .invokestatic 75, 3), (28, .iastore, 1), (29, .aload_n 0, 1), (30, .getfield 15, 3), (33, .iload_n 1, 1), (34, .aload_n 0, 1), (35, .getfield 9, 3), (38, .iload_n 1, 1), (39, .iaload, 1), (40, .iastore, 1), (41, .return_, 1)]
set_option maxRecDepth 100000 in
theorem dX7_mindMore : sx_dec prog_9_method_4_code iX7_mindMore = true := by decide +kernel
set_option maxRecDepth 100000 in
theorem vX7_mindMore : sx_mv mX7_mindMore 2 := ⟨⟨sx_a4 198 rfl rfl, sx_a1 8 rfl rfl, nh_X7, by decide +kernel, Nat.le_of_ble_eq_true rfl⟩, sx_a4 196 rfl rfl, sx_a4 197 rfl rfl⟩
abbrev mX7_hasPiano : sxM := (⟨"StainStreet$State", "hasPiano", "(I)Z"⟩, prog_9_method_5_code, 2, some FieldType.boolean)
def iX7_hasPiano : List (Nat × Instr × Nat) := [(0, .aload_n 0, 1), (1, .getfield 44, 3), (4, .iload_n 1, 1), (5, .ishr, 1), (6, .iconst 1, 1), (7, .iand, 1), (8, .ifCond .eq 7, 3), (11, .iconst 1, 1), (12, .goto 4, 3), (15, .iconst 0, 1), (16, .ireturn, 1)]
set_option maxRecDepth 100000 in
theorem dX7_hasPiano : sx_dec prog_9_method_5_code iX7_hasPiano = true := by decide +kernel
set_option maxRecDepth 100000 in
theorem vX7_hasPiano : sx_mv mX7_hasPiano 1 := ⟨⟨sx_a3 199 rfl rfl, sx_a1 8 rfl rfl, nh_X7, by decide +kernel, Nat.le_of_ble_eq_true rfl⟩, sx_a3 197 rfl rfl, sx_a3 198 rfl rfl⟩
abbrev mX7_minded : sxM := (⟨"StainStreet$State", "minded", "(ILStainStreet$Law;)I"⟩, prog_9_method_6_code, 6, some FieldType.int)
def iX7_minded : List (Nat × Instr × Nat) := [(0, .iload_n 1, 1), (1, .ifCond .lt 26, 3), (4, .iload_n 1, 1), (5, .bipush 8, 2), (7, .if_icmp .ge 20, 3), (10, .aload_n 0, 1), (11, .getfield 27, 3), (14, .iload_n 1, 1), (15, .iaload, 1), (16, .ifCond .eq 11, 3), (19, .aload_n 0, 1), (20, .iload_n 1, 1), (21, .invokevirtual 80, 3), (24, .ifCond .eq 5, 3), (27, .iconst 0, 1), (28, .ireturn, 1), (29, .aload_n 0, 1), (30, .getfield 15, 3), (33, .iload_n 1, 1), (34, .iaload, 1), (35, .aload_n 0, 1), (36, .getfield 18, 3), (39, .iload_n 1, 1), (40, .iaload, 1), (41, .iadd, 1), (42, .istore_n 3, 1), (43, .aload_n 2, 1), (44, .ifnonnull 32, 3), (47, .iload_n 3, 1), (48, .aload_n 0, 1), (49, .getfield 21, 3), (52, .iload_n 1, 1), (53, .iaload, 1), (54, .iadd, 1), (55, .aload_n 0, 1), (56, .getfield 27, 3), (59, .iload_n 1, 1), (60, .iaload, 1), (61, .iconst 2, 1), (62, .idiv, 1), (63, .iadd, 1), (64, .aload_n 0, 1), (65, .getfield 24, 3), (68, .iload_n 1, 1), (69, .iaload, 1), (70, .isub, 1), (71, .istore 4, 2), (73, .goto 65, 3), (76, .aload_n 0, 1), (77, .getfield 30, 3), (80, .iconst (-1), 1), (81, .if_icmp .ne 8, 3), (84, .bipush 9, 2), (86, .goto 12, 3), (89, .iload_n 1, 1), (90, .aload_n 0, 1), (91, .getfield 30, 3), (94, .isub, 1), (95, .invokestatic 84, 3), (98, .istore 5, 2), (100, .aload_n 2, 1), (101, .iload_n 3, 1), (102, .aload_n 0, 1), (103, .getfield 21, 3), (106, .iload_n 1, 1), (107, .iaload, 1), (108, .aload_n 0, 1), (109, .getfield 24, 3), (112, .iload_n 1, 1), (113, .iaload, 1), (114, .aload_n 0, 1), (115, .getfield 27, 3), (118, .iload_n 1, 1), (119, .iaload, 1), (120, .aload_n 0, 1), (121, .getfield 34, 3), (124, .aload_n 0, 1), (125, .getfield 60, 3), (128, .invokevirtual 88, 3), (131, .iload 5, 2), (133, .invokevirtual 91, 3), (136, .istore 4, 2), (138, .iconst 0, 1), (139, .bipush 99, 2), (141, .iload 4, 2), (143, .invokestatic 75, 3), (146, .invokestatic 97, 3), (149, .ireturn, 1)]
set_option maxRecDepth 100000 in
theorem dX7_minded : sx_dec prog_9_method_6_code iX7_minded = true := by decide +kernel
set_option maxRecDepth 100000 in
theorem vX7_minded : sx_mv mX7_minded 2 := ⟨⟨sx_a3 237 rfl rfl, sx_a1 8 rfl rfl, nh_X7, by decide +kernel, Nat.le_of_ble_eq_true rfl⟩, sx_a3 235 rfl rfl, sx_a3 236 rfl rfl⟩
abbrev mX7_goal : sxM := (⟨"StainStreet$State", "goal", "(LStainStreet$Law;)I"⟩, prog_9_method_7_code, 6, some FieldType.int)
def iX7_goal : List (Nat × Instr × Nat) := [(0, .iconst (-1), 1), (1, .istore_n 2, 1), (2, .iconst 0, 1), (3, .istore_n 3, 1), (4, .iconst 0, 1), (5, .istore 4, 2), (7, .iload 4, 2), (9, .aload_n 0, 1), (10, .getfield 34, 3), (13, .invokevirtual 100, 3), (16, .if_icmp .ge 30, 3), (19, .aload_n 0, 1), (20, .iload 4, 2), (22, .aload_n 1, 1), (23, .invokevirtual 103, 3), (26, .istore 5, 2), (28, .iload 5, 2), (30, .iload_n 3, 1), (31, .if_icmp .le 9, 3), (34, .iload 5, 2), (36, .istore_n 3, 1), (37, .iload 4, 2), (39, .istore_n 2, 1), (40, .iinc 4 1, 3), (43, .goto (-36), 3), (46, .iload_n 2, 1), (47, .ireturn, 1)]
set_option maxRecDepth 100000 in
theorem dX7_goal : sx_dec prog_9_method_7_code iX7_goal = true := by decide +kernel
set_option maxRecDepth 100000 in
theorem vX7_goal : sx_mv mX7_goal 1 := ⟨⟨sx_a3 233 rfl rfl, sx_a1 8 rfl rfl, nh_X7, by decide +kernel, Nat.le_of_ble_eq_true rfl⟩, sx_a3 231 rfl rfl, sx_a3 232 rfl rfl⟩
abbrev mX7_passDay : sxM := (⟨"StainStreet$State", "passDay", "(LStainStreet$Law;)Z"⟩, prog_9_method_8_code, 4, some FieldType.boolean)
def iX7_passDay : List (Nat × Instr × Nat) := [(0, .aload_n 0, 1), (1, .dup, 1), (2, .getfield 63, 3), (5, .iconst 1, 1), (6, .iadd, 1), (7, .putfield 63, 3), (10, .iconst 0, 1), (11, .istore_n 2, 1), (12, .iload_n 2, 1), (13, .aload_n 0, 1), (14, .getfield 34, 3), (17, .invokevirtual 100, 3), (20, .if_icmp .ge 71, 3), (23, .iload_n 2, 1), (24, .aload_n 0, 1), (25, .getfield 30, 3), (28, .if_icmp .ne 7, 3), (31, .iconst 0, 1), (32, .goto 9, 3), (35, .aload_n 0, 1), (36, .getfield 9, 3), (39, .iload_n 2, 1), (40, .iaload, 1), (41, .istore_n 3, 1), (42, .aload_n 0, 1), (43, .getfield 15, 3), (46, .iload_n 2, 1), (47, .iaload, 1), (48, .iload_n 3, 1), (49, .if_icmp .ge 16, 3), (52, .aload_n 0, 1), (53, .getfield 15, 3), (56, .iload_n 2, 1), (57, .dup2, 1), (58, .iaload, 1), (59, .iconst 1, 1), (60, .iadd, 1), (61, .iastore, 1), (62, .goto 23, 3), (65, .aload_n 0, 1), (66, .getfield 15, 3), (69, .iload_n 2, 1), (70, .iaload, 1), (71, .iload_n 3, 1), (72, .if_icmp .le 13, 3), (75, .aload_n 0, 1), (76, .getfield 15, 3), (79, .iload_n 2, 1), (80, .dup2, 1), (81, .iaload, 1), (82, .iconst 1, 1), (83, .isub, 1), (84, .iastore, 1), (85, .iinc 2 1, 3), (88, .goto (-76), 3), (91, .aload_n 0, 1), (92, .getfield 34, 3), (95, .invokevirtual 107, 3), (98, .istore_n 2, 1), (99, .iload_n 2, 1), (100, .iconst 1, 1), (101, .if_icmp .lt 12, 3), (104, .aload_n 0, 1), (105, .getfield 63, 3), (108, .iload_n 2, 1), (109, .irem, 1), (110, .ifCond .eq 5, 3), (113, .iconst 0, 1), (114, .ireturn, 1), (115, .aload_n 0, 1), (116, .aload_n 1, 1), (117, .invokevirtual 110, 3), (120, .istore_n 3, 1), (121, .iload_n 3, 1), (122, .aload_n 0, 1), (123, .getfield 30, 3), (126, .if_icmp .eq 18, 3), (129, .aload_n 0, 1), (130, .aload_n 0, 1), (131, .getfield 34, 3), (134, .aload_n 0, 1), (135, .getfield 60, 3), (138, .invokevirtual 114, 3), (141, .putfield 60, 3), (144, .aload_n 0, 1), (145, .iload_n 3, 1), (146, .putfield 30, 3), (149, .aload_n 0, 1), (150, .iconst 0, 1), (151, .putfield 44, 3), (154, .iconst 1, 1), (155, .ireturn, 1)]
set_option maxRecDepth 100000 in
theorem dX7_passDay : sx_dec prog_9_method_8_code iX7_passDay = true := by decide +kernel
set_option maxRecDepth 100000 in
theorem vX7_passDay : sx_mv mX7_passDay 1 := ⟨⟨sx_a3 223 rfl rfl, sx_a1 8 rfl rfl, nh_X7, by decide +kernel, Nat.le_of_ble_eq_true rfl⟩, sx_a3 221 rfl rfl, sx_a3 222 rfl rfl⟩
abbrev mX8_init : sxM := (⟨"StainStreet$Street", "<init>", "()V"⟩, prog_10_method_1_code, 1, none)
def iX8_init : List (Nat × Instr × Nat) := [(0, .aload_n 0, 1), (1, .invokespecial 3, 3), (4, .aload_n 0, 1), (5, .bipush 48, 2), (7, .newarray .int, 2), (9, .putfield 9, 3), (12, .return_, 1)]
set_option maxRecDepth 100000 in
theorem dX8_init : sx_dec prog_10_method_1_code iX8_init = true := by decide +kernel
set_option maxRecDepth 100000 in
theorem vX8_init : sx_mi mX8_init 0 := ⟨⟨sx_a1 136 rfl rfl, sx_a1 7 rfl rfl, nh_X8, by decide +kernel, Nat.le_of_ble_eq_true rfl⟩, sx_a1 135 rfl rfl, rfl, rfl⟩
abbrev mX8_houseCount : sxM := (⟨"StainStreet$Street", "houseCount", "()I"⟩, prog_10_method_2_code, 1, some FieldType.int)
def iX8_houseCount : List (Nat × Instr × Nat) := [(0, .aload_n 0, 1), (1, .getfield 15, 3), (4, .bipush 8, 2), (6, .invokestatic 19, 3), (9, .ireturn, 1)]
set_option maxRecDepth 100000 in
theorem dX8_houseCount : sx_dec prog_10_method_2_code iX8_houseCount = true := by decide +kernel
set_option maxRecDepth 100000 in
theorem vX8_houseCount : sx_mv mX8_houseCount 0 := ⟨⟨sx_a3 227 rfl rfl, sx_a1 7 rfl rfl, nh_X8, by decide +kernel, Nat.le_of_ble_eq_true rfl⟩, sx_a3 225 rfl rfl, sx_a3 226 rfl rfl⟩
abbrev mX8_clear : sxM := (⟨"StainStreet$Street", "clear", "()V"⟩, prog_10_method_3_code, 1, none)
def iX8_clear : List (Nat × Instr × Nat) := [(0, .aload_n 0, 1), (1, .iconst 0, 1), (2, .putfield 15, 3), (5, .aload_n 0, 1), (6, .iconst 0, 1), (7, .putfield 25, 3), (10, .aload_n 0, 1), (11, .iconst 0, 1), (12, .putfield 28, 3), (15, .aload_n 0, 1), (16, .iconst 0, 1), (17, .iconst 4, 1), (18, .iconst 0, 1), (19, .invokevirtual 32, 3), (22, .return_, 1)]
set_option maxRecDepth 100000 in
theorem dX8_clear : sx_dec prog_10_method_3_code iX8_clear = true := by decide +kernel
set_option maxRecDepth 100000 in
theorem vX8_clear : sx_mv mX8_clear 0 := ⟨⟨sx_a2 142 rfl rfl, sx_a1 7 rfl rfl, nh_X8, by decide +kernel, Nat.le_of_ble_eq_true rfl⟩, sx_a2 140 rfl rfl, sx_a2 141 rfl rfl⟩
abbrev mX8_setUsual : sxM := (⟨"StainStreet$Street", "setUsual", "(III)V"⟩, prog_10_method_4_code, 5, none)
def iX8_setUsual : List (Nat × Instr × Nat) := [(0, .iload_n 1, 1), (1, .istore 4, 2), (3, .iload 4, 2), (5, .iload_n 2, 1), (6, .if_icmp .ge 32, 3), (9, .iload 4, 2), (11, .bipush 10, 2), (13, .if_icmp .ge 25, 3), (16, .aload_n 0, 1), (17, .iload_n 3, 1), (18, .iload 4, 2), (20, .iadd, 1), (21, .iload_n 1, 1), (22, .isub, 1), (23, .getstatic 36, 3), (26, .iload 4, 2), (28, .iaload, 1), (29, .invokevirtual 39, 3), (32, .iinc 4 1, 3), (35, .goto (-32), 3), (38, .return_, 1)]
set_option maxRecDepth 100000 in
theorem dX8_setUsual : sx_dec prog_10_method_4_code iX8_setUsual = true := by decide +kernel
set_option maxRecDepth 100000 in
theorem vX8_setUsual : sx_mv mX8_setUsual 3 := ⟨⟨sx_a2 146 rfl rfl, sx_a1 7 rfl rfl, nh_X8, by decide +kernel, Nat.le_of_ble_eq_true rfl⟩, sx_a2 144 rfl rfl, sx_a2 145 rfl rfl⟩
abbrev mX8_put : sxM := (⟨"StainStreet$Street", "put", "(II)V"⟩, prog_10_method_5_code, 3, none)
def iX8_put : List (Nat × Instr × Nat) := [(0, .iload_n 1, 1), (1, .ifCond .lt 16, 3), (4, .iload_n 1, 1), (5, .bipush 48, 2), (7, .if_icmp .ge 10, 3), (10, .aload_n 0, 1), (11, .getfield 9, 3), (14, .iload_n 1, 1), (15, .iload_n 2, 1), (16, .iastore, 1), (17, .return_, 1)]
set_option maxRecDepth 100000 in
theorem dX8_put : sx_dec prog_10_method_5_code iX8_put = true := by decide +kernel
set_option maxRecDepth 100000 in
theorem vX8_put : sx_mv mX8_put 2 := ⟨⟨sx_a2 152 rfl rfl, sx_a1 7 rfl rfl, nh_X8, by decide +kernel, Nat.le_of_ble_eq_true rfl⟩, sx_a2 150 rfl rfl, sx_a2 151 rfl rfl⟩
abbrev mX8_told : sxM := (⟨"StainStreet$Street", "told", "(I)I"⟩, prog_10_method_6_code, 2, some FieldType.int)
def iX8_told : List (Nat × Instr × Nat) := [(0, .iload_n 1, 1), (1, .ifCond .lt 18, 3), (4, .iload_n 1, 1), (5, .bipush 48, 2), (7, .if_icmp .ge 12, 3), (10, .aload_n 0, 1), (11, .getfield 9, 3), (14, .iload_n 1, 1), (15, .iaload, 1), (16, .goto 4, 3), (19, .iconst 0, 1), (20, .ireturn, 1)]
set_option maxRecDepth 100000 in
theorem dX8_told : sx_dec prog_10_method_6_code iX8_told = true := by decide +kernel
set_option maxRecDepth 100000 in
theorem vX8_told : sx_mv mX8_told 1 := ⟨⟨sx_a2 234 rfl rfl, sx_a1 7 rfl rfl, nh_X8, by decide +kernel, Nat.le_of_ble_eq_true rfl⟩, sx_a2 233 rfl rfl, sx_pv 3 rfl rfl⟩
abbrev mX8_daysBetween : sxM := (⟨"StainStreet$Street", "daysBetween", "()I"⟩, prog_10_method_7_code, 1, some FieldType.int)
def iX8_daysBetween : List (Nat × Instr × Nat) := [(0, .aload_n 0, 1), (1, .iconst 0, 1), (2, .invokevirtual 43, 3), (5, .ireturn, 1)]
set_option maxRecDepth 100000 in
theorem dX8_daysBetween : sx_dec prog_10_method_7_code iX8_daysBetween = true := by decide +kernel
set_option maxRecDepth 100000 in
theorem vX8_daysBetween : sx_mv mX8_daysBetween 0 := ⟨⟨sx_a3 104 rfl rfl, sx_a1 7 rfl rfl, nh_X8, by decide +kernel, Nat.le_of_ble_eq_true rfl⟩, sx_a3 102 rfl rfl, sx_a3 103 rfl rfl⟩
abbrev mX8_firstHouse : sxM := (⟨"StainStreet$Street", "firstHouse", "()I"⟩, prog_10_method_8_code, 1, some FieldType.int)
def iX8_firstHouse : List (Nat × Instr × Nat) := [(0, .aload_n 0, 1), (1, .iconst 1, 1), (2, .invokevirtual 43, 3), (5, .ireturn, 1)]
set_option maxRecDepth 100000 in
theorem dX8_firstHouse : sx_dec prog_10_method_8_code iX8_firstHouse = true := by decide +kernel
set_option maxRecDepth 100000 in
theorem vX8_firstHouse : sx_mv mX8_firstHouse 0 := ⟨⟨sx_a2 238 rfl rfl, sx_a1 7 rfl rfl, nh_X8, by decide +kernel, Nat.le_of_ble_eq_true rfl⟩, sx_a2 236 rfl rfl, sx_a2 237 rfl rfl⟩
abbrev mX8_firstForm : sxM := (⟨"StainStreet$Street", "firstForm", "()I"⟩, prog_10_method_9_code, 1, some FieldType.int)
def iX8_firstForm : List (Nat × Instr × Nat) := [(0, .aload_n 0, 1), (1, .iconst 2, 1), (2, .invokevirtual 43, 3), (5, .ireturn, 1)]
set_option maxRecDepth 100000 in
theorem dX8_firstForm : sx_dec prog_10_method_9_code iX8_firstForm = true := by decide +kernel
set_option maxRecDepth 100000 in
theorem vX8_firstForm : sx_mv mX8_firstForm 0 := ⟨⟨sx_a2 230 rfl rfl, sx_a1 7 rfl rfl, nh_X8, by decide +kernel, Nat.le_of_ble_eq_true rfl⟩, sx_a2 228 rfl rfl, sx_a2 229 rfl rfl⟩
abbrev mX8_firstCoins : sxM := (⟨"StainStreet$Street", "firstCoins", "()I"⟩, prog_10_method_10_code, 1, some FieldType.int)
def iX8_firstCoins : List (Nat × Instr × Nat) := [(0, .aload_n 0, 1), (1, .iconst 3, 1), (2, .invokevirtual 43, 3), (5, .ireturn, 1)]
set_option maxRecDepth 100000 in
theorem dX8_firstCoins : sx_dec prog_10_method_10_code iX8_firstCoins = true := by decide +kernel
set_option maxRecDepth 100000 in
theorem vX8_firstCoins : sx_mv mX8_firstCoins 0 := ⟨⟨sx_a3 82 rfl rfl, sx_a1 7 rfl rfl, nh_X8, by decide +kernel, Nat.le_of_ble_eq_true rfl⟩, sx_a3 80 rfl rfl, sx_a3 81 rfl rfl⟩
abbrev mX8_ofHouse : sxM := (⟨"StainStreet$Street", "ofHouse", "(II)I"⟩, prog_10_method_11_code, 3, some FieldType.int)
def iX8_ofHouse : List (Nat × Instr × Nat) := [(0, .aload_n 0, 1), (1, .iconst 4, 1), (2, .iconst 4, 1), (3, .iload_n 1, 1), (4, .imul, 1), (5, .iadd, 1), (6, .iload_n 2, 1), (7, .iadd, 1), (8, .invokevirtual 43, 3), (11, .ireturn, 1)]
set_option maxRecDepth 100000 in
theorem dX8_ofHouse : sx_dec prog_10_method_11_code iX8_ofHouse = true := by decide +kernel
set_option maxRecDepth 100000 in
theorem vX8_ofHouse : sx_mv mX8_ofHouse 2 := ⟨⟨sx_a3 78 rfl rfl, sx_a1 7 rfl rfl, nh_X8, by decide +kernel, Nat.le_of_ble_eq_true rfl⟩, sx_a3 76 rfl rfl, sx_a3 77 rfl rfl⟩
abbrev mX8_sizeOf : sxM := (⟨"StainStreet$Street", "sizeOf", "(I)I"⟩, prog_10_method_12_code, 2, some FieldType.int)
def iX8_sizeOf : List (Nat × Instr × Nat) := [(0, .aload_n 0, 1), (1, .bipush 36, 2), (3, .iconst 2, 1), (4, .iload_n 1, 1), (5, .imul, 1), (6, .iadd, 1), (7, .invokevirtual 43, 3), (10, .ireturn, 1)]
set_option maxRecDepth 100000 in
theorem dX8_sizeOf : sx_dec prog_10_method_12_code iX8_sizeOf = true := by decide +kernel
set_option maxRecDepth 100000 in
theorem vX8_sizeOf : sx_mv mX8_sizeOf 1 := ⟨⟨sx_a3 116 rfl rfl, sx_a1 7 rfl rfl, nh_X8, by decide +kernel, Nat.le_of_ble_eq_true rfl⟩, sx_a3 114 rfl rfl, sx_a3 115 rfl rfl⟩
abbrev mX8_following : sxM := (⟨"StainStreet$Street", "following", "(I)I"⟩, prog_10_method_13_code, 2, some FieldType.int)
def iX8_following : List (Nat × Instr × Nat) := [(0, .aload_n 0, 1), (1, .bipush 36, 2), (3, .iconst 2, 1), (4, .iload_n 1, 1), (5, .imul, 1), (6, .iadd, 1), (7, .iconst 1, 1), (8, .iadd, 1), (9, .invokevirtual 43, 3), (12, .ireturn, 1)]
set_option maxRecDepth 100000 in
theorem dX8_following : sx_dec prog_10_method_13_code iX8_following = true := by decide +kernel
set_option maxRecDepth 100000 in
theorem vX8_following : sx_mv mX8_following 1 := ⟨⟨sx_a3 2 rfl rfl, sx_a1 7 rfl rfl, nh_X8, by decide +kernel, Nat.le_of_ble_eq_true rfl⟩, sx_a3 0 rfl rfl, sx_a3 1 rfl rfl⟩
abbrev mX8_changed : sxM := (⟨"StainStreet$Street", "changed", "(II)I"⟩, prog_10_method_14_code, 5, some FieldType.int)
def iX8_changed : List (Nat × Instr × Nat) := [(0, .iload_n 1, 1), (1, .istore_n 3, 1), (2, .iconst 0, 1), (3, .istore 4, 2), (5, .iload 4, 2), (7, .iload_n 2, 1), (8, .if_icmp .ge 15, 3), (11, .aload_n 0, 1), (12, .iload_n 3, 1), (13, .invokevirtual 47, 3), (16, .istore_n 3, 1), (17, .iinc 4 1, 3), (20, .goto (-15), 3), (23, .iload_n 3, 1), (24, .ireturn, 1)]
set_option maxRecDepth 100000 in
theorem dX8_changed : sx_dec prog_10_method_14_code iX8_changed = true := by decide +kernel
set_option maxRecDepth 100000 in
theorem vX8_changed : sx_mv mX8_changed 2 := ⟨⟨sx_a4 222 rfl rfl, sx_a1 7 rfl rfl, nh_X8, by decide +kernel, Nat.le_of_ble_eq_true rfl⟩, sx_a4 220 rfl rfl, sx_a4 221 rfl rfl⟩
abbrev mX8_isWhole : sxM := (⟨"StainStreet$Street", "isWhole", "()Z"⟩, prog_10_method_15_code, 2, some FieldType.boolean)
def iX8_isWhole : List (Nat × Instr × Nat) := [(0, .aload_n 0, 1), (1, .getfield 15, 3), (4, .iconst 2, 1), (5, .if_icmp .lt 22, 3), (8, .aload_n 0, 1), (9, .getfield 25, 3), (12, .iconst 1, 1), (13, .if_icmp .lt 14, 3), (16, .aload_n 0, 1), (17, .invokevirtual 50, 3), (20, .aload_n 0, 1), (21, .getfield 25, 3), (24, .if_icmp .lt 5, 3), (27, .iconst 0, 1), (28, .ireturn, 1), (29, .aload_n 0, 1), (30, .invokevirtual 54, 3), (33, .bipush 8, 2), (35, .if_icmp .eq 16, 3), (38, .aload_n 0, 1), (39, .invokevirtual 54, 3), (42, .aload_n 0, 1), (43, .getfield 15, 3), (46, .if_icmp .lt 5, 3), (49, .iconst 0, 1), (50, .ireturn, 1), (51, .iconst 0, 1), (52, .istore_n 1, 1), (53, .iload_n 1, 1), (54, .aload_n 0, 1), (55, .getfield 25, 3), (58, .if_icmp .ge 23, 3), (61, .aload_n 0, 1), (62, .iload_n 1, 1), (63, .invokevirtual 47, 3), (66, .aload_n 0, 1), (67, .getfield 25, 3), (70, .if_icmp .lt 5, 3), (73, .iconst 0, 1), (74, .ireturn, 1), (75, .iinc 1 1, 3), (78, .goto (-25), 3), (81, .iconst 1, 1), (82, .ireturn, 1)]
set_option maxRecDepth 100000 in
theorem dX8_isWhole : sx_dec prog_10_method_15_code iX8_isWhole = true := by decide +kernel
set_option maxRecDepth 100000 in
theorem vX8_isWhole : sx_mv mX8_isWhole 0 := ⟨⟨sx_a2 226 rfl rfl, sx_a1 7 rfl rfl, nh_X8, by decide +kernel, Nat.le_of_ble_eq_true rfl⟩, sx_a2 224 rfl rfl, sx_a2 225 rfl rfl⟩
abbrev mX9_init : sxM := (⟨"StainStreet$StreetReader", "<init>", "(LStainStreet$Tape;)V"⟩, prog_11_method_1_code, 2, none)
def iX9_init : List (Nat × Instr × Nat) := [(0, .aload_n 0, 1), (1, .invokespecial 3, 3), (4, .aload_n 0, 1), (5, .aload_n 1, 1), (6, .putfield 9, 3), (9, .return_, 1)]
set_option maxRecDepth 100000 in
theorem dX9_init : sx_dec prog_11_method_1_code iX9_init = true := by decide +kernel
set_option maxRecDepth 100000 in
theorem vX9_init : sx_mi mX9_init 1 := ⟨⟨sx_a1 62 rfl rfl, sx_a1 3 rfl rfl, nh_X9, by decide +kernel, Nat.le_of_ble_eq_true rfl⟩, sx_a1 61 rfl rfl, rfl, rfl⟩
abbrev mX9_read : sxM := (⟨"StainStreet$StreetReader", "read", "(LStainStreet$Street;)I"⟩, prog_11_method_2_code, 3, some FieldType.int)
def iX9_read : List (Nat × Instr × Nat) := [(0, .aload_n 1, 1), (1, .invokevirtual 15, 3), (4, .aload_n 0, 1), (5, .getfield 9, 3), (8, .iconst 0, 1), (9, .putfield 20, 3), (12, .iconst 0, 1), (13, .istore_n 2, 1), (14, .iload_n 2, 1), (15, .sipush 240, 3), (18, .if_icmp .gt 68, 3), (21, .aload_n 0, 1), (22, .aload_n 1, 1), (23, .invokevirtual 26, 3), (26, .ifCond .ne 11, 3), (29, .aload_n 0, 1), (30, .getfield 9, 3), (33, .getfield 20, 3), (36, .ireturn, 1), (37, .aload_n 0, 1), (38, .getfield 9, 3), (41, .invokevirtual 30, 3), (44, .iconst (-1), 1), (45, .if_icmp .ne 22, 3), (48, .aload_n 1, 1), (49, .invokevirtual 34, 3), (52, .ifCond .eq 7, 3), (55, .iconst (-1), 1), (56, .goto 10, 3), (59, .aload_n 0, 1), (60, .getfield 9, 3), (63, .getfield 20, 3), (66, .ireturn, 1), (67, .aload_n 0, 1), (68, .getfield 9, 3), (71, .dup, 1), (72, .getfield 20, 3), (75, .iconst 1, 1), (76, .iadd, 1), (77, .putfield 20, 3), (80, .iinc 2 1, 3), (83, .goto (-69), 3), (86, .aload_n 0, 1), (87, .getfield 9, 3), (90, .getfield 20, 3), (93, .ireturn, 1)]
set_option maxRecDepth 100000 in
theorem dX9_read : sx_dec prog_11_method_2_code iX9_read = true := by decide +kernel
set_option maxRecDepth 100000 in
theorem vX9_read : sx_mv mX9_read 1 := ⟨⟨sx_a2 138 rfl rfl, sx_a1 3 rfl rfl, nh_X9, by decide +kernel, Nat.le_of_ble_eq_true rfl⟩, sx_a2 136 rfl rfl, sx_a2 137 rfl rfl⟩
abbrev mX9_readClause : sxM := (⟨"StainStreet$StreetReader", "readClause", "(LStainStreet$Street;)Z"⟩, prog_11_method_3_code, 3, some FieldType.boolean)
def iX9_readClause : List (Nat × Instr × Nat) := [(0, .aload_n 0, 1), (1, .getfield 9, 3), (4, .invokevirtual 30, 3), (7, .istore_n 2, 1), (8, .iload_n 2, 1), (9, .bipush 115, 2), (11, .if_icmp .ne 24, 3), (14, .aload_n 1, 1), (15, .getfield 38, 3), (18, .ifCond .ne 17, 3), (21, .aload_n 1, 1), (22, .iconst 1, 1), (23, .putfield 38, 3), (26, .aload_n 0, 1), (27, .aload_n 1, 1), (28, .iconst 0, 1), (29, .iconst 4, 1), (30, .iconst 0, 1), (31, .invokevirtual 42, 3), (34, .ireturn, 1), (35, .iload_n 2, 1), (36, .bipush 104, 2), (38, .if_icmp .ne 41, 3), (41, .aload_n 1, 1), (42, .getfield 46, 3), (45, .bipush 8, 2), (47, .if_icmp .ge 32, 3), (50, .aload_n 1, 1), (51, .dup, 1), (52, .getfield 46, 3), (55, .iconst 1, 1), (56, .iadd, 1), (57, .putfield 46, 3), (60, .aload_n 0, 1), (61, .aload_n 1, 1), (62, .iconst 4, 1), (63, .bipush 8, 2), (65, .iconst 4, 1), (66, .iconst 4, 1), (67, .aload_n 1, 1), (68, .getfield 46, 3), (71, .iconst 1, 1), (72, .isub, 1), (73, .imul, 1), (74, .iadd, 1), (75, .invokevirtual 42, 3), (78, .ireturn, 1), (79, .iload_n 2, 1), (80, .bipush 102, 2), (82, .if_icmp .ne 43, 3), (85, .aload_n 1, 1), (86, .getfield 49, 3), (89, .bipush 6, 2), (91, .if_icmp .ge 34, 3), (94, .aload_n 1, 1), (95, .dup, 1), (96, .getfield 49, 3), (99, .iconst 1, 1), (100, .iadd, 1), (101, .putfield 49, 3), (104, .aload_n 0, 1), (105, .aload_n 1, 1), (106, .bipush 8, 2), (108, .bipush 10, 2), (110, .bipush 36, 2), (112, .iconst 2, 1), (113, .aload_n 1, 1), (114, .getfield 49, 3), (117, .iconst 1, 1), (118, .isub, 1), (119, .imul, 1), (120, .iadd, 1), (121, .invokevirtual 42, 3), (124, .ireturn, 1), (125, .iconst 0, 1), (126, .ireturn, 1)]
set_option maxRecDepth 100000 in
theorem dX9_readClause : sx_dec prog_11_method_3_code iX9_readClause = true := by decide +kernel
set_option maxRecDepth 100000 in
theorem vX9_readClause : sx_mv mX9_readClause 1 := ⟨⟨sx_a2 156 rfl rfl, sx_a1 3 rfl rfl, nh_X9, by decide +kernel, Nat.le_of_ble_eq_true rfl⟩, sx_a2 155 rfl rfl, sx_pv 0 rfl rfl⟩
abbrev mX9_readItems : sxM := (⟨"StainStreet$StreetReader", "readItems", "(LStainStreet$Street;III)Z"⟩, prog_11_method_4_code, 9, some FieldType.boolean)
def iX9_readItems : List (Nat × Instr × Nat) := [(0, .aload_n 1, 1), (1, .iload_n 2, 1), (2, .iload_n 3, 1), (3, .iload 4, 2), (5, .invokevirtual 52, 3), (8, .aload_n 0, 1), (9, .getfield 9, 3), (12, .dup, 1), (13, .getfield 20, 3), (16, .iconst 1, 1), (17, .iadd, 1), (18, .putfield 20, 3), (21, .iconst 0, 1), (22, .istore 5, 2), (24, .iload_n 2, 1), (25, .istore 6, 2), (27, .iload 6, 2), (29, .iload_n 3, 1), (30, .if_icmp .gt 111, 3), (33, .aload_n 0, 1), (34, .getfield 9, 3), (37, .invokevirtual 30, 3), (40, .istore 7, 2), (42, .iload 7, 2), (44, .iconst (-1), 1), (45, .if_icmp .eq 10, 3), (48, .iload 7, 2), (50, .bipush 59, 2), (52, .if_icmp .ne 5, 3), (55, .iconst 1, 1), (56, .ireturn, 1), (57, .iload 7, 2), (59, .iload_n 2, 1), (60, .iload_n 3, 1), (61, .invokestatic 56, 3), (64, .istore 8, 2), (66, .iload 8, 2), (68, .iconst (-1), 1), (69, .if_icmp .eq 13, 3), (72, .iload 5, 2), (74, .iload 8, 2), (76, .ishr, 1), (77, .iconst 1, 1), (78, .iand, 1), (79, .ifCond .eq 5, 3), (82, .iconst 0, 1), (83, .ireturn, 1), (84, .iload 5, 2), (86, .iconst 1, 1), (87, .iload 8, 2), (89, .ishl, 1), (90, .ior, 1), (91, .istore 5, 2), (93, .aload_n 0, 1), (94, .getfield 9, 3), (97, .dup, 1), (98, .getfield 20, 3), (101, .iconst 1, 1), (102, .iadd, 1), (103, .putfield 20, 3), (106, .aload_n 0, 1), (107, .iload 8, 2), (109, .invokevirtual 60, 3), (112, .ifCond .ne 5, 3), (115, .iconst 0, 1), (116, .ireturn, 1), (117, .aload_n 1, 1), (118, .iload 4, 2), (120, .iload 8, 2), (122, .iadd, 1), (123, .iload_n 2, 1), (124, .isub, 1), (125, .aload_n 0, 1), (126, .getfield 9, 3), (129, .getfield 64, 3), (132, .invokevirtual 67, 3), (135, .iinc 6 1, 3), (138, .goto (-111), 3), (141, .iconst 0, 1), (142, .ireturn, 1)]
set_option maxRecDepth 100000 in
theorem dX9_readItems : sx_dec prog_11_method_4_code iX9_readItems = true := by decide +kernel
set_option maxRecDepth 100000 in
theorem vX9_readItems : sx_mv mX9_readItems 4 := ⟨⟨sx_a2 164 rfl rfl, sx_a1 3 rfl rfl, nh_X9, by decide +kernel, Nat.le_of_ble_eq_true rfl⟩, sx_a2 163 rfl rfl, sx_pv 1 rfl rfl⟩
abbrev mX9_readBounded : sxM := (⟨"StainStreet$StreetReader", "readBounded", "(I)Z"⟩, prog_11_method_5_code, 2, some FieldType.boolean)
def iX9_readBounded : List (Nat × Instr × Nat) := [(0, .iload_n 1, 1), (1, .ifCond .lt 31, 3), (4, .iload_n 1, 1), (5, .bipush 10, 2), (7, .if_icmp .ge 25, 3), (10, .aload_n 0, 1), (11, .getfield 9, 3), (14, .invokevirtual 30, 3), (17, .iconst (-1), 1), (18, .if_icmp .eq 14, 3), (21, .aload_n 0, 1), (22, .getfield 9, 3), (25, .iconst 2, 1), (26, .invokevirtual 71, 3), (29, .ifCond .ne 5, 3), (32, .iconst 0, 1), (33, .ireturn, 1), (34, .aload_n 0, 1), (35, .getfield 9, 3), (38, .getfield 64, 3), (41, .getstatic 74, 3), (44, .iload_n 1, 1), (45, .iaload, 1), (46, .if_icmp .lt 18, 3), (49, .aload_n 0, 1), (50, .getfield 9, 3), (53, .getfield 64, 3), (56, .getstatic 78, 3), (59, .iload_n 1, 1), (60, .iaload, 1), (61, .if_icmp .le 18, 3), (64, .aload_n 0, 1), (65, .getfield 9, 3), (68, .dup, 1), (69, .getfield 20, 3), (72, .iconst 1, 1), (73, .isub, 1), (74, .putfield 20, 3), (77, .iconst 0, 1), (78, .ireturn, 1), (79, .iconst 1, 1), (80, .ireturn, 1)]
set_option maxRecDepth 100000 in
theorem dX9_readBounded : sx_dec prog_11_method_5_code iX9_readBounded = true := by decide +kernel
set_option maxRecDepth 100000 in
theorem vX9_readBounded : sx_mv mX9_readBounded 1 := ⟨⟨sx_a2 213 rfl rfl, sx_a1 3 rfl rfl, nh_X9, by decide +kernel, Nat.le_of_ble_eq_true rfl⟩, sx_a2 212 rfl rfl, sx_pv 2 rfl rfl⟩
abbrev mX9_itemOf : sxM := (⟨"StainStreet$StreetReader", "itemOf", "(III)I"⟩, prog_11_method_6_code, 4, some FieldType.int)
def iX9_itemOf : List (Nat × Instr × Nat) := [(0, .iload_n 1, 1), (1, .istore_n 3, 1), (2, .iload_n 3, 1), (3, .iload_n 2, 1), (4, .if_icmp .ge 27, 3), (7, .iload_n 3, 1), (8, .bipush 10, 2), (10, .if_icmp .ge 21, 3), (13, .ldc 81, 2), (15, .iload_n 3, 1), (16, .invokevirtual 83, 3), (19, .iload_n 0, 1), (20, .if_icmp .ne 5, 3), (23, .iload_n 3, 1), (24, .ireturn, 1), (25, .iinc 3 1, 3), (28, .goto (-26), 3), (31, .iconst (-1), 1), (32, .ireturn, 1)]
set_option maxRecDepth 100000 in
theorem dX9_itemOf : sx_dec prog_11_method_6_code iX9_itemOf = true := by decide +kernel
set_option maxRecDepth 100000 in
theorem vX9_itemOf : sx_ms mX9_itemOf 3 := ⟨⟨sx_a2 168 rfl rfl, sx_a1 3 rfl rfl, nh_X9, by decide +kernel, Nat.le_of_ble_eq_true rfl⟩, sx_a2 167 rfl rfl⟩
abbrev mX10_init : sxM := (⟨"StainStreet$Tape", "<init>", "()V"⟩, prog_12_method_1_code, 1, none)
def iX10_init : List (Nat × Instr × Nat) := [(0, .aload_n 0, 1), (1, .invokespecial 3, 3), (4, .aload_n 0, 1), (5, .sipush 240, 3), (8, .newarray .int, 2), (10, .putfield 9, 3), (13, .return_, 1)]
set_option maxRecDepth 100000 in
theorem dX10_init : sx_dec prog_12_method_1_code iX10_init = true := by decide +kernel
set_option maxRecDepth 100000 in
theorem vX10_init : sx_mi mX10_init 0 := ⟨⟨sx_a1 37 rfl rfl, sx_a1 2 rfl rfl, nh_X10, by decide +kernel, Nat.le_of_ble_eq_true rfl⟩, sx_a1 36 rfl rfl, rfl, rfl⟩
abbrev mX10_signsIn : sxM := (⟨"StainStreet$Tape", "signsIn", "(I)I"⟩, prog_12_method_2_code, 3, some FieldType.int)
def iX10_signsIn : List (Nat × Instr × Nat) := [(0, .iconst 0, 1), (1, .istore_n 1, 1), (2, .bipush 24, 2), (4, .istore_n 2, 1), (5, .iload_n 2, 1), (6, .ifCond .lt 22, 3), (9, .iload_n 0, 1), (10, .iload_n 2, 1), (11, .iushr, 1), (12, .sipush 255, 3), (15, .iand, 1), (16, .ifCond .eq 6, 3), (19, .iinc 1 1, 3), (22, .iinc 2 (-8), 3), (25, .goto (-20), 3), (28, .iload_n 1, 1), (29, .ireturn, 1)]
set_option maxRecDepth 100000 in
theorem dX10_signsIn : sx_dec prog_12_method_2_code iX10_signsIn = true := by decide +kernel
set_option maxRecDepth 100000 in
theorem vX10_signsIn : sx_ms mX10_signsIn 1 := ⟨⟨sx_a2 122 rfl rfl, sx_a1 2 rfl rfl, nh_X10, by decide +kernel, Nat.le_of_ble_eq_true rfl⟩, sx_a2 121 rfl rfl⟩
abbrev mX10_add : sxM := (⟨"StainStreet$Tape", "add", "(I)V"⟩, prog_12_method_3_code, 4, none)
def iX10_add : List (Nat × Instr × Nat) := [(0, .bipush 24, 2), (2, .istore_n 2, 1), (3, .iload_n 2, 1), (4, .ifCond .lt 51, 3), (7, .iload_n 1, 1), (8, .iload_n 2, 1), (9, .iushr, 1), (10, .sipush 255, 3), (13, .iand, 1), (14, .istore_n 3, 1), (15, .iload_n 3, 1), (16, .ifCond .eq 33, 3), (19, .aload_n 0, 1), (20, .getfield 15, 3), (23, .sipush 240, 3), (26, .if_icmp .ge 23, 3), (29, .aload_n 0, 1), (30, .getfield 9, 3), (33, .aload_n 0, 1), (34, .getfield 15, 3), (37, .iload_n 3, 1), (38, .iastore, 1), (39, .aload_n 0, 1), (40, .dup, 1), (41, .getfield 15, 3), (44, .iconst 1, 1), (45, .iadd, 1), (46, .putfield 15, 3), (49, .iinc 2 (-8), 3), (52, .goto (-49), 3), (55, .return_, 1)]
set_option maxRecDepth 100000 in
theorem dX10_add : sx_dec prog_12_method_3_code iX10_add = true := by decide +kernel
set_option maxRecDepth 100000 in
theorem vX10_add : sx_mv mX10_add 1 := ⟨⟨sx_a2 126 rfl rfl, sx_a1 2 rfl rfl, nh_X10, by decide +kernel, Nat.le_of_ble_eq_true rfl⟩, sx_a2 124 rfl rfl, sx_a2 125 rfl rfl⟩
abbrev mX10_sign : sxM := (⟨"StainStreet$Tape", "sign", "()I"⟩, prog_12_method_4_code, 1, some FieldType.int)
def iX10_sign : List (Nat × Instr × Nat) := [(0, .aload_n 0, 1), (1, .getfield 19, 3), (4, .aload_n 0, 1), (5, .getfield 15, 3), (8, .if_icmp .ge 40, 3), (11, .aload_n 0, 1), (12, .getfield 19, 3), (15, .sipush 240, 3), (18, .if_icmp .ge 30, 3), (21, .aload_n 0, 1), (22, .getfield 9, 3), (25, .aload_n 0, 1), (26, .getfield 19, 3), (29, .iaload, 1), (30, .bipush 32, 2), (32, .if_icmp .ne 16, 3), (35, .aload_n 0, 1), (36, .dup, 1), (37, .getfield 19, 3), (40, .iconst 1, 1), (41, .iadd, 1), (42, .putfield 19, 3), (45, .goto (-45), 3), (48, .aload_n 0, 1), (49, .getfield 19, 3), (52, .ifCond .lt 36, 3), (55, .aload_n 0, 1), (56, .getfield 19, 3), (59, .aload_n 0, 1), (60, .getfield 15, 3), (63, .if_icmp .ge 25, 3), (66, .aload_n 0, 1), (67, .getfield 19, 3), (70, .sipush 240, 3), (73, .if_icmp .ge 15, 3), (76, .aload_n 0, 1), (77, .getfield 9, 3), (80, .aload_n 0, 1), (81, .getfield 19, 3), (84, .iaload, 1), (85, .goto 4, 3), (88, .iconst (-1), 1), (89, .ireturn, 1)]
set_option maxRecDepth 100000 in
theorem dX10_sign : sx_dec prog_12_method_4_code iX10_sign = true := by decide +kernel
set_option maxRecDepth 100000 in
theorem vX10_sign : sx_mv mX10_sign 0 := ⟨⟨sx_a2 160 rfl rfl, sx_a1 2 rfl rfl, nh_X10, by decide +kernel, Nat.le_of_ble_eq_true rfl⟩, sx_a2 158 rfl rfl, sx_a2 159 rfl rfl⟩
abbrev mX10_readNumber : sxM := (⟨"StainStreet$Tape", "readNumber", "(I)Z"⟩, prog_12_method_5_code, 3, some FieldType.boolean)
def iX10_readNumber : List (Nat × Instr × Nat) := [(0, .aload_n 0, 1), (1, .iconst 0, 1), (2, .putfield 22, 3), (5, .iconst 0, 1), (6, .istore_n 2, 1), (7, .aload_n 0, 1), (8, .getfield 19, 3), (11, .aload_n 0, 1), (12, .getfield 15, 3), (15, .if_icmp .ge 88, 3), (18, .aload_n 0, 1), (19, .getfield 19, 3), (22, .sipush 240, 3), (25, .if_icmp .ge 78, 3), (28, .aload_n 0, 1), (29, .getfield 9, 3), (32, .aload_n 0, 1), (33, .getfield 19, 3), (36, .iaload, 1), (37, .bipush 48, 2), (39, .if_icmp .lt 64, 3), (42, .aload_n 0, 1), (43, .getfield 9, 3), (46, .aload_n 0, 1), (47, .getfield 19, 3), (50, .iaload, 1), (51, .bipush 57, 2), (53, .if_icmp .gt 50, 3), (56, .iload_n 2, 1), (57, .iload_n 1, 1), (58, .if_icmp .ne 5, 3), (61, .iconst 0, 1), (62, .ireturn, 1), (63, .aload_n 0, 1), (64, .aload_n 0, 1), (65, .getfield 22, 3), (68, .bipush 10, 2), (70, .imul, 1), (71, .aload_n 0, 1), (72, .getfield 9, 3), (75, .aload_n 0, 1), (76, .getfield 19, 3), (79, .iaload, 1), (80, .iadd, 1), (81, .bipush 48, 2), (83, .isub, 1), (84, .putfield 22, 3), (87, .iinc 2 1, 3), (90, .aload_n 0, 1), (91, .dup, 1), (92, .getfield 19, 3), (95, .iconst 1, 1), (96, .iadd, 1), (97, .putfield 19, 3), (100, .goto (-93), 3), (103, .iload_n 2, 1), (104, .ifCond .le 7, 3), (107, .iconst 1, 1), (108, .goto 4, 3), (111, .iconst 0, 1), (112, .ireturn, 1)]
set_option maxRecDepth 100000 in
theorem dX10_readNumber : sx_dec prog_12_method_5_code iX10_readNumber = true := by decide +kernel
set_option maxRecDepth 100000 in
theorem vX10_readNumber : sx_mv mX10_readNumber 1 := ⟨⟨sx_a2 217 rfl rfl, sx_a1 2 rfl rfl, nh_X10, by decide +kernel, Nat.le_of_ble_eq_true rfl⟩, sx_a2 215 rfl rfl, sx_a2 216 rfl rfl⟩
set_option maxRecDepth 100000 in
theorem lX0_1 : sx_ml "StainStreet$Image" 1 ⟨"java/lang/Object", "<init>", "()V"⟩ := Or.inl (sx_a2 18 rfl rfl)
set_option maxRecDepth 100000 in
theorem nX0_7 : sx_w (.classLink "StainStreet$Image" 7 "StainStreet$Log") := sx_a2 19 rfl rfl
set_option maxRecDepth 100000 in
theorem lX0_9 : sx_ml "StainStreet$Image" 9 ⟨"StainStreet$Log", "<init>", "()V"⟩ := Or.inr ⟨"StainStreet", sx_a2 20 rfl rfl⟩
set_option maxRecDepth 100000 in
theorem fX0_10 : sx_fl "StainStreet$Image" 10 0 1 := ⟨⟨by decide +kernel, by decide +kernel⟩, Or.inl (sx_a2 24 rfl rfl)⟩
set_option maxRecDepth 100000 in
theorem nX0_16 : sx_w (.classLink "StainStreet$Image" 16 "StainStreet$State") := sx_a2 21 rfl rfl
set_option maxRecDepth 100000 in
theorem lX0_18 : sx_ml "StainStreet$Image" 18 ⟨"StainStreet$State", "<init>", "(LStainStreet$Street;)V"⟩ := Or.inl (sx_a2 22 rfl rfl)
set_option maxRecDepth 100000 in
theorem fX0_21 : sx_fl "StainStreet$Image" 21 0 0 := ⟨⟨by decide +kernel, by decide +kernel⟩, Or.inl (sx_a2 23 rfl rfl)⟩
set_option maxRecDepth 100000 in
theorem lX0_25 : sx_ml "StainStreet$Image" 25 ⟨"StainStreet$State", "copyFrom", "(LStainStreet$State;)V"⟩ := Or.inl (sx_a4 60 rfl rfl)
set_option maxRecDepth 100000 in
theorem lX0_29 : sx_ml "StainStreet$Image" 29 ⟨"StainStreet$Log", "copyFrom", "(LStainStreet$Log;)V"⟩ := Or.inl (sx_a4 61 rfl rfl)
set_option maxRecDepth 100000 in
theorem fX0_32 : sx_fl "StainStreet$Image" 32 0 2 := ⟨⟨by decide +kernel, by decide +kernel⟩, Or.inl (sx_a2 25 rfl rfl)⟩
set_option maxRecDepth 100000 in
theorem lX1_3 : sx_ml "StainStreet$Law" 3 ⟨"java/lang/Object", "<init>", "()V"⟩ := Or.inl (sx_a1 80 rfl rfl)
set_option maxRecDepth 100000 in
theorem fX1_9 : sx_fl "StainStreet$Law" 9 1 2 := ⟨⟨by decide +kernel, by decide +kernel⟩, Or.inl (sx_a1 83 rfl rfl)⟩
set_option maxRecDepth 100000 in
theorem fX1_15 : sx_fl "StainStreet$Law" 15 1 3 := ⟨⟨by decide +kernel, by decide +kernel⟩, Or.inl (sx_a1 84 rfl rfl)⟩
set_option maxRecDepth 100000 in
theorem fX1_18 : sx_fl "StainStreet$Law" 18 1 4 := ⟨⟨by decide +kernel, by decide +kernel⟩, Or.inl (sx_a1 85 rfl rfl)⟩
set_option maxRecDepth 100000 in
theorem fX1_21 : sx_fl "StainStreet$Law" 21 1 5 := ⟨⟨by decide +kernel, by decide +kernel⟩, Or.inl (sx_a1 86 rfl rfl)⟩
set_option maxRecDepth 100000 in
theorem fX1_24 : sx_fl "StainStreet$Law" 24 1 6 := ⟨⟨by decide +kernel, by decide +kernel⟩, Or.inl (sx_a1 87 rfl rfl)⟩
set_option maxRecDepth 100000 in
theorem fX1_27 : sx_fl "StainStreet$Law" 27 1 0 := ⟨⟨by decide +kernel, by decide +kernel⟩, Or.inl (sx_a1 81 rfl rfl)⟩
set_option maxRecDepth 100000 in
theorem fX1_31 : sx_fl "StainStreet$Law" 31 1 1 := ⟨⟨by decide +kernel, by decide +kernel⟩, Or.inl (sx_a1 82 rfl rfl)⟩
set_option maxRecDepth 100000 in
theorem lX1_34 : sx_ml "StainStreet$Law" 34 ⟨"StainStreet$Law", "reckon", "(II)I"⟩ := Or.inl (sx_a4 7 rfl rfl)
set_option maxRecDepth 100000 in
theorem lX1_38 : sx_ml "StainStreet$Law" 38 ⟨"java/lang/Math", "max", "(II)I"⟩ := Or.inl (sx_a4 11 rfl rfl)
set_option maxRecDepth 100000 in
theorem lX1_43 : sx_ml "StainStreet$Law" 43 ⟨"StainStreet$Law", "joined", "(III)I"⟩ := Or.inl (sx_a4 12 rfl rfl)
set_option maxRecDepth 100000 in
theorem kX1_47 : sx_w (.constantLong "StainStreet$Law" 47 (1000000 : Int64)) := sx_a4 15 rfl rfl
set_option maxRecDepth 100000 in
theorem kX1_49 : sx_w (.constant "StainStreet$Law" 49 (1000000 : Int32)) := sx_a4 16 rfl rfl
set_option maxRecDepth 100000 in
theorem kX1_50 : sx_w (.constantLong "StainStreet$Law" 50 (-1000000 : Int64)) := sx_a4 17 rfl rfl
set_option maxRecDepth 100000 in
theorem kX1_52 : sx_w (.constant "StainStreet$Law" 52 (-1000000 : Int32)) := sx_a4 18 rfl rfl
set_option maxRecDepth 100000 in
theorem lX2_3 : sx_ml "StainStreet$LawBook" 3 ⟨"java/lang/Object", "<init>", "()V"⟩ := Or.inl (sx_a1 73 rfl rfl)
set_option maxRecDepth 100000 in
theorem nX2_9 : sx_w (.classLink "StainStreet$LawBook" 9 "StainStreet$Law") := sx_a1 74 rfl rfl
set_option maxRecDepth 100000 in
theorem fX2_11 : sx_fl "StainStreet$LawBook" 11 2 0 := ⟨⟨by decide +kernel, by decide +kernel⟩, Or.inl (sx_a1 103 rfl rfl)⟩
set_option maxRecDepth 100000 in
theorem fX2_17 : sx_fl "StainStreet$LawBook" 17 2 2 := ⟨⟨by decide +kernel, by decide +kernel⟩, Or.inl (sx_a1 106 rfl rfl)⟩
set_option maxRecDepth 100000 in
theorem lX2_21 : sx_ml "StainStreet$LawBook" 21 ⟨"StainStreet$Law", "<init>", "()V"⟩ := Or.inr ⟨"StainStreet", sx_a1 77 rfl rfl⟩
set_option maxRecDepth 100000 in
theorem fX2_22 : sx_fl "StainStreet$LawBook" 22 2 1 := ⟨⟨by decide +kernel, by decide +kernel⟩, Or.inl (sx_a1 104 rfl rfl)⟩
set_option maxRecDepth 100000 in
theorem lX3_3 : sx_ml "StainStreet$LawReader" 3 ⟨"java/lang/Object", "<init>", "()V"⟩ := Or.inl (sx_a1 124 rfl rfl)
set_option maxRecDepth 100000 in
theorem fX3_9 : sx_fl "StainStreet$LawReader" 9 3 0 := ⟨⟨by decide +kernel, by decide +kernel⟩, Or.inl (sx_a1 125 rfl rfl)⟩
set_option maxRecDepth 100000 in
theorem fX3_15 : sx_fl "StainStreet$LawReader" 15 3 1 := ⟨⟨by decide +kernel, by decide +kernel⟩, Or.inl (sx_a1 126 rfl rfl)⟩
set_option maxRecDepth 100000 in
theorem lX3_19 : sx_ml "StainStreet$LawReader" 19 ⟨"StainStreet$Law", "clear", "()V"⟩ := Or.inl (sx_a3 7 rfl rfl)
set_option maxRecDepth 100000 in
theorem fX3_24 : sx_fl "StainStreet$LawReader" 24 10 2 := ⟨⟨by decide +kernel, by decide +kernel⟩, Or.inr ⟨"StainStreet", sx_a1 43 rfl rfl⟩⟩
set_option maxRecDepth 100000 in
theorem lX3_30 : sx_ml "StainStreet$LawReader" 30 ⟨"StainStreet$LawReader", "readClause", "()Z"⟩ := Or.inl (sx_a3 11 rfl rfl)
set_option maxRecDepth 100000 in
theorem lX3_34 : sx_ml "StainStreet$LawReader" 34 ⟨"StainStreet$Tape", "sign", "()I"⟩ := Or.inl (sx_a3 15 rfl rfl)
set_option maxRecDepth 100000 in
theorem lX3_38 : sx_ml "StainStreet$LawReader" 38 ⟨"StainStreet$Law", "openClause", "()V"⟩ := Or.inl (sx_a3 16 rfl rfl)
set_option maxRecDepth 100000 in
theorem lX3_41 : sx_ml "StainStreet$LawReader" 41 ⟨"StainStreet$LawReader", "readSum", "(I)Z"⟩ := Or.inl (sx_a3 20 rfl rfl)
set_option maxRecDepth 100000 in
theorem lX3_45 : sx_ml "StainStreet$LawReader" 45 ⟨"StainStreet$LawReader", "isComparing", "(I)Z"⟩ := Or.inl (sx_a3 43 rfl rfl)
set_option maxRecDepth 100000 in
theorem lX3_48 : sx_ml "StainStreet$LawReader" 48 ⟨"StainStreet$LawReader", "readCondition", "(IZ)Z"⟩ := Or.inl (sx_a3 46 rfl rfl)
set_option maxRecDepth 100000 in
theorem lX3_52 : sx_ml "StainStreet$LawReader" 52 ⟨"StainStreet$Law", "closeCondition", "()V"⟩ := Or.inl (sx_a3 58 rfl rfl)
set_option maxRecDepth 100000 in
theorem lX3_55 : sx_ml "StainStreet$LawReader" 55 ⟨"StainStreet$LawReader", "readUnit", "(IZ)Z"⟩ := Or.inl (sx_a3 50 rfl rfl)
set_option maxRecDepth 100000 in
theorem lX3_58 : sx_ml "StainStreet$LawReader" 58 ⟨"StainStreet$Law", "add", "(I)V"⟩ := Or.inl (sx_a3 38 rfl rfl)
set_option maxRecDepth 100000 in
theorem lX3_62 : sx_ml "StainStreet$LawReader" 62 ⟨"StainStreet$LawReader", "readOpened", "(II)Z"⟩ := Or.inl (sx_a3 54 rfl rfl)
set_option maxRecDepth 100000 in
theorem lX3_66 : sx_ml "StainStreet$LawReader" 66 ⟨"StainStreet$LawReader", "readAtom", "(I)Z"⟩ := Or.inl (sx_a3 24 rfl rfl)
-- other: StainStreet$LawReader 69 ('s', None, 508, 'mwgptd')
set_option maxRecDepth 100000 in
theorem lX3_71 : sx_ml "StainStreet$LawReader" 71 ⟨"java/lang/String", "length", "()I"⟩ := Or.inl (sx_a3 29 rfl rfl)
set_option maxRecDepth 100000 in
theorem lX3_76 : sx_ml "StainStreet$LawReader" 76 ⟨"java/lang/String", "charAt", "(I)C"⟩ := Or.inl (sx_a3 37 rfl rfl)
set_option maxRecDepth 100000 in
theorem lX3_80 : sx_ml "StainStreet$LawReader" 80 ⟨"StainStreet$Tape", "readNumber", "(I)Z"⟩ := Or.inl (sx_a3 42 rfl rfl)
set_option maxRecDepth 100000 in
theorem fX3_83 : sx_fl "StainStreet$LawReader" 83 10 3 := ⟨⟨by decide +kernel, by decide +kernel⟩, Or.inr ⟨"StainStreet", sx_a1 47 rfl rfl⟩⟩
set_option maxRecDepth 100000 in
theorem lX4_3 : sx_ml "StainStreet$Log" 3 ⟨"java/lang/Object", "<init>", "()V"⟩ := Or.inl (sx_a1 222 rfl rfl)
set_option maxRecDepth 100000 in
theorem fX4_9 : sx_fl "StainStreet$Log" 9 4 0 := ⟨⟨by decide +kernel, by decide +kernel⟩, Or.inl (sx_a1 223 rfl rfl)⟩
set_option maxRecDepth 100000 in
theorem fX4_15 : sx_fl "StainStreet$Log" 15 4 1 := ⟨⟨by decide +kernel, by decide +kernel⟩, Or.inl (sx_a1 224 rfl rfl)⟩
set_option maxRecDepth 100000 in
theorem fX4_18 : sx_fl "StainStreet$Log" 18 4 2 := ⟨⟨by decide +kernel, by decide +kernel⟩, Or.inl (sx_a1 225 rfl rfl)⟩
set_option maxRecDepth 100000 in
theorem fX4_21 : sx_fl "StainStreet$Log" 21 7 12 := ⟨⟨by decide +kernel, by decide +kernel⟩, Or.inr ⟨"StainStreet", sx_a1 188 rfl rfl⟩⟩
set_option maxRecDepth 100000 in
theorem lX4_27 : sx_ml "StainStreet$Log" 27 ⟨"StainStreet$Log", "slot", "(I)I"⟩ := Or.inl (sx_a3 142 rfl rfl)
set_option maxRecDepth 100000 in
theorem fX4_31 : sx_fl "StainStreet$Log" 31 7 11 := ⟨⟨by decide +kernel, by decide +kernel⟩, Or.inr ⟨"StainStreet", sx_a1 185 rfl rfl⟩⟩
set_option maxRecDepth 100000 in
theorem fX4_34 : sx_fl "StainStreet$Log" 34 7 9 := ⟨⟨by decide +kernel, by decide +kernel⟩, Or.inr ⟨"StainStreet", sx_a1 179 rfl rfl⟩⟩
set_option maxRecDepth 100000 in
theorem fX4_37 : sx_fl "StainStreet$Log" 37 7 10 := ⟨⟨by decide +kernel, by decide +kernel⟩, Or.inr ⟨"StainStreet", sx_a1 182 rfl rfl⟩⟩
set_option maxRecDepth 100000 in
theorem lX4_40 : sx_ml "StainStreet$Log" 40 ⟨"java/lang/System", "arraycopy", "(Ljava/lang/Object;ILjava/lang/Object;II)V"⟩ := Or.inl (sx_a4 65 rfl rfl)
set_option maxRecDepth 100000 in
theorem lX5_3 : sx_ml "StainStreet$Notes" 3 ⟨"java/lang/Object", "<init>", "()V"⟩ := Or.inl (sx_a2 39 rfl rfl)
set_option maxRecDepth 100000 in
theorem fX5_9 : sx_fl "StainStreet$Notes" 9 5 0 := ⟨⟨by decide +kernel, by decide +kernel⟩, Or.inl (sx_a2 40 rfl rfl)⟩
set_option maxRecDepth 100000 in
theorem fX5_15 : sx_fl "StainStreet$Notes" 15 5 1 := ⟨⟨by decide +kernel, by decide +kernel⟩, Or.inl (sx_a2 42 rfl rfl)⟩
set_option maxRecDepth 100000 in
theorem fX5_18 : sx_fl "StainStreet$Notes" 18 5 2 := ⟨⟨by decide +kernel, by decide +kernel⟩, Or.inl (sx_a2 44 rfl rfl)⟩
set_option maxRecDepth 100000 in
theorem fX5_22 : sx_fl "StainStreet$Notes" 22 5 3 := ⟨⟨by decide +kernel, by decide +kernel⟩, Or.inl (sx_a2 46 rfl rfl)⟩
set_option maxRecDepth 100000 in
theorem lX6_3 : sx_ml "StainStreet$Past" 3 ⟨"java/lang/Object", "<init>", "()V"⟩ := Or.inl (sx_a1 238 rfl rfl)
set_option maxRecDepth 100000 in
theorem nX6_9 : sx_w (.classLink "StainStreet$Past" 9 "StainStreet$State") := sx_a1 239 rfl rfl
set_option maxRecDepth 100000 in
theorem fX6_11 : sx_fl "StainStreet$Past" 11 6 0 := ⟨⟨by decide +kernel, by decide +kernel⟩, Or.inl (sx_a2 2 rfl rfl)⟩
set_option maxRecDepth 100000 in
theorem lX6_17 : sx_ml "StainStreet$Past" 17 ⟨"StainStreet$State", "<init>", "(LStainStreet$Street;)V"⟩ := Or.inl (sx_a2 1 rfl rfl)
set_option maxRecDepth 100000 in
theorem fX6_20 : sx_fl "StainStreet$Past" 20 6 1 := ⟨⟨by decide +kernel, by decide +kernel⟩, Or.inl (sx_a2 3 rfl rfl)⟩
set_option maxRecDepth 100000 in
theorem lX6_24 : sx_ml "StainStreet$Past" 24 ⟨"StainStreet$State", "copyFrom", "(LStainStreet$State;)V"⟩ := Or.inl (sx_a3 173 rfl rfl)
set_option maxRecDepth 100000 in
theorem fX6_28 : sx_fl "StainStreet$Past" 28 6 2 := ⟨⟨by decide +kernel, by decide +kernel⟩, Or.inl (sx_a2 4 rfl rfl)⟩
set_option maxRecDepth 100000 in
theorem lX6_31 : sx_ml "StainStreet$Past" 31 ⟨"java/lang/Math", "min", "(II)I"⟩ := Or.inl (sx_a3 180 rfl rfl)
set_option maxRecDepth 100000 in
theorem lX7_3 : sx_ml "StainStreet$State" 3 ⟨"java/lang/Object", "<init>", "()V"⟩ := Or.inl (sx_a1 161 rfl rfl)
set_option maxRecDepth 100000 in
theorem fX7_9 : sx_fl "StainStreet$State" 9 7 1 := ⟨⟨by decide +kernel, by decide +kernel⟩, Or.inl (sx_a1 163 rfl rfl)⟩
set_option maxRecDepth 100000 in
theorem fX7_15 : sx_fl "StainStreet$State" 15 7 2 := ⟨⟨by decide +kernel, by decide +kernel⟩, Or.inl (sx_a1 164 rfl rfl)⟩
set_option maxRecDepth 100000 in
theorem fX7_18 : sx_fl "StainStreet$State" 18 7 3 := ⟨⟨by decide +kernel, by decide +kernel⟩, Or.inl (sx_a1 166 rfl rfl)⟩
set_option maxRecDepth 100000 in
theorem fX7_21 : sx_fl "StainStreet$State" 21 7 4 := ⟨⟨by decide +kernel, by decide +kernel⟩, Or.inl (sx_a1 168 rfl rfl)⟩
set_option maxRecDepth 100000 in
theorem fX7_24 : sx_fl "StainStreet$State" 24 7 5 := ⟨⟨by decide +kernel, by decide +kernel⟩, Or.inl (sx_a1 170 rfl rfl)⟩
set_option maxRecDepth 100000 in
theorem fX7_27 : sx_fl "StainStreet$State" 27 7 6 := ⟨⟨by decide +kernel, by decide +kernel⟩, Or.inl (sx_a1 172 rfl rfl)⟩
set_option maxRecDepth 100000 in
theorem fX7_30 : sx_fl "StainStreet$State" 30 7 9 := ⟨⟨by decide +kernel, by decide +kernel⟩, Or.inl (sx_a1 178 rfl rfl)⟩
set_option maxRecDepth 100000 in
theorem fX7_34 : sx_fl "StainStreet$State" 34 7 0 := ⟨⟨by decide +kernel, by decide +kernel⟩, Or.inl (sx_a1 162 rfl rfl)⟩
set_option maxRecDepth 100000 in
theorem lX7_38 : sx_ml "StainStreet$State" 38 ⟨"StainStreet$Street", "ofHouse", "(II)I"⟩ := Or.inl (sx_a3 75 rfl rfl)
set_option maxRecDepth 100000 in
theorem fX7_44 : sx_fl "StainStreet$State" 44 7 7 := ⟨⟨by decide +kernel, by decide +kernel⟩, Or.inl (sx_a1 174 rfl rfl)⟩
set_option maxRecDepth 100000 in
theorem lX7_47 : sx_ml "StainStreet$State" 47 ⟨"StainStreet$Street", "firstCoins", "()I"⟩ := Or.inl (sx_a3 79 rfl rfl)
set_option maxRecDepth 100000 in
theorem fX7_51 : sx_fl "StainStreet$State" 51 7 8 := ⟨⟨by decide +kernel, by decide +kernel⟩, Or.inl (sx_a1 176 rfl rfl)⟩
set_option maxRecDepth 100000 in
theorem lX7_54 : sx_ml "StainStreet$State" 54 ⟨"StainStreet$Street", "firstHouse", "()I"⟩ := Or.inl (sx_a3 83 rfl rfl)
set_option maxRecDepth 100000 in
theorem lX7_57 : sx_ml "StainStreet$State" 57 ⟨"StainStreet$Street", "firstForm", "()I"⟩ := Or.inl (sx_a3 84 rfl rfl)
set_option maxRecDepth 100000 in
theorem fX7_60 : sx_fl "StainStreet$State" 60 7 10 := ⟨⟨by decide +kernel, by decide +kernel⟩, Or.inl (sx_a1 181 rfl rfl)⟩
set_option maxRecDepth 100000 in
theorem fX7_63 : sx_fl "StainStreet$State" 63 7 11 := ⟨⟨by decide +kernel, by decide +kernel⟩, Or.inl (sx_a1 184 rfl rfl)⟩
set_option maxRecDepth 100000 in
theorem fX7_66 : sx_fl "StainStreet$State" 66 7 12 := ⟨⟨by decide +kernel, by decide +kernel⟩, Or.inl (sx_a1 187 rfl rfl)⟩
set_option maxRecDepth 100000 in
theorem lX7_69 : sx_ml "StainStreet$State" 69 ⟨"java/lang/System", "arraycopy", "(Ljava/lang/Object;ILjava/lang/Object;II)V"⟩ := Or.inl (sx_a3 177 rfl rfl)
set_option maxRecDepth 100000 in
theorem lX7_75 : sx_ml "StainStreet$State" 75 ⟨"java/lang/Math", "min", "(II)I"⟩ := Or.inl (sx_a4 19 rfl rfl)
set_option maxRecDepth 100000 in
theorem lX7_80 : sx_ml "StainStreet$State" 80 ⟨"StainStreet$State", "hasPiano", "(I)Z"⟩ := Or.inl (sx_a3 238 rfl rfl)
set_option maxRecDepth 100000 in
theorem lX7_84 : sx_ml "StainStreet$State" 84 ⟨"java/lang/Math", "abs", "(I)I"⟩ := Or.inl (sx_a3 239 rfl rfl)
set_option maxRecDepth 100000 in
theorem lX7_88 : sx_ml "StainStreet$State" 88 ⟨"StainStreet$Street", "sizeOf", "(I)I"⟩ := Or.inl (sx_a4 2 rfl rfl)
set_option maxRecDepth 100000 in
theorem lX7_91 : sx_ml "StainStreet$State" 91 ⟨"StainStreet$Law", "worth", "(IIIIII)I"⟩ := Or.inl (sx_a4 3 rfl rfl)
set_option maxRecDepth 100000 in
theorem lX7_97 : sx_ml "StainStreet$State" 97 ⟨"java/lang/Math", "max", "(II)I"⟩ := Or.inl (sx_a4 20 rfl rfl)
set_option maxRecDepth 100000 in
theorem lX7_100 : sx_ml "StainStreet$State" 100 ⟨"StainStreet$Street", "houseCount", "()I"⟩ := Or.inl (sx_a3 224 rfl rfl)
set_option maxRecDepth 100000 in
theorem lX7_103 : sx_ml "StainStreet$State" 103 ⟨"StainStreet$State", "minded", "(ILStainStreet$Law;)I"⟩ := Or.inl (sx_a3 234 rfl rfl)
set_option maxRecDepth 100000 in
theorem lX7_107 : sx_ml "StainStreet$State" 107 ⟨"StainStreet$Street", "daysBetween", "()I"⟩ := Or.inl (sx_a3 229 rfl rfl)
set_option maxRecDepth 100000 in
theorem lX7_110 : sx_ml "StainStreet$State" 110 ⟨"StainStreet$State", "goal", "(LStainStreet$Law;)I"⟩ := Or.inl (sx_a3 230 rfl rfl)
set_option maxRecDepth 100000 in
theorem lX7_114 : sx_ml "StainStreet$State" 114 ⟨"StainStreet$Street", "following", "(I)I"⟩ := Or.inl (sx_a4 21 rfl rfl)
set_option maxRecDepth 100000 in
theorem lX8_3 : sx_ml "StainStreet$Street" 3 ⟨"java/lang/Object", "<init>", "()V"⟩ := Or.inl (sx_a1 137 rfl rfl)
set_option maxRecDepth 100000 in
theorem fX8_9 : sx_fl "StainStreet$Street" 9 8 3 := ⟨⟨by decide +kernel, by decide +kernel⟩, Or.inl (sx_a1 146 rfl rfl)⟩
set_option maxRecDepth 100000 in
theorem fX8_15 : sx_fl "StainStreet$Street" 15 8 0 := ⟨⟨by decide +kernel, by decide +kernel⟩, Or.inl (sx_a1 138 rfl rfl)⟩
set_option maxRecDepth 100000 in
theorem lX8_19 : sx_ml "StainStreet$Street" 19 ⟨"java/lang/Math", "min", "(II)I"⟩ := Or.inl (sx_a3 228 rfl rfl)
set_option maxRecDepth 100000 in
theorem fX8_25 : sx_fl "StainStreet$Street" 25 8 1 := ⟨⟨by decide +kernel, by decide +kernel⟩, Or.inl (sx_a1 141 rfl rfl)⟩
set_option maxRecDepth 100000 in
theorem fX8_28 : sx_fl "StainStreet$Street" 28 8 2 := ⟨⟨by decide +kernel, by decide +kernel⟩, Or.inl (sx_a1 144 rfl rfl)⟩
set_option maxRecDepth 100000 in
theorem lX8_32 : sx_ml "StainStreet$Street" 32 ⟨"StainStreet$Street", "setUsual", "(III)V"⟩ := Or.inl (sx_a2 143 rfl rfl)
-- static: StainStreet$Street 36 ('f', 'fieldLinkNest', 387, 'StainStreet', 'ITEM_USUAL', '[I', 'StainStreet')
set_option maxRecDepth 100000 in
theorem lX8_39 : sx_ml "StainStreet$Street" 39 ⟨"StainStreet$Street", "put", "(II)V"⟩ := Or.inl (sx_a2 149 rfl rfl)
set_option maxRecDepth 100000 in
theorem lX8_43 : sx_ml "StainStreet$Street" 43 ⟨"StainStreet$Street", "told", "(I)I"⟩ := Or.inl (sx_a2 231 rfl rfl)
set_option maxRecDepth 100000 in
theorem lX8_47 : sx_ml "StainStreet$Street" 47 ⟨"StainStreet$Street", "following", "(I)I"⟩ := Or.inl (sx_a2 239 rfl rfl)
set_option maxRecDepth 100000 in
theorem lX8_50 : sx_ml "StainStreet$Street" 50 ⟨"StainStreet$Street", "firstForm", "()I"⟩ := Or.inl (sx_a2 227 rfl rfl)
set_option maxRecDepth 100000 in
theorem lX8_54 : sx_ml "StainStreet$Street" 54 ⟨"StainStreet$Street", "firstHouse", "()I"⟩ := Or.inl (sx_a2 235 rfl rfl)
set_option maxRecDepth 100000 in
theorem lX9_3 : sx_ml "StainStreet$StreetReader" 3 ⟨"java/lang/Object", "<init>", "()V"⟩ := Or.inl (sx_a1 63 rfl rfl)
set_option maxRecDepth 100000 in
theorem fX9_9 : sx_fl "StainStreet$StreetReader" 9 9 0 := ⟨⟨by decide +kernel, by decide +kernel⟩, Or.inl (sx_a1 64 rfl rfl)⟩
set_option maxRecDepth 100000 in
theorem lX9_15 : sx_ml "StainStreet$StreetReader" 15 ⟨"StainStreet$Street", "clear", "()V"⟩ := Or.inl (sx_a2 139 rfl rfl)
set_option maxRecDepth 100000 in
theorem fX9_20 : sx_fl "StainStreet$StreetReader" 20 10 2 := ⟨⟨by decide +kernel, by decide +kernel⟩, Or.inr ⟨"StainStreet", sx_a1 42 rfl rfl⟩⟩
set_option maxRecDepth 100000 in
theorem lX9_26 : sx_ml "StainStreet$StreetReader" 26 ⟨"StainStreet$StreetReader", "readClause", "(LStainStreet$Street;)Z"⟩ := Or.inl (sx_a2 153 rfl rfl)
set_option maxRecDepth 100000 in
theorem lX9_30 : sx_ml "StainStreet$StreetReader" 30 ⟨"StainStreet$Tape", "sign", "()I"⟩ := Or.inl (sx_a2 157 rfl rfl)
set_option maxRecDepth 100000 in
theorem lX9_34 : sx_ml "StainStreet$StreetReader" 34 ⟨"StainStreet$Street", "isWhole", "()Z"⟩ := Or.inl (sx_a2 223 rfl rfl)
set_option maxRecDepth 100000 in
theorem fX9_38 : sx_fl "StainStreet$StreetReader" 38 8 2 := ⟨⟨by decide +kernel, by decide +kernel⟩, Or.inr ⟨"StainStreet", sx_a1 145 rfl rfl⟩⟩
set_option maxRecDepth 100000 in
theorem lX9_42 : sx_ml "StainStreet$StreetReader" 42 ⟨"StainStreet$StreetReader", "readItems", "(LStainStreet$Street;III)Z"⟩ := Or.inl (sx_a2 161 rfl rfl)
set_option maxRecDepth 100000 in
theorem fX9_46 : sx_fl "StainStreet$StreetReader" 46 8 0 := ⟨⟨by decide +kernel, by decide +kernel⟩, Or.inr ⟨"StainStreet", sx_a1 139 rfl rfl⟩⟩
set_option maxRecDepth 100000 in
theorem fX9_49 : sx_fl "StainStreet$StreetReader" 49 8 1 := ⟨⟨by decide +kernel, by decide +kernel⟩, Or.inr ⟨"StainStreet", sx_a1 142 rfl rfl⟩⟩
set_option maxRecDepth 100000 in
theorem lX9_52 : sx_ml "StainStreet$StreetReader" 52 ⟨"StainStreet$Street", "setUsual", "(III)V"⟩ := Or.inl (sx_a2 165 rfl rfl)
set_option maxRecDepth 100000 in
theorem lX9_56 : sx_ml "StainStreet$StreetReader" 56 ⟨"StainStreet$StreetReader", "itemOf", "(III)I"⟩ := Or.inl (sx_a2 166 rfl rfl)
set_option maxRecDepth 100000 in
theorem lX9_60 : sx_ml "StainStreet$StreetReader" 60 ⟨"StainStreet$StreetReader", "readBounded", "(I)Z"⟩ := Or.inl (sx_a2 210 rfl rfl)
set_option maxRecDepth 100000 in
theorem fX9_64 : sx_fl "StainStreet$StreetReader" 64 10 3 := ⟨⟨by decide +kernel, by decide +kernel⟩, Or.inr ⟨"StainStreet", sx_a1 45 rfl rfl⟩⟩
set_option maxRecDepth 100000 in
theorem lX9_67 : sx_ml "StainStreet$StreetReader" 67 ⟨"StainStreet$Street", "put", "(II)V"⟩ := Or.inl (sx_a2 222 rfl rfl)
set_option maxRecDepth 100000 in
theorem lX9_71 : sx_ml "StainStreet$StreetReader" 71 ⟨"StainStreet$Tape", "readNumber", "(I)Z"⟩ := Or.inl (sx_a2 214 rfl rfl)
-- static: StainStreet$StreetReader 74 ('f', 'fieldLinkNest', 458, 'StainStreet', 'ITEM_LOWEST', '[I', 'StainStreet')
-- static: StainStreet$StreetReader 78 ('f', 'fieldLinkNest', 460, 'StainStreet', 'ITEM_HIGHEST', '[I', 'StainStreet')
-- other: StainStreet$StreetReader 81 ('s', None, 409, 'dhfcmwgptn')
set_option maxRecDepth 100000 in
theorem lX9_83 : sx_ml "StainStreet$StreetReader" 83 ⟨"java/lang/String", "charAt", "(I)C"⟩ := Or.inl (sx_a2 170 rfl rfl)
set_option maxRecDepth 100000 in
theorem lX10_3 : sx_ml "StainStreet$Tape" 3 ⟨"java/lang/Object", "<init>", "()V"⟩ := Or.inl (sx_a1 38 rfl rfl)
set_option maxRecDepth 100000 in
theorem fX10_9 : sx_fl "StainStreet$Tape" 9 10 0 := ⟨⟨by decide +kernel, by decide +kernel⟩, Or.inl (sx_a1 39 rfl rfl)⟩
set_option maxRecDepth 100000 in
theorem fX10_15 : sx_fl "StainStreet$Tape" 15 10 1 := ⟨⟨by decide +kernel, by decide +kernel⟩, Or.inl (sx_a1 41 rfl rfl)⟩
set_option maxRecDepth 100000 in
theorem fX10_19 : sx_fl "StainStreet$Tape" 19 10 2 := ⟨⟨by decide +kernel, by decide +kernel⟩, Or.inl (sx_a1 44 rfl rfl)⟩
set_option maxRecDepth 100000 in
theorem fX10_22 : sx_fl "StainStreet$Tape" 22 10 3 := ⟨⟨by decide +kernel, by decide +kernel⟩, Or.inl (sx_a1 46 rfl rfl)⟩

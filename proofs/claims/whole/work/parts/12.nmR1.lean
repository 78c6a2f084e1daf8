/-! names: a method's name, bytes, locals, answer; its instructions; what the tables say of it -/

abbrev mX12_in : sxM := (⟨"StainStreetModel", "in", "(III)Z"⟩, prog_14_method_1_code, 3, some FieldType.boolean)
def iX12_in : List (Nat × Instr × Nat) := [(0, .iload_n 0, 1), (1, .iload_n 1, 1), (2, .if_icmp .lt 12, 3), (5, .iload_n 0, 1), (6, .iload_n 2, 1), (7, .if_icmp .gt 7, 3), (10, .iconst 1, 1), (11, .goto 4, 3), (14, .iconst 0, 1), (15, .ireturn, 1)]
set_option maxRecDepth 100000 in
theorem dX12_in : sx_dec prog_14_method_1_code iX12_in = true := by decide +kernel
set_option maxRecDepth 100000 in
theorem vX12_in : sx_ms mX12_in 3 := ⟨⟨sx_a6 92 rfl rfl, sx_a1 13 rfl rfl, nh_X12, by decide +kernel, Nat.le_of_ble_eq_true rfl⟩, sx_a6 91 rfl rfl⟩
abbrev mX12_has : sxM := (⟨"StainStreetModel", "has", "(II)Z"⟩, prog_14_method_2_code, 2, some FieldType.boolean)
def iX12_has : List (Nat × Instr × Nat) := [(0, .iload_n 0, 1), (1, .iload_n 1, 1), (2, .ishr, 1), (3, .iconst 1, 1), (4, .iand, 1), (5, .iconst 1, 1), (6, .if_icmp .ne 7, 3), (9, .iconst 1, 1), (10, .goto 4, 3), (13, .iconst 0, 1), (14, .ireturn, 1)]
set_option maxRecDepth 100000 in
theorem dX12_has : sx_dec prog_14_method_2_code iX12_has = true := by decide +kernel
set_option maxRecDepth 100000 in
theorem vX12_has : sx_ms mX12_has 2 := ⟨⟨sx_a6 72 rfl rfl, sx_a1 13 rfl rfl, nh_X12, by decide +kernel, Nat.le_of_ble_eq_true rfl⟩, sx_a6 71 rfl rfl⟩
abbrev mX12_init : sxM := (⟨"StainStreetModel", "<init>", "()V"⟩, prog_14_method_3_code, 1, none)
def iX12_init : List (Nat × Instr × Nat) := [(0, .aload_n 0, 1), (1, .invokespecial 3, 3), (4, .aload_n 0, 1), (5, .sipush 240, 3), (8, .newarray .int, 2), (10, .putfield 9, 3), (13, .aload_n 0, 1), (14, .sipush 2600, 3), (17, .newarray .int, 2), (19, .putfield 13, 3), (22, .aload_n 0, 1), (23, .sipush 2600, 3), (26, .newarray .int, 2), (28, .putfield 16, 3), (31, .aload_n 0, 1), (32, .iconst 5, 1), (33, .newarray .int, 2), (35, .putfield 19, 3), (38, .aload_n 0, 1), (39, .iconst 5, 1), (40, .newarray .int, 2), (42, .putfield 22, 3), (45, .aload_n 0, 1), (46, .sipush 700, 3), (49, .newarray .int, 2), (51, .putfield 25, 3), (54, .aload_n 0, 1), (55, .sipush 700, 3), (58, .newarray .int, 2), (60, .putfield 28, 3), (63, .aload_n 0, 1), (64, .sipush 700, 3), (67, .newarray .int, 2), (69, .putfield 31, 3), (72, .aload_n 0, 1), (73, .bipush 6, 2), (75, .newarray .int, 2), (77, .putfield 34, 3), (80, .aload_n 0, 1), (81, .bipush 80, 2), (83, .newarray .int, 2), (85, .putfield 37, 3), (88, .aload_n 0, 1), (89, .iconst 4, 1), (90, .newarray .int, 2), (92, .putfield 40, 3), (95, .aload_n 0, 1), (96, .bipush 32, 2), (98, .newarray .int, 2), (100, .putfield 43, 3), (103, .aload_n 0, 1), (104, .bipush 12, 2), (106, .newarray .int, 2), (108, .putfield 46, 3), (111, .aload_n 0, 1), (112, .iconst 4, 1), (113, .newarray .int, 2), (115, .putfield 49, 3), (118, .aload_n 0, 1), (119, .bipush 32, 2), (121, .newarray .int, 2), (123, .putfield 52, 3), (126, .aload_n 0, 1), (127, .bipush 12, 2), (129, .newarray .int, 2), (131, .putfield 55, 3), (134, .aload_n 0, 1), (135, .sipush 226, 3), (138, .newarray .int, 2), (140, .putfield 58, 3), (143, .aload_n 0, 1), (144, .iconst 5, 1), (145, .newarray .int, 2), (147, .putfield 61, 3), (150, .aload_n 0, 1), (151, .iconst (-1), 1), (152, .putfield 64, 3), (155, .aload_n 0, 1), (156, .sipush 9040, 3), (159, .newarray .int, 2), (161, .putfield 68, 3), (164, .aload_n 0, 1), (165, .bipush 45, 2), (167, .newarray .int, 2), (169, .putfield 71, 3), (172, .aload_n 0, 1), (173, .bipush 10, 2), (175, .newarray .int, 2), (177, .putfield 74, 3), (180, .aload_n 0, 1), (181, .bipush 10, 2), (183, .newarray .int, 2), (185, .putfield 77, 3), (188, .aload_n 0, 1), (189, .bipush 10, 2), (191, .newarray .boolean, 2), (193, .putfield 80, 3), (196, .aload_n 0, 1), (197, .sipush 410, 3), (200, .newarray .int, 2), (202, .putfield 84, 3), (205, .aload_n 0, 1), (206, .bipush 10, 2), (208, .newarray .int, 2), (210, .putfield 87, 3), (213, .aload_n 0, 1), (214, .bipush 10, 2), (216, .newarray .int, 2), (218, .putfield 90, 3), (221, .aload_n 0, 1), (222, .bipush 10, 2), (224, .newarray .boolean, 2), (226, .putfield 93, 3), (229, .aload_n 0, 1), (230, .sipush 226, 3), (233, .newarray .int, 2), (235, .putfield 96, 3), (238, .return_, 1)]
set_option maxRecDepth 100000 in
theorem dX12_init : sx_dec prog_14_method_3_code iX12_init = true := by decide +kernel
set_option maxRecDepth 100000 in
theorem vX12_init : sx_mi mX12_init 0 := ⟨⟨sx_a5 122 rfl rfl, sx_a1 13 rfl rfl, nh_X12, by decide +kernel, Nat.le_of_ble_eq_true rfl⟩, sx_a5 121 rfl rfl, rfl, rfl⟩
abbrev mX12_thrown : sxM := (⟨"StainStreetModel", "thrown", "()I"⟩, prog_14_method_4_code, 1, some FieldType.int)
def iX12_thrown : List (Nat × Instr × Nat) := [(0, .aload_n 0, 1), (1, .getfield 99, 3), (4, .ireturn, 1)]
set_option maxRecDepth 100000 in
theorem dX12_thrown : sx_dec prog_14_method_4_code iX12_thrown = true := by decide +kernel
set_option maxRecDepth 100000 in
theorem vX12_thrown : sx_mv mX12_thrown 0 := ⟨⟨sx_a6 32 rfl rfl, sx_a1 13 rfl rfl, nh_X12, by decide +kernel, Nat.le_of_ble_eq_true rfl⟩, sx_a6 30 rfl rfl, sx_a6 31 rfl rfl⟩
abbrev mX12_byteOf : sxM := (⟨"StainStreetModel", "byteOf", "(IIIIII)I"⟩, prog_14_method_5_code, 7, some FieldType.int)
def iX12_byteOf : List (Nat × Instr × Nat) := [(0, .iload 5, 2), (2, .iconst 4, 1), (3, .if_icmp .ge 7, 3), (6, .iload_n 0, 1), (7, .goto 38, 3), (10, .iload 5, 2), (12, .bipush 8, 2), (14, .if_icmp .ge 7, 3), (17, .iload_n 1, 1), (18, .goto 27, 3), (21, .iload 5, 2), (23, .bipush 12, 2), (25, .if_icmp .ge 7, 3), (28, .iload_n 2, 1), (29, .goto 16, 3), (32, .iload 5, 2), (34, .bipush 16, 2), (36, .if_icmp .ge 7, 3), (39, .iload_n 3, 1), (40, .goto 5, 3), (43, .iload 4, 2), (45, .istore 6, 2), (47, .iload 6, 2), (49, .bipush 24, 2), (51, .bipush 8, 2), (53, .iload 5, 2), (55, .iconst 4, 1), (56, .irem, 1), (57, .imul, 1), (58, .isub, 1), (59, .ishr, 1), (60, .sipush 255, 3), (63, .iand, 1), (64, .ireturn, 1)]
set_option maxRecDepth 100000 in
theorem dX12_byteOf : sx_dec prog_14_method_5_code iX12_byteOf = true := by decide +kernel
set_option maxRecDepth 100000 in
theorem vX12_byteOf : sx_ms mX12_byteOf 6 := ⟨⟨sx_a6 39 rfl rfl, sx_a1 13 rfl rfl, nh_X12, by decide +kernel, Nat.le_of_ble_eq_true rfl⟩, sx_a6 38 rfl rfl⟩
abbrev mX12_feed : sxM := (⟨"StainStreetModel", "feed", "(IIIII)I"⟩, prog_14_method_6_code, 9, some FieldType.int)
def iX12_feed : List (Nat × Instr × Nat) := [(0, .iconst 0, 1), (1, .istore 6, 2), (3, .iconst 0, 1), (4, .istore 7, 2), (6, .iload 7, 2), (8, .bipush 20, 2), (10, .if_icmp .ge 34, 3), (13, .iload 6, 2), (15, .iload_n 1, 1), (16, .iload_n 2, 1), (17, .iload_n 3, 1), (18, .iload 4, 2), (20, .iload 5, 2), (22, .iload 7, 2), (24, .invokestatic 102, 3), (27, .ifCond .eq 7, 3), (30, .iconst 1, 1), (31, .goto 4, 3), (34, .iconst 0, 1), (35, .iadd, 1), (36, .istore 6, 2), (38, .iinc 7 1, 3), (41, .goto (-35), 3), (44, .aload_n 0, 1), (45, .getfield 106, 3), (48, .iload 6, 2), (50, .iadd, 1), (51, .sipush 240, 3), (54, .if_icmp .le 5, 3), (57, .iconst (-1), 1), (58, .ireturn, 1), (59, .iconst 0, 1), (60, .istore 7, 2), (62, .iload 7, 2), (64, .bipush 20, 2), (66, .if_icmp .ge 49, 3), (69, .iload_n 1, 1), (70, .iload_n 2, 1), (71, .iload_n 3, 1), (72, .iload 4, 2), (74, .iload 5, 2), (76, .iload 7, 2), (78, .invokestatic 102, 3), (81, .istore 8, 2), (83, .iload 8, 2), (85, .ifCond .eq 24, 3), (88, .aload_n 0, 1), (89, .getfield 9, 3), (92, .aload_n 0, 1), (93, .getfield 106, 3), (96, .iload 8, 2), (98, .iastore, 1), (99, .aload_n 0, 1), (100, .dup, 1), (101, .getfield 106, 3), (104, .iconst 1, 1), (105, .iadd, 1), (106, .putfield 106, 3), (109, .iinc 7 1, 3), (112, .goto (-50), 3), (115, .aload_n 0, 1), (116, .getfield 106, 3), (119, .ireturn, 1)]
set_option maxRecDepth 100000 in
theorem dX12_feed : sx_dec prog_14_method_6_code iX12_feed = true := by decide +kernel
set_option maxRecDepth 100000 in
theorem vX12_feed : sx_mv mX12_feed 5 := ⟨⟨sx_a6 36 rfl rfl, sx_a1 13 rfl rfl, nh_X12, by decide +kernel, Nat.le_of_ble_eq_true rfl⟩, sx_a6 34 rfl rfl, sx_a6 35 rfl rfl⟩
abbrev mX12_end : sxM := (⟨"StainStreetModel", "end", "(I)Z"⟩, prog_14_method_7_code, 2, some FieldType.boolean)
def iX12_end : List (Nat × Instr × Nat) := [(0, .iload_n 1, 1), (1, .ifCond .lt 11, 3), (4, .iload_n 1, 1), (5, .aload_n 0, 1), (6, .getfield 106, 3), (9, .if_icmp .le 5, 3), (12, .iconst 0, 1), (13, .ireturn, 1), (14, .aload_n 0, 1), (15, .iload_n 1, 1), (16, .putfield 106, 3), (19, .iconst 1, 1), (20, .ireturn, 1)]
set_option maxRecDepth 100000 in
theorem dX12_end : sx_dec prog_14_method_7_code iX12_end = true := by decide +kernel
set_option maxRecDepth 100000 in
theorem vX12_end : sx_mv mX12_end 1 := ⟨⟨sx_a6 43 rfl rfl, sx_a1 13 rfl rfl, nh_X12, by decide +kernel, Nat.le_of_ble_eq_true rfl⟩, sx_a6 41 rfl rfl, sx_a6 42 rfl rfl⟩
abbrev mX12_here : sxM := (⟨"StainStreetModel", "here", "()I"⟩, prog_14_method_8_code, 1, some FieldType.int)
def iX12_here : List (Nat × Instr × Nat) := [(0, .aload_n 0, 1), (1, .getfield 109, 3), (4, .aload_n 0, 1), (5, .getfield 106, 3), (8, .if_icmp .ge 15, 3), (11, .aload_n 0, 1), (12, .getfield 9, 3), (15, .aload_n 0, 1), (16, .getfield 109, 3), (19, .iaload, 1), (20, .goto 4, 3), (23, .iconst (-1), 1), (24, .ireturn, 1)]
set_option maxRecDepth 100000 in
theorem dX12_here : sx_dec prog_14_method_8_code iX12_here = true := by decide +kernel
set_option maxRecDepth 100000 in
theorem vX12_here : sx_mv mX12_here 0 := ⟨⟨sx_a6 62 rfl rfl, sx_a1 13 rfl rfl, nh_X12, by decide +kernel, Nat.le_of_ble_eq_true rfl⟩, sx_a6 61 rfl rfl, sx_pv 46 rfl rfl⟩
abbrev mX12_look : sxM := (⟨"StainStreetModel", "look", "()I"⟩, prog_14_method_9_code, 1, some FieldType.int)
def iX12_look : List (Nat × Instr × Nat) := [(0, .aload_n 0, 1), (1, .invokevirtual 112, 3), (4, .bipush 32, 2), (6, .if_icmp .ne 16, 3), (9, .aload_n 0, 1), (10, .dup, 1), (11, .getfield 109, 3), (14, .iconst 1, 1), (15, .iadd, 1), (16, .putfield 109, 3), (19, .goto (-19), 3), (22, .aload_n 0, 1), (23, .invokevirtual 112, 3), (26, .ireturn, 1)]
set_option maxRecDepth 100000 in
theorem dX12_look : sx_dec prog_14_method_9_code iX12_look = true := by decide +kernel
set_option maxRecDepth 100000 in
theorem vX12_look : sx_mv mX12_look 0 := ⟨⟨sx_a6 58 rfl rfl, sx_a1 13 rfl rfl, nh_X12, by decide +kernel, Nat.le_of_ble_eq_true rfl⟩, sx_a6 57 rfl rfl, sx_pv 45 rfl rfl⟩
abbrev mX12_bad : sxM := (⟨"StainStreetModel", "bad", "()V"⟩, prog_14_method_10_code, 1, none)
def iX12_bad : List (Nat × Instr × Nat) := [(0, .aload_n 0, 1), (1, .aload_n 0, 1), (2, .getfield 116, 3), (5, .iconst (-1), 1), (6, .if_icmp .ne 10, 3), (9, .aload_n 0, 1), (10, .getfield 109, 3), (13, .goto 7, 3), (16, .aload_n 0, 1), (17, .getfield 116, 3), (20, .putfield 116, 3), (23, .return_, 1)]
set_option maxRecDepth 100000 in
theorem dX12_bad : sx_dec prog_14_method_10_code iX12_bad = true := by decide +kernel
set_option maxRecDepth 100000 in
theorem vX12_bad : sx_mv mX12_bad 0 := ⟨⟨sx_a6 89 rfl rfl, sx_a1 13 rfl rfl, nh_X12, by decide +kernel, Nat.le_of_ble_eq_true rfl⟩, sx_a6 88 rfl rfl, sx_pv 49 rfl rfl⟩
abbrev mX12_isDigit : sxM := (⟨"StainStreetModel", "isDigit", "(I)Z"⟩, prog_14_method_11_code, 1, some FieldType.boolean)
def iX12_isDigit : List (Nat × Instr × Nat) := [(0, .iload_n 0, 1), (1, .bipush 48, 2), (3, .if_icmp .lt 13, 3), (6, .iload_n 0, 1), (7, .bipush 57, 2), (9, .if_icmp .gt 7, 3), (12, .iconst 1, 1), (13, .goto 4, 3), (16, .iconst 0, 1), (17, .ireturn, 1)]
set_option maxRecDepth 100000 in
theorem dX12_isDigit : sx_dec prog_14_method_11_code iX12_isDigit = true := by decide +kernel
set_option maxRecDepth 100000 in
theorem vX12_isDigit : sx_ms mX12_isDigit 1 := ⟨⟨sx_a6 85 rfl rfl, sx_a1 13 rfl rfl, nh_X12, by decide +kernel, Nat.le_of_ble_eq_true rfl⟩, sx_a6 84 rfl rfl⟩
abbrev mX12_put : sxM := (⟨"StainStreetModel", "put", "(II)V"⟩, prog_14_method_12_code, 3, none)
def iX12_put : List (Nat × Instr × Nat) := [(0, .aload_n 0, 1), (1, .getfield 13, 3), (4, .sipush 520, 3), (7, .aload_n 0, 1), (8, .getfield 119, 3), (11, .imul, 1), (12, .aload_n 0, 1), (13, .getfield 19, 3), (16, .aload_n 0, 1), (17, .getfield 119, 3), (20, .iaload, 1), (21, .iadd, 1), (22, .iload_n 1, 1), (23, .iastore, 1), (24, .aload_n 0, 1), (25, .getfield 16, 3), (28, .sipush 520, 3), (31, .aload_n 0, 1), (32, .getfield 119, 3), (35, .imul, 1), (36, .aload_n 0, 1), (37, .getfield 19, 3), (40, .aload_n 0, 1), (41, .getfield 119, 3), (44, .iaload, 1), (45, .iadd, 1), (46, .iload_n 2, 1), (47, .iastore, 1), (48, .aload_n 0, 1), (49, .getfield 19, 3), (52, .aload_n 0, 1), (53, .getfield 119, 3), (56, .dup2, 1), (57, .iaload, 1), (58, .iconst 1, 1), (59, .iadd, 1), (60, .iastore, 1), (61, .return_, 1)]
set_option maxRecDepth 100000 in
theorem dX12_put : sx_dec prog_14_method_12_code iX12_put = true := by decide +kernel
set_option maxRecDepth 100000 in
theorem vX12_put : sx_mv mX12_put 2 := ⟨⟨sx_a6 124 rfl rfl, sx_a1 13 rfl rfl, nh_X12, by decide +kernel, Nat.le_of_ble_eq_true rfl⟩, sx_a6 123 rfl rfl, sx_pv 57 rfl rfl⟩
abbrev mX12_letterOf : sxM := (⟨"StainStreetModel", "letterOf", "(I)I"⟩, prog_14_method_13_code, 1, some FieldType.int)
def iX12_letterOf : List (Nat × Instr × Nat) := [(0, .iload_n 0, 1), (1, .bipush 109, 2), (3, .if_icmp .ne 7, 3), (6, .iconst 0, 1), (7, .goto 54, 3), (10, .iload_n 0, 1), (11, .bipush 119, 2), (13, .if_icmp .ne 7, 3), (16, .iconst 1, 1), (17, .goto 44, 3), (20, .iload_n 0, 1), (21, .bipush 103, 2), (23, .if_icmp .ne 7, 3), (26, .iconst 2, 1), (27, .goto 34, 3), (30, .iload_n 0, 1), (31, .bipush 112, 2), (33, .if_icmp .ne 7, 3), (36, .iconst 3, 1), (37, .goto 24, 3), (40, .iload_n 0, 1), (41, .bipush 116, 2), (43, .if_icmp .ne 7, 3), (46, .iconst 4, 1), (47, .goto 14, 3), (50, .iload_n 0, 1), (51, .bipush 100, 2), (53, .if_icmp .ne 7, 3), (56, .iconst 5, 1), (57, .goto 4, 3), (60, .iconst (-1), 1), (61, .ireturn, 1)]
set_option maxRecDepth 100000 in
theorem dX12_letterOf : sx_dec prog_14_method_13_code iX12_letterOf = true := by decide +kernel
set_option maxRecDepth 100000 in
theorem vX12_letterOf : sx_ms mX12_letterOf 1 := ⟨⟨sx_a6 147 rfl rfl, sx_a1 13 rfl rfl, nh_X12, by decide +kernel, Nat.le_of_ble_eq_true rfl⟩, sx_a6 146 rfl rfl⟩
abbrev mX12_opens : sxM := (⟨"StainStreetModel", "opens", "()V"⟩, prog_14_method_14_code, 1, none)
def iX12_opens : List (Nat × Instr × Nat) := [(0, .aload_n 0, 1), (1, .getfield 122, 3), (4, .bipush 6, 2), (6, .if_icmp .ne 7, 3), (9, .aload_n 0, 1), (10, .invokevirtual 125, 3), (13, .aload_n 0, 1), (14, .dup, 1), (15, .getfield 122, 3), (18, .iconst 1, 1), (19, .iadd, 1), (20, .putfield 122, 3), (23, .aload_n 0, 1), (24, .dup, 1), (25, .getfield 109, 3), (28, .iconst 1, 1), (29, .iadd, 1), (30, .putfield 109, 3), (33, .return_, 1)]
set_option maxRecDepth 100000 in
theorem dX12_opens : sx_dec prog_14_method_14_code iX12_opens = true := by decide +kernel
set_option maxRecDepth 100000 in
theorem vX12_opens : sx_mv mX12_opens 0 := ⟨⟨sx_a6 120 rfl rfl, sx_a1 13 rfl rfl, nh_X12, by decide +kernel, Nat.le_of_ble_eq_true rfl⟩, sx_a6 119 rfl rfl, sx_pv 56 rfl rfl⟩
abbrev mX12_closes : sxM := (⟨"StainStreetModel", "closes", "(I)V"⟩, prog_14_method_15_code, 2, none)
def iX12_closes : List (Nat × Instr × Nat) := [(0, .aload_n 0, 1), (1, .getfield 116, 3), (4, .iconst (-1), 1), (5, .if_icmp .ne 15, 3), (8, .aload_n 0, 1), (9, .invokevirtual 128, 3), (12, .iload_n 1, 1), (13, .if_icmp .eq 7, 3), (16, .aload_n 0, 1), (17, .invokevirtual 125, 3), (20, .aload_n 0, 1), (21, .dup, 1), (22, .getfield 109, 3), (25, .iconst 1, 1), (26, .iadd, 1), (27, .putfield 109, 3), (30, .aload_n 0, 1), (31, .dup, 1), (32, .getfield 122, 3), (35, .iconst 1, 1), (36, .isub, 1), (37, .putfield 122, 3), (40, .return_, 1)]
set_option maxRecDepth 100000 in
theorem dX12_closes : sx_dec prog_14_method_15_code iX12_closes = true := by decide +kernel
set_option maxRecDepth 100000 in
theorem vX12_closes : sx_mv mX12_closes 1 := ⟨⟨sx_a6 128 rfl rfl, sx_a1 13 rfl rfl, nh_X12, by decide +kernel, Nat.le_of_ble_eq_true rfl⟩, sx_a6 127 rfl rfl, sx_pv 58 rfl rfl⟩
abbrev mX12_plainNumber : sxM := (⟨"StainStreetModel", "plainNumber", "()I"⟩, prog_14_method_16_code, 3, some FieldType.int)
def iX12_plainNumber : List (Nat × Instr × Nat) := [(0, .iconst 0, 1), (1, .istore_n 1, 1), (2, .iconst 0, 1), (3, .istore_n 2, 1), (4, .iload_n 2, 1), (5, .iconst 4, 1), (6, .if_icmp .ge 42, 3), (9, .aload_n 0, 1), (10, .invokevirtual 112, 3), (13, .invokestatic 131, 3), (16, .ifCond .eq 32, 3), (19, .bipush 10, 2), (21, .iload_n 1, 1), (22, .imul, 1), (23, .aload_n 0, 1), (24, .invokevirtual 112, 3), (27, .iadd, 1), (28, .bipush 48, 2), (30, .isub, 1), (31, .istore_n 1, 1), (32, .aload_n 0, 1), (33, .dup, 1), (34, .getfield 109, 3), (37, .iconst 1, 1), (38, .iadd, 1), (39, .putfield 109, 3), (42, .iinc 2 1, 3), (45, .goto (-41), 3), (48, .aload_n 0, 1), (49, .invokevirtual 112, 3), (52, .invokestatic 131, 3), (55, .ifCond .eq 7, 3), (58, .aload_n 0, 1), (59, .invokevirtual 125, 3), (62, .iload_n 1, 1), (63, .ireturn, 1)]
set_option maxRecDepth 100000 in
theorem dX12_plainNumber : sx_dec prog_14_method_16_code iX12_plainNumber = true := by decide +kernel
set_option maxRecDepth 100000 in
theorem vX12_plainNumber : sx_mv mX12_plainNumber 0 := ⟨⟨sx_a6 144 rfl rfl, sx_a1 13 rfl rfl, nh_X12, by decide +kernel, Nat.le_of_ble_eq_true rfl⟩, sx_a6 143 rfl rfl, sx_pv 62 rfl rfl⟩
abbrev mX12_atom : sxM := (⟨"StainStreetModel", "atom", "()V"⟩, prog_14_method_17_code, 2, none)
def iX12_atom : List (Nat × Instr × Nat) := [(0, .aload_n 0, 1), (1, .invokevirtual 128, 3), (4, .istore_n 1, 1), (5, .iload_n 1, 1), (6, .invokestatic 131, 3), (9, .ifCond .eq 15, 3), (12, .aload_n 0, 1), (13, .iconst 0, 1), (14, .aload_n 0, 1), (15, .invokevirtual 135, 3), (18, .invokevirtual 138, 3), (21, .goto 68, 3), (24, .iload_n 1, 1), (25, .invokestatic 142, 3), (28, .iconst (-1), 1), (29, .if_icmp .eq 25, 3), (32, .aload_n 0, 1), (33, .dup, 1), (34, .getfield 109, 3), (37, .iconst 1, 1), (38, .iadd, 1), (39, .putfield 109, 3), (42, .aload_n 0, 1), (43, .iconst 1, 1), (44, .iload_n 1, 1), (45, .invokestatic 142, 3), (48, .invokevirtual 138, 3), (51, .goto 38, 3), (54, .iload_n 1, 1), (55, .bipush 91, 2), (57, .if_icmp .ne 28, 3), (60, .aload_n 0, 1), (61, .invokevirtual 146, 3), (64, .aload_n 0, 1), (65, .getfield 116, 3), (68, .iconst (-1), 1), (69, .if_icmp .ne 20, 3), (72, .aload_n 0, 1), (73, .invokevirtual 149, 3), (76, .aload_n 0, 1), (77, .bipush 93, 2), (79, .invokevirtual 152, 3), (82, .goto 7, 3), (85, .aload_n 0, 1), (86, .invokevirtual 125, 3), (89, .return_, 1)]
set_option maxRecDepth 100000 in
theorem dX12_atom : sx_dec prog_14_method_17_code iX12_atom = true := by decide +kernel
set_option maxRecDepth 100000 in
theorem vX12_atom : sx_mv mX12_atom 0 := ⟨⟨sx_a6 140 rfl rfl, sx_a1 13 rfl rfl, nh_X12, by decide +kernel, Nat.le_of_ble_eq_true rfl⟩, sx_a6 139 rfl rfl, sx_pv 61 rfl rfl⟩
abbrev mX12_term : sxM := (⟨"StainStreetModel", "term", "()V"⟩, prog_14_method_18_code, 2, none)
def iX12_term : List (Nat × Instr × Nat) := [(0, .aload_n 0, 1), (1, .invokevirtual 156, 3), (4, .aload_n 0, 1), (5, .getfield 116, 3), (8, .iconst (-1), 1), (9, .if_icmp .ne 10, 3), (12, .aload_n 0, 1), (13, .invokevirtual 128, 3), (16, .goto 4, 3), (19, .iconst (-1), 1), (20, .istore_n 1, 1), (21, .iload_n 1, 1), (22, .bipush 42, 2), (24, .if_icmp .eq 9, 3), (27, .iload_n 1, 1), (28, .bipush 47, 2), (30, .if_icmp .ne 53, 3), (33, .aload_n 0, 1), (34, .dup, 1), (35, .getfield 109, 3), (38, .iconst 1, 1), (39, .iadd, 1), (40, .putfield 109, 3), (43, .aload_n 0, 1), (44, .invokevirtual 156, 3), (47, .aload_n 0, 1), (48, .iload_n 1, 1), (49, .bipush 42, 2), (51, .if_icmp .ne 7, 3), (54, .iconst 4, 1), (55, .goto 4, 3), (58, .iconst 5, 1), (59, .iconst 0, 1), (60, .invokevirtual 138, 3), (63, .aload_n 0, 1), (64, .getfield 116, 3), (67, .iconst (-1), 1), (68, .if_icmp .ne 10, 3), (71, .aload_n 0, 1), (72, .invokevirtual 128, 3), (75, .goto 4, 3), (78, .iconst (-1), 1), (79, .istore_n 1, 1), (80, .goto (-59), 3), (83, .return_, 1)]
set_option maxRecDepth 100000 in
theorem dX12_term : sx_dec prog_14_method_18_code iX12_term = true := by decide +kernel
set_option maxRecDepth 100000 in
theorem vX12_term : sx_mv mX12_term 0 := ⟨⟨sx_a6 136 rfl rfl, sx_a1 13 rfl rfl, nh_X12, by decide +kernel, Nat.le_of_ble_eq_true rfl⟩, sx_a6 135 rfl rfl, sx_pv 60 rfl rfl⟩
abbrev mX12_sum : sxM := (⟨"StainStreetModel", "sum", "()V"⟩, prog_14_method_19_code, 2, none)
def iX12_sum : List (Nat × Instr × Nat) := [(0, .aload_n 0, 1), (1, .invokevirtual 159, 3), (4, .aload_n 0, 1), (5, .getfield 116, 3), (8, .iconst (-1), 1), (9, .if_icmp .ne 10, 3), (12, .aload_n 0, 1), (13, .invokevirtual 128, 3), (16, .goto 4, 3), (19, .iconst (-1), 1), (20, .istore_n 1, 1), (21, .iload_n 1, 1), (22, .bipush 43, 2), (24, .if_icmp .eq 9, 3), (27, .iload_n 1, 1), (28, .bipush 45, 2), (30, .if_icmp .ne 53, 3), (33, .aload_n 0, 1), (34, .dup, 1), (35, .getfield 109, 3), (38, .iconst 1, 1), (39, .iadd, 1), (40, .putfield 109, 3), (43, .aload_n 0, 1), (44, .invokevirtual 159, 3), (47, .aload_n 0, 1), (48, .iload_n 1, 1), (49, .bipush 43, 2), (51, .if_icmp .ne 7, 3), (54, .iconst 2, 1), (55, .goto 4, 3), (58, .iconst 3, 1), (59, .iconst 0, 1), (60, .invokevirtual 138, 3), (63, .aload_n 0, 1), (64, .getfield 116, 3), (67, .iconst (-1), 1), (68, .if_icmp .ne 10, 3), (71, .aload_n 0, 1), (72, .invokevirtual 128, 3), (75, .goto 4, 3), (78, .iconst (-1), 1), (79, .istore_n 1, 1), (80, .goto (-59), 3), (83, .return_, 1)]
set_option maxRecDepth 100000 in
theorem dX12_sum : sx_dec prog_14_method_19_code iX12_sum = true := by decide +kernel
set_option maxRecDepth 100000 in
theorem vX12_sum : sx_mv mX12_sum 0 := ⟨⟨sx_a6 132 rfl rfl, sx_a1 13 rfl rfl, nh_X12, by decide +kernel, Nat.le_of_ble_eq_true rfl⟩, sx_a6 131 rfl rfl, sx_pv 59 rfl rfl⟩
abbrev mX12_isSign : sxM := (⟨"StainStreetModel", "isSign", "(I)Z"⟩, prog_14_method_20_code, 1, some FieldType.boolean)
def iX12_isSign : List (Nat × Instr × Nat) := [(0, .iload_n 0, 1), (1, .bipush 61, 2), (3, .if_icmp .eq 15, 3), (6, .iload_n 0, 1), (7, .bipush 60, 2), (9, .if_icmp .eq 9, 3), (12, .iload_n 0, 1), (13, .bipush 62, 2), (15, .if_icmp .ne 7, 3), (18, .iconst 1, 1), (19, .goto 4, 3), (22, .iconst 0, 1), (23, .ireturn, 1)]
set_option maxRecDepth 100000 in
theorem dX12_isSign : sx_dec prog_14_method_20_code iX12_isSign = true := by decide +kernel
set_option maxRecDepth 100000 in
theorem vX12_isSign : sx_ms mX12_isSign 1 := ⟨⟨sx_a6 154 rfl rfl, sx_a1 13 rfl rfl, nh_X12, by decide +kernel, Nat.le_of_ble_eq_true rfl⟩, sx_a6 153 rfl rfl⟩
abbrev mX12_compare : sxM := (⟨"StainStreetModel", "compare", "()V"⟩, prog_14_method_21_code, 2, none)
def iX12_compare : List (Nat × Instr × Nat) := [(0, .aload_n 0, 1), (1, .getfield 116, 3), (4, .iconst (-1), 1), (5, .if_icmp .ne 10, 3), (8, .aload_n 0, 1), (9, .invokevirtual 128, 3), (12, .goto 4, 3), (15, .iconst (-1), 1), (16, .istore_n 1, 1), (17, .iload_n 1, 1), (18, .invokestatic 162, 3), (21, .ifCond .ne 8, 3), (24, .aload_n 0, 1), (25, .invokevirtual 125, 3), (28, .return_, 1), (29, .aload_n 0, 1), (30, .dup, 1), (31, .getfield 109, 3), (34, .iconst 1, 1), (35, .iadd, 1), (36, .putfield 109, 3), (39, .aload_n 0, 1), (40, .invokevirtual 149, 3), (43, .aload_n 0, 1), (44, .iload_n 1, 1), (45, .bipush 61, 2), (47, .if_icmp .ne 8, 3), (50, .bipush 6, 2), (52, .goto 16, 3), (55, .iload_n 1, 1), (56, .bipush 60, 2), (58, .if_icmp .ne 8, 3), (61, .bipush 7, 2), (63, .goto 5, 3), (66, .bipush 8, 2), (68, .iconst 0, 1), (69, .invokevirtual 138, 3), (72, .return_, 1)]
set_option maxRecDepth 100000 in
theorem dX12_compare : sx_dec prog_14_method_21_code iX12_compare = true := by decide +kernel
set_option maxRecDepth 100000 in
theorem vX12_compare : sx_mv mX12_compare 0 := ⟨⟨sx_a6 151 rfl rfl, sx_a1 13 rfl rfl, nh_X12, by decide +kernel, Nat.le_of_ble_eq_true rfl⟩, sx_a6 150 rfl rfl, sx_pv 63 rfl rfl⟩
abbrev mX12_unit : sxM := (⟨"StainStreetModel", "unit", "()V"⟩, prog_14_method_22_code, 2, none)
def iX12_unit : List (Nat × Instr × Nat) := [(0, .aload_n 0, 1), (1, .invokevirtual 128, 3), (4, .istore_n 1, 1), (5, .iload_n 1, 1), (6, .bipush 33, 2), (8, .if_icmp .ne 39, 3), (11, .aload_n 0, 1), (12, .invokevirtual 146, 3), (15, .aload_n 0, 1), (16, .getfield 116, 3), (19, .iconst (-1), 1), (20, .if_icmp .ne 74, 3), (23, .aload_n 0, 1), (24, .invokevirtual 165, 3), (27, .aload_n 0, 1), (28, .bipush 9, 2), (30, .iconst 0, 1), (31, .invokevirtual 138, 3), (34, .aload_n 0, 1), (35, .dup, 1), (36, .getfield 122, 3), (39, .iconst 1, 1), (40, .isub, 1), (41, .putfield 122, 3), (44, .goto 50, 3), (47, .iload_n 1, 1), (48, .bipush 40, 2), (50, .if_icmp .ne 28, 3), (53, .aload_n 0, 1), (54, .invokevirtual 146, 3), (57, .aload_n 0, 1), (58, .getfield 116, 3), (61, .iconst (-1), 1), (62, .if_icmp .ne 32, 3), (65, .aload_n 0, 1), (66, .invokevirtual 168, 3), (69, .aload_n 0, 1), (70, .bipush 41, 2), (72, .invokevirtual 152, 3), (75, .goto 19, 3), (78, .aload_n 0, 1), (79, .invokevirtual 149, 3), (82, .aload_n 0, 1), (83, .getfield 116, 3), (86, .iconst (-1), 1), (87, .if_icmp .ne 7, 3), (90, .aload_n 0, 1), (91, .invokevirtual 171, 3), (94, .return_, 1)]
set_option maxRecDepth 100000 in
theorem dX12_unit : sx_dec prog_14_method_22_code iX12_unit = true := by decide +kernel
set_option maxRecDepth 100000 in
theorem vX12_unit : sx_mv mX12_unit 0 := ⟨⟨sx_a6 116 rfl rfl, sx_a1 13 rfl rfl, nh_X12, by decide +kernel, Nat.le_of_ble_eq_true rfl⟩, sx_a6 115 rfl rfl, sx_pv 55 rfl rfl⟩
abbrev mX12_goOnAnd : sxM := (⟨"StainStreetModel", "goOnAnd", "()V"⟩, prog_14_method_23_code, 1, none)
def iX12_goOnAnd : List (Nat × Instr × Nat) := [(0, .aload_n 0, 1), (1, .getfield 116, 3), (4, .iconst (-1), 1), (5, .if_icmp .ne 36, 3), (8, .aload_n 0, 1), (9, .invokevirtual 128, 3), (12, .bipush 38, 2), (14, .if_icmp .ne 27, 3), (17, .aload_n 0, 1), (18, .dup, 1), (19, .getfield 109, 3), (22, .iconst 1, 1), (23, .iadd, 1), (24, .putfield 109, 3), (27, .aload_n 0, 1), (28, .invokevirtual 165, 3), (31, .aload_n 0, 1), (32, .bipush 10, 2), (34, .iconst 0, 1), (35, .invokevirtual 138, 3), (38, .goto (-38), 3), (41, .return_, 1)]
set_option maxRecDepth 100000 in
theorem dX12_goOnAnd : sx_dec prog_14_method_23_code iX12_goOnAnd = true := by decide +kernel
set_option maxRecDepth 100000 in
theorem vX12_goOnAnd : sx_mv mX12_goOnAnd 0 := ⟨⟨sx_a6 158 rfl rfl, sx_a1 13 rfl rfl, nh_X12, by decide +kernel, Nat.le_of_ble_eq_true rfl⟩, sx_a6 157 rfl rfl, sx_pv 64 rfl rfl⟩
abbrev mX12_goOnOr : sxM := (⟨"StainStreetModel", "goOnOr", "()V"⟩, prog_14_method_24_code, 1, none)
def iX12_goOnOr : List (Nat × Instr × Nat) := [(0, .aload_n 0, 1), (1, .getfield 116, 3), (4, .iconst (-1), 1), (5, .if_icmp .ne 40, 3), (8, .aload_n 0, 1), (9, .invokevirtual 128, 3), (12, .bipush 124, 2), (14, .if_icmp .ne 31, 3), (17, .aload_n 0, 1), (18, .dup, 1), (19, .getfield 109, 3), (22, .iconst 1, 1), (23, .iadd, 1), (24, .putfield 109, 3), (27, .aload_n 0, 1), (28, .invokevirtual 165, 3), (31, .aload_n 0, 1), (32, .invokevirtual 174, 3), (35, .aload_n 0, 1), (36, .bipush 11, 2), (38, .iconst 0, 1), (39, .invokevirtual 138, 3), (42, .goto (-42), 3), (45, .return_, 1)]
set_option maxRecDepth 100000 in
theorem dX12_goOnOr : sx_dec prog_14_method_24_code iX12_goOnOr = true := by decide +kernel
set_option maxRecDepth 100000 in
theorem vX12_goOnOr : sx_mv mX12_goOnOr 0 := ⟨⟨sx_a6 162 rfl rfl, sx_a1 13 rfl rfl, nh_X12, by decide +kernel, Nat.le_of_ble_eq_true rfl⟩, sx_a6 161 rfl rfl, sx_pv 65 rfl rfl⟩
abbrev mX12_condition : sxM := (⟨"StainStreetModel", "condition", "()V"⟩, prog_14_method_25_code, 1, none)
def iX12_condition : List (Nat × Instr × Nat) := [(0, .aload_n 0, 1), (1, .invokevirtual 165, 3), (4, .aload_n 0, 1), (5, .invokevirtual 174, 3), (8, .aload_n 0, 1), (9, .invokevirtual 177, 3), (12, .return_, 1)]
set_option maxRecDepth 100000 in
theorem dX12_condition : sx_dec prog_14_method_25_code iX12_condition = true := by decide +kernel
set_option maxRecDepth 100000 in
theorem vX12_condition : sx_mv mX12_condition 0 := ⟨⟨sx_a6 112 rfl rfl, sx_a1 13 rfl rfl, nh_X12, by decide +kernel, Nat.le_of_ble_eq_true rfl⟩, sx_a6 111 rfl rfl, sx_pv 54 rfl rfl⟩
abbrev mX12_clause : sxM := (⟨"StainStreetModel", "clause", "()V"⟩, prog_14_method_26_code, 3, none)
def iX12_clause : List (Nat × Instr × Nat) := [(0, .sipush 140, 3), (3, .aload_n 0, 1), (4, .getfield 119, 3), (7, .imul, 1), (8, .aload_n 0, 1), (9, .getfield 22, 3), (12, .aload_n 0, 1), (13, .getfield 119, 3), (16, .iaload, 1), (17, .iadd, 1), (18, .istore_n 1, 1), (19, .aload_n 0, 1), (20, .getfield 116, 3), (23, .iconst (-1), 1), (24, .if_icmp .ne 16, 3), (27, .aload_n 0, 1), (28, .invokevirtual 128, 3), (31, .bipush 121, 2), (33, .if_icmp .eq 7, 3), (36, .aload_n 0, 1), (37, .invokevirtual 125, 3), (40, .aload_n 0, 1), (41, .dup, 1), (42, .getfield 109, 3), (45, .iconst 1, 1), (46, .iadd, 1), (47, .putfield 109, 3), (50, .aload_n 0, 1), (51, .getfield 116, 3), (54, .iconst (-1), 1), (55, .if_icmp .ne 16, 3), (58, .aload_n 0, 1), (59, .invokevirtual 128, 3), (62, .bipush 58, 2), (64, .if_icmp .eq 7, 3), (67, .aload_n 0, 1), (68, .invokevirtual 125, 3), (71, .aload_n 0, 1), (72, .dup, 1), (73, .getfield 109, 3), (76, .iconst 1, 1), (77, .iadd, 1), (78, .putfield 109, 3), (81, .aload_n 0, 1), (82, .getfield 116, 3), (85, .iconst (-1), 1), (86, .if_icmp .eq 4, 3), (89, .return_, 1), (90, .aload_n 0, 1), (91, .getfield 25, 3), (94, .iload_n 1, 1), (95, .aload_n 0, 1), (96, .getfield 19, 3), (99, .aload_n 0, 1), (100, .getfield 119, 3), (103, .iaload, 1), (104, .iastore, 1), (105, .aload_n 0, 1), (106, .invokevirtual 128, 3), (109, .bipush 33, 2), (111, .if_icmp .eq 12, 3), (114, .aload_n 0, 1), (115, .invokevirtual 128, 3), (118, .bipush 40, 2), (120, .if_icmp .ne 7, 3), (123, .iconst 1, 1), (124, .goto 4, 3), (127, .iconst 0, 1), (128, .istore_n 2, 1), (129, .iload_n 2, 1), (130, .ifCond .eq 10, 3), (133, .aload_n 0, 1), (134, .invokevirtual 168, 3), (137, .goto 47, 3), (140, .aload_n 0, 1), (141, .invokevirtual 149, 3), (144, .aload_n 0, 1), (145, .getfield 116, 3), (148, .iconst (-1), 1), (149, .if_icmp .ne 17, 3), (152, .aload_n 0, 1), (153, .invokevirtual 128, 3), (156, .invokestatic 162, 3), (159, .ifCond .eq 7, 3), (162, .iconst 1, 1), (163, .goto 4, 3), (166, .iconst 0, 1), (167, .istore_n 2, 1), (168, .iload_n 2, 1), (169, .ifCond .eq 15, 3), (172, .aload_n 0, 1), (173, .invokevirtual 171, 3), (176, .aload_n 0, 1), (177, .invokevirtual 174, 3), (180, .aload_n 0, 1), (181, .invokevirtual 177, 3), (184, .aload_n 0, 1), (185, .getfield 28, 3), (188, .iload_n 1, 1), (189, .aload_n 0, 1), (190, .getfield 25, 3), (193, .iload_n 1, 1), (194, .iaload, 1), (195, .iastore, 1), (196, .iload_n 2, 1), (197, .ifCond .eq 54, 3), (200, .aload_n 0, 1), (201, .getfield 116, 3), (204, .iconst (-1), 1), (205, .if_icmp .ne 46, 3), (208, .aload_n 0, 1), (209, .invokevirtual 128, 3), (212, .bipush 63, 2), (214, .if_icmp .eq 8, 3), (217, .aload_n 0, 1), (218, .invokevirtual 125, 3), (221, .return_, 1), (222, .aload_n 0, 1), (223, .dup, 1), (224, .getfield 109, 3), (227, .iconst 1, 1), (228, .iadd, 1), (229, .putfield 109, 3), (232, .aload_n 0, 1), (233, .getfield 28, 3), (236, .iload_n 1, 1), (237, .aload_n 0, 1), (238, .getfield 19, 3), (241, .aload_n 0, 1), (242, .getfield 119, 3), (245, .iaload, 1), (246, .iastore, 1), (247, .aload_n 0, 1), (248, .invokevirtual 149, 3), (251, .aload_n 0, 1), (252, .getfield 31, 3), (255, .iload_n 1, 1), (256, .aload_n 0, 1), (257, .getfield 19, 3), (260, .aload_n 0, 1), (261, .getfield 119, 3), (264, .iaload, 1), (265, .iastore, 1), (266, .aload_n 0, 1), (267, .getfield 22, 3), (270, .aload_n 0, 1), (271, .getfield 119, 3), (274, .dup2, 1), (275, .iaload, 1), (276, .iconst 1, 1), (277, .iadd, 1), (278, .iastore, 1), (279, .return_, 1)]
set_option maxRecDepth 100000 in
theorem dX12_clause : sx_dec prog_14_method_26_code iX12_clause = true := by decide +kernel
set_option maxRecDepth 100000 in
theorem vX12_clause : sx_mv mX12_clause 0 := ⟨⟨sx_a6 108 rfl rfl, sx_a1 13 rfl rfl, nh_X12, by decide +kernel, Nat.le_of_ble_eq_true rfl⟩, sx_a6 107 rfl rfl, sx_pv 53 rfl rfl⟩
abbrev mX12_open : sxM := (⟨"StainStreetModel", "open", "(I)V"⟩, prog_14_method_27_code, 2, none)
def iX12_open : List (Nat × Instr × Nat) := [(0, .aload_n 0, 1), (1, .iload_n 1, 1), (2, .putfield 119, 3), (5, .aload_n 0, 1), (6, .iconst 0, 1), (7, .putfield 109, 3), (10, .aload_n 0, 1), (11, .iconst (-1), 1), (12, .putfield 116, 3), (15, .aload_n 0, 1), (16, .iconst 0, 1), (17, .putfield 122, 3), (20, .aload_n 0, 1), (21, .getfield 19, 3), (24, .iload_n 1, 1), (25, .iconst 0, 1), (26, .iastore, 1), (27, .aload_n 0, 1), (28, .getfield 22, 3), (31, .iload_n 1, 1), (32, .iconst 0, 1), (33, .iastore, 1), (34, .return_, 1)]
set_option maxRecDepth 100000 in
theorem dX12_open : sx_dec prog_14_method_27_code iX12_open = true := by decide +kernel
set_option maxRecDepth 100000 in
theorem vX12_open : sx_mv mX12_open 1 := ⟨⟨sx_a6 104 rfl rfl, sx_a1 13 rfl rfl, nh_X12, by decide +kernel, Nat.le_of_ble_eq_true rfl⟩, sx_a6 103 rfl rfl, sx_pv 52 rfl rfl⟩
abbrev mX12_atEnd : sxM := (⟨"StainStreetModel", "atEnd", "()I"⟩, prog_14_method_28_code, 1, some FieldType.int)
def iX12_atEnd : List (Nat × Instr × Nat) := [(0, .aload_n 0, 1), (1, .getfield 116, 3), (4, .iconst (-1), 1), (5, .if_icmp .ne 15, 3), (8, .aload_n 0, 1), (9, .invokevirtual 128, 3), (12, .iconst (-1), 1), (13, .if_icmp .eq 7, 3), (16, .aload_n 0, 1), (17, .invokevirtual 125, 3), (20, .aload_n 0, 1), (21, .getfield 116, 3), (24, .ireturn, 1)]
set_option maxRecDepth 100000 in
theorem dX12_atEnd : sx_dec prog_14_method_28_code iX12_atEnd = true := by decide +kernel
set_option maxRecDepth 100000 in
theorem vX12_atEnd : sx_mv mX12_atEnd 0 := ⟨⟨sx_a6 166 rfl rfl, sx_a1 13 rfl rfl, nh_X12, by decide +kernel, Nat.le_of_ble_eq_true rfl⟩, sx_a6 165 rfl rfl, sx_pv 66 rfl rfl⟩
abbrev mX12_readLaw : sxM := (⟨"StainStreetModel", "readLaw", "(I)I"⟩, prog_14_method_29_code, 2, some FieldType.int)
def iX12_readLaw : List (Nat × Instr × Nat) := [(0, .aload_n 0, 1), (1, .iload_n 1, 1), (2, .invokevirtual 180, 3), (5, .aload_n 0, 1), (6, .invokevirtual 183, 3), (9, .aload_n 0, 1), (10, .getfield 116, 3), (13, .iconst (-1), 1), (14, .if_icmp .ne 29, 3), (17, .aload_n 0, 1), (18, .invokevirtual 128, 3), (21, .bipush 59, 2), (23, .if_icmp .ne 20, 3), (26, .aload_n 0, 1), (27, .dup, 1), (28, .getfield 109, 3), (31, .iconst 1, 1), (32, .iadd, 1), (33, .putfield 109, 3), (36, .aload_n 0, 1), (37, .invokevirtual 183, 3), (40, .goto (-31), 3), (43, .aload_n 0, 1), (44, .invokevirtual 186, 3), (47, .ireturn, 1)]
set_option maxRecDepth 100000 in
theorem dX12_readLaw : sx_dec prog_14_method_29_code iX12_readLaw = true := by decide +kernel
set_option maxRecDepth 100000 in
theorem vX12_readLaw : sx_mv mX12_readLaw 1 := ⟨⟨sx_a6 100 rfl rfl, sx_a1 13 rfl rfl, nh_X12, by decide +kernel, Nat.le_of_ble_eq_true rfl⟩, sx_a6 99 rfl rfl, sx_pv 51 rfl rfl⟩
abbrev mX12_bounded : sxM := (⟨"StainStreetModel", "bounded", "(J)I"⟩, prog_14_method_30_code, 2, some FieldType.int)
def iX12_bounded : List (Nat × Instr × Nat) := [(0, .ldc2_w 189, 3), (3, .ldc2_w 191, 3), (6, .lload_n 0, 1), (7, .invokestatic 193, 3), (10, .invokestatic 199, 3), (13, .l2i, 1), (14, .ireturn, 1)]
set_option maxRecDepth 100000 in
theorem dX12_bounded : sx_dec prog_14_method_30_code iX12_bounded = true := by decide +kernel
set_option maxRecDepth 100000 in
theorem vX12_bounded : sx_ms mX12_bounded 1 := ⟨⟨sx_a6 213 rfl rfl, sx_a1 13 rfl rfl, nh_X12, by decide +kernel, Nat.le_of_ble_eq_true rfl⟩, sx_a6 212 rfl rfl⟩
abbrev mX12_worked : sxM := (⟨"StainStreetModel", "worked", "(IJJ)I"⟩, prog_14_method_31_code, 5, some FieldType.int)
def iX12_worked : List (Nat × Instr × Nat) := [(0, .iload_n 0, 1), (1, .tableswitch 143 2 10 #[51, 58, 65, 72, 89, 101, 113, 143, 125], 51), (52, .lload_n 1, 1), (53, .lload_n 3, 1), (54, .ladd, 1), (55, .invokestatic 202, 3), (58, .ireturn, 1), (59, .lload_n 1, 1), (60, .lload_n 3, 1), (61, .lsub, 1), (62, .invokestatic 202, 3), (65, .ireturn, 1), (66, .lload_n 1, 1), (67, .lload_n 3, 1), (68, .lmul, 1), (69, .invokestatic 202, 3), (72, .ireturn, 1), (73, .lload_n 3, 1), (74, .lconst 0, 1), (75, .lcmp, 1), (76, .ifCond .ne 7, 3), (79, .iconst 0, 1), (80, .goto 9, 3), (83, .lload_n 1, 1), (84, .lload_n 3, 1), (85, .ldiv, 1), (86, .invokestatic 202, 3), (89, .ireturn, 1), (90, .lload_n 1, 1), (91, .lload_n 3, 1), (92, .lcmp, 1), (93, .ifCond .ne 7, 3), (96, .iconst 1, 1), (97, .goto 4, 3), (100, .iconst 0, 1), (101, .ireturn, 1), (102, .lload_n 1, 1), (103, .lload_n 3, 1), (104, .lcmp, 1), (105, .ifCond .ge 7, 3), (108, .iconst 1, 1), (109, .goto 4, 3), (112, .iconst 0, 1), (113, .ireturn, 1), (114, .lload_n 1, 1), (115, .lload_n 3, 1), (116, .lcmp, 1), (117, .ifCond .le 7, 3), (120, .iconst 1, 1), (121, .goto 4, 3), (124, .iconst 0, 1), (125, .ireturn, 1), (126, .lload_n 1, 1), (127, .lconst 0, 1), (128, .lcmp, 1), (129, .ifCond .eq 13, 3), (132, .lload_n 3, 1), (133, .lconst 0, 1), (134, .lcmp, 1), (135, .ifCond .eq 7, 3), (138, .iconst 1, 1), (139, .goto 4, 3), (142, .iconst 0, 1), (143, .ireturn, 1), (144, .lload_n 1, 1), (145, .lconst 0, 1), (146, .lcmp, 1), (147, .ifCond .ne 9, 3), (150, .lload_n 3, 1), (151, .lconst 0, 1), (152, .lcmp, 1), (153, .ifCond .eq 7, 3), (156, .iconst 1, 1), (157, .goto 4, 3), (160, .iconst 0, 1), (161, .ireturn, 1)]
set_option maxRecDepth 100000 in
theorem dX12_worked : sx_dec prog_14_method_31_code iX12_worked = true := by decide +kernel
set_option maxRecDepth 100000 in
theorem vX12_worked : sx_ms mX12_worked 3 := ⟨⟨sx_a6 210 rfl rfl, sx_a1 13 rfl rfl, nh_X12, by decide +kernel, Nat.le_of_ble_eq_true rfl⟩, sx_a6 209 rfl rfl⟩
abbrev mX12_workOut : sxM := (⟨"StainStreetModel", "workOut", "(III)I"⟩, prog_14_method_32_code, 6, some FieldType.int)
def iX12_workOut : List (Nat × Instr × Nat) := [(0, .iconst 0, 1), (1, .istore 4, 2), (3, .sipush 520, 3), (6, .iload_n 1, 1), (7, .imul, 1), (8, .iload_n 2, 1), (9, .iadd, 1), (10, .istore 5, 2), (12, .iload 5, 2), (14, .sipush 520, 3), (17, .iload_n 1, 1), (18, .imul, 1), (19, .iload_n 3, 1), (20, .iadd, 1), (21, .if_icmp .ge 150, 3), (24, .aload_n 0, 1), (25, .getfield 13, 3), (28, .iload 5, 2), (30, .iaload, 1), (31, .ifCond .eq 14, 3), (34, .aload_n 0, 1), (35, .getfield 13, 3), (38, .iload 5, 2), (40, .iaload, 1), (41, .iconst 1, 1), (42, .if_icmp .ne 48, 3), (45, .aload_n 0, 1), (46, .getfield 37, 3), (49, .iload 4, 2), (51, .aload_n 0, 1), (52, .getfield 13, 3), (55, .iload 5, 2), (57, .iaload, 1), (58, .ifCond .ne 13, 3), (61, .aload_n 0, 1), (62, .getfield 16, 3), (65, .iload 5, 2), (67, .iaload, 1), (68, .goto 15, 3), (71, .aload_n 0, 1), (72, .getfield 34, 3), (75, .aload_n 0, 1), (76, .getfield 16, 3), (79, .iload 5, 2), (81, .iaload, 1), (82, .iaload, 1), (83, .iastore, 1), (84, .iinc 4 1, 3), (87, .goto 78, 3), (90, .aload_n 0, 1), (91, .getfield 13, 3), (94, .iload 5, 2), (96, .iaload, 1), (97, .bipush 9, 2), (99, .if_icmp .ne 26, 3), (102, .aload_n 0, 1), (103, .getfield 37, 3), (106, .iload 4, 2), (108, .iconst 1, 1), (109, .isub, 1), (110, .iconst 1, 1), (111, .aload_n 0, 1), (112, .getfield 37, 3), (115, .iload 4, 2), (117, .iconst 1, 1), (118, .isub, 1), (119, .iaload, 1), (120, .isub, 1), (121, .iastore, 1), (122, .goto 43, 3), (125, .iinc 4 (-1), 3), (128, .aload_n 0, 1), (129, .getfield 37, 3), (132, .iload 4, 2), (134, .iconst 1, 1), (135, .isub, 1), (136, .aload_n 0, 1), (137, .getfield 13, 3), (140, .iload 5, 2), (142, .iaload, 1), (143, .aload_n 0, 1), (144, .getfield 37, 3), (147, .iload 4, 2), (149, .iconst 1, 1), (150, .isub, 1), (151, .iaload, 1), (152, .i2l, 1), (153, .aload_n 0, 1), (154, .getfield 37, 3), (157, .iload 4, 2), (159, .iaload, 1), (160, .i2l, 1), (161, .invokestatic 206, 3), (164, .iastore, 1), (165, .iinc 5 1, 3), (168, .goto (-156), 3), (171, .aload_n 0, 1), (172, .getfield 37, 3), (175, .iconst 0, 1), (176, .iaload, 1), (177, .ireturn, 1)]
set_option maxRecDepth 100000 in
theorem dX12_workOut : sx_dec prog_14_method_32_code iX12_workOut = true := by decide +kernel
set_option maxRecDepth 100000 in
theorem vX12_workOut : sx_mv mX12_workOut 3 := ⟨⟨sx_a6 207 rfl rfl, sx_a1 13 rfl rfl, nh_X12, by decide +kernel, Nat.le_of_ble_eq_true rfl⟩, sx_a6 206 rfl rfl, sx_pv 73 rfl rfl⟩
abbrev mX12_worthOf : sxM := (⟨"StainStreetModel", "worthOf", "(I)I"⟩, prog_14_method_33_code, 3, some FieldType.int)
def iX12_worthOf : List (Nat × Instr × Nat) := [(0, .sipush 140, 3), (3, .iload_n 1, 1), (4, .imul, 1), (5, .istore_n 2, 1), (6, .iload_n 2, 1), (7, .sipush 140, 3), (10, .iload_n 1, 1), (11, .imul, 1), (12, .aload_n 0, 1), (13, .getfield 22, 3), (16, .iload_n 1, 1), (17, .iaload, 1), (18, .iadd, 1), (19, .if_icmp .ge 62, 3), (22, .aload_n 0, 1), (23, .getfield 25, 3), (26, .iload_n 2, 1), (27, .iaload, 1), (28, .aload_n 0, 1), (29, .getfield 28, 3), (32, .iload_n 2, 1), (33, .iaload, 1), (34, .if_icmp .eq 23, 3), (37, .aload_n 0, 1), (38, .iload_n 1, 1), (39, .aload_n 0, 1), (40, .getfield 25, 3), (43, .iload_n 2, 1), (44, .iaload, 1), (45, .aload_n 0, 1), (46, .getfield 28, 3), (49, .iload_n 2, 1), (50, .iaload, 1), (51, .invokevirtual 210, 3), (54, .ifCond .eq 21, 3), (57, .aload_n 0, 1), (58, .iload_n 1, 1), (59, .aload_n 0, 1), (60, .getfield 28, 3), (63, .iload_n 2, 1), (64, .iaload, 1), (65, .aload_n 0, 1), (66, .getfield 31, 3), (69, .iload_n 2, 1), (70, .iaload, 1), (71, .invokevirtual 210, 3), (74, .ireturn, 1), (75, .iinc 2 1, 3), (78, .goto (-72), 3), (81, .iconst 0, 1), (82, .ireturn, 1)]
set_option maxRecDepth 100000 in
theorem dX12_worthOf : sx_dec prog_14_method_33_code iX12_worthOf = true := by decide +kernel
set_option maxRecDepth 100000 in
theorem vX12_worthOf : sx_mv mX12_worthOf 1 := ⟨⟨sx_a6 203 rfl rfl, sx_a1 13 rfl rfl, nh_X12, by decide +kernel, Nat.le_of_ble_eq_true rfl⟩, sx_a6 202 rfl rfl, sx_pv 72 rfl rfl⟩
abbrev mX12_number : sxM := (⟨"StainStreetModel", "number", "(II)I"⟩, prog_14_method_34_code, 4, some FieldType.int)
def iX12_number : List (Nat × Instr × Nat) := [(0, .aload_n 0, 1), (1, .invokevirtual 128, 3), (4, .invokestatic 131, 3), (7, .ifCond .ne 9, 3), (10, .aload_n 0, 1), (11, .invokevirtual 125, 3), (14, .iload_n 1, 1), (15, .ireturn, 1), (16, .aload_n 0, 1), (17, .invokevirtual 112, 3), (20, .bipush 48, 2), (22, .isub, 1), (23, .istore_n 3, 1), (24, .aload_n 0, 1), (25, .dup, 1), (26, .getfield 109, 3), (29, .iconst 1, 1), (30, .iadd, 1), (31, .putfield 109, 3), (34, .aload_n 0, 1), (35, .invokevirtual 112, 3), (38, .invokestatic 131, 3), (41, .ifCond .eq 26, 3), (44, .bipush 10, 2), (46, .iload_n 3, 1), (47, .imul, 1), (48, .aload_n 0, 1), (49, .invokevirtual 112, 3), (52, .iadd, 1), (53, .bipush 48, 2), (55, .isub, 1), (56, .istore_n 3, 1), (57, .aload_n 0, 1), (58, .dup, 1), (59, .getfield 109, 3), (62, .iconst 1, 1), (63, .iadd, 1), (64, .putfield 109, 3), (67, .aload_n 0, 1), (68, .invokevirtual 112, 3), (71, .invokestatic 131, 3), (74, .ifCond .eq 10, 3), (77, .aload_n 0, 1), (78, .invokevirtual 125, 3), (81, .goto 26, 3), (84, .iload_n 3, 1), (85, .iload_n 1, 1), (86, .iload_n 2, 1), (87, .invokestatic 214, 3), (90, .ifCond .ne 17, 3), (93, .aload_n 0, 1), (94, .dup, 1), (95, .getfield 109, 3), (98, .iconst 1, 1), (99, .isub, 1), (100, .putfield 109, 3), (103, .aload_n 0, 1), (104, .invokevirtual 125, 3), (107, .iload_n 3, 1), (108, .ireturn, 1)]
set_option maxRecDepth 100000 in
theorem dX12_number : sx_dec prog_14_method_34_code iX12_number = true := by decide +kernel
set_option maxRecDepth 100000 in
theorem vX12_number : sx_mv mX12_number 2 := ⟨⟨sx_a6 82 rfl rfl, sx_a1 13 rfl rfl, nh_X12, by decide +kernel, Nat.le_of_ble_eq_true rfl⟩, sx_a6 81 rfl rfl, sx_pv 48 rfl rfl⟩
abbrev mX12_itemOf : sxM := (⟨"StainStreetModel", "itemOf", "(II)I"⟩, prog_14_method_35_code, 2, some FieldType.int)
def iX12_itemOf : List (Nat × Instr × Nat) := [(0, .iload_n 0, 1), (1, .lookupswitch 111 #[(104, 69), (115, 27)], 27), (28, .iload_n 1, 1), (29, .bipush 100, 2), (31, .if_icmp .ne 7, 3), (34, .iconst 0, 1), (35, .goto 34, 3), (38, .iload_n 1, 1), (39, .bipush 104, 2), (41, .if_icmp .ne 7, 3), (44, .iconst 1, 1), (45, .goto 24, 3), (48, .iload_n 1, 1), (49, .bipush 102, 2), (51, .if_icmp .ne 7, 3), (54, .iconst 2, 1), (55, .goto 14, 3), (58, .iload_n 1, 1), (59, .bipush 99, 2), (61, .if_icmp .ne 7, 3), (64, .iconst 3, 1), (65, .goto 4, 3), (68, .iconst (-1), 1), (69, .ireturn, 1), (70, .iload_n 1, 1), (71, .bipush 109, 2), (73, .if_icmp .ne 7, 3), (76, .iconst 0, 1), (77, .goto 34, 3), (80, .iload_n 1, 1), (81, .bipush 119, 2), (83, .if_icmp .ne 7, 3), (86, .iconst 1, 1), (87, .goto 24, 3), (90, .iload_n 1, 1), (91, .bipush 103, 2), (93, .if_icmp .ne 7, 3), (96, .iconst 2, 1), (97, .goto 14, 3), (100, .iload_n 1, 1), (101, .bipush 112, 2), (103, .if_icmp .ne 7, 3), (106, .iconst 3, 1), (107, .goto 4, 3), (110, .iconst (-1), 1), (111, .ireturn, 1), (112, .iload_n 1, 1), (113, .bipush 116, 2), (115, .if_icmp .ne 7, 3), (118, .iconst 0, 1), (119, .goto 14, 3), (122, .iload_n 1, 1), (123, .bipush 110, 2), (125, .if_icmp .ne 7, 3), (128, .iconst 1, 1), (129, .goto 4, 3), (132, .iconst (-1), 1), (133, .ireturn, 1)]
set_option maxRecDepth 100000 in
theorem dX12_itemOf : sx_dec prog_14_method_35_code iX12_itemOf = true := by decide +kernel
set_option maxRecDepth 100000 in
theorem vX12_itemOf : sx_ms mX12_itemOf 2 := ⟨⟨sx_a6 69 rfl rfl, sx_a1 13 rfl rfl, nh_X12, by decide +kernel, Nat.le_of_ble_eq_true rfl⟩, sx_a6 68 rfl rfl⟩
abbrev mX12_lowest : sxM := (⟨"StainStreetModel", "lowest", "(II)I"⟩, prog_14_method_36_code, 2, some FieldType.int)
def iX12_lowest : List (Nat × Instr × Nat) := [(0, .iload_n 0, 1), (1, .bipush 115, 2), (3, .if_icmp .ne 7, 3), (6, .iload_n 1, 1), (7, .ifCond .eq 13, 3), (10, .iload_n 0, 1), (11, .bipush 102, 2), (13, .if_icmp .ne 11, 3), (16, .iload_n 1, 1), (17, .ifCond .ne 7, 3), (20, .iconst 1, 1), (21, .goto 4, 3), (24, .iconst 0, 1), (25, .ireturn, 1)]
set_option maxRecDepth 100000 in
theorem dX12_lowest : sx_dec prog_14_method_36_code iX12_lowest = true := by decide +kernel
set_option maxRecDepth 100000 in
theorem vX12_lowest : sx_ms mX12_lowest 2 := ⟨⟨sx_a6 75 rfl rfl, sx_a1 13 rfl rfl, nh_X12, by decide +kernel, Nat.le_of_ble_eq_true rfl⟩, sx_a6 74 rfl rfl⟩
abbrev mX12_highest : sxM := (⟨"StainStreetModel", "highest", "(II)I"⟩, prog_14_method_37_code, 2, some FieldType.int)
def iX12_highest : List (Nat × Instr × Nat) := [(0, .iload_n 0, 1), (1, .lookupswitch 62 #[(104, 59), (115, 27)], 27), (28, .iload_n 1, 1), (29, .iconst 1, 1), (30, .if_icmp .ne 8, 3), (33, .bipush 8, 2), (35, .goto 24, 3), (38, .iload_n 1, 1), (39, .iconst 2, 1), (40, .if_icmp .ne 7, 3), (43, .iconst 5, 1), (44, .goto 15, 3), (47, .iload_n 1, 1), (48, .iconst 3, 1), (49, .if_icmp .ne 8, 3), (52, .bipush 99, 2), (54, .goto 5, 3), (57, .bipush 9, 2), (59, .ireturn, 1), (60, .bipush 9, 2), (62, .ireturn, 1), (63, .iload_n 1, 1), (64, .ifCond .ne 8, 3), (67, .bipush 9, 2), (69, .goto 4, 3), (72, .iconst 5, 1), (73, .ireturn, 1)]
set_option maxRecDepth 100000 in
theorem dX12_highest : sx_dec prog_14_method_37_code iX12_highest = true := by decide +kernel
set_option maxRecDepth 100000 in
theorem vX12_highest : sx_ms mX12_highest 2 := ⟨⟨sx_a6 78 rfl rfl, sx_a1 13 rfl rfl, nh_X12, by decide +kernel, Nat.le_of_ble_eq_true rfl⟩, sx_a6 77 rfl rfl⟩
abbrev mX12_usual : sxM := (⟨"StainStreetModel", "usual", "(II)I"⟩, prog_14_method_38_code, 2, some FieldType.int)
def iX12_usual : List (Nat × Instr × Nat) := [(0, .iload_n 0, 1), (1, .lookupswitch 76 #[(104, 57), (115, 27)], 27), (28, .iload_n 1, 1), (29, .ifCond .ne 7, 3), (32, .iconst 3, 1), (33, .goto 24, 3), (36, .iload_n 1, 1), (37, .iconst 1, 1), (38, .if_icmp .ne 8, 3), (41, .bipush 8, 2), (43, .goto 14, 3), (46, .iload_n 1, 1), (47, .iconst 2, 1), (48, .if_icmp .ne 7, 3), (51, .iconst 0, 1), (52, .goto 5, 3), (55, .bipush 20, 2), (57, .ireturn, 1), (58, .iload_n 1, 1), (59, .ifCond .ne 7, 3), (62, .iconst 3, 1), (63, .goto 13, 3), (66, .iload_n 1, 1), (67, .iconst 3, 1), (68, .if_icmp .ne 7, 3), (71, .iconst 2, 1), (72, .goto 4, 3), (75, .iconst 0, 1), (76, .ireturn, 1), (77, .iload_n 1, 1), (78, .ifCond .ne 7, 3), (81, .iconst 3, 1), (82, .goto 4, 3), (85, .iconst 0, 1), (86, .ireturn, 1)]
set_option maxRecDepth 100000 in
theorem dX12_usual : sx_dec prog_14_method_38_code iX12_usual = true := by decide +kernel
set_option maxRecDepth 100000 in
theorem vX12_usual : sx_ms mX12_usual 2 := ⟨⟨sx_a6 54 rfl rfl, sx_a1 13 rfl rfl, nh_X12, by decide +kernel, Nat.le_of_ble_eq_true rfl⟩, sx_a6 53 rfl rfl⟩
abbrev mX12_items : sxM := (⟨"StainStreetModel", "items", "(I[III)V"⟩, prog_14_method_39_code, 7, none)
def iX12_items : List (Nat × Instr × Nat) := [(0, .iconst 0, 1), (1, .istore 5, 2), (3, .iload 5, 2), (5, .iload 4, 2), (7, .if_icmp .ge 21, 3), (10, .aload_n 2, 1), (11, .iload_n 3, 1), (12, .iload 5, 2), (14, .iadd, 1), (15, .iload_n 1, 1), (16, .iload 5, 2), (18, .invokestatic 218, 3), (21, .iastore, 1), (22, .iinc 5 1, 3), (25, .goto (-22), 3), (28, .iconst 0, 1), (29, .istore 5, 2), (31, .iload_n 1, 1), (32, .aload_n 0, 1), (33, .invokevirtual 128, 3), (36, .invokestatic 222, 3), (39, .istore 6, 2), (41, .aload_n 0, 1), (42, .getfield 116, 3), (45, .iconst (-1), 1), (46, .if_icmp .ne 85, 3), (49, .iload 6, 2), (51, .iconst (-1), 1), (52, .if_icmp .eq 79, 3), (55, .iload 5, 2), (57, .iload 6, 2), (59, .invokestatic 225, 3), (62, .ifCond .ne 69, 3), (65, .iload 5, 2), (67, .iconst 1, 1), (68, .iload 6, 2), (70, .ishl, 1), (71, .ior, 1), (72, .istore 5, 2), (74, .aload_n 0, 1), (75, .dup, 1), (76, .getfield 109, 3), (79, .iconst 1, 1), (80, .iadd, 1), (81, .putfield 109, 3), (84, .aload_n 2, 1), (85, .iload_n 3, 1), (86, .iload 6, 2), (88, .iadd, 1), (89, .aload_n 0, 1), (90, .iload_n 1, 1), (91, .iload 6, 2), (93, .invokestatic 229, 3), (96, .iload_n 1, 1), (97, .iload 6, 2), (99, .invokestatic 232, 3), (102, .invokevirtual 235, 3), (105, .iastore, 1), (106, .aload_n 0, 1), (107, .getfield 116, 3), (110, .iconst (-1), 1), (111, .if_icmp .ne 14, 3), (114, .iload_n 1, 1), (115, .aload_n 0, 1), (116, .invokevirtual 128, 3), (119, .invokestatic 222, 3), (122, .goto 4, 3), (125, .iconst (-1), 1), (126, .istore 6, 2), (128, .goto (-87), 3), (131, .return_, 1)]
set_option maxRecDepth 100000 in
theorem dX12_items : sx_dec prog_14_method_39_code iX12_items = true := by decide +kernel
set_option maxRecDepth 100000 in
theorem vX12_items : sx_mv mX12_items 4 := ⟨⟨sx_a6 66 rfl rfl, sx_a1 13 rfl rfl, nh_X12, by decide +kernel, Nat.le_of_ble_eq_true rfl⟩, sx_a6 65 rfl rfl, sx_pv 47 rfl rfl⟩
abbrev mX12_isWhole : sxM := (⟨"StainStreetModel", "isWhole", "()Z"⟩, prog_14_method_40_code, 3, some FieldType.boolean)
def iX12_isWhole : List (Nat × Instr × Nat) := [(0, .aload_n 0, 1), (1, .getfield 238, 3), (4, .iconst 1, 1), (5, .if_icmp .le 27, 3), (8, .aload_n 0, 1), (9, .getfield 241, 3), (12, .ifCond .le 20, 3), (15, .aload_n 0, 1), (16, .getfield 40, 3), (19, .iconst 2, 1), (20, .iaload, 1), (21, .aload_n 0, 1), (22, .getfield 241, 3), (25, .if_icmp .ge 7, 3), (28, .iconst 1, 1), (29, .goto 4, 3), (32, .iconst 0, 1), (33, .istore_n 1, 1), (34, .iload_n 1, 1), (35, .ifCond .eq 31, 3), (38, .aload_n 0, 1), (39, .getfield 40, 3), (42, .iconst 1, 1), (43, .iaload, 1), (44, .bipush 8, 2), (46, .if_icmp .eq 16, 3), (49, .aload_n 0, 1), (50, .getfield 40, 3), (53, .iconst 1, 1), (54, .iaload, 1), (55, .aload_n 0, 1), (56, .getfield 238, 3), (59, .if_icmp .ge 7, 3), (62, .iconst 1, 1), (63, .goto 4, 3), (66, .iconst 0, 1), (67, .istore_n 1, 1), (68, .iconst 0, 1), (69, .istore_n 2, 1), (70, .iload_n 2, 1), (71, .aload_n 0, 1), (72, .getfield 241, 3), (75, .if_icmp .ge 36, 3), (78, .iload_n 1, 1), (79, .ifCond .eq 24, 3), (82, .aload_n 0, 1), (83, .getfield 46, 3), (86, .iconst 2, 1), (87, .iload_n 2, 1), (88, .imul, 1), (89, .iconst 1, 1), (90, .iadd, 1), (91, .iaload, 1), (92, .aload_n 0, 1), (93, .getfield 241, 3), (96, .if_icmp .ge 7, 3), (99, .iconst 1, 1), (100, .goto 4, 3), (103, .iconst 0, 1), (104, .istore_n 1, 1), (105, .iinc 2 1, 3), (108, .goto (-38), 3), (111, .iload_n 1, 1), (112, .ireturn, 1)]
set_option maxRecDepth 100000 in
theorem dX12_isWhole : sx_dec prog_14_method_40_code iX12_isWhole = true := by decide +kernel
set_option maxRecDepth 100000 in
theorem vX12_isWhole : sx_mv mX12_isWhole 0 := ⟨⟨sx_a6 96 rfl rfl, sx_a1 13 rfl rfl, nh_X12, by decide +kernel, Nat.le_of_ble_eq_true rfl⟩, sx_a6 95 rfl rfl, sx_pv 50 rfl rfl⟩
abbrev mX12_readStreet : sxM := (⟨"StainStreetModel", "readStreet", "()I"⟩, prog_14_method_41_code, 4, some FieldType.int)
def iX12_readStreet : List (Nat × Instr × Nat) := [(0, .aload_n 0, 1), (1, .iconst 0, 1), (2, .putfield 109, 3), (5, .aload_n 0, 1), (6, .iconst (-1), 1), (7, .putfield 116, 3), (10, .aload_n 0, 1), (11, .iconst 0, 1), (12, .putfield 238, 3), (15, .aload_n 0, 1), (16, .iconst 0, 1), (17, .putfield 241, 3), (20, .iconst 0, 1), (21, .istore_n 1, 1), (22, .iconst 0, 1), (23, .istore_n 2, 1), (24, .iload_n 2, 1), (25, .iconst 4, 1), (26, .if_icmp .ge 21, 3), (29, .aload_n 0, 1), (30, .getfield 40, 3), (33, .iload_n 2, 1), (34, .bipush 115, 2), (36, .iload_n 2, 1), (37, .invokestatic 218, 3), (40, .iastore, 1), (41, .iinc 2 1, 3), (44, .goto (-20), 3), (47, .iconst 1, 1), (48, .istore_n 2, 1), (49, .iload_n 2, 1), (50, .ifCond .eq 208, 3), (53, .aload_n 0, 1), (54, .getfield 116, 3), (57, .iconst (-1), 1), (58, .if_icmp .ne 200, 3), (61, .aload_n 0, 1), (62, .invokevirtual 128, 3), (65, .istore_n 3, 1), (66, .iload_n 3, 1), (67, .bipush 115, 2), (69, .if_icmp .ne 33, 3), (72, .iload_n 1, 1), (73, .ifCond .ne 29, 3), (76, .iconst 1, 1), (77, .istore_n 1, 1), (78, .aload_n 0, 1), (79, .dup, 1), (80, .getfield 109, 3), (83, .iconst 1, 1), (84, .iadd, 1), (85, .putfield 109, 3), (88, .aload_n 0, 1), (89, .iload_n 3, 1), (90, .aload_n 0, 1), (91, .getfield 40, 3), (94, .iconst 0, 1), (95, .iconst 4, 1), (96, .invokevirtual 244, 3), (99, .goto 115, 3), (102, .iload_n 3, 1), (103, .bipush 104, 2), (105, .if_icmp .ne 51, 3), (108, .aload_n 0, 1), (109, .getfield 238, 3), (112, .bipush 8, 2), (114, .if_icmp .ge 42, 3), (117, .aload_n 0, 1), (118, .dup, 1), (119, .getfield 109, 3), (122, .iconst 1, 1), (123, .iadd, 1), (124, .putfield 109, 3), (127, .aload_n 0, 1), (128, .iload_n 3, 1), (129, .aload_n 0, 1), (130, .getfield 43, 3), (133, .iconst 4, 1), (134, .aload_n 0, 1), (135, .getfield 238, 3), (138, .imul, 1), (139, .iconst 4, 1), (140, .invokevirtual 244, 3), (143, .aload_n 0, 1), (144, .dup, 1), (145, .getfield 238, 3), (148, .iconst 1, 1), (149, .iadd, 1), (150, .putfield 238, 3), (153, .goto 61, 3), (156, .iload_n 3, 1), (157, .bipush 102, 2), (159, .if_icmp .ne 51, 3), (162, .aload_n 0, 1), (163, .getfield 241, 3), (166, .bipush 6, 2), (168, .if_icmp .ge 42, 3), (171, .aload_n 0, 1), (172, .dup, 1), (173, .getfield 109, 3), (176, .iconst 1, 1), (177, .iadd, 1), (178, .putfield 109, 3), (181, .aload_n 0, 1), (182, .iload_n 3, 1), (183, .aload_n 0, 1), (184, .getfield 46, 3), (187, .iconst 2, 1), (188, .aload_n 0, 1), (189, .getfield 241, 3), (192, .imul, 1), (193, .iconst 2, 1), (194, .invokevirtual 244, 3), (197, .aload_n 0, 1), (198, .dup, 1), (199, .getfield 241, 3), (202, .iconst 1, 1), (203, .iadd, 1), (204, .putfield 241, 3), (207, .goto 7, 3), (210, .aload_n 0, 1), (211, .invokevirtual 125, 3), (214, .aload_n 0, 1), (215, .getfield 116, 3), (218, .iconst (-1), 1), (219, .if_icmp .ne 16, 3), (222, .aload_n 0, 1), (223, .invokevirtual 128, 3), (226, .bipush 59, 2), (228, .if_icmp .ne 7, 3), (231, .iconst 1, 1), (232, .goto 4, 3), (235, .iconst 0, 1), (236, .istore_n 2, 1), (237, .aload_n 0, 1), (238, .dup, 1), (239, .getfield 109, 3), (242, .iload_n 2, 1), (243, .ifCond .eq 7, 3), (246, .iconst 1, 1), (247, .goto 4, 3), (250, .iconst 0, 1), (251, .iadd, 1), (252, .putfield 109, 3), (255, .goto (-206), 3), (258, .aload_n 0, 1), (259, .getfield 116, 3), (262, .iconst (-1), 1), (263, .if_icmp .ne 22, 3), (266, .aload_n 0, 1), (267, .invokevirtual 128, 3), (270, .iconst (-1), 1), (271, .if_icmp .ne 10, 3), (274, .aload_n 0, 1), (275, .invokevirtual 248, 3), (278, .ifCond .ne 7, 3), (281, .aload_n 0, 1), (282, .invokevirtual 125, 3), (285, .aload_n 0, 1), (286, .getfield 116, 3), (289, .ireturn, 1)]
set_option maxRecDepth 100000 in
theorem dX12_readStreet : sx_dec prog_14_method_41_code iX12_readStreet = true := by decide +kernel
set_option maxRecDepth 100000 in
theorem vX12_readStreet : sx_mv mX12_readStreet 0 := ⟨⟨sx_a6 51 rfl rfl, sx_a1 13 rfl rfl, nh_X12, by decide +kernel, Nat.le_of_ble_eq_true rfl⟩, sx_a6 50 rfl rfl, sx_pv 44 rfl rfl⟩
abbrev mX12_fault : sxM := (⟨"StainStreetModel", "fault", "(I)I"⟩, prog_14_method_42_code, 2, some FieldType.int)
def iX12_fault : List (Nat × Instr × Nat) := [(0, .iload_n 1, 1), (1, .ifCond .ne 10, 3), (4, .aload_n 0, 1), (5, .invokevirtual 252, 3), (8, .goto 18, 3), (11, .iload_n 1, 1), (12, .iconst 1, 1), (13, .if_icmp .ne 11, 3), (16, .aload_n 0, 1), (17, .iconst 4, 1), (18, .invokevirtual 255, 3), (21, .goto 5, 3), (24, .bipush (-2), 2), (26, .ireturn, 1)]
set_option maxRecDepth 100000 in
theorem dX12_fault : sx_dec prog_14_method_42_code iX12_fault = true := by decide +kernel
set_option maxRecDepth 100000 in
theorem vX12_fault : sx_mv mX12_fault 1 := ⟨⟨sx_a6 47 rfl rfl, sx_a1 13 rfl rfl, nh_X12, by decide +kernel, Nat.le_of_ble_eq_true rfl⟩, sx_a6 45 rfl rfl, sx_a6 46 rfl rfl⟩
abbrev mX12_begin : sxM := (⟨"StainStreetModel", "begin", "()V"⟩, prog_14_method_43_code, 2, none)
def iX12_begin : List (Nat × Instr × Nat) := [(0, .iconst 0, 1), (1, .istore_n 1, 1), (2, .iload_n 1, 1), (3, .bipush 45, 2), (5, .if_icmp .ge 16, 3), (8, .aload_n 0, 1), (9, .getfield 58, 3), (12, .iload_n 1, 1), (13, .iconst 0, 1), (14, .iastore, 1), (15, .iinc 1 1, 3), (18, .goto (-16), 3), (21, .iconst 0, 1), (22, .istore_n 1, 1), (23, .iload_n 1, 1), (24, .aload_n 0, 1), (25, .getfield 258, 3), (28, .if_icmp .ge 68, 3), (31, .aload_n 0, 1), (32, .getfield 58, 3), (35, .iconst 0, 1), (36, .iload_n 1, 1), (37, .iadd, 1), (38, .aload_n 0, 1), (39, .iload_n 1, 1), (40, .iconst 0, 1), (41, .invokevirtual 261, 3), (44, .iastore, 1), (45, .aload_n 0, 1), (46, .getfield 58, 3), (49, .bipush 16, 2), (51, .iload_n 1, 1), (52, .iadd, 1), (53, .aload_n 0, 1), (54, .iload_n 1, 1), (55, .iconst 1, 1), (56, .invokevirtual 261, 3), (59, .iastore, 1), (60, .aload_n 0, 1), (61, .getfield 58, 3), (64, .bipush 24, 2), (66, .iload_n 1, 1), (67, .iadd, 1), (68, .aload_n 0, 1), (69, .iload_n 1, 1), (70, .iconst 2, 1), (71, .invokevirtual 261, 3), (74, .iastore, 1), (75, .aload_n 0, 1), (76, .getfield 58, 3), (79, .bipush 32, 2), (81, .iload_n 1, 1), (82, .iadd, 1), (83, .aload_n 0, 1), (84, .iload_n 1, 1), (85, .iconst 3, 1), (86, .invokevirtual 261, 3), (89, .iastore, 1), (90, .iinc 1 1, 3), (93, .goto (-70), 3), (96, .aload_n 0, 1), (97, .getfield 58, 3), (100, .bipush 41, 2), (102, .aload_n 0, 1), (103, .getfield 49, 3), (106, .iconst 3, 1), (107, .iaload, 1), (108, .iastore, 1), (109, .aload_n 0, 1), (110, .getfield 58, 3), (113, .bipush 42, 2), (115, .aload_n 0, 1), (116, .getfield 49, 3), (119, .iconst 1, 1), (120, .iaload, 1), (121, .bipush 8, 2), (123, .if_icmp .ne 7, 3), (126, .iconst (-1), 1), (127, .goto 9, 3), (130, .aload_n 0, 1), (131, .getfield 49, 3), (134, .iconst 1, 1), (135, .iaload, 1), (136, .iastore, 1), (137, .aload_n 0, 1), (138, .getfield 58, 3), (141, .bipush 43, 2), (143, .aload_n 0, 1), (144, .getfield 49, 3), (147, .iconst 2, 1), (148, .iaload, 1), (149, .iastore, 1), (150, .return_, 1)]
set_option maxRecDepth 100000 in
theorem dX12_begin : sx_dec prog_14_method_43_code iX12_begin = true := by decide +kernel
set_option maxRecDepth 100000 in
theorem vX12_begin : sx_mv mX12_begin 0 := ⟨⟨sx_a6 178 rfl rfl, sx_a1 13 rfl rfl, nh_X12, by decide +kernel, Nat.le_of_ble_eq_true rfl⟩, sx_a6 177 rfl rfl, sx_pv 68 rfl rfl⟩
abbrev mX12_takeStreet : sxM := (⟨"StainStreetModel", "takeStreet", "()I"⟩, prog_14_method_44_code, 2, some FieldType.int)
def iX12_takeStreet : List (Nat × Instr × Nat) := [(0, .aload_n 0, 1), (1, .aload_n 0, 1), (2, .getfield 238, 3), (5, .putfield 258, 3), (8, .aload_n 0, 1), (9, .aload_n 0, 1), (10, .getfield 241, 3), (13, .putfield 264, 3), (16, .iconst 0, 1), (17, .istore_n 1, 1), (18, .iload_n 1, 1), (19, .iconst 4, 1), (20, .if_icmp .ge 21, 3), (23, .aload_n 0, 1), (24, .getfield 49, 3), (27, .iload_n 1, 1), (28, .aload_n 0, 1), (29, .getfield 40, 3), (32, .iload_n 1, 1), (33, .iaload, 1), (34, .iastore, 1), (35, .iinc 1 1, 3), (38, .goto (-20), 3), (41, .iconst 0, 1), (42, .istore_n 1, 1), (43, .iload_n 1, 1), (44, .bipush 32, 2), (46, .if_icmp .ge 21, 3), (49, .aload_n 0, 1), (50, .getfield 52, 3), (53, .iload_n 1, 1), (54, .aload_n 0, 1), (55, .getfield 43, 3), (58, .iload_n 1, 1), (59, .iaload, 1), (60, .iastore, 1), (61, .iinc 1 1, 3), (64, .goto (-21), 3), (67, .iconst 0, 1), (68, .istore_n 1, 1), (69, .iload_n 1, 1), (70, .bipush 12, 2), (72, .if_icmp .ge 21, 3), (75, .aload_n 0, 1), (76, .getfield 55, 3), (79, .iload_n 1, 1), (80, .aload_n 0, 1), (81, .getfield 46, 3), (84, .iload_n 1, 1), (85, .iaload, 1), (86, .iastore, 1), (87, .iinc 1 1, 3), (90, .goto (-21), 3), (93, .aload_n 0, 1), (94, .invokevirtual 267, 3), (97, .aload_n 0, 1), (98, .getfield 58, 3), (101, .bipush 45, 2), (103, .iconst 0, 1), (104, .iastore, 1), (105, .aload_n 0, 1), (106, .iconst 0, 1), (107, .putfield 270, 3), (110, .aload_n 0, 1), (111, .iconst 0, 1), (112, .putfield 273, 3), (115, .aload_n 0, 1), (116, .iconst 0, 1), (117, .putfield 276, 3), (120, .aload_n 0, 1), (121, .iconst 0, 1), (122, .putfield 279, 3), (125, .aload_n 0, 1), (126, .getfield 258, 3), (129, .ireturn, 1)]
set_option maxRecDepth 100000 in
theorem dX12_takeStreet : sx_dec prog_14_method_44_code iX12_takeStreet = true := by decide +kernel
set_option maxRecDepth 100000 in
theorem vX12_takeStreet : sx_mv mX12_takeStreet 0 := ⟨⟨sx_a6 174 rfl rfl, sx_a1 13 rfl rfl, nh_X12, by decide +kernel, Nat.le_of_ble_eq_true rfl⟩, sx_a6 173 rfl rfl, sx_pv 67 rfl rfl⟩
abbrev mX12_text : sxM := (⟨"StainStreetModel", "text", "(I)I"⟩, prog_14_method_45_code, 2, some FieldType.int)
def iX12_text : List (Nat × Instr × Nat) := [(0, .iload_n 1, 1), (1, .ifCond .ne 21, 3), (4, .aload_n 0, 1), (5, .invokevirtual 252, 3), (8, .iconst (-1), 1), (9, .if_icmp .ne 13, 3), (12, .aload_n 0, 1), (13, .iconst 0, 1), (14, .putfield 106, 3), (17, .aload_n 0, 1), (18, .invokevirtual 283, 3), (21, .ireturn, 1), (22, .iload_n 1, 1), (23, .iconst 1, 1), (24, .if_icmp .ne 45, 3), (27, .aload_n 0, 1), (28, .getfield 286, 3), (31, .iconst 4, 1), (32, .if_icmp .ge 37, 3), (35, .aload_n 0, 1), (36, .aload_n 0, 1), (37, .getfield 286, 3), (40, .invokevirtual 255, 3), (43, .iconst (-1), 1), (44, .if_icmp .ne 25, 3), (47, .aload_n 0, 1), (48, .iconst 0, 1), (49, .putfield 106, 3), (52, .aload_n 0, 1), (53, .dup, 1), (54, .getfield 286, 3), (57, .iconst 1, 1), (58, .iadd, 1), (59, .putfield 286, 3), (62, .aload_n 0, 1), (63, .getfield 286, 3), (66, .iconst 1, 1), (67, .isub, 1), (68, .ireturn, 1), (69, .iconst (-1), 1), (70, .ireturn, 1)]
set_option maxRecDepth 100000 in
theorem dX12_text : sx_dec prog_14_method_45_code iX12_text = true := by decide +kernel
set_option maxRecDepth 100000 in
theorem vX12_text : sx_mv mX12_text 1 := ⟨⟨sx_a6 170 rfl rfl, sx_a1 13 rfl rfl, nh_X12, by decide +kernel, Nat.le_of_ble_eq_true rfl⟩, sx_a6 168 rfl rfl, sx_a6 169 rfl rfl⟩
abbrev mX12_of : sxM := (⟨"StainStreetModel", "of", "(II)I"⟩, prog_14_method_46_code, 3, some FieldType.int)
def iX12_of : List (Nat × Instr × Nat) := [(0, .aload_n 0, 1), (1, .getfield 52, 3), (4, .iconst 4, 1), (5, .iload_n 1, 1), (6, .imul, 1), (7, .iload_n 2, 1), (8, .iadd, 1), (9, .iaload, 1), (10, .ireturn, 1)]
set_option maxRecDepth 100000 in
theorem dX12_of : sx_dec prog_14_method_46_code iX12_of = true := by decide +kernel
set_option maxRecDepth 100000 in
theorem vX12_of : sx_mv mX12_of 2 := ⟨⟨sx_a6 182 rfl rfl, sx_a1 13 rfl rfl, nh_X12, by decide +kernel, Nat.le_of_ble_eq_true rfl⟩, sx_a6 181 rfl rfl, sx_pv 69 rfl rfl⟩
abbrev mX12_isHouse : sxM := (⟨"StainStreetModel", "isHouse", "(I)Z"⟩, prog_14_method_47_code, 2, some FieldType.boolean)
def iX12_isHouse : List (Nat × Instr × Nat) := [(0, .iload_n 1, 1), (1, .iconst 0, 1), (2, .aload_n 0, 1), (3, .getfield 258, 3), (6, .iconst 1, 1), (7, .isub, 1), (8, .invokestatic 214, 3), (11, .ireturn, 1)]
set_option maxRecDepth 100000 in
theorem dX12_isHouse : sx_dec prog_14_method_47_code iX12_isHouse = true := by decide +kernel
set_option maxRecDepth 100000 in
theorem vX12_isHouse : sx_mv mX12_isHouse 1 := ⟨⟨sx_a6 194 rfl rfl, sx_a1 13 rfl rfl, nh_X12, by decide +kernel, Nat.le_of_ble_eq_true rfl⟩, sx_a6 193 rfl rfl, sx_pv 70 rfl rfl⟩
abbrev mX12_isForm : sxM := (⟨"StainStreetModel", "isForm", "(I)Z"⟩, prog_14_method_48_code, 2, some FieldType.boolean)
def iX12_isForm : List (Nat × Instr × Nat) := [(0, .iload_n 1, 1), (1, .iconst 0, 1), (2, .aload_n 0, 1), (3, .getfield 264, 3), (6, .iconst 1, 1), (7, .isub, 1), (8, .invokestatic 214, 3), (11, .ireturn, 1)]
set_option maxRecDepth 100000 in
theorem dX12_isForm : sx_dec prog_14_method_48_code iX12_isForm = true := by decide +kernel
set_option maxRecDepth 100000 in
theorem vX12_isForm : sx_mv mX12_isForm 1 := ⟨⟨sx_a6 231 rfl rfl, sx_a1 13 rfl rfl, nh_X12, by decide +kernel, Nat.le_of_ble_eq_true rfl⟩, sx_a6 230 rfl rfl, sx_pv 74 rfl rfl⟩
abbrev mX12_mindedOf : sxM := (⟨"StainStreetModel", "mindedOf", "(I)I"⟩, prog_14_method_49_code, 3, some FieldType.int)
def iX12_mindedOf : List (Nat × Instr × Nat) := [(0, .aload_n 0, 1), (1, .getfield 58, 3), (4, .bipush 32, 2), (6, .iload_n 1, 1), (7, .iadd, 1), (8, .iaload, 1), (9, .ifCond .eq 17, 3), (12, .aload_n 0, 1), (13, .getfield 58, 3), (16, .bipush 40, 2), (18, .iaload, 1), (19, .iload_n 1, 1), (20, .invokestatic 225, 3), (23, .ifCond .eq 5, 3), (26, .iconst 0, 1), (27, .ireturn, 1), (28, .aload_n 0, 1), (29, .getfield 58, 3), (32, .iconst 0, 1), (33, .iload_n 1, 1), (34, .iadd, 1), (35, .iaload, 1), (36, .aload_n 0, 1), (37, .getfield 58, 3), (40, .bipush 8, 2), (42, .iload_n 1, 1), (43, .iadd, 1), (44, .iaload, 1), (45, .iadd, 1), (46, .aload_n 0, 1), (47, .getfield 58, 3), (50, .bipush 16, 2), (52, .iload_n 1, 1), (53, .iadd, 1), (54, .iaload, 1), (55, .iadd, 1), (56, .aload_n 0, 1), (57, .getfield 58, 3), (60, .bipush 32, 2), (62, .iload_n 1, 1), (63, .iadd, 1), (64, .iaload, 1), (65, .iconst 2, 1), (66, .idiv, 1), (67, .iadd, 1), (68, .aload_n 0, 1), (69, .getfield 58, 3), (72, .bipush 24, 2), (74, .iload_n 1, 1), (75, .iadd, 1), (76, .iaload, 1), (77, .isub, 1), (78, .istore_n 2, 1), (79, .aload_n 0, 1), (80, .getfield 64, 3), (83, .iconst (-1), 1), (84, .if_icmp .eq 137, 3), (87, .aload_n 0, 1), (88, .getfield 34, 3), (91, .iconst 0, 1), (92, .aload_n 0, 1), (93, .getfield 58, 3), (96, .iconst 0, 1), (97, .iload_n 1, 1), (98, .iadd, 1), (99, .iaload, 1), (100, .aload_n 0, 1), (101, .getfield 58, 3), (104, .bipush 8, 2), (106, .iload_n 1, 1), (107, .iadd, 1), (108, .iaload, 1), (109, .iadd, 1), (110, .iastore, 1), (111, .aload_n 0, 1), (112, .getfield 34, 3), (115, .iconst 1, 1), (116, .aload_n 0, 1), (117, .getfield 58, 3), (120, .bipush 16, 2), (122, .iload_n 1, 1), (123, .iadd, 1), (124, .iaload, 1), (125, .iastore, 1), (126, .aload_n 0, 1), (127, .getfield 34, 3), (130, .iconst 2, 1), (131, .aload_n 0, 1), (132, .getfield 58, 3), (135, .bipush 24, 2), (137, .iload_n 1, 1), (138, .iadd, 1), (139, .iaload, 1), (140, .iastore, 1), (141, .aload_n 0, 1), (142, .getfield 34, 3), (145, .iconst 3, 1), (146, .aload_n 0, 1), (147, .getfield 58, 3), (150, .bipush 32, 2), (152, .iload_n 1, 1), (153, .iadd, 1), (154, .iaload, 1), (155, .iastore, 1), (156, .aload_n 0, 1), (157, .getfield 34, 3), (160, .iconst 4, 1), (161, .aload_n 0, 1), (162, .getfield 55, 3), (165, .iconst 2, 1), (166, .aload_n 0, 1), (167, .getfield 58, 3), (170, .bipush 43, 2), (172, .iaload, 1), (173, .imul, 1), (174, .iconst 0, 1), (175, .iadd, 1), (176, .iaload, 1), (177, .iastore, 1), (178, .aload_n 0, 1), (179, .getfield 34, 3), (182, .iconst 5, 1), (183, .aload_n 0, 1), (184, .getfield 58, 3), (187, .bipush 42, 2), (189, .iaload, 1), (190, .iconst (-1), 1), (191, .if_icmp .ne 8, 3), (194, .bipush 9, 2), (196, .goto 15, 3), (199, .iload_n 1, 1), (200, .aload_n 0, 1), (201, .getfield 58, 3), (204, .bipush 42, 2), (206, .iaload, 1), (207, .isub, 1), (208, .invokestatic 289, 3), (211, .iastore, 1), (212, .aload_n 0, 1), (213, .aload_n 0, 1), (214, .getfield 64, 3), (217, .invokevirtual 292, 3), (220, .istore_n 2, 1), (221, .iconst 0, 1), (222, .bipush 99, 2), (224, .iload_n 2, 1), (225, .invokestatic 295, 3), (228, .invokestatic 297, 3), (231, .ireturn, 1)]
set_option maxRecDepth 100000 in
theorem dX12_mindedOf : sx_dec prog_14_method_49_code iX12_mindedOf = true := by decide +kernel
set_option maxRecDepth 100000 in
theorem vX12_mindedOf : sx_mv mX12_mindedOf 1 := ⟨⟨sx_a6 198 rfl rfl, sx_a1 13 rfl rfl, nh_X12, by decide +kernel, Nat.le_of_ble_eq_true rfl⟩, sx_a6 197 rfl rfl, sx_pv 71 rfl rfl⟩
abbrev mX12_wouldGo : sxM := (⟨"StainStreetModel", "wouldGo", "()I"⟩, prog_14_method_50_code, 5, some FieldType.int)
def iX12_wouldGo : List (Nat × Instr × Nat) := [(0, .iconst (-1), 1), (1, .istore_n 1, 1), (2, .iconst 0, 1), (3, .istore_n 2, 1), (4, .iconst 0, 1), (5, .istore_n 3, 1), (6, .iload_n 3, 1), (7, .aload_n 0, 1), (8, .getfield 258, 3), (11, .if_icmp .ge 27, 3), (14, .aload_n 0, 1), (15, .iload_n 3, 1), (16, .invokevirtual 299, 3), (19, .istore 4, 2), (21, .iload 4, 2), (23, .iload_n 2, 1), (24, .if_icmp .le 8, 3), (27, .iload_n 3, 1), (28, .istore_n 1, 1), (29, .iload 4, 2), (31, .istore_n 2, 1), (32, .iinc 3 1, 3), (35, .goto (-29), 3), (38, .iload_n 1, 1), (39, .ireturn, 1)]
set_option maxRecDepth 100000 in
theorem dX12_wouldGo : sx_dec prog_14_method_50_code iX12_wouldGo = true := by decide +kernel
set_option maxRecDepth 100000 in
theorem vX12_wouldGo : sx_mv mX12_wouldGo 0 := ⟨⟨sx_a7 56 rfl rfl, sx_a1 13 rfl rfl, nh_X12, by decide +kernel, Nat.le_of_ble_eq_true rfl⟩, sx_a7 55 rfl rfl, sx_pv 82 rfl rfl⟩
abbrev mX12_getUsed : sxM := (⟨"StainStreetModel", "getUsed", "(I)V"⟩, prog_14_method_51_code, 3, none)
def iX12_getUsed : List (Nat × Instr × Nat) := [(0, .iload_n 1, 1), (1, .aload_n 0, 1), (2, .getfield 58, 3), (5, .bipush 42, 2), (7, .iaload, 1), (8, .if_icmp .ne 28, 3), (11, .aload_n 0, 1), (12, .getfield 58, 3), (15, .iconst 0, 1), (16, .iload_n 1, 1), (17, .iadd, 1), (18, .iconst 0, 1), (19, .aload_n 0, 1), (20, .getfield 58, 3), (23, .iconst 0, 1), (24, .iload_n 1, 1), (25, .iadd, 1), (26, .iaload, 1), (27, .iconst 1, 1), (28, .isub, 1), (29, .invokestatic 297, 3), (32, .iastore, 1), (33, .goto 54, 3), (36, .aload_n 0, 1), (37, .iload_n 1, 1), (38, .iconst 0, 1), (39, .invokevirtual 261, 3), (42, .istore_n 2, 1), (43, .aload_n 0, 1), (44, .getfield 58, 3), (47, .iconst 0, 1), (48, .iload_n 1, 1), (49, .iadd, 1), (50, .dup2, 1), (51, .iaload, 1), (52, .aload_n 0, 1), (53, .getfield 58, 3), (56, .iconst 0, 1), (57, .iload_n 1, 1), (58, .iadd, 1), (59, .iaload, 1), (60, .iload_n 2, 1), (61, .if_icmp .ge 7, 3), (64, .iconst 1, 1), (65, .goto 20, 3), (68, .aload_n 0, 1), (69, .getfield 58, 3), (72, .iconst 0, 1), (73, .iload_n 1, 1), (74, .iadd, 1), (75, .iaload, 1), (76, .iload_n 2, 1), (77, .if_icmp .le 7, 3), (80, .iconst (-1), 1), (81, .goto 4, 3), (84, .iconst 0, 1), (85, .iadd, 1), (86, .iastore, 1), (87, .return_, 1)]
set_option maxRecDepth 100000 in
theorem dX12_getUsed : sx_dec prog_14_method_51_code iX12_getUsed = true := by decide +kernel
set_option maxRecDepth 100000 in
theorem vX12_getUsed : sx_mv mX12_getUsed 1 := ⟨⟨sx_a7 52 rfl rfl, sx_a1 13 rfl rfl, nh_X12, by decide +kernel, Nat.le_of_ble_eq_true rfl⟩, sx_a7 51 rfl rfl, sx_pv 81 rfl rfl⟩
abbrev mX12_live : sxM := (⟨"StainStreetModel", "live", "()Z"⟩, prog_14_method_52_code, 2, some FieldType.boolean)
def iX12_live : List (Nat × Instr × Nat) := [(0, .aload_n 0, 1), (1, .getfield 58, 3), (4, .bipush 44, 2), (6, .dup2, 1), (7, .iaload, 1), (8, .iconst 1, 1), (9, .iadd, 1), (10, .iastore, 1), (11, .iconst 0, 1), (12, .istore_n 1, 1), (13, .iload_n 1, 1), (14, .aload_n 0, 1), (15, .getfield 258, 3), (18, .if_icmp .ge 14, 3), (21, .aload_n 0, 1), (22, .iload_n 1, 1), (23, .invokevirtual 302, 3), (26, .iinc 1 1, 3), (29, .goto (-16), 3), (32, .aload_n 0, 1), (33, .getfield 58, 3), (36, .bipush 44, 2), (38, .iaload, 1), (39, .aload_n 0, 1), (40, .getfield 49, 3), (43, .iconst 0, 1), (44, .iaload, 1), (45, .irem, 1), (46, .ifCond .eq 5, 3), (49, .iconst 0, 1), (50, .ireturn, 1), (51, .aload_n 0, 1), (52, .invokevirtual 305, 3), (55, .istore_n 1, 1), (56, .aload_n 0, 1), (57, .getfield 58, 3), (60, .bipush 43, 2), (62, .iload_n 1, 1), (63, .aload_n 0, 1), (64, .getfield 58, 3), (67, .bipush 42, 2), (69, .iaload, 1), (70, .if_icmp .ne 13, 3), (73, .aload_n 0, 1), (74, .getfield 58, 3), (77, .bipush 43, 2), (79, .iaload, 1), (80, .goto 19, 3), (83, .aload_n 0, 1), (84, .getfield 55, 3), (87, .iconst 2, 1), (88, .aload_n 0, 1), (89, .getfield 58, 3), (92, .bipush 43, 2), (94, .iaload, 1), (95, .imul, 1), (96, .iconst 1, 1), (97, .iadd, 1), (98, .iaload, 1), (99, .iastore, 1), (100, .aload_n 0, 1), (101, .getfield 58, 3), (104, .bipush 42, 2), (106, .iload_n 1, 1), (107, .iastore, 1), (108, .aload_n 0, 1), (109, .getfield 58, 3), (112, .bipush 40, 2), (114, .iconst 0, 1), (115, .iastore, 1), (116, .iconst 1, 1), (117, .ireturn, 1)]
set_option maxRecDepth 100000 in
theorem dX12_live : sx_dec prog_14_method_52_code iX12_live = true := by decide +kernel
set_option maxRecDepth 100000 in
theorem vX12_live : sx_mv mX12_live 0 := ⟨⟨sx_a7 48 rfl rfl, sx_a1 13 rfl rfl, nh_X12, by decide +kernel, Nat.le_of_ble_eq_true rfl⟩, sx_a7 47 rfl rfl, sx_pv 80 rfl rfl⟩
abbrev mX12_passDay : sxM := (⟨"StainStreetModel", "passDay", "()V"⟩, prog_14_method_53_code, 2, none)
def iX12_passDay : List (Nat × Instr × Nat) := [(0, .aload_n 0, 1), (1, .invokevirtual 308, 3), (4, .ifCond .eq 128, 3), (7, .aload_n 0, 1), (8, .getfield 58, 3), (11, .bipush 45, 2), (13, .iaload, 1), (14, .bipush 60, 2), (16, .if_icmp .ne 49, 3), (19, .iconst 3, 1), (20, .istore_n 1, 1), (21, .iload_n 1, 1), (22, .sipush 180, 3), (25, .if_icmp .ge 29, 3), (28, .aload_n 0, 1), (29, .getfield 58, 3), (32, .bipush 46, 2), (34, .iload_n 1, 1), (35, .iadd, 1), (36, .iconst 3, 1), (37, .isub, 1), (38, .aload_n 0, 1), (39, .getfield 58, 3), (42, .bipush 46, 2), (44, .iload_n 1, 1), (45, .iadd, 1), (46, .iaload, 1), (47, .iastore, 1), (48, .iinc 1 1, 3), (51, .goto (-30), 3), (54, .aload_n 0, 1), (55, .getfield 58, 3), (58, .bipush 45, 2), (60, .dup2, 1), (61, .iaload, 1), (62, .iconst 1, 1), (63, .isub, 1), (64, .iastore, 1), (65, .bipush 46, 2), (67, .iconst 3, 1), (68, .aload_n 0, 1), (69, .getfield 58, 3), (72, .bipush 45, 2), (74, .iaload, 1), (75, .imul, 1), (76, .iadd, 1), (77, .istore_n 1, 1), (78, .aload_n 0, 1), (79, .getfield 58, 3), (82, .iload_n 1, 1), (83, .aload_n 0, 1), (84, .getfield 58, 3), (87, .bipush 44, 2), (89, .iaload, 1), (90, .iastore, 1), (91, .aload_n 0, 1), (92, .getfield 58, 3), (95, .iload_n 1, 1), (96, .iconst 1, 1), (97, .iadd, 1), (98, .aload_n 0, 1), (99, .getfield 58, 3), (102, .bipush 42, 2), (104, .iaload, 1), (105, .iastore, 1), (106, .aload_n 0, 1), (107, .getfield 58, 3), (110, .iload_n 1, 1), (111, .iconst 2, 1), (112, .iadd, 1), (113, .aload_n 0, 1), (114, .getfield 58, 3), (117, .bipush 43, 2), (119, .iaload, 1), (120, .iastore, 1), (121, .aload_n 0, 1), (122, .getfield 58, 3), (125, .bipush 45, 2), (127, .dup2, 1), (128, .iaload, 1), (129, .iconst 1, 1), (130, .iadd, 1), (131, .iastore, 1), (132, .return_, 1)]
set_option maxRecDepth 100000 in
theorem dX12_passDay : sx_dec prog_14_method_53_code iX12_passDay = true := by decide +kernel
set_option maxRecDepth 100000 in
theorem vX12_passDay : sx_mv mX12_passDay 0 := ⟨⟨sx_a7 44 rfl rfl, sx_a1 13 rfl rfl, nh_X12, by decide +kernel, Nat.le_of_ble_eq_true rfl⟩, sx_a7 43 rfl rfl, sx_pv 79 rfl rfl⟩
abbrev mX12_rule : sxM := (⟨"StainStreetModel", "rule", "(I)I"⟩, prog_14_method_54_code, 2, some FieldType.int)
def iX12_rule : List (Nat × Instr × Nat) := [(0, .aload_n 0, 1), (1, .getfield 258, 3), (4, .ifCond .eq 12, 3), (7, .iload_n 1, 1), (8, .iconst 0, 1), (9, .iconst 3, 1), (10, .invokestatic 214, 3), (13, .ifCond .ne 5, 3), (16, .iconst (-1), 1), (17, .ireturn, 1), (18, .iload_n 1, 1), (19, .tableswitch 64 0 2 #[25, 32, 56], 25), (44, .aload_n 0, 1), (45, .getfield 49, 3), (48, .iconst 0, 1), (49, .iaload, 1), (50, .ireturn, 1), (51, .aload_n 0, 1), (52, .getfield 58, 3), (55, .bipush 42, 2), (57, .iaload, 1), (58, .iconst (-1), 1), (59, .if_icmp .ne 8, 3), (62, .bipush 8, 2), (64, .goto 10, 3), (67, .aload_n 0, 1), (68, .getfield 58, 3), (71, .bipush 42, 2), (73, .iaload, 1), (74, .ireturn, 1), (75, .aload_n 0, 1), (76, .getfield 58, 3), (79, .bipush 43, 2), (81, .iaload, 1), (82, .ireturn, 1), (83, .aload_n 0, 1), (84, .getfield 58, 3), (87, .bipush 41, 2), (89, .iaload, 1), (90, .ireturn, 1)]
set_option maxRecDepth 100000 in
theorem dX12_rule : sx_dec prog_14_method_54_code iX12_rule = true := by decide +kernel
set_option maxRecDepth 100000 in
theorem vX12_rule : sx_mv mX12_rule 1 := ⟨⟨sx_a6 186 rfl rfl, sx_a1 13 rfl rfl, nh_X12, by decide +kernel, Nat.le_of_ble_eq_true rfl⟩, sx_a6 184 rfl rfl, sx_a6 185 rfl rfl⟩
abbrev mX12_house : sxM := (⟨"StainStreetModel", "house", "(II)I"⟩, prog_14_method_55_code, 3, some FieldType.int)
def iX12_house : List (Nat × Instr × Nat) := [(0, .aload_n 0, 1), (1, .aload_n 0, 1), (2, .iload_n 1, 1), (3, .invokevirtual 311, 3), (6, .ifCond .eq 17, 3), (9, .iload_n 2, 1), (10, .iconst 0, 1), (11, .bipush 6, 2), (13, .invokestatic 214, 3), (16, .ifCond .eq 7, 3), (19, .iconst 0, 1), (20, .goto 4, 3), (23, .iconst 1, 1), (24, .putfield 99, 3), (27, .aload_n 0, 1), (28, .getfield 99, 3), (31, .iconst 1, 1), (32, .if_icmp .ne 5, 3), (35, .iconst 0, 1), (36, .ireturn, 1), (37, .iload_n 2, 1), (38, .tableswitch 99 0 5 #[38, 47, 57, 67, 77, 87], 38), (76, .aload_n 0, 1), (77, .getfield 58, 3), (80, .iconst 0, 1), (81, .iload_n 1, 1), (82, .iadd, 1), (83, .iaload, 1), (84, .ireturn, 1), (85, .aload_n 0, 1), (86, .getfield 58, 3), (89, .bipush 16, 2), (91, .iload_n 1, 1), (92, .iadd, 1), (93, .iaload, 1), (94, .ireturn, 1), (95, .aload_n 0, 1), (96, .getfield 58, 3), (99, .bipush 24, 2), (101, .iload_n 1, 1), (102, .iadd, 1), (103, .iaload, 1), (104, .ireturn, 1), (105, .aload_n 0, 1), (106, .getfield 58, 3), (109, .bipush 32, 2), (111, .iload_n 1, 1), (112, .iadd, 1), (113, .iaload, 1), (114, .ireturn, 1), (115, .aload_n 0, 1), (116, .getfield 58, 3), (119, .bipush 8, 2), (121, .iload_n 1, 1), (122, .iadd, 1), (123, .iaload, 1), (124, .ireturn, 1), (125, .aload_n 0, 1), (126, .getfield 58, 3), (129, .bipush 40, 2), (131, .iaload, 1), (132, .iload_n 1, 1), (133, .ishr, 1), (134, .iconst 1, 1), (135, .iand, 1), (136, .ireturn, 1), (137, .aload_n 0, 1), (138, .iload_n 1, 1), (139, .invokevirtual 299, 3), (142, .ireturn, 1)]
set_option maxRecDepth 100000 in
theorem dX12_house : sx_dec prog_14_method_55_code iX12_house = true := by decide +kernel
set_option maxRecDepth 100000 in
theorem vX12_house : sx_mv mX12_house 2 := ⟨⟨sx_a6 190 rfl rfl, sx_a1 13 rfl rfl, nh_X12, by decide +kernel, Nat.le_of_ble_eq_true rfl⟩, sx_a6 188 rfl rfl, sx_a6 189 rfl rfl⟩
abbrev mX12_form : sxM := (⟨"StainStreetModel", "form", "(II)I"⟩, prog_14_method_56_code, 3, some FieldType.int)
def iX12_form : List (Nat × Instr × Nat) := [(0, .aload_n 0, 1), (1, .iload_n 1, 1), (2, .invokevirtual 314, 3), (5, .ifCond .eq 25, 3), (8, .iload_n 2, 1), (9, .iconst 0, 1), (10, .iconst 1, 1), (11, .invokestatic 214, 3), (14, .ifCond .eq 16, 3), (17, .aload_n 0, 1), (18, .getfield 55, 3), (21, .iconst 2, 1), (22, .iload_n 1, 1), (23, .imul, 1), (24, .iload_n 2, 1), (25, .iadd, 1), (26, .iaload, 1), (27, .goto 4, 3), (30, .iconst (-1), 1), (31, .ireturn, 1)]
set_option maxRecDepth 100000 in
theorem dX12_form : sx_dec prog_14_method_56_code iX12_form = true := by decide +kernel
set_option maxRecDepth 100000 in
theorem vX12_form : sx_mv mX12_form 2 := ⟨⟨sx_a6 227 rfl rfl, sx_a1 13 rfl rfl, nh_X12, by decide +kernel, Nat.le_of_ble_eq_true rfl⟩, sx_a6 225 rfl rfl, sx_a6 226 rfl rfl⟩
abbrev mX12_law : sxM := (⟨"StainStreetModel", "law", "(I)Z"⟩, prog_14_method_57_code, 2, some FieldType.boolean)
def iX12_law : List (Nat × Instr × Nat) := [(0, .iload_n 1, 1), (1, .iconst (-1), 1), (2, .aload_n 0, 1), (3, .getfield 286, 3), (6, .iconst 1, 1), (7, .isub, 1), (8, .invokestatic 214, 3), (11, .ifCond .ne 5, 3), (14, .iconst 0, 1), (15, .ireturn, 1), (16, .aload_n 0, 1), (17, .iload_n 1, 1), (18, .putfield 64, 3), (21, .iconst 1, 1), (22, .ireturn, 1)]
set_option maxRecDepth 100000 in
theorem dX12_law : sx_dec prog_14_method_57_code iX12_law = true := by decide +kernel
set_option maxRecDepth 100000 in
theorem vX12_law : sx_mv mX12_law 1 := ⟨⟨sx_a6 235 rfl rfl, sx_a1 13 rfl rfl, nh_X12, by decide +kernel, Nat.le_of_ble_eq_true rfl⟩, sx_a6 233 rfl rfl, sx_a6 234 rfl rfl⟩
abbrev mX12_keep : sxM := (⟨"StainStreetModel", "keep", "()V"⟩, prog_14_method_58_code, 2, none)
def iX12_keep : List (Nat × Instr × Nat) := [(0, .aload_n 0, 1), (1, .getfield 276, 3), (4, .bipush 40, 2), (6, .if_icmp .ne 46, 3), (9, .sipush 226, 3), (12, .istore_n 1, 1), (13, .iload_n 1, 1), (14, .sipush 9040, 3), (17, .if_icmp .ge 25, 3), (20, .aload_n 0, 1), (21, .getfield 68, 3), (24, .iload_n 1, 1), (25, .sipush 226, 3), (28, .isub, 1), (29, .aload_n 0, 1), (30, .getfield 68, 3), (33, .iload_n 1, 1), (34, .iaload, 1), (35, .iastore, 1), (36, .iinc 1 1, 3), (39, .goto (-26), 3), (42, .aload_n 0, 1), (43, .dup, 1), (44, .getfield 276, 3), (47, .iconst 1, 1), (48, .isub, 1), (49, .putfield 276, 3), (52, .iconst 0, 1), (53, .istore_n 1, 1), (54, .iload_n 1, 1), (55, .sipush 226, 3), (58, .if_icmp .ge 30, 3), (61, .aload_n 0, 1), (62, .getfield 68, 3), (65, .sipush 226, 3), (68, .aload_n 0, 1), (69, .getfield 276, 3), (72, .imul, 1), (73, .iload_n 1, 1), (74, .iadd, 1), (75, .aload_n 0, 1), (76, .getfield 58, 3), (79, .iload_n 1, 1), (80, .iaload, 1), (81, .iastore, 1), (82, .iinc 1 1, 3), (85, .goto (-31), 3), (88, .aload_n 0, 1), (89, .dup, 1), (90, .getfield 276, 3), (93, .iconst 1, 1), (94, .iadd, 1), (95, .putfield 276, 3), (98, .return_, 1)]
set_option maxRecDepth 100000 in
theorem dX12_keep : sx_dec prog_14_method_58_code iX12_keep = true := by decide +kernel
set_option maxRecDepth 100000 in
theorem vX12_keep : sx_mv mX12_keep 0 := ⟨⟨sx_a7 8 rfl rfl, sx_a1 13 rfl rfl, nh_X12, by decide +kernel, Nat.le_of_ble_eq_true rfl⟩, sx_a7 7 rfl rfl, sx_pv 76 rfl rfl⟩
abbrev mX12_isRefused : sxM := (⟨"StainStreetModel", "isRefused", "(I)Z"⟩, prog_14_method_59_code, 2, some FieldType.boolean)
def iX12_isRefused : List (Nat × Instr × Nat) := [(0, .iload_n 1, 1), (1, .iconst (-1), 1), (2, .if_icmp .eq 13, 3), (5, .aload_n 0, 1), (6, .getfield 61, 3), (9, .iload_n 1, 1), (10, .dup2, 1), (11, .iaload, 1), (12, .iconst 1, 1), (13, .iadd, 1), (14, .iastore, 1), (15, .iload_n 1, 1), (16, .iconst (-1), 1), (17, .if_icmp .eq 7, 3), (20, .iconst 1, 1), (21, .goto 4, 3), (24, .iconst 0, 1), (25, .ireturn, 1)]
set_option maxRecDepth 100000 in
theorem dX12_isRefused : sx_dec prog_14_method_59_code iX12_isRefused = true := by decide +kernel
set_option maxRecDepth 100000 in
theorem vX12_isRefused : sx_mv mX12_isRefused 1 := ⟨⟨sx_a7 3 rfl rfl, sx_a1 13 rfl rfl, nh_X12, by decide +kernel, Nat.le_of_ble_eq_true rfl⟩, sx_a7 2 rfl rfl, sx_pv 75 rfl rfl⟩
abbrev mX12_sham : sxM := (⟨"StainStreetModel", "sham", "(II)I"⟩, prog_14_method_60_code, 3, some FieldType.int)
def iX12_sham : List (Nat × Instr × Nat) := [(0, .aload_n 0, 1), (1, .aload_n 0, 1), (2, .iload_n 1, 1), (3, .invokevirtual 311, 3), (6, .ifCond .ne 7, 3), (9, .iconst 0, 1), (10, .goto 36, 3), (13, .iload_n 2, 1), (14, .bipush (-9), 2), (16, .bipush 9, 2), (18, .invokestatic 214, 3), (21, .ifCond .ne 7, 3), (24, .iconst 1, 1), (25, .goto 21, 3), (28, .aload_n 0, 1), (29, .getfield 58, 3), (32, .bipush 8, 2), (34, .iload_n 1, 1), (35, .iadd, 1), (36, .iaload, 1), (37, .iload_n 2, 1), (38, .if_icmp .ne 7, 3), (41, .iconst 2, 1), (42, .goto 4, 3), (45, .iconst (-1), 1), (46, .invokevirtual 317, 3), (49, .ifCond .eq 7, 3), (52, .ldc_w 320, 3), (55, .ireturn, 1), (56, .aload_n 0, 1), (57, .invokevirtual 321, 3), (60, .aload_n 0, 1), (61, .getfield 58, 3), (64, .bipush 8, 2), (66, .iload_n 1, 1), (67, .iadd, 1), (68, .iload_n 2, 1), (69, .iastore, 1), (70, .iload_n 2, 1), (71, .ireturn, 1)]
set_option maxRecDepth 100000 in
theorem dX12_sham : sx_dec prog_14_method_60_code iX12_sham = true := by decide +kernel
set_option maxRecDepth 100000 in
theorem vX12_sham : sx_mv mX12_sham 2 := ⟨⟨sx_a6 239 rfl rfl, sx_a1 13 rfl rfl, nh_X12, by decide +kernel, Nat.le_of_ble_eq_true rfl⟩, sx_a6 237 rfl rfl, sx_a6 238 rfl rfl⟩
abbrev mX12_hang : sxM := (⟨"StainStreetModel", "hang", "(II)I"⟩, prog_14_method_61_code, 3, some FieldType.int)
def iX12_hang : List (Nat × Instr × Nat) := [(0, .aload_n 0, 1), (1, .aload_n 0, 1), (2, .iload_n 1, 1), (3, .invokevirtual 311, 3), (6, .ifCond .ne 7, 3), (9, .iconst 0, 1), (10, .goto 60, 3), (13, .iload_n 2, 1), (14, .iconst 0, 1), (15, .bipush 9, 2), (17, .invokestatic 214, 3), (20, .ifCond .ne 7, 3), (23, .iconst 1, 1), (24, .goto 46, 3), (27, .aload_n 0, 1), (28, .getfield 58, 3), (31, .bipush 24, 2), (33, .iload_n 1, 1), (34, .iadd, 1), (35, .iaload, 1), (36, .iload_n 2, 1), (37, .if_icmp .ne 7, 3), (40, .iconst 2, 1), (41, .goto 29, 3), (44, .aload_n 0, 1), (45, .getfield 58, 3), (48, .bipush 41, 2), (50, .iaload, 1), (51, .iload_n 2, 1), (52, .aload_n 0, 1), (53, .getfield 58, 3), (56, .bipush 24, 2), (58, .iload_n 1, 1), (59, .iadd, 1), (60, .iaload, 1), (61, .isub, 1), (62, .if_icmp .ge 7, 3), (65, .iconst 3, 1), (66, .goto 4, 3), (69, .iconst (-1), 1), (70, .invokevirtual 317, 3), (73, .ifCond .eq 5, 3), (76, .iconst (-1), 1), (77, .ireturn, 1), (78, .aload_n 0, 1), (79, .invokevirtual 321, 3), (82, .aload_n 0, 1), (83, .getfield 58, 3), (86, .bipush 41, 2), (88, .dup2, 1), (89, .iaload, 1), (90, .iconst 0, 1), (91, .iload_n 2, 1), (92, .aload_n 0, 1), (93, .getfield 58, 3), (96, .bipush 24, 2), (98, .iload_n 1, 1), (99, .iadd, 1), (100, .iaload, 1), (101, .isub, 1), (102, .invokestatic 297, 3), (105, .isub, 1), (106, .iastore, 1), (107, .aload_n 0, 1), (108, .getfield 58, 3), (111, .bipush 24, 2), (113, .iload_n 1, 1), (114, .iadd, 1), (115, .iload_n 2, 1), (116, .iastore, 1), (117, .aload_n 0, 1), (118, .getfield 58, 3), (121, .bipush 41, 2), (123, .iaload, 1), (124, .ireturn, 1)]
set_option maxRecDepth 100000 in
theorem dX12_hang : sx_dec prog_14_method_61_code iX12_hang = true := by decide +kernel
set_option maxRecDepth 100000 in
theorem vX12_hang : sx_mv mX12_hang 2 := ⟨⟨sx_a7 12 rfl rfl, sx_a1 13 rfl rfl, nh_X12, by decide +kernel, Nat.le_of_ble_eq_true rfl⟩, sx_a7 10 rfl rfl, sx_a7 11 rfl rfl⟩
abbrev mX12_whiten : sxM := (⟨"StainStreetModel", "whiten", "(I)I"⟩, prog_14_method_62_code, 2, some FieldType.int)
def iX12_whiten : List (Nat × Instr × Nat) := [(0, .aload_n 0, 1), (1, .aload_n 0, 1), (2, .iload_n 1, 1), (3, .invokevirtual 311, 3), (6, .ifCond .ne 7, 3), (9, .iconst 0, 1), (10, .goto 37, 3), (13, .aload_n 0, 1), (14, .getfield 58, 3), (17, .bipush 16, 2), (19, .iload_n 1, 1), (20, .iadd, 1), (21, .iaload, 1), (22, .bipush 9, 2), (24, .if_icmp .ne 7, 3), (27, .iconst 2, 1), (28, .goto 19, 3), (31, .aload_n 0, 1), (32, .getfield 58, 3), (35, .bipush 41, 2), (37, .iaload, 1), (38, .iconst 2, 1), (39, .if_icmp .ge 7, 3), (42, .iconst 3, 1), (43, .goto 4, 3), (46, .iconst (-1), 1), (47, .invokevirtual 317, 3), (50, .ifCond .eq 5, 3), (53, .iconst (-1), 1), (54, .ireturn, 1), (55, .aload_n 0, 1), (56, .invokevirtual 321, 3), (59, .aload_n 0, 1), (60, .getfield 58, 3), (63, .bipush 16, 2), (65, .iload_n 1, 1), (66, .iadd, 1), (67, .dup2, 1), (68, .iaload, 1), (69, .iconst 1, 1), (70, .iadd, 1), (71, .iastore, 1), (72, .aload_n 0, 1), (73, .getfield 58, 3), (76, .bipush 41, 2), (78, .dup2, 1), (79, .iaload, 1), (80, .iconst 2, 1), (81, .isub, 1), (82, .iastore, 1), (83, .aload_n 0, 1), (84, .getfield 58, 3), (87, .bipush 41, 2), (89, .iaload, 1), (90, .ireturn, 1)]
set_option maxRecDepth 100000 in
theorem dX12_whiten : sx_dec prog_14_method_62_code iX12_whiten = true := by decide +kernel
set_option maxRecDepth 100000 in
theorem vX12_whiten : sx_mv mX12_whiten 1 := ⟨⟨sx_a7 16 rfl rfl, sx_a1 13 rfl rfl, nh_X12, by decide +kernel, Nat.le_of_ble_eq_true rfl⟩, sx_a7 14 rfl rfl, sx_a7 15 rfl rfl⟩
set_option maxRecDepth 100000 in
theorem lX12_3 : sx_ml "StainStreetModel" 3 ⟨"java/lang/Object", "<init>", "()V"⟩ := Or.inl (sx_a5 123 rfl rfl)
set_option maxRecDepth 100000 in
theorem fX12_9 : sx_fl "StainStreetModel" 9 12 1 := ⟨⟨by decide +kernel, by decide +kernel⟩, Or.inl (sx_a5 125 rfl rfl)⟩
set_option maxRecDepth 100000 in
theorem fX12_13 : sx_fl "StainStreetModel" 13 12 6 := ⟨⟨by decide +kernel, by decide +kernel⟩, Or.inl (sx_a5 130 rfl rfl)⟩
set_option maxRecDepth 100000 in
theorem fX12_16 : sx_fl "StainStreetModel" 16 12 7 := ⟨⟨by decide +kernel, by decide +kernel⟩, Or.inl (sx_a5 131 rfl rfl)⟩
set_option maxRecDepth 100000 in
theorem fX12_19 : sx_fl "StainStreetModel" 19 12 8 := ⟨⟨by decide +kernel, by decide +kernel⟩, Or.inl (sx_a5 132 rfl rfl)⟩
set_option maxRecDepth 100000 in
theorem fX12_22 : sx_fl "StainStreetModel" 22 12 9 := ⟨⟨by decide +kernel, by decide +kernel⟩, Or.inl (sx_a5 133 rfl rfl)⟩
set_option maxRecDepth 100000 in
theorem fX12_25 : sx_fl "StainStreetModel" 25 12 10 := ⟨⟨by decide +kernel, by decide +kernel⟩, Or.inl (sx_a5 134 rfl rfl)⟩
set_option maxRecDepth 100000 in
theorem fX12_28 : sx_fl "StainStreetModel" 28 12 11 := ⟨⟨by decide +kernel, by decide +kernel⟩, Or.inl (sx_a5 135 rfl rfl)⟩
set_option maxRecDepth 100000 in
theorem fX12_31 : sx_fl "StainStreetModel" 31 12 12 := ⟨⟨by decide +kernel, by decide +kernel⟩, Or.inl (sx_a5 136 rfl rfl)⟩
set_option maxRecDepth 100000 in
theorem fX12_34 : sx_fl "StainStreetModel" 34 12 15 := ⟨⟨by decide +kernel, by decide +kernel⟩, Or.inl (sx_a5 139 rfl rfl)⟩
set_option maxRecDepth 100000 in
theorem fX12_37 : sx_fl "StainStreetModel" 37 12 16 := ⟨⟨by decide +kernel, by decide +kernel⟩, Or.inl (sx_a5 140 rfl rfl)⟩
set_option maxRecDepth 100000 in
theorem fX12_40 : sx_fl "StainStreetModel" 40 12 17 := ⟨⟨by decide +kernel, by decide +kernel⟩, Or.inl (sx_a5 141 rfl rfl)⟩
set_option maxRecDepth 100000 in
theorem fX12_43 : sx_fl "StainStreetModel" 43 12 18 := ⟨⟨by decide +kernel, by decide +kernel⟩, Or.inl (sx_a5 142 rfl rfl)⟩
set_option maxRecDepth 100000 in
theorem fX12_46 : sx_fl "StainStreetModel" 46 12 19 := ⟨⟨by decide +kernel, by decide +kernel⟩, Or.inl (sx_a5 143 rfl rfl)⟩
set_option maxRecDepth 100000 in
theorem fX12_49 : sx_fl "StainStreetModel" 49 12 22 := ⟨⟨by decide +kernel, by decide +kernel⟩, Or.inl (sx_a5 146 rfl rfl)⟩
set_option maxRecDepth 100000 in
theorem fX12_52 : sx_fl "StainStreetModel" 52 12 23 := ⟨⟨by decide +kernel, by decide +kernel⟩, Or.inl (sx_a5 147 rfl rfl)⟩
set_option maxRecDepth 100000 in
theorem fX12_55 : sx_fl "StainStreetModel" 55 12 24 := ⟨⟨by decide +kernel, by decide +kernel⟩, Or.inl (sx_a5 148 rfl rfl)⟩
set_option maxRecDepth 100000 in
theorem fX12_58 : sx_fl "StainStreetModel" 58 12 27 := ⟨⟨by decide +kernel, by decide +kernel⟩, Or.inl (sx_a5 151 rfl rfl)⟩
set_option maxRecDepth 100000 in
theorem fX12_61 : sx_fl "StainStreetModel" 61 12 28 := ⟨⟨by decide +kernel, by decide +kernel⟩, Or.inl (sx_a5 152 rfl rfl)⟩
set_option maxRecDepth 100000 in
theorem fX12_64 : sx_fl "StainStreetModel" 64 12 29 := ⟨⟨by decide +kernel, by decide +kernel⟩, Or.inl (sx_a5 153 rfl rfl)⟩
set_option maxRecDepth 100000 in
theorem fX12_68 : sx_fl "StainStreetModel" 68 12 31 := ⟨⟨by decide +kernel, by decide +kernel⟩, Or.inl (sx_a5 155 rfl rfl)⟩
set_option maxRecDepth 100000 in
theorem fX12_71 : sx_fl "StainStreetModel" 71 12 34 := ⟨⟨by decide +kernel, by decide +kernel⟩, Or.inl (sx_a5 158 rfl rfl)⟩
set_option maxRecDepth 100000 in
theorem fX12_74 : sx_fl "StainStreetModel" 74 12 37 := ⟨⟨by decide +kernel, by decide +kernel⟩, Or.inl (sx_a5 161 rfl rfl)⟩
set_option maxRecDepth 100000 in
theorem fX12_77 : sx_fl "StainStreetModel" 77 12 38 := ⟨⟨by decide +kernel, by decide +kernel⟩, Or.inl (sx_a5 162 rfl rfl)⟩
set_option maxRecDepth 100000 in
theorem fX12_80 : sx_fl "StainStreetModel" 80 12 39 := ⟨⟨by decide +kernel, by decide +kernel⟩, Or.inl (sx_a5 163 rfl rfl)⟩
set_option maxRecDepth 100000 in
theorem fX12_84 : sx_fl "StainStreetModel" 84 12 41 := ⟨⟨by decide +kernel, by decide +kernel⟩, Or.inl (sx_a5 165 rfl rfl)⟩
set_option maxRecDepth 100000 in
theorem fX12_87 : sx_fl "StainStreetModel" 87 12 42 := ⟨⟨by decide +kernel, by decide +kernel⟩, Or.inl (sx_a5 166 rfl rfl)⟩
set_option maxRecDepth 100000 in
theorem fX12_90 : sx_fl "StainStreetModel" 90 12 43 := ⟨⟨by decide +kernel, by decide +kernel⟩, Or.inl (sx_a5 167 rfl rfl)⟩
set_option maxRecDepth 100000 in
theorem fX12_93 : sx_fl "StainStreetModel" 93 12 44 := ⟨⟨by decide +kernel, by decide +kernel⟩, Or.inl (sx_a5 168 rfl rfl)⟩
set_option maxRecDepth 100000 in
theorem fX12_96 : sx_fl "StainStreetModel" 96 12 46 := ⟨⟨by decide +kernel, by decide +kernel⟩, Or.inl (sx_a5 170 rfl rfl)⟩
set_option maxRecDepth 100000 in
theorem fX12_99 : sx_fl "StainStreetModel" 99 12 0 := ⟨⟨by decide +kernel, by decide +kernel⟩, Or.inl (sx_a5 124 rfl rfl)⟩
set_option maxRecDepth 100000 in
theorem lX12_102 : sx_ml "StainStreetModel" 102 ⟨"StainStreetModel", "byteOf", "(IIIIII)I"⟩ := Or.inl (sx_a6 37 rfl rfl)
set_option maxRecDepth 100000 in
theorem fX12_106 : sx_fl "StainStreetModel" 106 12 2 := ⟨⟨by decide +kernel, by decide +kernel⟩, Or.inl (sx_a5 126 rfl rfl)⟩
set_option maxRecDepth 100000 in
theorem fX12_109 : sx_fl "StainStreetModel" 109 12 3 := ⟨⟨by decide +kernel, by decide +kernel⟩, Or.inl (sx_a5 127 rfl rfl)⟩
set_option maxRecDepth 100000 in
theorem lX12_112 : sx_ml "StainStreetModel" 112 ⟨"StainStreetModel", "here", "()I"⟩ := Or.inl (sx_a6 59 rfl rfl)
set_option maxRecDepth 100000 in
theorem fX12_116 : sx_fl "StainStreetModel" 116 12 4 := ⟨⟨by decide +kernel, by decide +kernel⟩, Or.inl (sx_a5 128 rfl rfl)⟩
set_option maxRecDepth 100000 in
theorem fX12_119 : sx_fl "StainStreetModel" 119 12 14 := ⟨⟨by decide +kernel, by decide +kernel⟩, Or.inl (sx_a5 138 rfl rfl)⟩
set_option maxRecDepth 100000 in
theorem fX12_122 : sx_fl "StainStreetModel" 122 12 5 := ⟨⟨by decide +kernel, by decide +kernel⟩, Or.inl (sx_a5 129 rfl rfl)⟩
set_option maxRecDepth 100000 in
theorem lX12_125 : sx_ml "StainStreetModel" 125 ⟨"StainStreetModel", "bad", "()V"⟩ := Or.inl (sx_a6 86 rfl rfl)
set_option maxRecDepth 100000 in
theorem lX12_128 : sx_ml "StainStreetModel" 128 ⟨"StainStreetModel", "look", "()I"⟩ := Or.inl (sx_a6 55 rfl rfl)
set_option maxRecDepth 100000 in
theorem lX12_131 : sx_ml "StainStreetModel" 131 ⟨"StainStreetModel", "isDigit", "(I)Z"⟩ := Or.inl (sx_a6 83 rfl rfl)
set_option maxRecDepth 100000 in
theorem lX12_135 : sx_ml "StainStreetModel" 135 ⟨"StainStreetModel", "plainNumber", "()I"⟩ := Or.inl (sx_a6 141 rfl rfl)
set_option maxRecDepth 100000 in
theorem lX12_138 : sx_ml "StainStreetModel" 138 ⟨"StainStreetModel", "put", "(II)V"⟩ := Or.inl (sx_a6 121 rfl rfl)
set_option maxRecDepth 100000 in
theorem lX12_142 : sx_ml "StainStreetModel" 142 ⟨"StainStreetModel", "letterOf", "(I)I"⟩ := Or.inl (sx_a6 145 rfl rfl)
set_option maxRecDepth 100000 in
theorem lX12_146 : sx_ml "StainStreetModel" 146 ⟨"StainStreetModel", "opens", "()V"⟩ := Or.inl (sx_a6 117 rfl rfl)
set_option maxRecDepth 100000 in
theorem lX12_149 : sx_ml "StainStreetModel" 149 ⟨"StainStreetModel", "sum", "()V"⟩ := Or.inl (sx_a6 129 rfl rfl)
set_option maxRecDepth 100000 in
theorem lX12_152 : sx_ml "StainStreetModel" 152 ⟨"StainStreetModel", "closes", "(I)V"⟩ := Or.inl (sx_a6 125 rfl rfl)
set_option maxRecDepth 100000 in
theorem lX12_156 : sx_ml "StainStreetModel" 156 ⟨"StainStreetModel", "atom", "()V"⟩ := Or.inl (sx_a6 137 rfl rfl)
set_option maxRecDepth 100000 in
theorem lX12_159 : sx_ml "StainStreetModel" 159 ⟨"StainStreetModel", "term", "()V"⟩ := Or.inl (sx_a6 133 rfl rfl)
set_option maxRecDepth 100000 in
theorem lX12_162 : sx_ml "StainStreetModel" 162 ⟨"StainStreetModel", "isSign", "(I)Z"⟩ := Or.inl (sx_a6 152 rfl rfl)
set_option maxRecDepth 100000 in
theorem lX12_165 : sx_ml "StainStreetModel" 165 ⟨"StainStreetModel", "unit", "()V"⟩ := Or.inl (sx_a6 113 rfl rfl)
set_option maxRecDepth 100000 in
theorem lX12_168 : sx_ml "StainStreetModel" 168 ⟨"StainStreetModel", "condition", "()V"⟩ := Or.inl (sx_a6 109 rfl rfl)
set_option maxRecDepth 100000 in
theorem lX12_171 : sx_ml "StainStreetModel" 171 ⟨"StainStreetModel", "compare", "()V"⟩ := Or.inl (sx_a6 148 rfl rfl)
set_option maxRecDepth 100000 in
theorem lX12_174 : sx_ml "StainStreetModel" 174 ⟨"StainStreetModel", "goOnAnd", "()V"⟩ := Or.inl (sx_a6 155 rfl rfl)
set_option maxRecDepth 100000 in
theorem lX12_177 : sx_ml "StainStreetModel" 177 ⟨"StainStreetModel", "goOnOr", "()V"⟩ := Or.inl (sx_a6 159 rfl rfl)
set_option maxRecDepth 100000 in
theorem lX12_180 : sx_ml "StainStreetModel" 180 ⟨"StainStreetModel", "open", "(I)V"⟩ := Or.inl (sx_a6 101 rfl rfl)
set_option maxRecDepth 100000 in
theorem lX12_183 : sx_ml "StainStreetModel" 183 ⟨"StainStreetModel", "clause", "()V"⟩ := Or.inl (sx_a6 105 rfl rfl)
set_option maxRecDepth 100000 in
theorem lX12_186 : sx_ml "StainStreetModel" 186 ⟨"StainStreetModel", "atEnd", "()I"⟩ := Or.inl (sx_a6 163 rfl rfl)
set_option maxRecDepth 100000 in
theorem kX12_189 : sx_w (.constantLong "StainStreetModel" 189 (-1000000 : Int64)) := sx_a6 214 rfl rfl
set_option maxRecDepth 100000 in
theorem kX12_191 : sx_w (.constantLong "StainStreetModel" 191 (1000000 : Int64)) := sx_a6 215 rfl rfl
set_option maxRecDepth 100000 in
theorem lX12_193 : sx_ml "StainStreetModel" 193 ⟨"java/lang/Math", "min", "(JJ)J"⟩ := Or.inl (sx_a6 216 rfl rfl)
set_option maxRecDepth 100000 in
theorem lX12_199 : sx_ml "StainStreetModel" 199 ⟨"java/lang/Math", "max", "(JJ)J"⟩ := Or.inl (sx_a6 219 rfl rfl)
set_option maxRecDepth 100000 in
theorem lX12_202 : sx_ml "StainStreetModel" 202 ⟨"StainStreetModel", "bounded", "(J)I"⟩ := Or.inl (sx_a6 211 rfl rfl)
set_option maxRecDepth 100000 in
theorem lX12_206 : sx_ml "StainStreetModel" 206 ⟨"StainStreetModel", "worked", "(IJJ)I"⟩ := Or.inl (sx_a6 208 rfl rfl)
set_option maxRecDepth 100000 in
theorem lX12_210 : sx_ml "StainStreetModel" 210 ⟨"StainStreetModel", "workOut", "(III)I"⟩ := Or.inl (sx_a6 204 rfl rfl)
set_option maxRecDepth 100000 in
theorem lX12_214 : sx_ml "StainStreetModel" 214 ⟨"StainStreetModel", "in", "(III)Z"⟩ := Or.inl (sx_a6 90 rfl rfl)
set_option maxRecDepth 100000 in
theorem lX12_218 : sx_ml "StainStreetModel" 218 ⟨"StainStreetModel", "usual", "(II)I"⟩ := Or.inl (sx_a6 52 rfl rfl)
set_option maxRecDepth 100000 in
theorem lX12_222 : sx_ml "StainStreetModel" 222 ⟨"StainStreetModel", "itemOf", "(II)I"⟩ := Or.inl (sx_a6 67 rfl rfl)
set_option maxRecDepth 100000 in
theorem lX12_225 : sx_ml "StainStreetModel" 225 ⟨"StainStreetModel", "has", "(II)Z"⟩ := Or.inl (sx_a6 70 rfl rfl)
set_option maxRecDepth 100000 in
theorem lX12_229 : sx_ml "StainStreetModel" 229 ⟨"StainStreetModel", "lowest", "(II)I"⟩ := Or.inl (sx_a6 73 rfl rfl)
set_option maxRecDepth 100000 in
theorem lX12_232 : sx_ml "StainStreetModel" 232 ⟨"StainStreetModel", "highest", "(II)I"⟩ := Or.inl (sx_a6 76 rfl rfl)
set_option maxRecDepth 100000 in
theorem lX12_235 : sx_ml "StainStreetModel" 235 ⟨"StainStreetModel", "number", "(II)I"⟩ := Or.inl (sx_a6 79 rfl rfl)
set_option maxRecDepth 100000 in
theorem fX12_238 : sx_fl "StainStreetModel" 238 12 20 := ⟨⟨by decide +kernel, by decide +kernel⟩, Or.inl (sx_a5 144 rfl rfl)⟩
set_option maxRecDepth 100000 in
theorem fX12_241 : sx_fl "StainStreetModel" 241 12 21 := ⟨⟨by decide +kernel, by decide +kernel⟩, Or.inl (sx_a5 145 rfl rfl)⟩
set_option maxRecDepth 100000 in
theorem lX12_244 : sx_ml "StainStreetModel" 244 ⟨"StainStreetModel", "items", "(I[III)V"⟩ := Or.inl (sx_a6 63 rfl rfl)
set_option maxRecDepth 100000 in
theorem lX12_248 : sx_ml "StainStreetModel" 248 ⟨"StainStreetModel", "isWhole", "()Z"⟩ := Or.inl (sx_a6 93 rfl rfl)
set_option maxRecDepth 100000 in
theorem lX12_252 : sx_ml "StainStreetModel" 252 ⟨"StainStreetModel", "readStreet", "()I"⟩ := Or.inl (sx_a6 48 rfl rfl)
set_option maxRecDepth 100000 in
theorem lX12_255 : sx_ml "StainStreetModel" 255 ⟨"StainStreetModel", "readLaw", "(I)I"⟩ := Or.inl (sx_a6 97 rfl rfl)
set_option maxRecDepth 100000 in
theorem fX12_258 : sx_fl "StainStreetModel" 258 12 25 := ⟨⟨by decide +kernel, by decide +kernel⟩, Or.inl (sx_a5 149 rfl rfl)⟩
set_option maxRecDepth 100000 in
theorem lX12_261 : sx_ml "StainStreetModel" 261 ⟨"StainStreetModel", "of", "(II)I"⟩ := Or.inl (sx_a6 179 rfl rfl)
set_option maxRecDepth 100000 in
theorem fX12_264 : sx_fl "StainStreetModel" 264 12 26 := ⟨⟨by decide +kernel, by decide +kernel⟩, Or.inl (sx_a5 150 rfl rfl)⟩
set_option maxRecDepth 100000 in
theorem lX12_267 : sx_ml "StainStreetModel" 267 ⟨"StainStreetModel", "begin", "()V"⟩ := Or.inl (sx_a6 175 rfl rfl)
set_option maxRecDepth 100000 in
theorem fX12_270 : sx_fl "StainStreetModel" 270 12 40 := ⟨⟨by decide +kernel, by decide +kernel⟩, Or.inl (sx_a5 164 rfl rfl)⟩
set_option maxRecDepth 100000 in
theorem fX12_273 : sx_fl "StainStreetModel" 273 12 45 := ⟨⟨by decide +kernel, by decide +kernel⟩, Or.inl (sx_a5 169 rfl rfl)⟩
set_option maxRecDepth 100000 in
theorem fX12_276 : sx_fl "StainStreetModel" 276 12 32 := ⟨⟨by decide +kernel, by decide +kernel⟩, Or.inl (sx_a5 156 rfl rfl)⟩
set_option maxRecDepth 100000 in
theorem fX12_279 : sx_fl "StainStreetModel" 279 12 47 := ⟨⟨by decide +kernel, by decide +kernel⟩, Or.inl (sx_a5 171 rfl rfl)⟩
set_option maxRecDepth 100000 in
theorem lX12_283 : sx_ml "StainStreetModel" 283 ⟨"StainStreetModel", "takeStreet", "()I"⟩ := Or.inl (sx_a6 171 rfl rfl)
set_option maxRecDepth 100000 in
theorem fX12_286 : sx_fl "StainStreetModel" 286 12 13 := ⟨⟨by decide +kernel, by decide +kernel⟩, Or.inl (sx_a5 137 rfl rfl)⟩
set_option maxRecDepth 100000 in
theorem lX12_289 : sx_ml "StainStreetModel" 289 ⟨"java/lang/Math", "abs", "(I)I"⟩ := Or.inl (sx_a6 199 rfl rfl)
set_option maxRecDepth 100000 in
theorem lX12_292 : sx_ml "StainStreetModel" 292 ⟨"StainStreetModel", "worthOf", "(I)I"⟩ := Or.inl (sx_a6 200 rfl rfl)
set_option maxRecDepth 100000 in
theorem lX12_295 : sx_ml "StainStreetModel" 295 ⟨"java/lang/Math", "min", "(II)I"⟩ := Or.inl (sx_a6 222 rfl rfl)
set_option maxRecDepth 100000 in
theorem lX12_297 : sx_ml "StainStreetModel" 297 ⟨"java/lang/Math", "max", "(II)I"⟩ := Or.inl (sx_a6 223 rfl rfl)
set_option maxRecDepth 100000 in
theorem lX12_299 : sx_ml "StainStreetModel" 299 ⟨"StainStreetModel", "mindedOf", "(I)I"⟩ := Or.inl (sx_a6 195 rfl rfl)
set_option maxRecDepth 100000 in
theorem lX12_302 : sx_ml "StainStreetModel" 302 ⟨"StainStreetModel", "getUsed", "(I)V"⟩ := Or.inl (sx_a7 49 rfl rfl)
set_option maxRecDepth 100000 in
theorem lX12_305 : sx_ml "StainStreetModel" 305 ⟨"StainStreetModel", "wouldGo", "()I"⟩ := Or.inl (sx_a7 53 rfl rfl)
set_option maxRecDepth 100000 in
theorem lX12_308 : sx_ml "StainStreetModel" 308 ⟨"StainStreetModel", "live", "()Z"⟩ := Or.inl (sx_a7 45 rfl rfl)
set_option maxRecDepth 100000 in
theorem lX12_311 : sx_ml "StainStreetModel" 311 ⟨"StainStreetModel", "isHouse", "(I)Z"⟩ := Or.inl (sx_a6 191 rfl rfl)
set_option maxRecDepth 100000 in
theorem lX12_314 : sx_ml "StainStreetModel" 314 ⟨"StainStreetModel", "isForm", "(I)Z"⟩ := Or.inl (sx_a6 228 rfl rfl)
set_option maxRecDepth 100000 in
theorem lX12_317 : sx_ml "StainStreetModel" 317 ⟨"StainStreetModel", "isRefused", "(I)Z"⟩ := Or.inl (sx_a7 0 rfl rfl)
set_option maxRecDepth 100000 in
theorem kX12_320 : sx_w (.constant "StainStreetModel" 320 (-1000000 : Int32)) := sx_a7 4 rfl rfl
set_option maxRecDepth 100000 in
theorem lX12_321 : sx_ml "StainStreetModel" 321 ⟨"StainStreetModel", "keep", "()V"⟩ := Or.inl (sx_a7 5 rfl rfl)
set_option maxRecDepth 100000 in
theorem lX12_324 : sx_ml "StainStreetModel" 324 ⟨"StainStreetModel", "moveNow", "(II)V"⟩ := Or.inl (sx_a7 25 rfl rfl)
set_option maxRecDepth 100000 in
theorem lX12_327 : sx_ml "StainStreetModel" 327 ⟨"StainStreetModel", "areDays", "(I)Z"⟩ := Or.inl (sx_a7 37 rfl rfl)
set_option maxRecDepth 100000 in
theorem lX12_330 : sx_ml "StainStreetModel" 330 ⟨"StainStreetModel", "passDay", "()V"⟩ := Or.inl (sx_a7 41 rfl rfl)
set_option maxRecDepth 100000 in
theorem fX12_333 : sx_fl "StainStreetModel" 333 12 30 := ⟨⟨by decide +kernel, by decide +kernel⟩, Or.inl (sx_a5 154 rfl rfl)⟩
set_option maxRecDepth 100000 in
theorem fX12_336 : sx_fl "StainStreetModel" 336 12 33 := ⟨⟨by decide +kernel, by decide +kernel⟩, Or.inl (sx_a5 157 rfl rfl)⟩
set_option maxRecDepth 100000 in
theorem kX12_340 : sx_w (.constantLong "StainStreetModel" 340 (6364136223846793005 : Int64)) := sx_a7 73 rfl rfl
set_option maxRecDepth 100000 in
theorem kX12_342 : sx_w (.constantLong "StainStreetModel" 342 (1442695040888963407 : Int64)) := sx_a7 74 rfl rfl
set_option maxRecDepth 100000 in
theorem lX12_344 : sx_ml "StainStreetModel" 344 ⟨"StainStreetModel", "draw", "(I)I"⟩ := Or.inl (sx_a7 69 rfl rfl)
set_option maxRecDepth 100000 in
theorem lX12_347 : sx_ml "StainStreetModel" 347 ⟨"StainStreetModel", "canMove", "(II)Z"⟩ := Or.inl (sx_a7 75 rfl rfl)
set_option maxRecDepth 100000 in
theorem lX12_350 : sx_ml "StainStreetModel" 350 ⟨"StainStreetModel", "drawDay", "()V"⟩ := Or.inl (sx_a7 65 rfl rfl)
set_option maxRecDepth 100000 in
theorem lX12_353 : sx_ml "StainStreetModel" 353 ⟨"StainStreetModel", "logged", "(II)I"⟩ := Or.inl (sx_a7 91 rfl rfl)
set_option maxRecDepth 100000 in
theorem lX12_356 : sx_ml "StainStreetModel" 356 ⟨"StainStreetModel", "putAside", "()V"⟩ := Or.inl (sx_a7 99 rfl rfl)
set_option maxRecDepth 100000 in
theorem lX12_359 : sx_ml "StainStreetModel" 359 ⟨"StainStreetModel", "takeBack", "()V"⟩ := Or.inl (sx_a7 103 rfl rfl)
set_option maxRecDepth 100000 in
theorem fX12_362 : sx_fl "StainStreetModel" 362 12 35 := ⟨⟨by decide +kernel, by decide +kernel⟩, Or.inl (sx_a5 159 rfl rfl)⟩
set_option maxRecDepth 100000 in
theorem fX12_365 : sx_fl "StainStreetModel" 365 12 36 := ⟨⟨by decide +kernel, by decide +kernel⟩, Or.inl (sx_a5 160 rfl rfl)⟩
set_option maxRecDepth 100000 in
theorem lX12_368 : sx_ml "StainStreetModel" 368 ⟨"StainStreetModel", "isAsked", "(I)Z"⟩ := Or.inl (sx_a7 115 rfl rfl)
set_option maxRecDepth 100000 in
theorem lX12_371 : sx_ml "StainStreetModel" 371 ⟨"StainStreetModel", "layDays", "(I)V"⟩ := Or.inl (sx_a7 119 rfl rfl)
set_option maxRecDepth 100000 in
theorem lX12_374 : sx_ml "StainStreetModel" 374 ⟨"StainStreetModel", "mindedIf", "(II)I"⟩ := Or.inl (sx_a7 135 rfl rfl)
set_option maxRecDepth 100000 in
theorem lX12_377 : sx_ml "StainStreetModel" 377 ⟨"StainStreetModel", "leastBelow", "(II)I"⟩ := Or.inl (sx_a7 143 rfl rfl)
set_option maxRecDepth 100000 in
theorem lX12_380 : sx_ml "StainStreetModel" 380 ⟨"StainStreetModel", "othersBelow", "(II)I"⟩ := Or.inl (sx_a7 139 rfl rfl)
set_option maxRecDepth 100000 in
theorem lX12_383 : sx_ml "StainStreetModel" 383 ⟨"java/lang/Integer", "bitCount", "(I)I"⟩ := Or.inl (sx_a7 159 rfl rfl)
set_option maxRecDepth 100000 in
theorem lX12_388 : sx_ml "StainStreetModel" 388 ⟨"StainStreetModel", "isTreaty", "(I)Z"⟩ := Or.inl (sx_a7 160 rfl rfl)
set_option maxRecDepth 100000 in
theorem lX12_391 : sx_ml "StainStreetModel" 391 ⟨"StainStreetModel", "areTwo", "(II)Z"⟩ := Or.inl (sx_a7 168 rfl rfl)
set_option maxRecDepth 100000 in
theorem lX12_394 : sx_ml "StainStreetModel" 394 ⟨"StainStreetModel", "gameOf", "(IIII)I"⟩ := Or.inl (sx_a7 172 rfl rfl)
set_option maxRecDepth 100000 in
theorem lX12_398 : sx_ml "StainStreetModel" 398 ⟨"StainStreetModel", "isRest", "(IIII)Z"⟩ := Or.inl (sx_a7 180 rfl rfl)
set_option maxRecDepth 100000 in
theorem lX12_402 : sx_ml "StainStreetModel" 402 ⟨"StainStreetModel", "isWho", "(I)Z"⟩ := Or.inl (sx_a7 200 rfl rfl)
set_option maxRecDepth 100000 in
theorem lX12_405 : sx_ml "StainStreetModel" 405 ⟨"StainStreetModel", "isMore", "(I)Z"⟩ := Or.inl (sx_a7 192 rfl rfl)
set_option maxRecDepth 100000 in
theorem lX12_408 : sx_ml "StainStreetModel" 408 ⟨"StainStreetModel", "layPaths", "(I)V"⟩ := Or.inl (sx_a7 196 rfl rfl)
set_option maxRecDepth 100000 in
theorem lX12_411 : sx_ml "StainStreetModel" 411 ⟨"StainStreetModel", "isSo", "(I)Z"⟩ := Or.inl (sx_a7 204 rfl rfl)
set_option maxRecDepth 100000 in
theorem lX12_414 : sx_ml "StainStreetModel" 414 ⟨"StainStreetModel", "who", "(II)I"⟩ := Or.inl (sx_a7 212 rfl rfl)
set_option maxRecDepth 100000 in
theorem lX12_417 : sx_ml "StainStreetModel" 417 ⟨"StainStreetModel", "mostTell", "(I)I"⟩ := Or.inl (sx_a7 213 rfl rfl)
set_option maxRecDepth 100000 in
theorem lX12_420 : sx_ml "StainStreetModel" 420 ⟨"StainStreetModel", "followsBy", "(II)I"⟩ := Or.inl (sx_a7 221 rfl rfl)
set_option maxRecDepth 100000 in
theorem kX12_423 : sx_w (.constantLong "StainStreetModel" 423 (100 : Int64)) := sx_a8 6 rfl rfl
set_option maxRecDepth 100000 in
theorem lX12_425 : sx_ml "StainStreetModel" 425 ⟨"StainStreetModel", "oddsFrom", "(IIII)I"⟩ := Or.inl (sx_a8 2 rfl rfl)
set_option maxRecDepth 100000 in
theorem kX12_428 : sx_w (.constant "StainStreetModel" 428 (1000000000 : Int32)) := sx_a8 1 rfl rfl
set_option maxRecDepth 100000 in
theorem lX12_429 : sx_ml "StainStreetModel" 429 ⟨"StainStreetModel", "valueOf", "(II)I"⟩ := Or.inl (sx_a8 19 rfl rfl)
set_option maxRecDepth 100000 in
theorem lX12_432 : sx_ml "StainStreetModel" 432 ⟨"StainStreetModel", "highestBy", "(I)I"⟩ := Or.inl (sx_a8 15 rfl rfl)
set_option maxRecDepth 100000 in
theorem lX12_435 : sx_ml "StainStreetModel" 435 ⟨"StainStreetModel", "backs", "()I"⟩ := Or.inl (sx_a8 23 rfl rfl)

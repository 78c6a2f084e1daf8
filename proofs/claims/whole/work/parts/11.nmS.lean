/-! names: a method's name, bytes, locals, answer; its instructions; what the tables say of it -/

abbrev mX11_init : sxM := (⟨"StainStreet", "<init>", "()V"⟩, prog_1_method_1_code, 1, none)
def iX11_init : List (Nat × Instr × Nat) := [(0, .aload_n 0, 1), (1, .invokespecial 3, 3), (4, .aload_n 0, 1), (5, .new 9, 3), (8, .dup, 1), (9, .invokespecial 11, 3), (12, .putfield 12, 3), (15, .aload_n 0, 1), (16, .new 16, 3), (19, .dup, 1), (20, .aload_n 0, 1), (21, .getfield 12, 3), (24, .invokespecial 18, 3), (27, .putfield 21, 3), (30, .aload_n 0, 1), (31, .new 25, 3), (34, .dup, 1), (35, .invokespecial 27, 3), (38, .putfield 28, 3), (41, .aload_n 0, 1), (42, .new 32, 3), (45, .dup, 1), (46, .aload_n 0, 1), (47, .getfield 12, 3), (50, .aload_n 0, 1), (51, .getfield 28, 3), (54, .invokevirtual 34, 3), (57, .invokespecial 38, 3), (60, .putfield 41, 3), (63, .aload_n 0, 1), (64, .new 45, 3), (67, .dup, 1), (68, .invokespecial 47, 3), (71, .putfield 48, 3), (74, .aload_n 0, 1), (75, .new 45, 3), (78, .dup, 1), (79, .invokespecial 47, 3), (82, .putfield 52, 3), (85, .aload_n 0, 1), (86, .new 55, 3), (89, .dup, 1), (90, .aload_n 0, 1), (91, .getfield 48, 3), (94, .invokespecial 57, 3), (97, .putfield 60, 3), (100, .aload_n 0, 1), (101, .new 55, 3), (104, .dup, 1), (105, .aload_n 0, 1), (106, .getfield 48, 3), (109, .invokespecial 57, 3), (112, .putfield 64, 3), (115, .aload_n 0, 1), (116, .new 67, 3), (119, .dup, 1), (120, .invokespecial 69, 3), (123, .putfield 70, 3), (126, .aload_n 0, 1), (127, .new 74, 3), (130, .dup, 1), (131, .aload_n 0, 1), (132, .getfield 48, 3), (135, .invokespecial 76, 3), (138, .putfield 77, 3), (141, .aload_n 0, 1), (142, .new 81, 3), (145, .dup, 1), (146, .aload_n 0, 1), (147, .getfield 48, 3), (150, .invokespecial 83, 3), (153, .putfield 84, 3), (156, .aload_n 0, 1), (157, .new 88, 3), (160, .dup, 1), (161, .invokespecial 90, 3), (164, .putfield 91, 3), (167, .aload_n 0, 1), (168, .new 88, 3), (171, .dup, 1), (172, .invokespecial 90, 3), (175, .putfield 95, 3), (178, .aload_n 0, 1), (179, .iconst 5, 1), (180, .newarray .int, 2), (182, .putfield 98, 3), (185, .aload_n 0, 1), (186, .bipush 8, 2), (188, .newarray .int, 2), (190, .putfield 102, 3), (193, .aload_n 0, 1), (194, .bipush 8, 2), (196, .newarray .int, 2), (198, .putfield 105, 3), (201, .aload_n 0, 1), (202, .sipush 400, 3), (205, .newarray .int, 2), (207, .putfield 108, 3), (210, .return_, 1)]
set_option maxRecDepth 100000 in
theorem dX11_init : sx_dec prog_1_method_1_code iX11_init = true := by decide +kernel
set_option maxRecDepth 100000 in
theorem vX11_init : sx_mi mX11_init 0 := ⟨⟨sx_a1 29 rfl rfl, sx_a1 1 rfl rfl, nh_X11, by decide +kernel, Nat.le_of_ble_eq_true rfl⟩, sx_a1 28 rfl rfl, rfl, rfl⟩
abbrev mX11_feed : sxM := (⟨"StainStreet", "feed", "(IIIII)I"⟩, prog_1_method_2_code, 7, some FieldType.int)
def iX11_feed : List (Nat × Instr × Nat) := [(0, .iload_n 1, 1), (1, .invokestatic 111, 3), (4, .iload_n 2, 1), (5, .invokestatic 111, 3), (8, .iadd, 1), (9, .iload_n 3, 1), (10, .invokestatic 111, 3), (13, .iadd, 1), (14, .iload 4, 2), (16, .invokestatic 111, 3), (19, .iadd, 1), (20, .iload 5, 2), (22, .invokestatic 111, 3), (25, .iadd, 1), (26, .istore 6, 2), (28, .aload_n 0, 1), (29, .getfield 12, 3), (32, .getfield 115, 3), (35, .iload 6, 2), (37, .iadd, 1), (38, .sipush 240, 3), (41, .if_icmp .le 5, 3), (44, .iconst (-1), 1), (45, .ireturn, 1), (46, .aload_n 0, 1), (47, .getfield 12, 3), (50, .iload_n 1, 1), (51, .invokevirtual 119, 3), (54, .aload_n 0, 1), (55, .getfield 12, 3), (58, .iload_n 2, 1), (59, .invokevirtual 119, 3), (62, .aload_n 0, 1), (63, .getfield 12, 3), (66, .iload_n 3, 1), (67, .invokevirtual 119, 3), (70, .aload_n 0, 1), (71, .getfield 12, 3), (74, .iload 4, 2), (76, .invokevirtual 119, 3), (79, .aload_n 0, 1), (80, .getfield 12, 3), (83, .iload 5, 2), (85, .invokevirtual 119, 3), (88, .aload_n 0, 1), (89, .getfield 12, 3), (92, .getfield 115, 3), (95, .ireturn, 1)]
set_option maxRecDepth 100000 in
theorem dX11_feed : sx_dec prog_1_method_2_code iX11_feed = true := by decide +kernel
set_option maxRecDepth 100000 in
theorem vX11_feed : sx_mv mX11_feed 5 := ⟨⟨sx_a2 119 rfl rfl, sx_a1 1 rfl rfl, nh_X11, by decide +kernel, Nat.le_of_ble_eq_true rfl⟩, sx_a2 117 rfl rfl, sx_a2 118 rfl rfl⟩
abbrev mX11_end : sxM := (⟨"StainStreet", "end", "(I)Z"⟩, prog_1_method_3_code, 2, some FieldType.boolean)
def iX11_end : List (Nat × Instr × Nat) := [(0, .iload_n 1, 1), (1, .ifCond .lt 14, 3), (4, .iload_n 1, 1), (5, .aload_n 0, 1), (6, .getfield 12, 3), (9, .getfield 115, 3), (12, .if_icmp .le 5, 3), (15, .iconst 0, 1), (16, .ireturn, 1), (17, .aload_n 0, 1), (18, .getfield 12, 3), (21, .iload_n 1, 1), (22, .putfield 115, 3), (25, .iconst 1, 1), (26, .ireturn, 1)]
set_option maxRecDepth 100000 in
theorem dX11_end : sx_dec prog_1_method_3_code iX11_end = true := by decide +kernel
set_option maxRecDepth 100000 in
theorem vX11_end : sx_mv mX11_end 1 := ⟨⟨sx_a2 130 rfl rfl, sx_a1 1 rfl rfl, nh_X11, by decide +kernel, Nat.le_of_ble_eq_true rfl⟩, sx_a2 128 rfl rfl, sx_a2 129 rfl rfl⟩
abbrev mX11_fault : sxM := (⟨"StainStreet", "fault", "(I)I"⟩, prog_1_method_4_code, 2, some FieldType.int)
def iX11_fault : List (Nat × Instr × Nat) := [(0, .iload_n 1, 1), (1, .ifCond .ne 15, 3), (4, .aload_n 0, 1), (5, .getfield 21, 3), (8, .aload_n 0, 1), (9, .getfield 52, 3), (12, .invokevirtual 123, 3), (15, .ireturn, 1), (16, .iload_n 1, 1), (17, .iconst 1, 1), (18, .if_icmp .ne 20, 3), (21, .aload_n 0, 1), (22, .getfield 41, 3), (25, .aload_n 0, 1), (26, .getfield 28, 3), (29, .invokevirtual 34, 3), (32, .invokevirtual 127, 3), (35, .goto 5, 3), (38, .bipush (-2), 2), (40, .ireturn, 1)]
set_option maxRecDepth 100000 in
theorem dX11_fault : sx_dec prog_1_method_4_code iX11_fault = true := by decide +kernel
set_option maxRecDepth 100000 in
theorem vX11_fault : sx_mv mX11_fault 1 := ⟨⟨sx_a2 134 rfl rfl, sx_a1 1 rfl rfl, nh_X11, by decide +kernel, Nat.le_of_ble_eq_true rfl⟩, sx_a2 132 rfl rfl, sx_a2 133 rfl rfl⟩
abbrev mX11_text : sxM := (⟨"StainStreet", "text", "(I)I"⟩, prog_1_method_5_code, 2, some FieldType.int)
def iX11_text : List (Nat × Instr × Nat) := [(0, .iload_n 1, 1), (1, .ifCond .ne 27, 3), (4, .aload_n 0, 1), (5, .getfield 21, 3), (8, .aload_n 0, 1), (9, .getfield 52, 3), (12, .invokevirtual 123, 3), (15, .iconst (-1), 1), (16, .if_icmp .ne 10, 3), (19, .aload_n 0, 1), (20, .invokevirtual 130, 3), (23, .goto 4, 3), (26, .iconst (-1), 1), (27, .ireturn, 1), (28, .iload_n 1, 1), (29, .iconst 1, 1), (30, .if_icmp .ne 32, 3), (33, .aload_n 0, 1), (34, .getfield 28, 3), (37, .getfield 134, 3), (40, .iconst 4, 1), (41, .if_icmp .ge 21, 3), (44, .aload_n 0, 1), (45, .getfield 41, 3), (48, .aload_n 0, 1), (49, .getfield 28, 3), (52, .invokevirtual 34, 3), (55, .invokevirtual 127, 3), (58, .iconst (-1), 1), (59, .if_icmp .eq 5, 3), (62, .iconst (-1), 1), (63, .ireturn, 1), (64, .aload_n 0, 1), (65, .getfield 12, 3), (68, .iconst 0, 1), (69, .putfield 115, 3), (72, .aload_n 0, 1), (73, .getfield 28, 3), (76, .invokevirtual 137, 3), (79, .ireturn, 1)]
set_option maxRecDepth 100000 in
theorem dX11_text : sx_dec prog_1_method_5_code iX11_text = true := by decide +kernel
set_option maxRecDepth 100000 in
theorem vX11_text : sx_mv mX11_text 1 := ⟨⟨sx_a3 66 rfl rfl, sx_a1 1 rfl rfl, nh_X11, by decide +kernel, Nat.le_of_ble_eq_true rfl⟩, sx_a3 64 rfl rfl, sx_a3 65 rfl rfl⟩
abbrev mX11_beginStreet : sxM := (⟨"StainStreet", "beginStreet", "()I"⟩, prog_1_method_6_code, 2, some FieldType.int)
def iX11_beginStreet : List (Nat × Instr × Nat) := [(0, .aload_n 0, 1), (1, .getfield 52, 3), (4, .astore_n 1, 1), (5, .aload_n 0, 1), (6, .aload_n 0, 1), (7, .getfield 48, 3), (10, .putfield 52, 3), (13, .aload_n 0, 1), (14, .aload_n 1, 1), (15, .putfield 48, 3), (18, .aload_n 0, 1), (19, .getfield 12, 3), (22, .iconst 0, 1), (23, .putfield 115, 3), (26, .aload_n 0, 1), (27, .getfield 60, 3), (30, .aload_n 0, 1), (31, .getfield 48, 3), (34, .invokevirtual 140, 3), (37, .aload_n 0, 1), (38, .getfield 77, 3), (41, .invokevirtual 143, 3), (44, .aload_n 0, 1), (45, .getfield 84, 3), (48, .iconst 0, 1), (49, .putfield 146, 3), (52, .aload_n 0, 1), (53, .getfield 91, 3), (56, .iconst 0, 1), (57, .putfield 150, 3), (60, .aload_n 0, 1), (61, .getfield 95, 3), (64, .iconst 0, 1), (65, .putfield 150, 3), (68, .aload_n 0, 1), (69, .getfield 48, 3), (72, .getfield 151, 3), (75, .ireturn, 1)]
set_option maxRecDepth 100000 in
theorem dX11_beginStreet : sx_dec prog_1_method_6_code iX11_beginStreet = true := by decide +kernel
set_option maxRecDepth 100000 in
theorem vX11_beginStreet : sx_mv mX11_beginStreet 0 := ⟨⟨sx_a3 70 rfl rfl, sx_a1 1 rfl rfl, nh_X11, by decide +kernel, Nat.le_of_ble_eq_true rfl⟩, sx_a3 69 rfl rfl, sx_pv 10 rfl rfl⟩
abbrev mX11_rule : sxM := (⟨"StainStreet", "rule", "(I)I"⟩, prog_1_method_7_code, 2, some FieldType.int)
def iX11_rule : List (Nat × Instr × Nat) := [(0, .aload_n 0, 1), (1, .invokevirtual 154, 3), (4, .ifCond .ne 5, 3), (7, .iconst (-1), 1), (8, .ireturn, 1), (9, .iload_n 1, 1), (10, .tableswitch 78 0 3 #[30, 38, 62, 70], 30), (40, .aload_n 0, 1), (41, .getfield 48, 3), (44, .invokevirtual 158, 3), (47, .ireturn, 1), (48, .aload_n 0, 1), (49, .getfield 60, 3), (52, .getfield 161, 3), (55, .iconst (-1), 1), (56, .if_icmp .ne 8, 3), (59, .bipush 8, 2), (61, .goto 10, 3), (64, .aload_n 0, 1), (65, .getfield 60, 3), (68, .getfield 161, 3), (71, .ireturn, 1), (72, .aload_n 0, 1), (73, .getfield 60, 3), (76, .getfield 164, 3), (79, .ireturn, 1), (80, .aload_n 0, 1), (81, .getfield 60, 3), (84, .getfield 167, 3), (87, .ireturn, 1), (88, .iconst (-1), 1), (89, .ireturn, 1)]
set_option maxRecDepth 100000 in
theorem dX11_rule : sx_dec prog_1_method_7_code iX11_rule = true := by decide +kernel
set_option maxRecDepth 100000 in
theorem vX11_rule : sx_mv mX11_rule 1 := ⟨⟨sx_a3 96 rfl rfl, sx_a1 1 rfl rfl, nh_X11, by decide +kernel, Nat.le_of_ble_eq_true rfl⟩, sx_a3 94 rfl rfl, sx_a3 95 rfl rfl⟩
abbrev mX11_house : sxM := (⟨"StainStreet", "house", "(II)I"⟩, prog_1_method_8_code, 3, some FieldType.int)
def iX11_house : List (Nat × Instr × Nat) := [(0, .aload_n 0, 1), (1, .iload_n 1, 1), (2, .invokevirtual 170, 3), (5, .ifCond .eq 13, 3), (8, .iload_n 2, 1), (9, .ifCond .lt 9, 3), (12, .iload_n 2, 1), (13, .bipush 6, 2), (15, .if_icmp .le 11, 3), (18, .new 174, 3), (21, .dup, 1), (22, .invokespecial 176, 3), (25, .athrow, 1), (26, .iload_n 2, 1), (27, .tableswitch 104 0 5 #[37, 47, 57, 67, 77, 87], 37), (64, .aload_n 0, 1), (65, .getfield 60, 3), (68, .getfield 177, 3), (71, .iload_n 1, 1), (72, .iaload, 1), (73, .ireturn, 1), (74, .aload_n 0, 1), (75, .getfield 60, 3), (78, .getfield 180, 3), (81, .iload_n 1, 1), (82, .iaload, 1), (83, .ireturn, 1), (84, .aload_n 0, 1), (85, .getfield 60, 3), (88, .getfield 183, 3), (91, .iload_n 1, 1), (92, .iaload, 1), (93, .ireturn, 1), (94, .aload_n 0, 1), (95, .getfield 60, 3), (98, .getfield 186, 3), (101, .iload_n 1, 1), (102, .iaload, 1), (103, .ireturn, 1), (104, .aload_n 0, 1), (105, .getfield 60, 3), (108, .getfield 189, 3), (111, .iload_n 1, 1), (112, .iaload, 1), (113, .ireturn, 1), (114, .aload_n 0, 1), (115, .getfield 60, 3), (118, .iload_n 1, 1), (119, .invokevirtual 192, 3), (122, .ifCond .eq 7, 3), (125, .iconst 1, 1), (126, .goto 4, 3), (129, .iconst 0, 1), (130, .ireturn, 1), (131, .aload_n 0, 1), (132, .getfield 60, 3), (135, .iload_n 1, 1), (136, .aload_n 0, 1), (137, .getfield 28, 3), (140, .invokevirtual 195, 3), (143, .invokevirtual 198, 3), (146, .ireturn, 1)]
set_option maxRecDepth 100000 in
theorem dX11_house : sx_dec prog_1_method_8_code iX11_house = true := by decide +kernel
set_option maxRecDepth 100000 in
theorem vX11_house : sx_mv mX11_house 2 := ⟨⟨sx_a5 56 rfl rfl, sx_a1 1 rfl rfl, nh_X11, by decide +kernel, Nat.le_of_ble_eq_true rfl⟩, sx_a5 54 rfl rfl, sx_a5 55 rfl rfl⟩
abbrev mX11_form : sxM := (⟨"StainStreet", "form", "(II)I"⟩, prog_1_method_9_code, 3, some FieldType.int)
def iX11_form : List (Nat × Instr × Nat) := [(0, .aload_n 0, 1), (1, .iload_n 1, 1), (2, .invokevirtual 202, 3), (5, .ifCond .eq 12, 3), (8, .iload_n 2, 1), (9, .ifCond .lt 8, 3), (12, .iload_n 2, 1), (13, .iconst 1, 1), (14, .if_icmp .le 5, 3), (17, .iconst (-1), 1), (18, .ireturn, 1), (19, .iload_n 2, 1), (20, .ifCond .ne 14, 3), (23, .aload_n 0, 1), (24, .getfield 48, 3), (27, .iload_n 1, 1), (28, .invokevirtual 205, 3), (31, .goto 11, 3), (34, .aload_n 0, 1), (35, .getfield 48, 3), (38, .iload_n 1, 1), (39, .invokevirtual 208, 3), (42, .ireturn, 1)]
set_option maxRecDepth 100000 in
theorem dX11_form : sx_dec prog_1_method_9_code iX11_form = true := by decide +kernel
set_option maxRecDepth 100000 in
theorem vX11_form : sx_mv mX11_form 2 := ⟨⟨sx_a3 108 rfl rfl, sx_a1 1 rfl rfl, nh_X11, by decide +kernel, Nat.le_of_ble_eq_true rfl⟩, sx_a3 106 rfl rfl, sx_a3 107 rfl rfl⟩
abbrev mX11_law : sxM := (⟨"StainStreet", "law", "(I)Z"⟩, prog_1_method_10_code, 2, some FieldType.boolean)
def iX11_law : List (Nat × Instr × Nat) := [(0, .iload_n 1, 1), (1, .iconst (-1), 1), (2, .if_icmp .lt 14, 3), (5, .iload_n 1, 1), (6, .aload_n 0, 1), (7, .getfield 28, 3), (10, .getfield 134, 3), (13, .if_icmp .lt 5, 3), (16, .iconst 0, 1), (17, .ireturn, 1), (18, .aload_n 0, 1), (19, .getfield 28, 3), (22, .iload_n 1, 1), (23, .putfield 211, 3), (26, .iconst 1, 1), (27, .ireturn, 1)]
set_option maxRecDepth 100000 in
theorem dX11_law : sx_dec prog_1_method_10_code iX11_law = true := by decide +kernel
set_option maxRecDepth 100000 in
theorem vX11_law : sx_mv mX11_law 1 := ⟨⟨sx_a3 121 rfl rfl, sx_a1 1 rfl rfl, nh_X11, by decide +kernel, Nat.le_of_ble_eq_true rfl⟩, sx_a3 119 rfl rfl, sx_a3 120 rfl rfl⟩
abbrev mX11_status : sxM := (⟨"StainStreet", "status", "(I)I"⟩, prog_1_method_11_code, 2, some FieldType.int)
def iX11_status : List (Nat × Instr × Nat) := [(0, .iload_n 1, 1), (1, .ifCond .lt 8, 3), (4, .iload_n 1, 1), (5, .iconst 5, 1), (6, .if_icmp .lt 7, 3), (9, .iconst (-1), 1), (10, .goto 9, 3), (13, .aload_n 0, 1), (14, .getfield 98, 3), (17, .iload_n 1, 1), (18, .iaload, 1), (19, .ireturn, 1)]
set_option maxRecDepth 100000 in
theorem dX11_status : sx_dec prog_1_method_11_code iX11_status = true := by decide +kernel
set_option maxRecDepth 100000 in
theorem vX11_status : sx_mv mX11_status 1 := ⟨⟨sx_a3 125 rfl rfl, sx_a1 1 rfl rfl, nh_X11, by decide +kernel, Nat.le_of_ble_eq_true rfl⟩, sx_a3 123 rfl rfl, sx_a3 124 rfl rfl⟩
abbrev mX11_log : sxM := (⟨"StainStreet", "log", "(II)I"⟩, prog_1_method_12_code, 4, some FieldType.int)
def iX11_log : List (Nat × Instr × Nat) := [(0, .iload_n 1, 1), (1, .ifCond .lt 20, 3), (4, .iload_n 1, 1), (5, .aload_n 0, 1), (6, .invokevirtual 214, 3), (9, .if_icmp .ge 12, 3), (12, .iload_n 2, 1), (13, .ifCond .lt 8, 3), (16, .iload_n 2, 1), (17, .iconst 2, 1), (18, .if_icmp .le 6, 3), (21, .ldc 217, 2), (23, .ireturn, 1), (24, .aload_n 0, 1), (25, .getfield 60, 3), (28, .getfield 218, 3), (31, .iconst 1, 1), (32, .isub, 1), (33, .iload_n 1, 1), (34, .isub, 1), (35, .istore_n 3, 1), (36, .iload_n 2, 1), (37, .ifCond .ne 12, 3), (40, .aload_n 0, 1), (41, .getfield 70, 3), (44, .iload_n 3, 1), (45, .invokevirtual 221, 3), (48, .ireturn, 1), (49, .iload_n 2, 1), (50, .iconst 1, 1), (51, .if_icmp .ne 14, 3), (54, .aload_n 0, 1), (55, .getfield 70, 3), (58, .iload_n 3, 1), (59, .invokevirtual 224, 3), (62, .goto 11, 3), (65, .aload_n 0, 1), (66, .getfield 70, 3), (69, .iload_n 3, 1), (70, .invokevirtual 227, 3), (73, .ireturn, 1)]
set_option maxRecDepth 100000 in
theorem dX11_log : sx_dec prog_1_method_12_code iX11_log = true := by decide +kernel
set_option maxRecDepth 100000 in
theorem vX11_log : sx_mv mX11_log 2 := ⟨⟨sx_a3 129 rfl rfl, sx_a1 1 rfl rfl, nh_X11, by decide +kernel, Nat.le_of_ble_eq_true rfl⟩, sx_a3 127 rfl rfl, sx_a3 128 rfl rfl⟩
abbrev mX11_count : sxM := (⟨"StainStreet", "count", "(I)I"⟩, prog_1_method_13_code, 2, some FieldType.int)
def iX11_count : List (Nat × Instr × Nat) := [(0, .iload_n 1, 1), (1, .tableswitch 153 0 11 #[63, 71, 79, 87, 95, 103, 111, 116, 124, 132, 140, 145], 63), (64, .aload_n 0, 1), (65, .getfield 48, 3), (68, .getfield 151, 3), (71, .ireturn, 1), (72, .aload_n 0, 1), (73, .getfield 48, 3), (76, .getfield 230, 3), (79, .ireturn, 1), (80, .aload_n 0, 1), (81, .getfield 28, 3), (84, .getfield 134, 3), (87, .ireturn, 1), (88, .aload_n 0, 1), (89, .getfield 12, 3), (92, .getfield 115, 3), (95, .ireturn, 1), (96, .aload_n 0, 1), (97, .getfield 28, 3), (100, .getfield 211, 3), (103, .ireturn, 1), (104, .aload_n 0, 1), (105, .getfield 60, 3), (108, .getfield 233, 3), (111, .ireturn, 1), (112, .aload_n 0, 1), (113, .getfield 236, 3), (116, .ireturn, 1), (117, .aload_n 0, 1), (118, .getfield 91, 3), (121, .getfield 150, 3), (124, .ireturn, 1), (125, .aload_n 0, 1), (126, .getfield 95, 3), (129, .getfield 150, 3), (132, .ireturn, 1), (133, .aload_n 0, 1), (134, .getfield 60, 3), (137, .getfield 239, 3), (140, .ireturn, 1), (141, .aload_n 0, 1), (142, .invokevirtual 214, 3), (145, .ireturn, 1), (146, .aload_n 0, 1), (147, .getfield 77, 3), (150, .getfield 242, 3), (153, .ireturn, 1), (154, .ldc 217, 2), (156, .ireturn, 1)]
set_option maxRecDepth 100000 in
theorem dX11_count : sx_dec prog_1_method_13_code iX11_count = true := by decide +kernel
set_option maxRecDepth 100000 in
theorem vX11_count : sx_mv mX11_count 1 := ⟨⟨sx_a3 156 rfl rfl, sx_a1 1 rfl rfl, nh_X11, by decide +kernel, Nat.le_of_ble_eq_true rfl⟩, sx_a3 154 rfl rfl, sx_a3 155 rfl rfl⟩
abbrev mX11_isStreet : sxM := (⟨"StainStreet", "isStreet", "()Z"⟩, prog_1_method_14_code, 1, some FieldType.boolean)
def iX11_isStreet : List (Nat × Instr × Nat) := [(0, .aload_n 0, 1), (1, .getfield 48, 3), (4, .getfield 151, 3), (7, .ifCond .le 7, 3), (10, .iconst 1, 1), (11, .goto 4, 3), (14, .iconst 0, 1), (15, .ireturn, 1)]
set_option maxRecDepth 100000 in
theorem dX11_isStreet : sx_dec prog_1_method_14_code iX11_isStreet = true := by decide +kernel
set_option maxRecDepth 100000 in
theorem vX11_isStreet : sx_mv mX11_isStreet 0 := ⟨⟨sx_a3 100 rfl rfl, sx_a1 1 rfl rfl, nh_X11, by decide +kernel, Nat.le_of_ble_eq_true rfl⟩, sx_a3 99 rfl rfl, sx_pv 11 rfl rfl⟩
abbrev mX11_isHouse : sxM := (⟨"StainStreet", "isHouse", "(I)Z"⟩, prog_1_method_15_code, 2, some FieldType.boolean)
def iX11_isHouse : List (Nat × Instr × Nat) := [(0, .iload_n 1, 1), (1, .ifCond .lt 24, 3), (4, .iload_n 1, 1), (5, .aload_n 0, 1), (6, .getfield 48, 3), (9, .getfield 151, 3), (12, .if_icmp .ge 13, 3), (15, .iload_n 1, 1), (16, .bipush 8, 2), (18, .if_icmp .ge 7, 3), (21, .iconst 1, 1), (22, .goto 4, 3), (25, .iconst 0, 1), (26, .ireturn, 1)]
set_option maxRecDepth 100000 in
theorem dX11_isHouse : sx_dec prog_1_method_15_code iX11_isHouse = true := by decide +kernel
set_option maxRecDepth 100000 in
theorem vX11_isHouse : sx_mv mX11_isHouse 1 := ⟨⟨sx_a3 164 rfl rfl, sx_a1 1 rfl rfl, nh_X11, by decide +kernel, Nat.le_of_ble_eq_true rfl⟩, sx_a3 163 rfl rfl, sx_pv 14 rfl rfl⟩
abbrev mX11_isForm : sxM := (⟨"StainStreet", "isForm", "(I)Z"⟩, prog_1_method_16_code, 2, some FieldType.boolean)
def iX11_isForm : List (Nat × Instr × Nat) := [(0, .iload_n 1, 1), (1, .ifCond .lt 24, 3), (4, .iload_n 1, 1), (5, .aload_n 0, 1), (6, .getfield 48, 3), (9, .getfield 230, 3), (12, .if_icmp .ge 13, 3), (15, .iload_n 1, 1), (16, .bipush 6, 2), (18, .if_icmp .ge 7, 3), (21, .iconst 1, 1), (22, .goto 4, 3), (25, .iconst 0, 1), (26, .ireturn, 1)]
set_option maxRecDepth 100000 in
theorem dX11_isForm : sx_dec prog_1_method_16_code iX11_isForm = true := by decide +kernel
set_option maxRecDepth 100000 in
theorem vX11_isForm : sx_mv mX11_isForm 1 := ⟨⟨sx_a3 112 rfl rfl, sx_a1 1 rfl rfl, nh_X11, by decide +kernel, Nat.le_of_ble_eq_true rfl⟩, sx_a3 111 rfl rfl, sx_pv 12 rfl rfl⟩
abbrev mX11_shownLog : sxM := (⟨"StainStreet", "shownLog", "()I"⟩, prog_1_method_17_code, 1, some FieldType.int)
def iX11_shownLog : List (Nat × Instr × Nat) := [(0, .aload_n 0, 1), (1, .getfield 60, 3), (4, .getfield 218, 3), (7, .bipush 60, 2), (9, .invokestatic 243, 3), (12, .ireturn, 1)]
set_option maxRecDepth 100000 in
theorem dX11_shownLog : sx_dec prog_1_method_17_code iX11_shownLog = true := by decide +kernel
set_option maxRecDepth 100000 in
theorem vX11_shownLog : sx_mv mX11_shownLog 0 := ⟨⟨sx_a3 133 rfl rfl, sx_a1 1 rfl rfl, nh_X11, by decide +kernel, Nat.le_of_ble_eq_true rfl⟩, sx_a3 132 rfl rfl, sx_pv 13 rfl rfl⟩
abbrev mX11_entry : sxM := (⟨"StainStreet", "entry", "(I)I"⟩, prog_1_method_18_code, 2, some FieldType.int)
def iX11_entry : List (Nat × Instr × Nat) := [(0, .iload_n 1, 1), (1, .ifCond .lt 19, 3), (4, .iload_n 1, 1), (5, .sipush 400, 3), (8, .if_icmp .ge 12, 3), (11, .aload_n 0, 1), (12, .getfield 108, 3), (15, .iload_n 1, 1), (16, .iaload, 1), (17, .goto 4, 3), (20, .iconst 0, 1), (21, .ireturn, 1)]
set_option maxRecDepth 100000 in
theorem dX11_entry : sx_dec prog_1_method_18_code iX11_entry = true := by decide +kernel
set_option maxRecDepth 100000 in
theorem vX11_entry : sx_mv mX11_entry 1 := ⟨⟨sx_a4 120 rfl rfl, sx_a1 1 rfl rfl, nh_X11, by decide +kernel, Nat.le_of_ble_eq_true rfl⟩, sx_a4 119 rfl rfl, sx_pv 23 rfl rfl⟩
abbrev mX11_enter : sxM := (⟨"StainStreet", "enter", "(II)V"⟩, prog_1_method_19_code, 3, none)
def iX11_enter : List (Nat × Instr × Nat) := [(0, .iload_n 1, 1), (1, .ifCond .lt 17, 3), (4, .iload_n 1, 1), (5, .sipush 400, 3), (8, .if_icmp .ge 10, 3), (11, .aload_n 0, 1), (12, .getfield 108, 3), (15, .iload_n 1, 1), (16, .iload_n 2, 1), (17, .iastore, 1), (18, .return_, 1)]
set_option maxRecDepth 100000 in
theorem dX11_enter : sx_dec prog_1_method_19_code iX11_enter = true := by decide +kernel
set_option maxRecDepth 100000 in
theorem vX11_enter : sx_mv mX11_enter 2 := ⟨⟨sx_a4 112 rfl rfl, sx_a1 1 rfl rfl, nh_X11, by decide +kernel, Nat.le_of_ble_eq_true rfl⟩, sx_a4 111 rfl rfl, sx_pv 21 rfl rfl⟩
abbrev mX11_refused : sxM := (⟨"StainStreet", "refused", "(II)I"⟩, prog_1_method_20_code, 3, some FieldType.int)
def iX11_refused : List (Nat × Instr × Nat) := [(0, .iload_n 1, 1), (1, .ifCond .lt 18, 3), (4, .iload_n 1, 1), (5, .iconst 5, 1), (6, .if_icmp .ge 13, 3), (9, .aload_n 0, 1), (10, .getfield 98, 3), (13, .iload_n 1, 1), (14, .dup2, 1), (15, .iaload, 1), (16, .iconst 1, 1), (17, .iadd, 1), (18, .iastore, 1), (19, .iload_n 2, 1), (20, .ireturn, 1)]
set_option maxRecDepth 100000 in
theorem dX11_refused : sx_dec prog_1_method_20_code iX11_refused = true := by decide +kernel
set_option maxRecDepth 100000 in
theorem vX11_refused : sx_mv mX11_refused 2 := ⟨⟨sx_a3 168 rfl rfl, sx_a1 1 rfl rfl, nh_X11, by decide +kernel, Nat.le_of_ble_eq_true rfl⟩, sx_a3 167 rfl rfl, sx_pv 15 rfl rfl⟩
abbrev mX11_sham : sxM := (⟨"StainStreet", "sham", "(II)I"⟩, prog_1_method_21_code, 3, some FieldType.int)
def iX11_sham : List (Nat × Instr × Nat) := [(0, .aload_n 0, 1), (1, .iload_n 1, 1), (2, .invokevirtual 170, 3), (5, .ifCond .ne 11, 3), (8, .aload_n 0, 1), (9, .iconst 0, 1), (10, .ldc 217, 2), (12, .invokevirtual 249, 3), (15, .ireturn, 1), (16, .iload_n 2, 1), (17, .bipush (-9), 2), (19, .if_icmp .lt 9, 3), (22, .iload_n 2, 1), (23, .bipush 9, 2), (25, .if_icmp .le 11, 3), (28, .aload_n 0, 1), (29, .iconst 1, 1), (30, .ldc 217, 2), (32, .invokevirtual 249, 3), (35, .ireturn, 1), (36, .aload_n 0, 1), (37, .getfield 60, 3), (40, .getfield 189, 3), (43, .iload_n 1, 1), (44, .iaload, 1), (45, .iload_n 2, 1), (46, .if_icmp .ne 11, 3), (49, .aload_n 0, 1), (50, .iconst 2, 1), (51, .ldc 217, 2), (53, .invokevirtual 249, 3), (56, .ireturn, 1), (57, .aload_n 0, 1), (58, .getfield 77, 3), (61, .aload_n 0, 1), (62, .getfield 60, 3), (65, .invokevirtual 252, 3), (68, .aload_n 0, 1), (69, .getfield 60, 3), (72, .getfield 189, 3), (75, .iload_n 1, 1), (76, .iload_n 2, 1), (77, .iastore, 1), (78, .iload_n 2, 1), (79, .ireturn, 1)]
set_option maxRecDepth 100000 in
theorem dX11_sham : sx_dec prog_1_method_21_code iX11_sham = true := by decide +kernel
set_option maxRecDepth 100000 in
theorem vX11_sham : sx_mv mX11_sham 2 := ⟨⟨sx_a3 160 rfl rfl, sx_a1 1 rfl rfl, nh_X11, by decide +kernel, Nat.le_of_ble_eq_true rfl⟩, sx_a3 158 rfl rfl, sx_a3 159 rfl rfl⟩
abbrev mX11_hang : sxM := (⟨"StainStreet", "hang", "(II)I"⟩, prog_1_method_22_code, 4, some FieldType.int)
def iX11_hang : List (Nat × Instr × Nat) := [(0, .aload_n 0, 1), (1, .iload_n 1, 1), (2, .invokevirtual 170, 3), (5, .ifCond .ne 10, 3), (8, .aload_n 0, 1), (9, .iconst 0, 1), (10, .iconst (-1), 1), (11, .invokevirtual 249, 3), (14, .ireturn, 1), (15, .iload_n 2, 1), (16, .ifCond .lt 9, 3), (19, .iload_n 2, 1), (20, .bipush 9, 2), (22, .if_icmp .le 10, 3), (25, .aload_n 0, 1), (26, .iconst 1, 1), (27, .iconst (-1), 1), (28, .invokevirtual 249, 3), (31, .ireturn, 1), (32, .aload_n 0, 1), (33, .getfield 60, 3), (36, .getfield 183, 3), (39, .iload_n 1, 1), (40, .iaload, 1), (41, .iload_n 2, 1), (42, .if_icmp .ne 10, 3), (45, .aload_n 0, 1), (46, .iconst 2, 1), (47, .iconst (-1), 1), (48, .invokevirtual 249, 3), (51, .ireturn, 1), (52, .iconst 0, 1), (53, .iload_n 2, 1), (54, .aload_n 0, 1), (55, .getfield 60, 3), (58, .getfield 183, 3), (61, .iload_n 1, 1), (62, .iaload, 1), (63, .isub, 1), (64, .invokestatic 256, 3), (67, .istore_n 3, 1), (68, .aload_n 0, 1), (69, .getfield 60, 3), (72, .getfield 167, 3), (75, .iload_n 3, 1), (76, .if_icmp .ge 10, 3), (79, .aload_n 0, 1), (80, .iconst 3, 1), (81, .iconst (-1), 1), (82, .invokevirtual 249, 3), (85, .ireturn, 1), (86, .aload_n 0, 1), (87, .getfield 77, 3), (90, .aload_n 0, 1), (91, .getfield 60, 3), (94, .invokevirtual 252, 3), (97, .aload_n 0, 1), (98, .getfield 60, 3), (101, .getfield 183, 3), (104, .iload_n 1, 1), (105, .iload_n 2, 1), (106, .iastore, 1), (107, .aload_n 0, 1), (108, .getfield 60, 3), (111, .dup, 1), (112, .getfield 167, 3), (115, .iload_n 3, 1), (116, .isub, 1), (117, .putfield 167, 3), (120, .aload_n 0, 1), (121, .getfield 60, 3), (124, .getfield 167, 3), (127, .ireturn, 1)]
set_option maxRecDepth 100000 in
theorem dX11_hang : sx_dec prog_1_method_22_code iX11_hang = true := by decide +kernel
set_option maxRecDepth 100000 in
theorem vX11_hang : sx_mv mX11_hang 2 := ⟨⟨sx_a3 184 rfl rfl, sx_a1 1 rfl rfl, nh_X11, by decide +kernel, Nat.le_of_ble_eq_true rfl⟩, sx_a3 182 rfl rfl, sx_a3 183 rfl rfl⟩
abbrev mX11_whiten : sxM := (⟨"StainStreet", "whiten", "(I)I"⟩, prog_1_method_23_code, 2, some FieldType.int)
def iX11_whiten : List (Nat × Instr × Nat) := [(0, .aload_n 0, 1), (1, .iload_n 1, 1), (2, .invokevirtual 170, 3), (5, .ifCond .ne 10, 3), (8, .aload_n 0, 1), (9, .iconst 0, 1), (10, .iconst (-1), 1), (11, .invokevirtual 249, 3), (14, .ireturn, 1), (15, .aload_n 0, 1), (16, .getfield 60, 3), (19, .getfield 180, 3), (22, .iload_n 1, 1), (23, .iaload, 1), (24, .bipush 9, 2), (26, .if_icmp .lt 10, 3), (29, .aload_n 0, 1), (30, .iconst 2, 1), (31, .iconst (-1), 1), (32, .invokevirtual 249, 3), (35, .ireturn, 1), (36, .aload_n 0, 1), (37, .getfield 60, 3), (40, .getfield 167, 3), (43, .iconst 2, 1), (44, .if_icmp .ge 10, 3), (47, .aload_n 0, 1), (48, .iconst 3, 1), (49, .iconst (-1), 1), (50, .invokevirtual 249, 3), (53, .ireturn, 1), (54, .aload_n 0, 1), (55, .getfield 77, 3), (58, .aload_n 0, 1), (59, .getfield 60, 3), (62, .invokevirtual 252, 3), (65, .aload_n 0, 1), (66, .getfield 60, 3), (69, .getfield 180, 3), (72, .iload_n 1, 1), (73, .dup2, 1), (74, .iaload, 1), (75, .iconst 1, 1), (76, .iadd, 1), (77, .iastore, 1), (78, .aload_n 0, 1), (79, .getfield 60, 3), (82, .dup, 1), (83, .getfield 167, 3), (86, .iconst 2, 1), (87, .isub, 1), (88, .putfield 167, 3), (91, .aload_n 0, 1), (92, .getfield 60, 3), (95, .getfield 167, 3), (98, .ireturn, 1)]
set_option maxRecDepth 100000 in
theorem dX11_whiten : sx_dec prog_1_method_23_code iX11_whiten = true := by decide +kernel
set_option maxRecDepth 100000 in
theorem vX11_whiten : sx_mv mX11_whiten 1 := ⟨⟨sx_a3 191 rfl rfl, sx_a1 1 rfl rfl, nh_X11, by decide +kernel, Nat.le_of_ble_eq_true rfl⟩, sx_a3 189 rfl rfl, sx_a3 190 rfl rfl⟩
abbrev mX11_piano : sxM := (⟨"StainStreet", "piano", "(I)I"⟩, prog_1_method_24_code, 2, some FieldType.int)
def iX11_piano : List (Nat × Instr × Nat) := [(0, .aload_n 0, 1), (1, .iload_n 1, 1), (2, .invokevirtual 170, 3), (5, .ifCond .ne 10, 3), (8, .aload_n 0, 1), (9, .iconst 0, 1), (10, .iconst (-1), 1), (11, .invokevirtual 249, 3), (14, .ireturn, 1), (15, .aload_n 0, 1), (16, .getfield 60, 3), (19, .iload_n 1, 1), (20, .invokevirtual 192, 3), (23, .ifCond .eq 10, 3), (26, .aload_n 0, 1), (27, .iconst 2, 1), (28, .iconst (-1), 1), (29, .invokevirtual 249, 3), (32, .ireturn, 1), (33, .aload_n 0, 1), (34, .getfield 60, 3), (37, .getfield 167, 3), (40, .iconst 3, 1), (41, .if_icmp .ge 10, 3), (44, .aload_n 0, 1), (45, .iconst 3, 1), (46, .iconst (-1), 1), (47, .invokevirtual 249, 3), (50, .ireturn, 1), (51, .aload_n 0, 1), (52, .getfield 77, 3), (55, .aload_n 0, 1), (56, .getfield 60, 3), (59, .invokevirtual 252, 3), (62, .aload_n 0, 1), (63, .getfield 60, 3), (66, .dup, 1), (67, .getfield 239, 3), (70, .iconst 1, 1), (71, .iload_n 1, 1), (72, .ishl, 1), (73, .ior, 1), (74, .putfield 239, 3), (77, .aload_n 0, 1), (78, .getfield 60, 3), (81, .dup, 1), (82, .getfield 167, 3), (85, .iconst 3, 1), (86, .isub, 1), (87, .putfield 167, 3), (90, .aload_n 0, 1), (91, .getfield 60, 3), (94, .getfield 167, 3), (97, .ireturn, 1)]
set_option maxRecDepth 100000 in
theorem dX11_piano : sx_dec prog_1_method_24_code iX11_piano = true := by decide +kernel
set_option maxRecDepth 100000 in
theorem vX11_piano : sx_mv mX11_piano 1 := ⟨⟨sx_a3 195 rfl rfl, sx_a1 1 rfl rfl, nh_X11, by decide +kernel, Nat.le_of_ble_eq_true rfl⟩, sx_a3 193 rfl rfl, sx_a3 194 rfl rfl⟩
abbrev mX11_move : sxM := (⟨"StainStreet", "move", "(II)I"⟩, prog_1_method_25_code, 3, some FieldType.int)
def iX11_move : List (Nat × Instr × Nat) := [(0, .aload_n 0, 1), (1, .iload_n 1, 1), (2, .invokevirtual 170, 3), (5, .ifCond .eq 11, 3), (8, .aload_n 0, 1), (9, .iload_n 2, 1), (10, .invokevirtual 170, 3), (13, .ifCond .ne 10, 3), (16, .aload_n 0, 1), (17, .iconst 0, 1), (18, .iconst (-1), 1), (19, .invokevirtual 249, 3), (22, .ireturn, 1), (23, .iload_n 1, 1), (24, .iload_n 2, 1), (25, .if_icmp .ne 10, 3), (28, .aload_n 0, 1), (29, .iconst 1, 1), (30, .iconst (-1), 1), (31, .invokevirtual 249, 3), (34, .ireturn, 1), (35, .aload_n 0, 1), (36, .getfield 60, 3), (39, .getfield 186, 3), (42, .iload_n 2, 1), (43, .iaload, 1), (44, .bipush 9, 2), (46, .if_icmp .lt 10, 3), (49, .aload_n 0, 1), (50, .iconst 2, 1), (51, .iconst (-1), 1), (52, .invokevirtual 249, 3), (55, .ireturn, 1), (56, .aload_n 0, 1), (57, .getfield 60, 3), (60, .getfield 186, 3), (63, .iload_n 1, 1), (64, .iaload, 1), (65, .iconst 1, 1), (66, .if_icmp .ge 10, 3), (69, .aload_n 0, 1), (70, .iconst 3, 1), (71, .iconst (-1), 1), (72, .invokevirtual 249, 3), (75, .ireturn, 1), (76, .aload_n 0, 1), (77, .getfield 77, 3), (80, .aload_n 0, 1), (81, .getfield 60, 3), (84, .invokevirtual 252, 3), (87, .aload_n 0, 1), (88, .getfield 60, 3), (91, .getfield 186, 3), (94, .iload_n 1, 1), (95, .dup2, 1), (96, .iaload, 1), (97, .iconst 1, 1), (98, .isub, 1), (99, .iastore, 1), (100, .aload_n 0, 1), (101, .getfield 60, 3), (104, .getfield 186, 3), (107, .iload_n 2, 1), (108, .dup2, 1), (109, .iaload, 1), (110, .iconst 1, 1), (111, .iadd, 1), (112, .iastore, 1), (113, .aload_n 0, 1), (114, .getfield 60, 3), (117, .getfield 186, 3), (120, .iload_n 2, 1), (121, .iaload, 1), (122, .ireturn, 1)]
set_option maxRecDepth 100000 in
theorem dX11_move : sx_dec prog_1_method_25_code iX11_move = true := by decide +kernel
set_option maxRecDepth 100000 in
theorem vX11_move : sx_mv mX11_move 2 := ⟨⟨sx_a3 203 rfl rfl, sx_a1 1 rfl rfl, nh_X11, by decide +kernel, Nat.le_of_ble_eq_true rfl⟩, sx_a3 201 rfl rfl, sx_a3 202 rfl rfl⟩
abbrev mX11_give : sxM := (⟨"StainStreet", "give", "(I)I"⟩, prog_1_method_26_code, 2, some FieldType.int)
def iX11_give : List (Nat × Instr × Nat) := [(0, .aload_n 0, 1), (1, .invokevirtual 154, 3), (4, .ifCond .ne 10, 3), (7, .aload_n 0, 1), (8, .iconst 0, 1), (9, .iconst (-1), 1), (10, .invokevirtual 249, 3), (13, .ireturn, 1), (14, .iload_n 1, 1), (15, .iconst 1, 1), (16, .if_icmp .lt 24, 3), (19, .iload_n 1, 1), (20, .bipush 50, 2), (22, .if_icmp .gt 18, 3), (25, .aload_n 0, 1), (26, .getfield 60, 3), (29, .getfield 167, 3), (32, .iload_n 1, 1), (33, .iadd, 1), (34, .sipush 999, 3), (37, .if_icmp .le 10, 3), (40, .aload_n 0, 1), (41, .iconst 1, 1), (42, .iconst (-1), 1), (43, .invokevirtual 249, 3), (46, .ireturn, 1), (47, .aload_n 0, 1), (48, .getfield 77, 3), (51, .aload_n 0, 1), (52, .getfield 60, 3), (55, .invokevirtual 252, 3), (58, .aload_n 0, 1), (59, .getfield 60, 3), (62, .dup, 1), (63, .getfield 167, 3), (66, .iload_n 1, 1), (67, .iadd, 1), (68, .putfield 167, 3), (71, .aload_n 0, 1), (72, .getfield 60, 3), (75, .getfield 167, 3), (78, .ireturn, 1)]
set_option maxRecDepth 100000 in
theorem dX11_give : sx_dec prog_1_method_26_code iX11_give = true := by decide +kernel
set_option maxRecDepth 100000 in
theorem vX11_give : sx_mv mX11_give 1 := ⟨⟨sx_a3 207 rfl rfl, sx_a1 1 rfl rfl, nh_X11, by decide +kernel, Nat.le_of_ble_eq_true rfl⟩, sx_a3 205 rfl rfl, sx_a3 206 rfl rfl⟩
abbrev mX11_days : sxM := (⟨"StainStreet", "days", "(I)I"⟩, prog_1_method_27_code, 3, some FieldType.int)
def iX11_days : List (Nat × Instr × Nat) := [(0, .aload_n 0, 1), (1, .invokevirtual 154, 3), (4, .ifCond .ne 10, 3), (7, .aload_n 0, 1), (8, .iconst 0, 1), (9, .iconst (-1), 1), (10, .invokevirtual 249, 3), (13, .ireturn, 1), (14, .iload_n 1, 1), (15, .iconst 1, 1), (16, .if_icmp .lt 9, 3), (19, .iload_n 1, 1), (20, .bipush 60, 2), (22, .if_icmp .le 10, 3), (25, .aload_n 0, 1), (26, .iconst 1, 1), (27, .iconst (-1), 1), (28, .invokevirtual 249, 3), (31, .ireturn, 1), (32, .aload_n 0, 1), (33, .getfield 60, 3), (36, .getfield 233, 3), (39, .iload_n 1, 1), (40, .iadd, 1), (41, .sipush 9999, 3), (44, .if_icmp .le 10, 3), (47, .aload_n 0, 1), (48, .iconst 4, 1), (49, .iconst (-1), 1), (50, .invokevirtual 249, 3), (53, .ireturn, 1), (54, .iconst 0, 1), (55, .istore_n 2, 1), (56, .iload_n 2, 1), (57, .iload_n 1, 1), (58, .if_icmp .ge 24, 3), (61, .aload_n 0, 1), (62, .getfield 77, 3), (65, .aload_n 0, 1), (66, .getfield 60, 3), (69, .invokevirtual 252, 3), (72, .aload_n 0, 1), (73, .invokevirtual 259, 3), (76, .iinc 2 1, 3), (79, .goto (-23), 3), (82, .aload_n 0, 1), (83, .getfield 60, 3), (86, .getfield 161, 3), (89, .iconst (-1), 1), (90, .if_icmp .ne 8, 3), (93, .bipush (-2), 2), (95, .goto 10, 3), (98, .aload_n 0, 1), (99, .getfield 60, 3), (102, .getfield 161, 3), (105, .ireturn, 1)]
set_option maxRecDepth 100000 in
theorem dX11_days : sx_dec prog_1_method_27_code iX11_days = true := by decide +kernel
set_option maxRecDepth 100000 in
theorem vX11_days : sx_mv mX11_days 1 := ⟨⟨sx_a3 211 rfl rfl, sx_a1 1 rfl rfl, nh_X11, by decide +kernel, Nat.le_of_ble_eq_true rfl⟩, sx_a3 209 rfl rfl, sx_a3 210 rfl rfl⟩
abbrev mX11_liveDay : sxM := (⟨"StainStreet", "liveDay", "()V"⟩, prog_1_method_28_code, 1, none)
def iX11_liveDay : List (Nat × Instr × Nat) := [(0, .aload_n 0, 1), (1, .getfield 60, 3), (4, .aload_n 0, 1), (5, .getfield 28, 3), (8, .invokevirtual 195, 3), (11, .invokevirtual 262, 3), (14, .ifCond .eq 14, 3), (17, .aload_n 0, 1), (18, .getfield 70, 3), (21, .aload_n 0, 1), (22, .getfield 60, 3), (25, .invokevirtual 266, 3), (28, .return_, 1)]
set_option maxRecDepth 100000 in
theorem dX11_liveDay : sx_dec prog_1_method_28_code iX11_liveDay = true := by decide +kernel
set_option maxRecDepth 100000 in
theorem vX11_liveDay : sx_mv mX11_liveDay 0 := ⟨⟨sx_a3 215 rfl rfl, sx_a1 1 rfl rfl, nh_X11, by decide +kernel, Nat.le_of_ble_eq_true rfl⟩, sx_a3 214 rfl rfl, sx_pv 16 rfl rfl⟩
abbrev mX11_moods : sxM := (⟨"StainStreet", "moods", "(I)Z"⟩, prog_1_method_29_code, 2, some FieldType.boolean)
def iX11_moods : List (Nat × Instr × Nat) := [(0, .iload_n 1, 1), (1, .ifCond .lt 17, 3), (4, .iload_n 1, 1), (5, .bipush 9, 2), (7, .if_icmp .gt 11, 3), (10, .iload_n 1, 1), (11, .aload_n 0, 1), (12, .getfield 236, 3), (15, .if_icmp .ne 5, 3), (18, .iconst 0, 1), (19, .ireturn, 1), (20, .aload_n 0, 1), (21, .iload_n 1, 1), (22, .putfield 236, 3), (25, .iconst 1, 1), (26, .ireturn, 1)]
set_option maxRecDepth 100000 in
theorem dX11_moods : sx_dec prog_1_method_29_code iX11_moods = true := by decide +kernel
set_option maxRecDepth 100000 in
theorem vX11_moods : sx_mv mX11_moods 1 := ⟨⟨sx_a4 29 rfl rfl, sx_a1 1 rfl rfl, nh_X11, by decide +kernel, Nat.le_of_ble_eq_true rfl⟩, sx_a4 27 rfl rfl, sx_a4 28 rfl rfl⟩
abbrev mX11_years : sxM := (⟨"StainStreet", "years", "(IJ)I"⟩, prog_1_method_30_code, 5, some FieldType.int)
def iX11_years : List (Nat × Instr × Nat) := [(0, .aload_n 0, 1), (1, .invokevirtual 154, 3), (4, .ifCond .eq 29, 3), (7, .iload_n 1, 1), (8, .iconst 1, 1), (9, .if_icmp .lt 24, 3), (12, .iload_n 1, 1), (13, .bipush 60, 2), (15, .if_icmp .gt 18, 3), (18, .aload_n 0, 1), (19, .getfield 60, 3), (22, .getfield 233, 3), (25, .iload_n 1, 1), (26, .iadd, 1), (27, .sipush 9999, 3), (30, .if_icmp .le 5, 3), (33, .iconst (-1), 1), (34, .ireturn, 1), (35, .aload_n 0, 1), (36, .lload_n 2, 1), (37, .putfield 269, 3), (40, .iconst 0, 1), (41, .istore 4, 2), (43, .iload 4, 2), (45, .iload_n 1, 1), (46, .if_icmp .ge 28, 3), (49, .aload_n 0, 1), (50, .getfield 77, 3), (53, .aload_n 0, 1), (54, .getfield 60, 3), (57, .invokevirtual 252, 3), (60, .aload_n 0, 1), (61, .invokevirtual 273, 3), (64, .aload_n 0, 1), (65, .invokevirtual 259, 3), (68, .iinc 4 1, 3), (71, .goto (-28), 3), (74, .aload_n 0, 1), (75, .getfield 60, 3), (78, .getfield 233, 3), (81, .ireturn, 1)]
set_option maxRecDepth 100000 in
theorem dX11_years : sx_dec prog_1_method_30_code iX11_years = true := by decide +kernel
set_option maxRecDepth 100000 in
theorem vX11_years : sx_mv mX11_years 2 := ⟨⟨sx_a4 33 rfl rfl, sx_a1 1 rfl rfl, nh_X11, by decide +kernel, Nat.le_of_ble_eq_true rfl⟩, sx_a4 31 rfl rfl, sx_a4 32 rfl rfl⟩
abbrev mX11_stir : sxM := (⟨"StainStreet", "stir", "()V"⟩, prog_1_method_31_code, 4, none)
def iX11_stir : List (Nat × Instr × Nat) := [(0, .aload_n 0, 1), (1, .getfield 48, 3), (4, .getfield 151, 3), (7, .istore_n 1, 1), (8, .aload_n 0, 1), (9, .bipush 10, 2), (11, .invokevirtual 276, 3), (14, .aload_n 0, 1), (15, .getfield 236, 3), (18, .if_icmp .ge 34, 3), (21, .aload_n 0, 1), (22, .iload_n 1, 1), (23, .invokevirtual 276, 3), (26, .istore_n 2, 1), (27, .aload_n 0, 1), (28, .bipush 10, 2), (30, .invokevirtual 276, 3), (33, .istore_n 3, 1), (34, .aload_n 0, 1), (35, .iload_n 2, 1), (36, .invokevirtual 170, 3), (39, .ifCond .eq 13, 3), (42, .aload_n 0, 1), (43, .getfield 60, 3), (46, .getfield 177, 3), (49, .iload_n 2, 1), (50, .iload_n 3, 1), (51, .iastore, 1), (52, .aload_n 0, 1), (53, .iload_n 1, 1), (54, .invokevirtual 276, 3), (57, .istore_n 2, 1), (58, .aload_n 0, 1), (59, .iload_n 1, 1), (60, .invokevirtual 276, 3), (63, .istore_n 3, 1), (64, .aload_n 0, 1), (65, .iload_n 2, 1), (66, .invokevirtual 170, 3), (69, .ifCond .eq 68, 3), (72, .aload_n 0, 1), (73, .iload_n 3, 1), (74, .invokevirtual 170, 3), (77, .ifCond .eq 60, 3), (80, .iload_n 2, 1), (81, .iload_n 3, 1), (82, .if_icmp .eq 55, 3), (85, .aload_n 0, 1), (86, .getfield 60, 3), (89, .getfield 186, 3), (92, .iload_n 2, 1), (93, .iaload, 1), (94, .ifCond .le 43, 3), (97, .aload_n 0, 1), (98, .getfield 60, 3), (101, .getfield 186, 3), (104, .iload_n 3, 1), (105, .iaload, 1), (106, .bipush 9, 2), (108, .if_icmp .ge 29, 3), (111, .aload_n 0, 1), (112, .getfield 60, 3), (115, .getfield 186, 3), (118, .iload_n 2, 1), (119, .dup2, 1), (120, .iaload, 1), (121, .iconst 1, 1), (122, .isub, 1), (123, .iastore, 1), (124, .aload_n 0, 1), (125, .getfield 60, 3), (128, .getfield 186, 3), (131, .iload_n 3, 1), (132, .dup2, 1), (133, .iaload, 1), (134, .iconst 1, 1), (135, .iadd, 1), (136, .iastore, 1), (137, .return_, 1)]
set_option maxRecDepth 100000 in
theorem dX11_stir : sx_dec prog_1_method_31_code iX11_stir = true := by decide +kernel
set_option maxRecDepth 100000 in
theorem vX11_stir : sx_mv mX11_stir 0 := ⟨⟨sx_a4 37 rfl rfl, sx_a1 1 rfl rfl, nh_X11, by decide +kernel, Nat.le_of_ble_eq_true rfl⟩, sx_a4 36 rfl rfl, sx_pv 18 rfl rfl⟩
abbrev mX11_draw : sxM := (⟨"StainStreet", "draw", "(I)I"⟩, prog_1_method_32_code, 2, some FieldType.int)
def iX11_draw : List (Nat × Instr × Nat) := [(0, .aload_n 0, 1), (1, .aload_n 0, 1), (2, .getfield 269, 3), (5, .ldc2_w 279, 3), (8, .lmul, 1), (9, .ldc2_w 281, 3), (12, .ladd, 1), (13, .putfield 269, 3), (16, .iload_n 1, 1), (17, .iconst 1, 1), (18, .if_icmp .ge 7, 3), (21, .iconst 0, 1), (22, .goto 14, 3), (25, .aload_n 0, 1), (26, .getfield 269, 3), (29, .bipush 33, 2), (31, .lushr, 1), (32, .iload_n 1, 1), (33, .i2l, 1), (34, .lrem, 1), (35, .l2i, 1), (36, .ireturn, 1)]
set_option maxRecDepth 100000 in
theorem dX11_draw : sx_dec prog_1_method_32_code iX11_draw = true := by decide +kernel
set_option maxRecDepth 100000 in
theorem vX11_draw : sx_mv mX11_draw 1 := ⟨⟨sx_a4 41 rfl rfl, sx_a1 1 rfl rfl, nh_X11, by decide +kernel, Nat.le_of_ble_eq_true rfl⟩, sx_a4 40 rfl rfl, sx_pv 19 rfl rfl⟩
abbrev mX11_undo : sxM := (⟨"StainStreet", "undo", "()I"⟩, prog_1_method_33_code, 1, some FieldType.int)
def iX11_undo : List (Nat × Instr × Nat) := [(0, .aload_n 0, 1), (1, .getfield 77, 3), (4, .aload_n 0, 1), (5, .getfield 60, 3), (8, .invokevirtual 283, 3), (11, .ifCond .eq 13, 3), (14, .aload_n 0, 1), (15, .getfield 77, 3), (18, .getfield 242, 3), (21, .goto 4, 3), (24, .iconst (-1), 1), (25, .ireturn, 1)]
set_option maxRecDepth 100000 in
theorem dX11_undo : sx_dec prog_1_method_33_code iX11_undo = true := by decide +kernel
set_option maxRecDepth 100000 in
theorem vX11_undo : sx_mv mX11_undo 0 := ⟨⟨sx_a4 47 rfl rfl, sx_a1 1 rfl rfl, nh_X11, by decide +kernel, Nat.le_of_ble_eq_true rfl⟩, sx_a4 45 rfl rfl, sx_a4 46 rfl rfl⟩
abbrev mX11_image : sxM := (⟨"StainStreet", "image", "()I"⟩, prog_1_method_34_code, 1, some FieldType.int)
def iX11_image : List (Nat × Instr × Nat) := [(0, .aload_n 0, 1), (1, .invokevirtual 154, 3), (4, .ifCond .ne 5, 3), (7, .iconst (-1), 1), (8, .ireturn, 1), (9, .aload_n 0, 1), (10, .getfield 84, 3), (13, .aload_n 0, 1), (14, .getfield 60, 3), (17, .aload_n 0, 1), (18, .getfield 70, 3), (21, .invokevirtual 287, 3), (24, .aload_n 0, 1), (25, .getfield 60, 3), (28, .getfield 233, 3), (31, .ireturn, 1)]
set_option maxRecDepth 100000 in
theorem dX11_image : sx_dec prog_1_method_34_code iX11_image = true := by decide +kernel
set_option maxRecDepth 100000 in
theorem vX11_image : sx_mv mX11_image 0 := ⟨⟨sx_a4 55 rfl rfl, sx_a1 1 rfl rfl, nh_X11, by decide +kernel, Nat.le_of_ble_eq_true rfl⟩, sx_a4 53 rfl rfl, sx_a4 54 rfl rfl⟩
abbrev mX11_back : sxM := (⟨"StainStreet", "back", "()I"⟩, prog_1_method_35_code, 1, some FieldType.int)
def iX11_back : List (Nat × Instr × Nat) := [(0, .aload_n 0, 1), (1, .getfield 84, 3), (4, .getfield 146, 3), (7, .ifCond .ne 5, 3), (10, .iconst (-1), 1), (11, .ireturn, 1), (12, .aload_n 0, 1), (13, .getfield 84, 3), (16, .aload_n 0, 1), (17, .getfield 60, 3), (20, .aload_n 0, 1), (21, .getfield 70, 3), (24, .invokevirtual 290, 3), (27, .aload_n 0, 1), (28, .getfield 77, 3), (31, .invokevirtual 143, 3), (34, .aload_n 0, 1), (35, .getfield 60, 3), (38, .getfield 233, 3), (41, .ireturn, 1)]
set_option maxRecDepth 100000 in
theorem dX11_back : sx_dec prog_1_method_35_code iX11_back = true := by decide +kernel
set_option maxRecDepth 100000 in
theorem vX11_back : sx_mv mX11_back 0 := ⟨⟨sx_a4 69 rfl rfl, sx_a1 1 rfl rfl, nh_X11, by decide +kernel, Nat.le_of_ble_eq_true rfl⟩, sx_a4 67 rfl rfl, sx_a4 68 rfl rfl⟩
abbrev mX11_ahead : sxM := (⟨"StainStreet", "ahead", "(II)I"⟩, prog_1_method_36_code, 4, some FieldType.int)
def iX11_ahead : List (Nat × Instr × Nat) := [(0, .aload_n 0, 1), (1, .invokevirtual 154, 3), (4, .ifCond .eq 22, 3), (7, .iload_n 1, 1), (8, .ifCond .lt 18, 3), (11, .iload_n 1, 1), (12, .bipush 60, 2), (14, .if_icmp .gt 12, 3), (17, .iload_n 2, 1), (18, .ifCond .lt 8, 3), (21, .iload_n 2, 1), (22, .iconst 1, 1), (23, .if_icmp .le 6, 3), (26, .ldc 217, 2), (28, .ireturn, 1), (29, .aload_n 0, 1), (30, .getfield 64, 3), (33, .aload_n 0, 1), (34, .getfield 60, 3), (37, .invokevirtual 293, 3), (40, .iconst 0, 1), (41, .istore_n 3, 1), (42, .iload_n 3, 1), (43, .iload_n 1, 1), (44, .if_icmp .ge 24, 3), (47, .aload_n 0, 1), (48, .getfield 64, 3), (51, .aload_n 0, 1), (52, .getfield 28, 3), (55, .invokevirtual 195, 3), (58, .invokevirtual 262, 3), (61, .pop, 1), (62, .iinc 3 1, 3), (65, .goto (-23), 3), (68, .iload_n 2, 1), (69, .ifCond .ne 13, 3), (72, .aload_n 0, 1), (73, .getfield 64, 3), (76, .getfield 161, 3), (79, .goto 10, 3), (82, .aload_n 0, 1), (83, .getfield 64, 3), (86, .getfield 164, 3), (89, .ireturn, 1)]
set_option maxRecDepth 100000 in
theorem dX11_ahead : sx_dec prog_1_method_36_code iX11_ahead = true := by decide +kernel
set_option maxRecDepth 100000 in
theorem vX11_ahead : sx_mv mX11_ahead 2 := ⟨⟨sx_a4 77 rfl rfl, sx_a1 1 rfl rfl, nh_X11, by decide +kernel, Nat.le_of_ble_eq_true rfl⟩, sx_a4 75 rfl rfl, sx_a4 76 rfl rfl⟩
abbrev mX11_soonest : sxM := (⟨"StainStreet", "soonest", "(I)I"⟩, prog_1_method_37_code, 3, some FieldType.int)
def iX11_soonest : List (Nat × Instr × Nat) := [(0, .aload_n 0, 1), (1, .iload_n 1, 1), (2, .invokevirtual 170, 3), (5, .ifCond .ne 5, 3), (8, .iconst (-1), 1), (9, .ireturn, 1), (10, .aload_n 0, 1), (11, .getfield 64, 3), (14, .aload_n 0, 1), (15, .getfield 60, 3), (18, .invokevirtual 293, 3), (21, .iconst 0, 1), (22, .istore_n 2, 1), (23, .iload_n 2, 1), (24, .bipush 60, 2), (26, .if_icmp .gt 37, 3), (29, .aload_n 0, 1), (30, .getfield 64, 3), (33, .getfield 161, 3), (36, .iload_n 1, 1), (37, .if_icmp .ne 5, 3), (40, .iload_n 2, 1), (41, .ireturn, 1), (42, .aload_n 0, 1), (43, .getfield 64, 3), (46, .aload_n 0, 1), (47, .getfield 28, 3), (50, .invokevirtual 195, 3), (53, .invokevirtual 262, 3), (56, .pop, 1), (57, .iinc 2 1, 3), (60, .goto (-37), 3), (63, .iconst (-1), 1), (64, .ireturn, 1)]
set_option maxRecDepth 100000 in
theorem dX11_soonest : sx_dec prog_1_method_37_code iX11_soonest = true := by decide +kernel
set_option maxRecDepth 100000 in
theorem vX11_soonest : sx_mv mX11_soonest 1 := ⟨⟨sx_a4 82 rfl rfl, sx_a1 1 rfl rfl, nh_X11, by decide +kernel, Nat.le_of_ble_eq_true rfl⟩, sx_a4 80 rfl rfl, sx_a4 81 rfl rfl⟩
abbrev mX11_visits : sxM := (⟨"StainStreet", "visits", "(I)I"⟩, prog_1_method_38_code, 4, some FieldType.int)
def iX11_visits : List (Nat × Instr × Nat) := [(0, .aload_n 0, 1), (1, .invokevirtual 154, 3), (4, .ifCond .eq 14, 3), (7, .iload_n 1, 1), (8, .iconst 1, 1), (9, .if_icmp .lt 9, 3), (12, .iload_n 1, 1), (13, .bipush 60, 2), (15, .if_icmp .le 5, 3), (18, .iconst (-1), 1), (19, .ireturn, 1), (20, .iconst 0, 1), (21, .istore_n 2, 1), (22, .aload_n 0, 1), (23, .getfield 64, 3), (26, .aload_n 0, 1), (27, .getfield 60, 3), (30, .invokevirtual 293, 3), (33, .iconst 0, 1), (34, .istore_n 3, 1), (35, .iload_n 3, 1), (36, .iload_n 1, 1), (37, .if_icmp .ge 37, 3), (40, .aload_n 0, 1), (41, .getfield 64, 3), (44, .aload_n 0, 1), (45, .getfield 28, 3), (48, .invokevirtual 195, 3), (51, .invokevirtual 262, 3), (54, .pop, 1), (55, .iload_n 2, 1), (56, .aload_n 0, 1), (57, .getfield 64, 3), (60, .getfield 161, 3), (63, .invokestatic 296, 3), (66, .ior, 1), (67, .istore_n 2, 1), (68, .iinc 3 1, 3), (71, .goto (-36), 3), (74, .iload_n 2, 1), (75, .ireturn, 1)]
set_option maxRecDepth 100000 in
theorem dX11_visits : sx_dec prog_1_method_38_code iX11_visits = true := by decide +kernel
set_option maxRecDepth 100000 in
theorem vX11_visits : sx_mv mX11_visits 1 := ⟨⟨sx_a4 86 rfl rfl, sx_a1 1 rfl rfl, nh_X11, by decide +kernel, Nat.le_of_ble_eq_true rfl⟩, sx_a4 84 rfl rfl, sx_a4 85 rfl rfl⟩
abbrev mX11_empty : sxM := (⟨"StainStreet", "empty", "(I)I"⟩, prog_1_method_39_code, 4, some FieldType.int)
def iX11_empty : List (Nat × Instr × Nat) := [(0, .aload_n 0, 1), (1, .invokevirtual 154, 3), (4, .ifCond .eq 14, 3), (7, .iload_n 1, 1), (8, .iconst 1, 1), (9, .if_icmp .lt 9, 3), (12, .iload_n 1, 1), (13, .bipush 60, 2), (15, .if_icmp .le 5, 3), (18, .iconst (-1), 1), (19, .ireturn, 1), (20, .iconst 0, 1), (21, .istore_n 2, 1), (22, .aload_n 0, 1), (23, .getfield 64, 3), (26, .aload_n 0, 1), (27, .getfield 60, 3), (30, .invokevirtual 293, 3), (33, .iconst 0, 1), (34, .istore_n 3, 1), (35, .iload_n 3, 1), (36, .iload_n 1, 1), (37, .if_icmp .ge 38, 3), (40, .aload_n 0, 1), (41, .getfield 64, 3), (44, .aload_n 0, 1), (45, .getfield 28, 3), (48, .invokevirtual 195, 3), (51, .invokevirtual 262, 3), (54, .pop, 1), (55, .aload_n 0, 1), (56, .getfield 64, 3), (59, .getfield 161, 3), (62, .iconst (-1), 1), (63, .if_icmp .ne 6, 3), (66, .iinc 2 1, 3), (69, .iinc 3 1, 3), (72, .goto (-37), 3), (75, .iload_n 2, 1), (76, .ireturn, 1)]
set_option maxRecDepth 100000 in
theorem dX11_empty : sx_dec prog_1_method_39_code iX11_empty = true := by decide +kernel
set_option maxRecDepth 100000 in
theorem vX11_empty : sx_mv mX11_empty 1 := ⟨⟨sx_a4 93 rfl rfl, sx_a1 1 rfl rfl, nh_X11, by decide +kernel, Nat.le_of_ble_eq_true rfl⟩, sx_a4 91 rfl rfl, sx_a4 92 rfl rfl⟩
abbrev mX11_goesTo : sxM := (⟨"StainStreet", "goesTo", "()I"⟩, prog_1_method_40_code, 1, some FieldType.int)
def iX11_goesTo : List (Nat × Instr × Nat) := [(0, .aload_n 0, 1), (1, .invokevirtual 154, 3), (4, .ifCond .eq 20, 3), (7, .aload_n 0, 1), (8, .getfield 60, 3), (11, .aload_n 0, 1), (12, .getfield 28, 3), (15, .invokevirtual 195, 3), (18, .invokevirtual 299, 3), (21, .goto 5, 3), (24, .ldc 217, 2), (26, .ireturn, 1)]
set_option maxRecDepth 100000 in
theorem dX11_goesTo : sx_dec prog_1_method_40_code iX11_goesTo = true := by decide +kernel
set_option maxRecDepth 100000 in
theorem vX11_goesTo : sx_mv mX11_goesTo 0 := ⟨⟨sx_a4 97 rfl rfl, sx_a1 1 rfl rfl, nh_X11, by decide +kernel, Nat.le_of_ble_eq_true rfl⟩, sx_a4 95 rfl rfl, sx_a4 96 rfl rfl⟩
abbrev mX11_bitOf : sxM := (⟨"StainStreet", "bitOf", "(I)I"⟩, prog_1_method_41_code, 1, some FieldType.int)
def iX11_bitOf : List (Nat × Instr × Nat) := [(0, .iload_n 0, 1), (1, .iconst (-1), 1), (2, .if_icmp .ne 7, 3), (5, .iconst 0, 1), (6, .goto 6, 3), (9, .iconst 1, 1), (10, .iload_n 0, 1), (11, .ishl, 1), (12, .ireturn, 1)]
set_option maxRecDepth 100000 in
theorem dX11_bitOf : sx_dec prog_1_method_41_code iX11_bitOf = true := by decide +kernel
set_option maxRecDepth 100000 in
theorem vX11_bitOf : sx_ms mX11_bitOf 1 := ⟨⟨sx_a4 89 rfl rfl, sx_a1 1 rfl rfl, nh_X11, by decide +kernel, Nat.le_of_ble_eq_true rfl⟩, sx_a4 88 rfl rfl⟩
abbrev mX11_least : sxM := (⟨"StainStreet", "least", "(II)I"⟩, prog_1_method_42_code, 7, some FieldType.int)
def iX11_least : List (Nat × Instr × Nat) := [(0, .aload_n 0, 1), (1, .iload_n 1, 1), (2, .invokevirtual 170, 3), (5, .ifCond .eq 12, 3), (8, .iload_n 2, 1), (9, .ifCond .lt 8, 3), (12, .iload_n 2, 1), (13, .iconst 1, 1), (14, .if_icmp .le 6, 3), (17, .ldc 217, 2), (19, .ireturn, 1), (20, .aload_n 0, 1), (21, .invokevirtual 302, 3), (24, .iconst (-1), 1), (25, .istore_n 3, 1), (26, .iconst 0, 1), (27, .istore 4, 2), (29, .bipush (-9), 2), (31, .istore 5, 2), (33, .iload 5, 2), (35, .bipush 9, 2), (37, .if_icmp .gt 42, 3), (40, .aload_n 0, 1), (41, .iload_n 1, 1), (42, .iload 5, 2), (44, .invokevirtual 305, 3), (47, .istore 6, 2), (49, .iload 6, 2), (51, .iconst (-1), 1), (52, .if_icmp .eq 21, 3), (55, .iload_n 3, 1), (56, .iconst (-1), 1), (57, .if_icmp .eq 9, 3), (60, .iload 6, 2), (62, .iload_n 3, 1), (63, .if_icmp .ge 10, 3), (66, .iload 6, 2), (68, .istore_n 3, 1), (69, .iload 5, 2), (71, .istore 4, 2), (73, .iinc 5 1, 3), (76, .goto (-43), 3), (79, .iload_n 3, 1), (80, .iconst (-1), 1), (81, .if_icmp .ne 6, 3), (84, .ldc 217, 2), (86, .ireturn, 1), (87, .iload_n 2, 1), (88, .ifCond .ne 7, 3), (91, .iload_n 3, 1), (92, .goto 5, 3), (95, .iload 4, 2), (97, .ireturn, 1)]
set_option maxRecDepth 100000 in
theorem dX11_least : sx_dec prog_1_method_42_code iX11_least = true := by decide +kernel
set_option maxRecDepth 100000 in
theorem vX11_least : sx_mv mX11_least 2 := ⟨⟨sx_a4 102 rfl rfl, sx_a1 1 rfl rfl, nh_X11, by decide +kernel, Nat.le_of_ble_eq_true rfl⟩, sx_a4 100 rfl rfl, sx_a4 101 rfl rfl⟩
abbrev mX11_fillShamTable : sxM := (⟨"StainStreet", "fillShamTable", "()V"⟩, prog_1_method_43_code, 3, none)
def iX11_fillShamTable : List (Nat × Instr × Nat) := [(0, .aload_n 0, 1), (1, .getfield 64, 3), (4, .aload_n 0, 1), (5, .getfield 60, 3), (8, .invokevirtual 293, 3), (11, .iconst 0, 1), (12, .istore_n 1, 1), (13, .iload_n 1, 1), (14, .aload_n 0, 1), (15, .getfield 48, 3), (18, .invokevirtual 308, 3), (21, .if_icmp .ge 61, 3), (24, .iconst 0, 1), (25, .istore_n 2, 1), (26, .iload_n 2, 1), (27, .bipush 19, 2), (29, .if_icmp .ge 47, 3), (32, .aload_n 0, 1), (33, .getfield 64, 3), (36, .getfield 189, 3), (39, .iload_n 1, 1), (40, .iload_n 2, 1), (41, .bipush 9, 2), (43, .isub, 1), (44, .iastore, 1), (45, .aload_n 0, 1), (46, .iload_n 1, 1), (47, .bipush 19, 2), (49, .imul, 1), (50, .iload_n 2, 1), (51, .iadd, 1), (52, .aload_n 0, 1), (53, .getfield 64, 3), (56, .iload_n 1, 1), (57, .aload_n 0, 1), (58, .getfield 28, 3), (61, .invokevirtual 195, 3), (64, .invokevirtual 198, 3), (67, .invokevirtual 311, 3), (70, .iinc 2 1, 3), (73, .goto (-47), 3), (76, .iinc 1 1, 3), (79, .goto (-66), 3), (82, .return_, 1)]
set_option maxRecDepth 100000 in
theorem dX11_fillShamTable : sx_dec prog_1_method_43_code iX11_fillShamTable = true := by decide +kernel
set_option maxRecDepth 100000 in
theorem vX11_fillShamTable : sx_mv mX11_fillShamTable 0 := ⟨⟨sx_a4 106 rfl rfl, sx_a1 1 rfl rfl, nh_X11, by decide +kernel, Nat.le_of_ble_eq_true rfl⟩, sx_a4 105 rfl rfl, sx_pv 20 rfl rfl⟩
abbrev mX11_shammingFor : sxM := (⟨"StainStreet", "shammingFor", "(II)I"⟩, prog_1_method_44_code, 7, some FieldType.int)
def iX11_shammingFor : List (Nat × Instr × Nat) := [(0, .aload_n 0, 1), (1, .iload_n 1, 1), (2, .bipush 19, 2), (4, .imul, 1), (5, .iload_n 2, 1), (6, .iadd, 1), (7, .bipush 9, 2), (9, .iadd, 1), (10, .invokevirtual 315, 3), (13, .istore_n 3, 1), (14, .iload_n 3, 1), (15, .ifCond .ne 5, 3), (18, .iconst (-1), 1), (19, .ireturn, 1), (20, .iload_n 2, 1), (21, .aload_n 0, 1), (22, .getfield 60, 3), (25, .getfield 189, 3), (28, .iload_n 1, 1), (29, .iaload, 1), (30, .isub, 1), (31, .invokestatic 318, 3), (34, .istore 4, 2), (36, .iconst 0, 1), (37, .istore 5, 2), (39, .iload 5, 2), (41, .aload_n 0, 1), (42, .getfield 48, 3), (45, .invokevirtual 308, 3), (48, .if_icmp .ge 51, 3), (51, .iload 5, 2), (53, .iload_n 1, 1), (54, .if_icmp .eq 39, 3), (57, .aload_n 0, 1), (58, .iload 5, 2), (60, .iload 5, 2), (62, .iload_n 1, 1), (63, .if_icmp .ge 9, 3), (66, .iload_n 3, 1), (67, .iconst 1, 1), (68, .isub, 1), (69, .goto 4, 3), (72, .iload_n 3, 1), (73, .invokevirtual 321, 3), (76, .istore 6, 2), (78, .iload 6, 2), (80, .iconst (-1), 1), (81, .if_icmp .ne 5, 3), (84, .iconst (-1), 1), (85, .ireturn, 1), (86, .iload 4, 2), (88, .iload 6, 2), (90, .iadd, 1), (91, .istore 4, 2), (93, .iinc 5 1, 3), (96, .goto (-57), 3), (99, .iload 4, 2), (101, .ireturn, 1)]
set_option maxRecDepth 100000 in
theorem dX11_shammingFor : sx_dec prog_1_method_44_code iX11_shammingFor = true := by decide +kernel
set_option maxRecDepth 100000 in
theorem vX11_shammingFor : sx_mv mX11_shammingFor 2 := ⟨⟨sx_a4 116 rfl rfl, sx_a1 1 rfl rfl, nh_X11, by decide +kernel, Nat.le_of_ble_eq_true rfl⟩, sx_a4 115 rfl rfl, sx_pv 22 rfl rfl⟩
abbrev mX11_stepsToAtMost : sxM := (⟨"StainStreet", "stepsToAtMost", "(II)I"⟩, prog_1_method_45_code, 6, some FieldType.int)
def iX11_stepsToAtMost : List (Nat × Instr × Nat) := [(0, .iconst (-1), 1), (1, .istore_n 3, 1), (2, .iconst 0, 1), (3, .istore 4, 2), (5, .iload 4, 2), (7, .bipush 19, 2), (9, .if_icmp .ge 58, 3), (12, .iload 4, 2), (14, .bipush 9, 2), (16, .isub, 1), (17, .aload_n 0, 1), (18, .getfield 60, 3), (21, .getfield 189, 3), (24, .iload_n 1, 1), (25, .iaload, 1), (26, .isub, 1), (27, .invokestatic 318, 3), (30, .istore 5, 2), (32, .aload_n 0, 1), (33, .iload_n 1, 1), (34, .bipush 19, 2), (36, .imul, 1), (37, .iload 4, 2), (39, .iadd, 1), (40, .invokevirtual 315, 3), (43, .iload_n 2, 1), (44, .if_icmp .gt 17, 3), (47, .iload_n 3, 1), (48, .iconst (-1), 1), (49, .if_icmp .eq 9, 3), (52, .iload 5, 2), (54, .iload_n 3, 1), (55, .if_icmp .ge 6, 3), (58, .iload 5, 2), (60, .istore_n 3, 1), (61, .iinc 4 1, 3), (64, .goto (-59), 3), (67, .iload_n 3, 1), (68, .ireturn, 1)]
set_option maxRecDepth 100000 in
theorem dX11_stepsToAtMost : sx_dec prog_1_method_45_code iX11_stepsToAtMost = true := by decide +kernel
set_option maxRecDepth 100000 in
theorem vX11_stepsToAtMost : sx_mv mX11_stepsToAtMost 2 := ⟨⟨sx_a4 125 rfl rfl, sx_a1 1 rfl rfl, nh_X11, by decide +kernel, Nat.le_of_ble_eq_true rfl⟩, sx_a4 124 rfl rfl, sx_pv 24 rfl rfl⟩
abbrev mX11_rid : sxM := (⟨"StainStreet", "rid", "()I"⟩, prog_1_method_46_code, 5, some FieldType.int)
def iX11_rid : List (Nat × Instr × Nat) := [(0, .aload_n 0, 1), (1, .getfield 60, 3), (4, .getfield 161, 3), (7, .istore_n 1, 1), (8, .aload_n 0, 1), (9, .iload_n 1, 1), (10, .invokevirtual 170, 3), (13, .ifCond .ne 5, 3), (16, .iconst (-1), 1), (17, .ireturn, 1), (18, .iconst (-1), 1), (19, .istore_n 2, 1), (20, .aload_n 0, 1), (21, .getfield 64, 3), (24, .aload_n 0, 1), (25, .getfield 60, 3), (28, .invokevirtual 293, 3), (31, .bipush (-9), 2), (33, .istore_n 3, 1), (34, .iload_n 3, 1), (35, .bipush 9, 2), (37, .if_icmp .gt 67, 3), (40, .aload_n 0, 1), (41, .getfield 64, 3), (44, .getfield 189, 3), (47, .iload_n 1, 1), (48, .iload_n 3, 1), (49, .iastore, 1), (50, .iload_n 3, 1), (51, .aload_n 0, 1), (52, .getfield 60, 3), (55, .getfield 189, 3), (58, .iload_n 1, 1), (59, .iaload, 1), (60, .isub, 1), (61, .invokestatic 318, 3), (64, .istore 4, 2), (66, .iload_n 2, 1), (67, .iconst (-1), 1), (68, .if_icmp .eq 9, 3), (71, .iload 4, 2), (73, .iload_n 2, 1), (74, .if_icmp .ge 24, 3), (77, .aload_n 0, 1), (78, .getfield 64, 3), (81, .aload_n 0, 1), (82, .getfield 28, 3), (85, .invokevirtual 195, 3), (88, .invokevirtual 299, 3), (91, .iload_n 1, 1), (92, .if_icmp .eq 6, 3), (95, .iload 4, 2), (97, .istore_n 2, 1), (98, .iinc 3 1, 3), (101, .goto (-67), 3), (104, .iload_n 2, 1), (105, .ireturn, 1)]
set_option maxRecDepth 100000 in
theorem dX11_rid : sx_dec prog_1_method_46_code iX11_rid = true := by decide +kernel
set_option maxRecDepth 100000 in
theorem vX11_rid : sx_mv mX11_rid 0 := ⟨⟨sx_a4 129 rfl rfl, sx_a1 1 rfl rfl, nh_X11, by decide +kernel, Nat.le_of_ble_eq_true rfl⟩, sx_a4 127 rfl rfl, sx_a4 128 rfl rfl⟩
abbrev mX11_white : sxM := (⟨"StainStreet", "white", "(I)I"⟩, prog_1_method_47_code, 3, some FieldType.int)
def iX11_white : List (Nat × Instr × Nat) := [(0, .aload_n 0, 1), (1, .iload_n 1, 1), (2, .invokevirtual 170, 3), (5, .ifCond .ne 5, 3), (8, .iconst (-1), 1), (9, .ireturn, 1), (10, .aload_n 0, 1), (11, .getfield 64, 3), (14, .aload_n 0, 1), (15, .getfield 60, 3), (18, .invokevirtual 293, 3), (21, .iconst 0, 1), (22, .istore_n 2, 1), (23, .iload_n 2, 1), (24, .bipush 9, 2), (26, .if_icmp .gt 39, 3), (29, .aload_n 0, 1), (30, .getfield 64, 3), (33, .getfield 180, 3), (36, .iload_n 1, 1), (37, .iload_n 2, 1), (38, .iastore, 1), (39, .aload_n 0, 1), (40, .getfield 64, 3), (43, .aload_n 0, 1), (44, .getfield 28, 3), (47, .invokevirtual 195, 3), (50, .invokevirtual 299, 3), (53, .iload_n 1, 1), (54, .if_icmp .ne 5, 3), (57, .iload_n 2, 1), (58, .ireturn, 1), (59, .iinc 2 1, 3), (62, .goto (-39), 3), (65, .iconst (-1), 1), (66, .ireturn, 1)]
set_option maxRecDepth 100000 in
theorem dX11_white : sx_dec prog_1_method_47_code iX11_white = true := by decide +kernel
set_option maxRecDepth 100000 in
theorem vX11_white : sx_mv mX11_white 1 := ⟨⟨sx_a4 133 rfl rfl, sx_a1 1 rfl rfl, nh_X11, by decide +kernel, Nat.le_of_ble_eq_true rfl⟩, sx_a4 131 rfl rfl, sx_a4 132 rfl rfl⟩
abbrev mX11_treaties : sxM := (⟨"StainStreet", "treaties", "(II)I"⟩, prog_1_method_48_code, 5, some FieldType.int)
def iX11_treaties : List (Nat × Instr × Nat) := [(0, .aload_n 0, 1), (1, .invokevirtual 154, 3), (4, .ifCond .eq 13, 3), (7, .iload_n 1, 1), (8, .iconst 1, 1), (9, .if_icmp .lt 8, 3), (12, .iload_n 1, 1), (13, .iconst 3, 1), (14, .if_icmp .le 5, 3), (17, .iconst (-1), 1), (18, .ireturn, 1), (19, .aload_n 0, 1), (20, .invokevirtual 324, 3), (23, .iconst 0, 1), (24, .istore_n 3, 1), (25, .iconst 1, 1), (26, .istore 4, 2), (28, .iload 4, 2), (30, .iconst 1, 1), (31, .aload_n 0, 1), (32, .getfield 48, 3), (35, .invokevirtual 308, 3), (38, .ishl, 1), (39, .if_icmp .ge 44, 3), (42, .iload 4, 2), (44, .invokestatic 327, 3), (47, .iload_n 1, 1), (48, .if_icmp .ne 29, 3), (51, .aload_n 0, 1), (52, .iload 4, 2), (54, .invokevirtual 332, 3), (57, .invokestatic 296, 3), (60, .iload 4, 2), (62, .iand, 1), (63, .ifCond .ne 14, 3), (66, .iload_n 3, 1), (67, .iload_n 2, 1), (68, .if_icmp .ne 6, 3), (71, .iload 4, 2), (73, .ireturn, 1), (74, .iinc 3 1, 3), (77, .iinc 4 1, 3), (80, .goto (-52), 3), (83, .iload_n 2, 1), (84, .iconst (-1), 1), (85, .if_icmp .ne 7, 3), (88, .iload_n 3, 1), (89, .goto 4, 3), (92, .iconst (-1), 1), (93, .ireturn, 1)]
set_option maxRecDepth 100000 in
theorem dX11_treaties : sx_dec prog_1_method_48_code iX11_treaties = true := by decide +kernel
set_option maxRecDepth 100000 in
theorem vX11_treaties : sx_mv mX11_treaties 2 := ⟨⟨sx_a4 137 rfl rfl, sx_a1 1 rfl rfl, nh_X11, by decide +kernel, Nat.le_of_ble_eq_true rfl⟩, sx_a4 135 rfl rfl, sx_a4 136 rfl rfl⟩
abbrev mX11_fillTreatyWorths : sxM := (⟨"StainStreet", "fillTreatyWorths", "()V"⟩, prog_1_method_49_code, 2, none)
def iX11_fillTreatyWorths : List (Nat × Instr × Nat) := [(0, .aload_n 0, 1), (1, .getfield 64, 3), (4, .aload_n 0, 1), (5, .getfield 60, 3), (8, .invokevirtual 293, 3), (11, .iconst 0, 1), (12, .istore_n 1, 1), (13, .iload_n 1, 1), (14, .aload_n 0, 1), (15, .getfield 48, 3), (18, .invokevirtual 308, 3), (21, .if_icmp .ge 62, 3), (24, .aload_n 0, 1), (25, .getfield 64, 3), (28, .getfield 189, 3), (31, .iload_n 1, 1), (32, .bipush (-9), 2), (34, .iastore, 1), (35, .aload_n 0, 1), (36, .getfield 102, 3), (39, .iload_n 1, 1), (40, .aload_n 0, 1), (41, .getfield 60, 3), (44, .iload_n 1, 1), (45, .aload_n 0, 1), (46, .getfield 28, 3), (49, .invokevirtual 195, 3), (52, .invokevirtual 198, 3), (55, .iastore, 1), (56, .aload_n 0, 1), (57, .getfield 105, 3), (60, .iload_n 1, 1), (61, .aload_n 0, 1), (62, .getfield 64, 3), (65, .iload_n 1, 1), (66, .aload_n 0, 1), (67, .getfield 28, 3), (70, .invokevirtual 195, 3), (73, .invokevirtual 198, 3), (76, .iastore, 1), (77, .iinc 1 1, 3), (80, .goto (-67), 3), (83, .return_, 1)]
set_option maxRecDepth 100000 in
theorem dX11_fillTreatyWorths : sx_dec prog_1_method_49_code iX11_fillTreatyWorths = true := by decide +kernel
set_option maxRecDepth 100000 in
theorem vX11_fillTreatyWorths : sx_mv mX11_fillTreatyWorths 0 := ⟨⟨sx_a4 141 rfl rfl, sx_a1 1 rfl rfl, nh_X11, by decide +kernel, Nat.le_of_ble_eq_true rfl⟩, sx_a4 140 rfl rfl, sx_pv 25 rfl rfl⟩
abbrev mX11_goalOfMixed : sxM := (⟨"StainStreet", "goalOfMixed", "(I)I"⟩, prog_1_method_50_code, 6, some FieldType.int)
def iX11_goalOfMixed : List (Nat × Instr × Nat) := [(0, .iconst (-1), 1), (1, .istore_n 2, 1), (2, .iconst 0, 1), (3, .istore_n 3, 1), (4, .iconst 0, 1), (5, .istore 4, 2), (7, .iload 4, 2), (9, .aload_n 0, 1), (10, .getfield 48, 3), (13, .invokevirtual 308, 3), (16, .if_icmp .ge 49, 3), (19, .iload_n 1, 1), (20, .iload 4, 2), (22, .ishr, 1), (23, .iconst 1, 1), (24, .iand, 1), (25, .ifCond .ne 13, 3), (28, .aload_n 0, 1), (29, .getfield 102, 3), (32, .iload 4, 2), (34, .iaload, 1), (35, .goto 10, 3), (38, .aload_n 0, 1), (39, .getfield 105, 3), (42, .iload 4, 2), (44, .iaload, 1), (45, .istore 5, 2), (47, .iload 5, 2), (49, .iload_n 3, 1), (50, .if_icmp .le 9, 3), (53, .iload 5, 2), (55, .istore_n 3, 1), (56, .iload 4, 2), (58, .istore_n 2, 1), (59, .iinc 4 1, 3), (62, .goto (-55), 3), (65, .iload_n 2, 1), (66, .ireturn, 1)]
set_option maxRecDepth 100000 in
theorem dX11_goalOfMixed : sx_dec prog_1_method_50_code iX11_goalOfMixed = true := by decide +kernel
set_option maxRecDepth 100000 in
theorem vX11_goalOfMixed : sx_mv mX11_goalOfMixed 1 := ⟨⟨sx_a4 151 rfl rfl, sx_a1 1 rfl rfl, nh_X11, by decide +kernel, Nat.le_of_ble_eq_true rfl⟩, sx_a4 150 rfl rfl, sx_pv 26 rfl rfl⟩
abbrev mX11_game : sxM := (⟨"StainStreet", "game", "(IIIII)I"⟩, prog_1_method_51_code, 7, some FieldType.int)
def iX11_game : List (Nat × Instr × Nat) := [(0, .aload_n 0, 1), (1, .iload_n 1, 1), (2, .invokevirtual 170, 3), (5, .ifCond .eq 27, 3), (8, .aload_n 0, 1), (9, .iload_n 2, 1), (10, .invokevirtual 170, 3), (13, .ifCond .eq 19, 3), (16, .iload_n 1, 1), (17, .iload_n 2, 1), (18, .if_icmp .eq 14, 3), (21, .iload 5, 2), (23, .ifCond .lt 9, 3), (26, .iload 5, 2), (28, .iconst 1, 1), (29, .if_icmp .le 6, 3), (32, .ldc 217, 2), (34, .ireturn, 1), (35, .iload_n 3, 1), (36, .ifCond .lt 21, 3), (39, .iload_n 3, 1), (40, .bipush 7, 2), (42, .if_icmp .ge 15, 3), (45, .iload 4, 2), (47, .ifCond .lt 10, 3), (50, .iload 4, 2), (52, .bipush 7, 2), (54, .if_icmp .lt 6, 3), (57, .ldc 217, 2), (59, .ireturn, 1), (60, .aload_n 0, 1), (61, .getfield 64, 3), (64, .aload_n 0, 1), (65, .getfield 60, 3), (68, .invokevirtual 293, 3), (71, .aload_n 0, 1), (72, .iload_n 1, 1), (73, .iload_n 2, 1), (74, .iload_n 3, 1), (75, .iload 4, 2), (77, .invokevirtual 335, 3), (80, .istore 6, 2), (82, .iload 5, 2), (84, .ifCond .ne 21, 3), (87, .iload 6, 2), (89, .iload_n 1, 1), (90, .if_icmp .ne 7, 3), (93, .iconst 1, 1), (94, .goto 4, 3), (97, .iconst 0, 1), (98, .iload_n 3, 1), (99, .invokestatic 339, 3), (102, .goto 19, 3), (105, .iload 6, 2), (107, .iload_n 2, 1), (108, .if_icmp .ne 7, 3), (111, .iconst 1, 1), (112, .goto 4, 3), (115, .iconst 0, 1), (116, .iload 4, 2), (118, .invokestatic 339, 3), (121, .ireturn, 1)]
set_option maxRecDepth 100000 in
theorem dX11_game : sx_dec prog_1_method_51_code iX11_game = true := by decide +kernel
set_option maxRecDepth 100000 in
theorem vX11_game : sx_mv mX11_game 5 := ⟨⟨sx_a4 155 rfl rfl, sx_a1 1 rfl rfl, nh_X11, by decide +kernel, Nat.le_of_ble_eq_true rfl⟩, sx_a4 153 rfl rfl, sx_a4 154 rfl rfl⟩
abbrev mX11_goalOfGame : sxM := (⟨"StainStreet", "goalOfGame", "(IIII)I"⟩, prog_1_method_52_code, 5, some FieldType.int)
def iX11_goalOfGame : List (Nat × Instr × Nat) := [(0, .aload_n 0, 1), (1, .getfield 64, 3), (4, .getfield 189, 3), (7, .iload_n 1, 1), (8, .iload_n 3, 1), (9, .iconst 3, 1), (10, .isub, 1), (11, .iastore, 1), (12, .aload_n 0, 1), (13, .getfield 64, 3), (16, .getfield 189, 3), (19, .iload_n 2, 1), (20, .iload 4, 2), (22, .iconst 3, 1), (23, .isub, 1), (24, .iastore, 1), (25, .aload_n 0, 1), (26, .getfield 64, 3), (29, .aload_n 0, 1), (30, .getfield 28, 3), (33, .invokevirtual 195, 3), (36, .invokevirtual 299, 3), (39, .ireturn, 1)]
set_option maxRecDepth 100000 in
theorem dX11_goalOfGame : sx_dec prog_1_method_52_code iX11_goalOfGame = true := by decide +kernel
set_option maxRecDepth 100000 in
theorem vX11_goalOfGame : sx_mv mX11_goalOfGame 4 := ⟨⟨sx_a4 159 rfl rfl, sx_a1 1 rfl rfl, nh_X11, by decide +kernel, Nat.le_of_ble_eq_true rfl⟩, sx_a4 158 rfl rfl, sx_pv 27 rfl rfl⟩
abbrev mX11_gain : sxM := (⟨"StainStreet", "gain", "(ZI)I"⟩, prog_1_method_53_code, 2, some FieldType.int)
def iX11_gain : List (Nat × Instr × Nat) := [(0, .iload_n 0, 1), (1, .ifCond .eq 8, 3), (4, .bipush (-9), 2), (6, .goto 4, 3), (9, .iconst 0, 1), (10, .iload_n 1, 1), (11, .iconst 3, 1), (12, .isub, 1), (13, .invokestatic 318, 3), (16, .isub, 1), (17, .ireturn, 1)]
set_option maxRecDepth 100000 in
theorem dX11_gain : sx_dec prog_1_method_53_code iX11_gain = true := by decide +kernel
set_option maxRecDepth 100000 in
theorem vX11_gain : sx_ms mX11_gain 2 := ⟨⟨sx_a4 162 rfl rfl, sx_a1 1 rfl rfl, nh_X11, by decide +kernel, Nat.le_of_ble_eq_true rfl⟩, sx_a4 161 rfl rfl⟩
abbrev mX11_rests : sxM := (⟨"StainStreet", "rests", "(III)I"⟩, prog_1_method_54_code, 7, some FieldType.int)
def iX11_rests : List (Nat × Instr × Nat) := [(0, .aload_n 0, 1), (1, .iload_n 1, 1), (2, .invokevirtual 170, 3), (5, .ifCond .eq 16, 3), (8, .aload_n 0, 1), (9, .iload_n 2, 1), (10, .invokevirtual 170, 3), (13, .ifCond .eq 8, 3), (16, .iload_n 1, 1), (17, .iload_n 2, 1), (18, .if_icmp .ne 5, 3), (21, .iconst (-1), 1), (22, .ireturn, 1), (23, .aload_n 0, 1), (24, .iload_n 1, 1), (25, .iload_n 2, 1), (26, .invokevirtual 343, 3), (29, .iconst 0, 1), (30, .istore 4, 2), (32, .iconst 0, 1), (33, .istore 5, 2), (35, .iload 5, 2), (37, .bipush 7, 2), (39, .if_icmp .ge 67, 3), (42, .iconst 0, 1), (43, .istore 6, 2), (45, .iload 6, 2), (47, .bipush 7, 2), (49, .if_icmp .ge 51, 3), (52, .aload_n 0, 1), (53, .iload_n 1, 1), (54, .iload 5, 2), (56, .iload 6, 2), (58, .invokevirtual 346, 3), (61, .ifCond .eq 33, 3), (64, .aload_n 0, 1), (65, .iload_n 2, 1), (66, .iload 5, 2), (68, .iload 6, 2), (70, .invokevirtual 350, 3), (73, .ifCond .eq 21, 3), (76, .iload 4, 2), (78, .iload_n 3, 1), (79, .if_icmp .ne 12, 3), (82, .bipush 10, 2), (84, .iload 5, 2), (86, .imul, 1), (87, .iload 6, 2), (89, .iadd, 1), (90, .ireturn, 1), (91, .iinc 4 1, 3), (94, .iinc 6 1, 3), (97, .goto (-52), 3), (100, .iinc 5 1, 3), (103, .goto (-68), 3), (106, .iload_n 3, 1), (107, .iconst (-1), 1), (108, .if_icmp .ne 8, 3), (111, .iload 4, 2), (113, .goto 4, 3), (116, .iconst (-1), 1), (117, .ireturn, 1)]
set_option maxRecDepth 100000 in
theorem dX11_rests : sx_dec prog_1_method_54_code iX11_rests = true := by decide +kernel
set_option maxRecDepth 100000 in
theorem vX11_rests : sx_mv mX11_rests 3 := ⟨⟨sx_a4 166 rfl rfl, sx_a1 1 rfl rfl, nh_X11, by decide +kernel, Nat.le_of_ble_eq_true rfl⟩, sx_a4 164 rfl rfl, sx_a4 165 rfl rfl⟩
abbrev mX11_fillGameTable : sxM := (⟨"StainStreet", "fillGameTable", "(II)V"⟩, prog_1_method_55_code, 5, none)
def iX11_fillGameTable : List (Nat × Instr × Nat) := [(0, .aload_n 0, 1), (1, .getfield 64, 3), (4, .aload_n 0, 1), (5, .getfield 60, 3), (8, .invokevirtual 293, 3), (11, .iconst 0, 1), (12, .istore_n 3, 1), (13, .iload_n 3, 1), (14, .bipush 7, 2), (16, .if_icmp .ge 45, 3), (19, .iconst 0, 1), (20, .istore 4, 2), (22, .iload 4, 2), (24, .bipush 7, 2), (26, .if_icmp .ge 29, 3), (29, .aload_n 0, 1), (30, .iload_n 3, 1), (31, .bipush 7, 2), (33, .imul, 1), (34, .iload 4, 2), (36, .iadd, 1), (37, .aload_n 0, 1), (38, .iload_n 1, 1), (39, .iload_n 2, 1), (40, .iload_n 3, 1), (41, .iload 4, 2), (43, .invokevirtual 335, 3), (46, .invokevirtual 311, 3), (49, .iinc 4 1, 3), (52, .goto (-30), 3), (55, .iinc 3 1, 3), (58, .goto (-45), 3), (61, .return_, 1)]
set_option maxRecDepth 100000 in
theorem dX11_fillGameTable : sx_dec prog_1_method_55_code iX11_fillGameTable = true := by decide +kernel
set_option maxRecDepth 100000 in
theorem vX11_fillGameTable : sx_mv mX11_fillGameTable 2 := ⟨⟨sx_a4 170 rfl rfl, sx_a1 1 rfl rfl, nh_X11, by decide +kernel, Nat.le_of_ble_eq_true rfl⟩, sx_a4 169 rfl rfl, sx_pv 28 rfl rfl⟩
abbrev mX11_isBestForOne : sxM := (⟨"StainStreet", "isBestForOne", "(III)Z"⟩, prog_1_method_56_code, 6, some FieldType.boolean)
def iX11_isBestForOne : List (Nat × Instr × Nat) := [(0, .aload_n 0, 1), (1, .iload_n 2, 1), (2, .bipush 7, 2), (4, .imul, 1), (5, .iload_n 3, 1), (6, .iadd, 1), (7, .invokevirtual 315, 3), (10, .iload_n 1, 1), (11, .if_icmp .ne 7, 3), (14, .iconst 1, 1), (15, .goto 4, 3), (18, .iconst 0, 1), (19, .iload_n 2, 1), (20, .invokestatic 339, 3), (23, .istore 4, 2), (25, .iconst 0, 1), (26, .istore 5, 2), (28, .iload 5, 2), (30, .bipush 7, 2), (32, .if_icmp .ge 41, 3), (35, .aload_n 0, 1), (36, .iload 5, 2), (38, .bipush 7, 2), (40, .imul, 1), (41, .iload_n 3, 1), (42, .iadd, 1), (43, .invokevirtual 315, 3), (46, .iload_n 1, 1), (47, .if_icmp .ne 7, 3), (50, .iconst 1, 1), (51, .goto 4, 3), (54, .iconst 0, 1), (55, .iload 5, 2), (57, .invokestatic 339, 3), (60, .iload 4, 2), (62, .if_icmp .le 5, 3), (65, .iconst 0, 1), (66, .ireturn, 1), (67, .iinc 5 1, 3), (70, .goto (-42), 3), (73, .iconst 1, 1), (74, .ireturn, 1)]
set_option maxRecDepth 100000 in
theorem dX11_isBestForOne : sx_dec prog_1_method_56_code iX11_isBestForOne = true := by decide +kernel
set_option maxRecDepth 100000 in
theorem vX11_isBestForOne : sx_mv mX11_isBestForOne 3 := ⟨⟨sx_a4 174 rfl rfl, sx_a1 1 rfl rfl, nh_X11, by decide +kernel, Nat.le_of_ble_eq_true rfl⟩, sx_a4 173 rfl rfl, sx_pv 29 rfl rfl⟩
abbrev mX11_isBestForOther : sxM := (⟨"StainStreet", "isBestForOther", "(III)Z"⟩, prog_1_method_57_code, 6, some FieldType.boolean)
def iX11_isBestForOther : List (Nat × Instr × Nat) := [(0, .aload_n 0, 1), (1, .iload_n 2, 1), (2, .bipush 7, 2), (4, .imul, 1), (5, .iload_n 3, 1), (6, .iadd, 1), (7, .invokevirtual 315, 3), (10, .iload_n 1, 1), (11, .if_icmp .ne 7, 3), (14, .iconst 1, 1), (15, .goto 4, 3), (18, .iconst 0, 1), (19, .iload_n 3, 1), (20, .invokestatic 339, 3), (23, .istore 4, 2), (25, .iconst 0, 1), (26, .istore 5, 2), (28, .iload 5, 2), (30, .bipush 7, 2), (32, .if_icmp .ge 41, 3), (35, .aload_n 0, 1), (36, .iload_n 2, 1), (37, .bipush 7, 2), (39, .imul, 1), (40, .iload 5, 2), (42, .iadd, 1), (43, .invokevirtual 315, 3), (46, .iload_n 1, 1), (47, .if_icmp .ne 7, 3), (50, .iconst 1, 1), (51, .goto 4, 3), (54, .iconst 0, 1), (55, .iload 5, 2), (57, .invokestatic 339, 3), (60, .iload 4, 2), (62, .if_icmp .le 5, 3), (65, .iconst 0, 1), (66, .ireturn, 1), (67, .iinc 5 1, 3), (70, .goto (-42), 3), (73, .iconst 1, 1), (74, .ireturn, 1)]
set_option maxRecDepth 100000 in
theorem dX11_isBestForOther : sx_dec prog_1_method_57_code iX11_isBestForOther = true := by decide +kernel
set_option maxRecDepth 100000 in
theorem vX11_isBestForOther : sx_mv mX11_isBestForOther 3 := ⟨⟨sx_a4 178 rfl rfl, sx_a1 1 rfl rfl, nh_X11, by decide +kernel, Nat.le_of_ble_eq_true rfl⟩, sx_a4 177 rfl rfl, sx_pv 30 rfl rfl⟩
abbrev mX11_seen : sxM := (⟨"StainStreet", "seen", "(IIZ)I"⟩, prog_1_method_58_code, 4, some FieldType.int)
def iX11_seen : List (Nat × Instr × Nat) := [(0, .aload_n 0, 1), (1, .iload_n 2, 1), (2, .invokevirtual 170, 3), (5, .ifCond .eq 14, 3), (8, .iload_n 1, 1), (9, .iconst 1, 1), (10, .if_icmp .lt 9, 3), (13, .iload_n 1, 1), (14, .bipush 40, 2), (16, .if_icmp .le 5, 3), (19, .iconst (-1), 1), (20, .ireturn, 1), (21, .aload_n 0, 1), (22, .getfield 91, 3), (25, .iload_n 1, 1), (26, .iload_n 2, 1), (27, .iload_n 3, 1), (28, .invokevirtual 353, 3), (31, .ifCond .eq 13, 3), (34, .aload_n 0, 1), (35, .getfield 91, 3), (38, .getfield 150, 3), (41, .goto 4, 3), (44, .iconst (-1), 1), (45, .ireturn, 1)]
set_option maxRecDepth 100000 in
theorem dX11_seen : sx_dec prog_1_method_58_code iX11_seen = true := by decide +kernel
set_option maxRecDepth 100000 in
theorem vX11_seen : sx_mv mX11_seen 3 := ⟨⟨sx_a4 182 rfl rfl, sx_a1 1 rfl rfl, nh_X11, by decide +kernel, Nat.le_of_ble_eq_true rfl⟩, sx_a4 180 rfl rfl, sx_a4 181 rfl rfl⟩
abbrev mX11_who : sxM := (⟨"StainStreet", "who", "(II)I"⟩, prog_1_method_59_code, 6, some FieldType.int)
def iX11_who : List (Nat × Instr × Nat) := [(0, .aload_n 0, 1), (1, .invokevirtual 154, 3), (4, .ifCond .eq 13, 3), (7, .iload_n 1, 1), (8, .iconst 1, 1), (9, .if_icmp .lt 8, 3), (12, .iload_n 1, 1), (13, .iconst 5, 1), (14, .if_icmp .le 5, 3), (17, .iconst (-1), 1), (18, .ireturn, 1), (19, .aload_n 0, 1), (20, .iload_n 1, 1), (21, .invokevirtual 356, 3), (24, .aload_n 0, 1), (25, .invokevirtual 359, 3), (28, .istore_n 3, 1), (29, .iconst 0, 1), (30, .istore 4, 2), (32, .iconst 0, 1), (33, .istore 5, 2), (35, .iload 5, 2), (37, .aload_n 0, 1), (38, .getfield 48, 3), (41, .invokevirtual 308, 3), (44, .if_icmp .gt 47, 3), (47, .iload_n 3, 1), (48, .iload 5, 2), (50, .ishr, 1), (51, .iconst 1, 1), (52, .iand, 1), (53, .ifCond .eq 32, 3), (56, .iload 4, 2), (58, .iload_n 2, 1), (59, .if_icmp .ne 23, 3), (62, .iload 5, 2), (64, .aload_n 0, 1), (65, .getfield 48, 3), (68, .invokevirtual 308, 3), (71, .if_icmp .ne 8, 3), (74, .bipush 9, 2), (76, .goto 5, 3), (79, .iload 5, 2), (81, .ireturn, 1), (82, .iinc 4 1, 3), (85, .iinc 5 1, 3), (88, .goto (-53), 3), (91, .iload_n 2, 1), (92, .iconst (-1), 1), (93, .if_icmp .ne 8, 3), (96, .iload 4, 2), (98, .goto 4, 3), (101, .iconst (-1), 1), (102, .ireturn, 1)]
set_option maxRecDepth 100000 in
theorem dX11_who : sx_dec prog_1_method_59_code iX11_who = true := by decide +kernel
set_option maxRecDepth 100000 in
theorem vX11_who : sx_mv mX11_who 2 := ⟨⟨sx_a4 190 rfl rfl, sx_a1 1 rfl rfl, nh_X11, by decide +kernel, Nat.le_of_ble_eq_true rfl⟩, sx_a4 188 rfl rfl, sx_a4 189 rfl rfl⟩
abbrev mX11_best : sxM := (⟨"StainStreet", "best", "(I)I"⟩, prog_1_method_60_code, 7, some FieldType.int)
def iX11_best : List (Nat × Instr × Nat) := [(0, .aload_n 0, 1), (1, .invokevirtual 154, 3), (4, .ifCond .eq 13, 3), (7, .iload_n 1, 1), (8, .iconst 1, 1), (9, .if_icmp .lt 8, 3), (12, .iload_n 1, 1), (13, .iconst 5, 1), (14, .if_icmp .le 5, 3), (17, .iconst (-1), 1), (18, .ireturn, 1), (19, .aload_n 0, 1), (20, .iload_n 1, 1), (21, .invokevirtual 356, 3), (24, .aload_n 0, 1), (25, .invokevirtual 359, 3), (28, .istore_n 2, 1), (29, .iload_n 2, 1), (30, .ifCond .ne 5, 3), (33, .iconst (-1), 1), (34, .ireturn, 1), (35, .iconst (-1), 1), (36, .istore_n 3, 1), (37, .iconst 0, 1), (38, .istore 4, 2), (40, .iconst 1, 1), (41, .istore 5, 2), (43, .iload 5, 2), (45, .bipush 40, 2), (47, .if_icmp .gt 37, 3), (50, .aload_n 0, 1), (51, .iload 5, 2), (53, .iload_n 2, 1), (54, .invokevirtual 362, 3), (57, .istore 6, 2), (59, .iload_n 3, 1), (60, .iconst (-1), 1), (61, .if_icmp .eq 10, 3), (64, .iload 6, 2), (66, .iload 4, 2), (68, .if_icmp .ge 10, 3), (71, .iload 6, 2), (73, .istore 4, 2), (75, .iload 5, 2), (77, .istore_n 3, 1), (78, .iinc 5 1, 3), (81, .goto (-38), 3), (84, .iload_n 3, 1), (85, .ireturn, 1)]
set_option maxRecDepth 100000 in
theorem dX11_best : sx_dec prog_1_method_60_code iX11_best = true := by decide +kernel
set_option maxRecDepth 100000 in
theorem vX11_best : sx_mv mX11_best 1 := ⟨⟨sx_a4 210 rfl rfl, sx_a1 1 rfl rfl, nh_X11, by decide +kernel, Nat.le_of_ble_eq_true rfl⟩, sx_a4 208 rfl rfl, sx_a4 209 rfl rfl⟩
abbrev mX11_fillWalks : sxM := (⟨"StainStreet", "fillWalks", "(I)V"⟩, prog_1_method_61_code, 4, none)
def iX11_fillWalks : List (Nat × Instr × Nat) := [(0, .iconst 0, 1), (1, .istore_n 2, 1), (2, .iload_n 2, 1), (3, .aload_n 0, 1), (4, .getfield 48, 3), (7, .invokevirtual 308, 3), (10, .if_icmp .gt 86, 3), (13, .aload_n 0, 1), (14, .getfield 64, 3), (17, .aload_n 0, 1), (18, .getfield 48, 3), (21, .invokevirtual 140, 3), (24, .iload_n 2, 1), (25, .aload_n 0, 1), (26, .getfield 48, 3), (29, .invokevirtual 308, 3), (32, .if_icmp .ge 12, 3), (35, .aload_n 0, 1), (36, .getfield 64, 3), (39, .iload_n 2, 1), (40, .iload_n 1, 1), (41, .invokevirtual 365, 3), (44, .iconst 1, 1), (45, .istore_n 3, 1), (46, .iload_n 3, 1), (47, .bipush 40, 2), (49, .if_icmp .gt 41, 3), (52, .aload_n 0, 1), (53, .getfield 64, 3), (56, .aload_n 0, 1), (57, .getfield 28, 3), (60, .invokevirtual 195, 3), (63, .invokevirtual 262, 3), (66, .pop, 1), (67, .aload_n 0, 1), (68, .iload_n 2, 1), (69, .bipush 41, 2), (71, .imul, 1), (72, .iload_n 3, 1), (73, .iadd, 1), (74, .aload_n 0, 1), (75, .getfield 64, 3), (78, .getfield 161, 3), (81, .invokevirtual 311, 3), (84, .iinc 3 1, 3), (87, .goto (-41), 3), (90, .iinc 2 1, 3), (93, .goto (-91), 3), (96, .return_, 1)]
set_option maxRecDepth 100000 in
theorem dX11_fillWalks : sx_dec prog_1_method_61_code iX11_fillWalks = true := by decide +kernel
set_option maxRecDepth 100000 in
theorem vX11_fillWalks : sx_mv mX11_fillWalks 1 := ⟨⟨sx_a4 194 rfl rfl, sx_a1 1 rfl rfl, nh_X11, by decide +kernel, Nat.le_of_ble_eq_true rfl⟩, sx_a4 193 rfl rfl, sx_pv 31 rfl rfl⟩
abbrev mX11_fitting : sxM := (⟨"StainStreet", "fitting", "()I"⟩, prog_1_method_62_code, 3, some FieldType.int)
def iX11_fitting : List (Nat × Instr × Nat) := [(0, .iconst 0, 1), (1, .istore_n 1, 1), (2, .iconst 0, 1), (3, .istore_n 2, 1), (4, .iload_n 2, 1), (5, .aload_n 0, 1), (6, .getfield 48, 3), (9, .invokevirtual 308, 3), (12, .if_icmp .gt 23, 3), (15, .aload_n 0, 1), (16, .iload_n 2, 1), (17, .invokevirtual 368, 3), (20, .ifCond .eq 9, 3), (23, .iload_n 1, 1), (24, .iconst 1, 1), (25, .iload_n 2, 1), (26, .ishl, 1), (27, .ior, 1), (28, .istore_n 1, 1), (29, .iinc 2 1, 3), (32, .goto (-28), 3), (35, .iload_n 1, 1), (36, .ireturn, 1)]
set_option maxRecDepth 100000 in
theorem dX11_fitting : sx_dec prog_1_method_62_code iX11_fitting = true := by decide +kernel
set_option maxRecDepth 100000 in
theorem vX11_fitting : sx_mv mX11_fitting 0 := ⟨⟨sx_a4 202 rfl rfl, sx_a1 1 rfl rfl, nh_X11, by decide +kernel, Nat.le_of_ble_eq_true rfl⟩, sx_a4 201 rfl rfl, sx_pv 32 rfl rfl⟩
abbrev mX11_fitsSeen : sxM := (⟨"StainStreet", "fitsSeen", "(I)Z"⟩, prog_1_method_63_code, 4, some FieldType.boolean)
def iX11_fitsSeen : List (Nat × Instr × Nat) := [(0, .iconst 0, 1), (1, .istore_n 2, 1), (2, .iload_n 2, 1), (3, .aload_n 0, 1), (4, .getfield 91, 3), (7, .getfield 150, 3), (10, .if_icmp .ge 66, 3), (13, .iload_n 2, 1), (14, .bipush 10, 2), (16, .if_icmp .ge 60, 3), (19, .aload_n 0, 1), (20, .iload_n 1, 1), (21, .bipush 41, 2), (23, .imul, 1), (24, .aload_n 0, 1), (25, .getfield 91, 3), (28, .getfield 371, 3), (31, .iload_n 2, 1), (32, .iaload, 1), (33, .iadd, 1), (34, .invokevirtual 315, 3), (37, .aload_n 0, 1), (38, .getfield 91, 3), (41, .getfield 374, 3), (44, .iload_n 2, 1), (45, .iaload, 1), (46, .if_icmp .ne 7, 3), (49, .iconst 1, 1), (50, .goto 4, 3), (53, .iconst 0, 1), (54, .istore_n 3, 1), (55, .iload_n 3, 1), (56, .aload_n 0, 1), (57, .getfield 91, 3), (60, .getfield 377, 3), (63, .iload_n 2, 1), (64, .baload, 1), (65, .if_icmp .eq 5, 3), (68, .iconst 0, 1), (69, .ireturn, 1), (70, .iinc 2 1, 3), (73, .goto (-71), 3), (76, .iconst 1, 1), (77, .ireturn, 1)]
set_option maxRecDepth 100000 in
theorem dX11_fitsSeen : sx_dec prog_1_method_63_code iX11_fitsSeen = true := by decide +kernel
set_option maxRecDepth 100000 in
theorem vX11_fitsSeen : sx_mv mX11_fitsSeen 1 := ⟨⟨sx_a4 206 rfl rfl, sx_a1 1 rfl rfl, nh_X11, by decide +kernel, Nat.le_of_ble_eq_true rfl⟩, sx_a4 205 rfl rfl, sx_pv 33 rfl rfl⟩
abbrev mX11_mostAgreeing : sxM := (⟨"StainStreet", "mostAgreeing", "(II)I"⟩, prog_1_method_64_code, 7, some FieldType.int)
def iX11_mostAgreeing : List (Nat × Instr × Nat) := [(0, .iconst 0, 1), (1, .istore_n 3, 1), (2, .iconst (-1), 1), (3, .istore 4, 2), (5, .iload 4, 2), (7, .aload_n 0, 1), (8, .getfield 48, 3), (11, .invokevirtual 308, 3), (14, .if_icmp .ge 68, 3), (17, .iconst 0, 1), (18, .istore 5, 2), (20, .iconst 0, 1), (21, .istore 6, 2), (23, .iload 6, 2), (25, .aload_n 0, 1), (26, .getfield 48, 3), (29, .invokevirtual 308, 3), (32, .if_icmp .gt 37, 3), (35, .iload_n 2, 1), (36, .iload 6, 2), (38, .ishr, 1), (39, .iconst 1, 1), (40, .iand, 1), (41, .ifCond .eq 22, 3), (44, .aload_n 0, 1), (45, .iload 6, 2), (47, .bipush 41, 2), (49, .imul, 1), (50, .iload_n 1, 1), (51, .iadd, 1), (52, .invokevirtual 315, 3), (55, .iload 4, 2), (57, .if_icmp .ne 6, 3), (60, .iinc 5 1, 3), (63, .iinc 6 1, 3), (66, .goto (-43), 3), (69, .iload_n 3, 1), (70, .iload 5, 2), (72, .invokestatic 256, 3), (75, .istore_n 3, 1), (76, .iinc 4 1, 3), (79, .goto (-74), 3), (82, .iload_n 3, 1), (83, .ireturn, 1)]
set_option maxRecDepth 100000 in
theorem dX11_mostAgreeing : sx_dec prog_1_method_64_code iX11_mostAgreeing = true := by decide +kernel
set_option maxRecDepth 100000 in
theorem vX11_mostAgreeing : sx_mv mX11_mostAgreeing 2 := ⟨⟨sx_a4 214 rfl rfl, sx_a1 1 rfl rfl, nh_X11, by decide +kernel, Nat.le_of_ble_eq_true rfl⟩, sx_a4 213 rfl rfl, sx_pv 34 rfl rfl⟩
abbrev mX11_follows : sxM := (⟨"StainStreet", "follows", "(II)I"⟩, prog_1_method_65_code, 3, some FieldType.int)
def iX11_follows : List (Nat × Instr × Nat) := [(0, .aload_n 0, 1), (1, .iload_n 1, 1), (2, .invokevirtual 202, 3), (5, .ifCond .eq 14, 3), (8, .iload_n 2, 1), (9, .ifCond .lt 10, 3), (12, .iload_n 2, 1), (13, .sipush 999, 3), (16, .if_icmp .le 5, 3), (19, .iconst (-1), 1), (20, .ireturn, 1), (21, .aload_n 0, 1), (22, .getfield 48, 3), (25, .iload_n 1, 1), (26, .iload_n 2, 1), (27, .invokevirtual 381, 3), (30, .ireturn, 1)]
set_option maxRecDepth 100000 in
theorem dX11_follows : sx_dec prog_1_method_65_code iX11_follows = true := by decide +kernel
set_option maxRecDepth 100000 in
theorem vX11_follows : sx_mv mX11_follows 2 := ⟨⟨sx_a4 218 rfl rfl, sx_a1 1 rfl rfl, nh_X11, by decide +kernel, Nat.le_of_ble_eq_true rfl⟩, sx_a4 216 rfl rfl, sx_a4 217 rfl rfl⟩
abbrev mX11_ring : sxM := (⟨"StainStreet", "ring", "(I)I"⟩, prog_1_method_66_code, 6, some FieldType.int)
def iX11_ring : List (Nat × Instr × Nat) := [(0, .aload_n 0, 1), (1, .iload_n 1, 1), (2, .invokevirtual 202, 3), (5, .ifCond .ne 5, 3), (8, .iconst (-1), 1), (9, .ireturn, 1), (10, .aload_n 0, 1), (11, .getfield 48, 3), (14, .iload_n 1, 1), (15, .aload_n 0, 1), (16, .getfield 48, 3), (19, .getfield 230, 3), (22, .invokevirtual 381, 3), (25, .istore_n 2, 1), (26, .aload_n 0, 1), (27, .getfield 48, 3), (30, .iload_n 2, 1), (31, .invokevirtual 208, 3), (34, .istore_n 3, 1), (35, .iconst 1, 1), (36, .istore 4, 2), (38, .iconst 0, 1), (39, .istore 5, 2), (41, .iload 5, 2), (43, .aload_n 0, 1), (44, .getfield 48, 3), (47, .getfield 230, 3), (50, .if_icmp .ge 26, 3), (53, .iload_n 3, 1), (54, .iload_n 2, 1), (55, .if_icmp .eq 21, 3), (58, .aload_n 0, 1), (59, .getfield 48, 3), (62, .iload_n 3, 1), (63, .invokevirtual 208, 3), (66, .istore_n 3, 1), (67, .iinc 4 1, 3), (70, .iinc 5 1, 3), (73, .goto (-32), 3), (76, .iload 4, 2), (78, .ireturn, 1)]
set_option maxRecDepth 100000 in
theorem dX11_ring : sx_dec prog_1_method_66_code iX11_ring = true := by decide +kernel
set_option maxRecDepth 100000 in
theorem vX11_ring : sx_mv mX11_ring 1 := ⟨⟨sx_a4 226 rfl rfl, sx_a1 1 rfl rfl, nh_X11, by decide +kernel, Nat.le_of_ble_eq_true rfl⟩, sx_a4 224 rfl rfl, sx_a4 225 rfl rfl⟩
abbrev mX11_was : sxM := (⟨"StainStreet", "was", "(IIZ)I"⟩, prog_1_method_67_code, 4, some FieldType.int)
def iX11_was : List (Nat × Instr × Nat) := [(0, .aload_n 0, 1), (1, .iload_n 2, 1), (2, .invokevirtual 202, 3), (5, .ifCond .eq 13, 3), (8, .iload_n 1, 1), (9, .ifCond .lt 9, 3), (12, .iload_n 1, 1), (13, .bipush 60, 2), (15, .if_icmp .le 5, 3), (18, .iconst (-1), 1), (19, .ireturn, 1), (20, .aload_n 0, 1), (21, .getfield 95, 3), (24, .iload_n 1, 1), (25, .iload_n 2, 1), (26, .iload_n 3, 1), (27, .invokevirtual 353, 3), (30, .ifCond .eq 13, 3), (33, .aload_n 0, 1), (34, .getfield 95, 3), (37, .getfield 150, 3), (40, .goto 4, 3), (43, .iconst (-1), 1), (44, .ireturn, 1)]
set_option maxRecDepth 100000 in
theorem dX11_was : sx_dec prog_1_method_67_code iX11_was = true := by decide +kernel
set_option maxRecDepth 100000 in
theorem vX11_was : sx_mv mX11_was 3 := ⟨⟨sx_a4 230 rfl rfl, sx_a1 1 rfl rfl, nh_X11, by decide +kernel, Nat.le_of_ble_eq_true rfl⟩, sx_a4 228 rfl rfl, sx_a4 229 rfl rfl⟩
abbrev mX11_forms : sxM := (⟨"StainStreet", "forms", "()I"⟩, prog_1_method_68_code, 3, some FieldType.int)
def iX11_forms : List (Nat × Instr × Nat) := [(0, .aload_n 0, 1), (1, .invokevirtual 154, 3), (4, .ifCond .ne 5, 3), (7, .iconst (-1), 1), (8, .ireturn, 1), (9, .iconst 0, 1), (10, .istore_n 1, 1), (11, .iconst 0, 1), (12, .istore_n 2, 1), (13, .iload_n 2, 1), (14, .aload_n 0, 1), (15, .getfield 48, 3), (18, .getfield 230, 3), (21, .if_icmp .ge 23, 3), (24, .aload_n 0, 1), (25, .iload_n 2, 1), (26, .invokevirtual 384, 3), (29, .ifCond .eq 9, 3), (32, .iload_n 1, 1), (33, .iconst 1, 1), (34, .iload_n 2, 1), (35, .ishl, 1), (36, .ior, 1), (37, .istore_n 1, 1), (38, .iinc 2 1, 3), (41, .goto (-28), 3), (44, .iload_n 1, 1), (45, .ireturn, 1)]
set_option maxRecDepth 100000 in
theorem dX11_forms : sx_dec prog_1_method_68_code iX11_forms = true := by decide +kernel
set_option maxRecDepth 100000 in
theorem vX11_forms : sx_mv mX11_forms 0 := ⟨⟨sx_a4 234 rfl rfl, sx_a1 1 rfl rfl, nh_X11, by decide +kernel, Nat.le_of_ble_eq_true rfl⟩, sx_a4 232 rfl rfl, sx_a4 233 rfl rfl⟩
abbrev mX11_fitsWas : sxM := (⟨"StainStreet", "fitsWas", "(I)Z"⟩, prog_1_method_69_code, 4, some FieldType.boolean)
def iX11_fitsWas : List (Nat × Instr × Nat) := [(0, .iconst 0, 1), (1, .istore_n 2, 1), (2, .iload_n 2, 1), (3, .aload_n 0, 1), (4, .getfield 95, 3), (7, .getfield 150, 3), (10, .if_icmp .ge 65, 3), (13, .iload_n 2, 1), (14, .bipush 10, 2), (16, .if_icmp .ge 59, 3), (19, .aload_n 0, 1), (20, .getfield 48, 3), (23, .iload_n 1, 1), (24, .aload_n 0, 1), (25, .getfield 95, 3), (28, .getfield 371, 3), (31, .iload_n 2, 1), (32, .iaload, 1), (33, .invokevirtual 381, 3), (36, .aload_n 0, 1), (37, .getfield 95, 3), (40, .getfield 374, 3), (43, .iload_n 2, 1), (44, .iaload, 1), (45, .if_icmp .ne 7, 3), (48, .iconst 1, 1), (49, .goto 4, 3), (52, .iconst 0, 1), (53, .istore_n 3, 1), (54, .iload_n 3, 1), (55, .aload_n 0, 1), (56, .getfield 95, 3), (59, .getfield 377, 3), (62, .iload_n 2, 1), (63, .baload, 1), (64, .if_icmp .eq 5, 3), (67, .iconst 0, 1), (68, .ireturn, 1), (69, .iinc 2 1, 3), (72, .goto (-70), 3), (75, .iconst 1, 1), (76, .ireturn, 1)]
set_option maxRecDepth 100000 in
theorem dX11_fitsWas : sx_dec prog_1_method_69_code iX11_fitsWas = true := by decide +kernel
set_option maxRecDepth 100000 in
theorem vX11_fitsWas : sx_mv mX11_fitsWas 1 := ⟨⟨sx_a4 238 rfl rfl, sx_a1 1 rfl rfl, nh_X11, by decide +kernel, Nat.le_of_ble_eq_true rfl⟩, sx_a4 237 rfl rfl, sx_pv 35 rfl rfl⟩
abbrev mX11_odds : sxM := (⟨"StainStreet", "odds", "(II)I"⟩, prog_1_method_70_code, 5, some FieldType.int)
def iX11_odds : List (Nat × Instr × Nat) := [(0, .aload_n 0, 1), (1, .invokevirtual 154, 3), (4, .ifCond .eq 26, 3), (7, .iload_n 1, 1), (8, .iconst (-1), 1), (9, .if_icmp .eq 11, 3), (12, .aload_n 0, 1), (13, .iload_n 1, 1), (14, .invokevirtual 170, 3), (17, .ifCond .eq 13, 3), (20, .iload_n 2, 1), (21, .ifCond .lt 9, 3), (24, .iload_n 2, 1), (25, .bipush 100, 2), (27, .if_icmp .le 5, 3), (30, .iconst (-1), 1), (31, .ireturn, 1), (32, .aload_n 0, 1), (33, .invokevirtual 387, 3), (36, .aload_n 0, 1), (37, .iload_n 2, 1), (38, .invokevirtual 390, 3), (41, .iconst 0, 1), (42, .istore_n 3, 1), (43, .iconst 0, 1), (44, .istore 4, 2), (46, .iload 4, 2), (48, .iconst 1, 1), (49, .aload_n 0, 1), (50, .getfield 48, 3), (53, .invokevirtual 308, 3), (56, .ishl, 1), (57, .if_icmp .ge 28, 3), (60, .aload_n 0, 1), (61, .iload 4, 2), (63, .invokevirtual 332, 3), (66, .iload_n 1, 1), (67, .if_icmp .ne 12, 3), (70, .iload_n 3, 1), (71, .aload_n 0, 1), (72, .iload 4, 2), (74, .invokevirtual 315, 3), (77, .iadd, 1), (78, .istore_n 3, 1), (79, .iinc 4 1, 3), (82, .goto (-36), 3), (85, .iload_n 3, 1), (86, .ireturn, 1)]
set_option maxRecDepth 100000 in
theorem dX11_odds : sx_dec prog_1_method_70_code iX11_odds = true := by decide +kernel
set_option maxRecDepth 100000 in
theorem vX11_odds : sx_mv mX11_odds 2 := ⟨⟨sx_a5 2 rfl rfl, sx_a1 1 rfl rfl, nh_X11, by decide +kernel, Nat.le_of_ble_eq_true rfl⟩, sx_a5 0 rfl rfl, sx_a5 1 rfl rfl⟩
abbrev mX11_fillOddsWorths : sxM := (⟨"StainStreet", "fillOddsWorths", "()V"⟩, prog_1_method_71_code, 2, none)
def iX11_fillOddsWorths : List (Nat × Instr × Nat) := [(0, .aload_n 0, 1), (1, .getfield 64, 3), (4, .aload_n 0, 1), (5, .getfield 60, 3), (8, .invokevirtual 293, 3), (11, .iconst 0, 1), (12, .istore_n 1, 1), (13, .iload_n 1, 1), (14, .aload_n 0, 1), (15, .getfield 48, 3), (18, .invokevirtual 308, 3), (21, .if_icmp .ge 76, 3), (24, .aload_n 0, 1), (25, .getfield 64, 3), (28, .getfield 177, 3), (31, .iload_n 1, 1), (32, .bipush 9, 2), (34, .aload_n 0, 1), (35, .getfield 60, 3), (38, .getfield 177, 3), (41, .iload_n 1, 1), (42, .iaload, 1), (43, .iconst 1, 1), (44, .iadd, 1), (45, .invokestatic 243, 3), (48, .iastore, 1), (49, .aload_n 0, 1), (50, .getfield 102, 3), (53, .iload_n 1, 1), (54, .aload_n 0, 1), (55, .getfield 60, 3), (58, .iload_n 1, 1), (59, .aload_n 0, 1), (60, .getfield 28, 3), (63, .invokevirtual 195, 3), (66, .invokevirtual 198, 3), (69, .iastore, 1), (70, .aload_n 0, 1), (71, .getfield 105, 3), (74, .iload_n 1, 1), (75, .aload_n 0, 1), (76, .getfield 64, 3), (79, .iload_n 1, 1), (80, .aload_n 0, 1), (81, .getfield 28, 3), (84, .invokevirtual 195, 3), (87, .invokevirtual 198, 3), (90, .iastore, 1), (91, .iinc 1 1, 3), (94, .goto (-81), 3), (97, .return_, 1)]
set_option maxRecDepth 100000 in
theorem dX11_fillOddsWorths : sx_dec prog_1_method_71_code iX11_fillOddsWorths = true := by decide +kernel
set_option maxRecDepth 100000 in
theorem vX11_fillOddsWorths : sx_mv mX11_fillOddsWorths 0 := ⟨⟨sx_a5 6 rfl rfl, sx_a1 1 rfl rfl, nh_X11, by decide +kernel, Nat.le_of_ble_eq_true rfl⟩, sx_a5 5 rfl rfl, sx_pv 36 rfl rfl⟩
abbrev mX11_fillParts : sxM := (⟨"StainStreet", "fillParts", "(I)V"⟩, prog_1_method_72_code, 6, none)
def iX11_fillParts : List (Nat × Instr × Nat) := [(0, .aload_n 0, 1), (1, .iconst 0, 1), (2, .ldc_w 393, 3), (5, .invokevirtual 311, 3), (8, .iconst 0, 1), (9, .istore_n 2, 1), (10, .iload_n 2, 1), (11, .aload_n 0, 1), (12, .getfield 48, 3), (15, .invokevirtual 308, 3), (18, .if_icmp .ge 65, 3), (21, .iconst 0, 1), (22, .istore_n 3, 1), (23, .iload_n 3, 1), (24, .iconst 1, 1), (25, .iload_n 2, 1), (26, .ishl, 1), (27, .if_icmp .ge 50, 3), (30, .aload_n 0, 1), (31, .iload_n 3, 1), (32, .invokevirtual 315, 3), (35, .istore 4, 2), (37, .iload 4, 2), (39, .i2l, 1), (40, .iload_n 1, 1), (41, .i2l, 1), (42, .lmul, 1), (43, .ldc2_w 394, 3), (46, .ldiv, 1), (47, .l2i, 1), (48, .istore 5, 2), (50, .aload_n 0, 1), (51, .iload_n 3, 1), (52, .iconst 1, 1), (53, .iload_n 2, 1), (54, .ishl, 1), (55, .ior, 1), (56, .iload 5, 2), (58, .invokevirtual 311, 3), (61, .aload_n 0, 1), (62, .iload_n 3, 1), (63, .iload 4, 2), (65, .iload 5, 2), (67, .isub, 1), (68, .invokevirtual 311, 3), (71, .iinc 3 1, 3), (74, .goto (-51), 3), (77, .iinc 2 1, 3), (80, .goto (-70), 3), (83, .return_, 1)]
set_option maxRecDepth 100000 in
theorem dX11_fillParts : sx_dec prog_1_method_72_code iX11_fillParts = true := by decide +kernel
set_option maxRecDepth 100000 in
theorem vX11_fillParts : sx_mv mX11_fillParts 1 := ⟨⟨sx_a5 10 rfl rfl, sx_a1 1 rfl rfl, nh_X11, by decide +kernel, Nat.le_of_ble_eq_true rfl⟩, sx_a5 9 rfl rfl, sx_pv 37 rfl rfl⟩
abbrev mX11_shares : sxM := (⟨"StainStreet", "shares", "(II)I"⟩, prog_1_method_73_code, 5, some FieldType.int)
def iX11_shares : List (Nat × Instr × Nat) := [(0, .aload_n 0, 1), (1, .iload_n 1, 1), (2, .invokevirtual 170, 3), (5, .ifCond .eq 14, 3), (8, .iload_n 2, 1), (9, .ifCond .lt 10, 3), (12, .iload_n 2, 1), (13, .sipush 999, 3), (16, .if_icmp .le 5, 3), (19, .iconst (-1), 1), (20, .ireturn, 1), (21, .iconst 0, 1), (22, .istore_n 3, 1), (23, .iconst 0, 1), (24, .istore 4, 2), (26, .iload 4, 2), (28, .aload_n 0, 1), (29, .getfield 48, 3), (32, .invokevirtual 308, 3), (35, .if_icmp .ge 28, 3), (38, .iload_n 3, 1), (39, .aload_n 0, 1), (40, .getfield 60, 3), (43, .iload 4, 2), (45, .aload_n 0, 1), (46, .getfield 28, 3), (49, .invokevirtual 195, 3), (52, .invokevirtual 198, 3), (55, .iadd, 1), (56, .istore_n 3, 1), (57, .iinc 4 1, 3), (60, .goto (-34), 3), (63, .iload_n 3, 1), (64, .ifCond .ne 7, 3), (67, .iconst 0, 1), (68, .goto 22, 3), (71, .iload_n 2, 1), (72, .aload_n 0, 1), (73, .getfield 60, 3), (76, .iload_n 1, 1), (77, .aload_n 0, 1), (78, .getfield 28, 3), (81, .invokevirtual 195, 3), (84, .invokevirtual 198, 3), (87, .imul, 1), (88, .iload_n 3, 1), (89, .idiv, 1), (90, .ireturn, 1)]
set_option maxRecDepth 100000 in
theorem dX11_shares : sx_dec prog_1_method_73_code iX11_shares = true := by decide +kernel
set_option maxRecDepth 100000 in
theorem vX11_shares : sx_mv mX11_shares 2 := ⟨⟨sx_a5 16 rfl rfl, sx_a1 1 rfl rfl, nh_X11, by decide +kernel, Nat.le_of_ble_eq_true rfl⟩, sx_a5 14 rfl rfl, sx_a5 15 rfl rfl⟩
abbrev mX11_most : sxM := (⟨"StainStreet", "most", "(I)I"⟩, prog_1_method_74_code, 2, some FieldType.int)
def iX11_most : List (Nat × Instr × Nat) := [(0, .aload_n 0, 1), (1, .invokevirtual 154, 3), (4, .ifCond .ne 5, 3), (7, .iconst (-1), 1), (8, .ireturn, 1), (9, .iload_n 1, 1), (10, .tableswitch 82 0 5 #[38, 43, 62, 67, 72, 77], 38), (48, .aload_n 0, 1), (49, .invokevirtual 396, 3), (52, .ireturn, 1), (53, .iconst 0, 1), (54, .aload_n 0, 1), (55, .getfield 60, 3), (58, .aload_n 0, 1), (59, .getfield 28, 3), (62, .invokevirtual 195, 3), (65, .invokevirtual 299, 3), (68, .invokestatic 256, 3), (71, .ireturn, 1), (72, .aload_n 0, 1), (73, .invokevirtual 399, 3), (76, .ireturn, 1), (77, .aload_n 0, 1), (78, .invokevirtual 402, 3), (81, .ireturn, 1), (82, .aload_n 0, 1), (83, .invokevirtual 405, 3), (86, .ireturn, 1), (87, .aload_n 0, 1), (88, .invokevirtual 408, 3), (91, .ireturn, 1), (92, .iconst (-1), 1), (93, .ireturn, 1)]
set_option maxRecDepth 100000 in
theorem dX11_most : sx_dec prog_1_method_74_code iX11_most = true := by decide +kernel
set_option maxRecDepth 100000 in
theorem vX11_most : sx_mv mX11_most 1 := ⟨⟨sx_a5 20 rfl rfl, sx_a1 1 rfl rfl, nh_X11, by decide +kernel, Nat.le_of_ble_eq_true rfl⟩, sx_a5 18 rfl rfl, sx_a5 19 rfl rfl⟩
abbrev mX11_calmest : sxM := (⟨"StainStreet", "calmest", "()I"⟩, prog_1_method_75_code, 3, some FieldType.int)
def iX11_calmest : List (Nat × Instr × Nat) := [(0, .iconst 0, 1), (1, .istore_n 1, 1), (2, .iconst 1, 1), (3, .istore_n 2, 1), (4, .iload_n 2, 1), (5, .aload_n 0, 1), (6, .getfield 48, 3), (9, .invokevirtual 308, 3), (12, .if_icmp .ge 52, 3), (15, .aload_n 0, 1), (16, .getfield 60, 3), (19, .getfield 177, 3), (22, .iload_n 2, 1), (23, .iaload, 1), (24, .aload_n 0, 1), (25, .getfield 60, 3), (28, .getfield 189, 3), (31, .iload_n 2, 1), (32, .iaload, 1), (33, .iadd, 1), (34, .aload_n 0, 1), (35, .getfield 60, 3), (38, .getfield 177, 3), (41, .iload_n 1, 1), (42, .iaload, 1), (43, .aload_n 0, 1), (44, .getfield 60, 3), (47, .getfield 189, 3), (50, .iload_n 1, 1), (51, .iaload, 1), (52, .iadd, 1), (53, .if_icmp .ge 5, 3), (56, .iload_n 2, 1), (57, .istore_n 1, 1), (58, .iinc 2 1, 3), (61, .goto (-57), 3), (64, .iload_n 1, 1), (65, .ireturn, 1)]
set_option maxRecDepth 100000 in
theorem dX11_calmest : sx_dec prog_1_method_75_code iX11_calmest = true := by decide +kernel
set_option maxRecDepth 100000 in
theorem vX11_calmest : sx_mv mX11_calmest 0 := ⟨⟨sx_a5 24 rfl rfl, sx_a1 1 rfl rfl, nh_X11, by decide +kernel, Nat.le_of_ble_eq_true rfl⟩, sx_a5 23 rfl rfl, sx_pv 38 rfl rfl⟩
abbrev mX11_whitest : sxM := (⟨"StainStreet", "whitest", "()I"⟩, prog_1_method_76_code, 3, some FieldType.int)
def iX11_whitest : List (Nat × Instr × Nat) := [(0, .iconst 0, 1), (1, .istore_n 1, 1), (2, .iconst 1, 1), (3, .istore_n 2, 1), (4, .iload_n 2, 1), (5, .aload_n 0, 1), (6, .getfield 48, 3), (9, .invokevirtual 308, 3), (12, .if_icmp .ge 32, 3), (15, .aload_n 0, 1), (16, .getfield 60, 3), (19, .getfield 180, 3), (22, .iload_n 2, 1), (23, .iaload, 1), (24, .aload_n 0, 1), (25, .getfield 60, 3), (28, .getfield 180, 3), (31, .iload_n 1, 1), (32, .iaload, 1), (33, .if_icmp .le 5, 3), (36, .iload_n 2, 1), (37, .istore_n 1, 1), (38, .iinc 2 1, 3), (41, .goto (-37), 3), (44, .iload_n 1, 1), (45, .ireturn, 1)]
set_option maxRecDepth 100000 in
theorem dX11_whitest : sx_dec prog_1_method_76_code iX11_whitest = true := by decide +kernel
set_option maxRecDepth 100000 in
theorem vX11_whitest : sx_mv mX11_whitest 0 := ⟨⟨sx_a5 28 rfl rfl, sx_a1 1 rfl rfl, nh_X11, by decide +kernel, Nat.le_of_ble_eq_true rfl⟩, sx_a5 27 rfl rfl, sx_pv 39 rfl rfl⟩
abbrev mX11_backs : sxM := (⟨"StainStreet", "backs", "()I"⟩, prog_1_method_77_code, 5, some FieldType.int)
def iX11_backs : List (Nat × Instr × Nat) := [(0, .aload_n 0, 1), (1, .invokevirtual 214, 3), (4, .iconst 1, 1), (5, .isub, 1), (6, .istore_n 1, 1), (7, .iconst 0, 1), (8, .istore_n 2, 1), (9, .iconst 0, 1), (10, .istore_n 3, 1), (11, .iload_n 3, 1), (12, .iload_n 1, 1), (13, .if_icmp .ge 51, 3), (16, .aload_n 0, 1), (17, .getfield 60, 3), (20, .getfield 218, 3), (23, .iconst 1, 1), (24, .isub, 1), (25, .iload_n 3, 1), (26, .isub, 1), (27, .istore 4, 2), (29, .aload_n 0, 1), (30, .getfield 70, 3), (33, .iload 4, 2), (35, .invokevirtual 224, 3), (38, .aload_n 0, 1), (39, .getfield 70, 3), (42, .iload 4, 2), (44, .iconst 1, 1), (45, .isub, 1), (46, .invokevirtual 224, 3), (49, .if_icmp .eq 6, 3), (52, .goto 12, 3), (55, .iinc 2 1, 3), (58, .iinc 3 1, 3), (61, .goto (-50), 3), (64, .iload_n 2, 1), (65, .ireturn, 1)]
set_option maxRecDepth 100000 in
theorem dX11_backs : sx_dec prog_1_method_77_code iX11_backs = true := by decide +kernel
set_option maxRecDepth 100000 in
theorem vX11_backs : sx_mv mX11_backs 0 := ⟨⟨sx_a5 32 rfl rfl, sx_a1 1 rfl rfl, nh_X11, by decide +kernel, Nat.le_of_ble_eq_true rfl⟩, sx_a5 31 rfl rfl, sx_pv 40 rfl rfl⟩
abbrev mX11_crowd : sxM := (⟨"StainStreet", "crowd", "()I"⟩, prog_1_method_78_code, 3, some FieldType.int)
def iX11_crowd : List (Nat × Instr × Nat) := [(0, .iconst 0, 1), (1, .istore_n 1, 1), (2, .iconst 0, 1), (3, .istore_n 2, 1), (4, .iload_n 2, 1), (5, .aload_n 0, 1), (6, .getfield 48, 3), (9, .invokevirtual 308, 3), (12, .if_icmp .ge 21, 3), (15, .iload_n 1, 1), (16, .aload_n 0, 1), (17, .getfield 60, 3), (20, .getfield 186, 3), (23, .iload_n 2, 1), (24, .iaload, 1), (25, .iadd, 1), (26, .istore_n 1, 1), (27, .iinc 2 1, 3), (30, .goto (-26), 3), (33, .iload_n 1, 1), (34, .ireturn, 1)]
set_option maxRecDepth 100000 in
theorem dX11_crowd : sx_dec prog_1_method_78_code iX11_crowd = true := by decide +kernel
set_option maxRecDepth 100000 in
theorem vX11_crowd : sx_mv mX11_crowd 0 := ⟨⟨sx_a5 36 rfl rfl, sx_a1 1 rfl rfl, nh_X11, by decide +kernel, Nat.le_of_ble_eq_true rfl⟩, sx_a5 35 rfl rfl, sx_pv 41 rfl rfl⟩
abbrev mX11_lonely : sxM := (⟨"StainStreet", "lonely", "()I"⟩, prog_1_method_79_code, 3, some FieldType.int)
def iX11_lonely : List (Nat × Instr × Nat) := [(0, .iconst 0, 1), (1, .istore_n 1, 1), (2, .iconst 0, 1), (3, .istore_n 2, 1), (4, .iload_n 2, 1), (5, .aload_n 0, 1), (6, .getfield 48, 3), (9, .invokevirtual 308, 3), (12, .if_icmp .ge 27, 3), (15, .aload_n 0, 1), (16, .getfield 60, 3), (19, .getfield 186, 3), (22, .iload_n 2, 1), (23, .iaload, 1), (24, .ifCond .ne 9, 3), (27, .iload_n 1, 1), (28, .iconst 1, 1), (29, .iload_n 2, 1), (30, .ishl, 1), (31, .ior, 1), (32, .istore_n 1, 1), (33, .iinc 2 1, 3), (36, .goto (-32), 3), (39, .iload_n 1, 1), (40, .ireturn, 1)]
set_option maxRecDepth 100000 in
theorem dX11_lonely : sx_dec prog_1_method_79_code iX11_lonely = true := by decide +kernel
set_option maxRecDepth 100000 in
theorem vX11_lonely : sx_mv mX11_lonely 0 := ⟨⟨sx_a5 40 rfl rfl, sx_a1 1 rfl rfl, nh_X11, by decide +kernel, Nat.le_of_ble_eq_true rfl⟩, sx_a5 39 rfl rfl, sx_pv 42 rfl rfl⟩
abbrev mX11_used : sxM := (⟨"StainStreet", "used", "(I)I"⟩, prog_1_method_80_code, 2, some FieldType.int)
def iX11_used : List (Nat × Instr × Nat) := [(0, .aload_n 0, 1), (1, .iload_n 1, 1), (2, .invokevirtual 170, 3), (5, .ifCond .eq 15, 3), (8, .aload_n 0, 1), (9, .getfield 60, 3), (12, .getfield 177, 3), (15, .iload_n 1, 1), (16, .iaload, 1), (17, .goto 4, 3), (20, .iconst (-1), 1), (21, .ireturn, 1)]
set_option maxRecDepth 100000 in
theorem dX11_used : sx_dec prog_1_method_80_code iX11_used = true := by decide +kernel
set_option maxRecDepth 100000 in
theorem vX11_used : sx_mv mX11_used 1 := ⟨⟨sx_a5 44 rfl rfl, sx_a1 1 rfl rfl, nh_X11, by decide +kernel, Nat.le_of_ble_eq_true rfl⟩, sx_a5 42 rfl rfl, sx_a5 43 rfl rfl⟩
abbrev mX11_near : sxM := (⟨"StainStreet", "near", "(I)I"⟩, prog_1_method_81_code, 4, some FieldType.int)
def iX11_near : List (Nat × Instr × Nat) := [(0, .aload_n 0, 1), (1, .iload_n 1, 1), (2, .invokevirtual 170, 3), (5, .ifCond .ne 5, 3), (8, .iconst (-1), 1), (9, .ireturn, 1), (10, .aload_n 0, 1), (11, .iload_n 1, 1), (12, .iconst 1, 1), (13, .iadd, 1), (14, .invokevirtual 170, 3), (17, .ifCond .eq 11, 3), (20, .iconst 1, 1), (21, .iload_n 1, 1), (22, .iconst 1, 1), (23, .iadd, 1), (24, .ishl, 1), (25, .goto 4, 3), (28, .iconst 0, 1), (29, .istore_n 2, 1), (30, .aload_n 0, 1), (31, .iload_n 1, 1), (32, .iconst 1, 1), (33, .isub, 1), (34, .invokevirtual 170, 3), (37, .ifCond .eq 11, 3), (40, .iconst 1, 1), (41, .iload_n 1, 1), (42, .iconst 1, 1), (43, .isub, 1), (44, .ishl, 1), (45, .goto 4, 3), (48, .iconst 0, 1), (49, .istore_n 3, 1), (50, .iload_n 2, 1), (51, .iload_n 3, 1), (52, .ior, 1), (53, .ireturn, 1)]
set_option maxRecDepth 100000 in
theorem dX11_near : sx_dec prog_1_method_81_code iX11_near = true := by decide +kernel
set_option maxRecDepth 100000 in
theorem vX11_near : sx_mv mX11_near 1 := ⟨⟨sx_a5 48 rfl rfl, sx_a1 1 rfl rfl, nh_X11, by decide +kernel, Nat.le_of_ble_eq_true rfl⟩, sx_a5 46 rfl rfl, sx_a5 47 rfl rfl⟩
set_option maxRecDepth 100000 in
theorem lX11_3 : sx_ml "StainStreet" 3 ⟨"java/lang/Object", "<init>", "()V"⟩ := Or.inl (sx_a1 30 rfl rfl)
set_option maxRecDepth 100000 in
theorem nX11_9 : sx_w (.classLink "StainStreet" 9 "StainStreet$Tape") := sx_a1 33 rfl rfl
set_option maxRecDepth 100000 in
theorem lX11_11 : sx_ml "StainStreet" 11 ⟨"StainStreet$Tape", "<init>", "()V"⟩ := Or.inr ⟨"StainStreet", sx_a1 35 rfl rfl⟩
set_option maxRecDepth 100000 in
theorem fX11_12 : sx_fl "StainStreet" 12 11 0 := ⟨⟨by decide +kernel, by decide +kernel⟩, Or.inl (sx_a2 58 rfl rfl)⟩
set_option maxRecDepth 100000 in
theorem nX11_16 : sx_w (.classLink "StainStreet" 16 "StainStreet$StreetReader") := sx_a1 58 rfl rfl
set_option maxRecDepth 100000 in
theorem lX11_18 : sx_ml "StainStreet" 18 ⟨"StainStreet$StreetReader", "<init>", "(LStainStreet$Tape;)V"⟩ := Or.inl (sx_a1 60 rfl rfl)
set_option maxRecDepth 100000 in
theorem fX11_21 : sx_fl "StainStreet" 21 11 1 := ⟨⟨by decide +kernel, by decide +kernel⟩, Or.inl (sx_a2 59 rfl rfl)⟩
set_option maxRecDepth 100000 in
theorem nX11_25 : sx_w (.classLink "StainStreet" 25 "StainStreet$LawBook") := sx_a1 68 rfl rfl
set_option maxRecDepth 100000 in
theorem lX11_27 : sx_ml "StainStreet" 27 ⟨"StainStreet$LawBook", "<init>", "()V"⟩ := Or.inl (sx_a1 70 rfl rfl)
set_option maxRecDepth 100000 in
theorem fX11_28 : sx_fl "StainStreet" 28 11 2 := ⟨⟨by decide +kernel, by decide +kernel⟩, Or.inl (sx_a2 60 rfl rfl)⟩
set_option maxRecDepth 100000 in
theorem nX11_32 : sx_w (.classLink "StainStreet" 32 "StainStreet$LawReader") := sx_a1 115 rfl rfl
set_option maxRecDepth 100000 in
theorem lX11_34 : sx_ml "StainStreet" 34 ⟨"StainStreet$LawBook", "next", "()LStainStreet$Law;"⟩ := Or.inl (sx_a1 117 rfl rfl)
set_option maxRecDepth 100000 in
theorem lX11_38 : sx_ml "StainStreet" 38 ⟨"StainStreet$LawReader", "<init>", "(LStainStreet$Tape;LStainStreet$Law;)V"⟩ := Or.inl (sx_a1 121 rfl rfl)
set_option maxRecDepth 100000 in
theorem fX11_41 : sx_fl "StainStreet" 41 11 3 := ⟨⟨by decide +kernel, by decide +kernel⟩, Or.inl (sx_a2 61 rfl rfl)⟩
set_option maxRecDepth 100000 in
theorem nX11_45 : sx_w (.classLink "StainStreet" 45 "StainStreet$Street") := sx_a1 132 rfl rfl
set_option maxRecDepth 100000 in
theorem lX11_47 : sx_ml "StainStreet" 47 ⟨"StainStreet$Street", "<init>", "()V"⟩ := Or.inr ⟨"StainStreet", sx_a1 134 rfl rfl⟩
set_option maxRecDepth 100000 in
theorem fX11_48 : sx_fl "StainStreet" 48 11 4 := ⟨⟨by decide +kernel, by decide +kernel⟩, Or.inl (sx_a2 62 rfl rfl)⟩
set_option maxRecDepth 100000 in
theorem fX11_52 : sx_fl "StainStreet" 52 11 5 := ⟨⟨by decide +kernel, by decide +kernel⟩, Or.inl (sx_a2 63 rfl rfl)⟩
set_option maxRecDepth 100000 in
theorem nX11_55 : sx_w (.classLink "StainStreet" 55 "StainStreet$State") := sx_a1 156 rfl rfl
set_option maxRecDepth 100000 in
theorem lX11_57 : sx_ml "StainStreet" 57 ⟨"StainStreet$State", "<init>", "(LStainStreet$Street;)V"⟩ := Or.inl (sx_a1 158 rfl rfl)
set_option maxRecDepth 100000 in
theorem fX11_60 : sx_fl "StainStreet" 60 11 6 := ⟨⟨by decide +kernel, by decide +kernel⟩, Or.inl (sx_a2 64 rfl rfl)⟩
set_option maxRecDepth 100000 in
theorem fX11_64 : sx_fl "StainStreet" 64 11 7 := ⟨⟨by decide +kernel, by decide +kernel⟩, Or.inl (sx_a2 65 rfl rfl)⟩
set_option maxRecDepth 100000 in
theorem nX11_67 : sx_w (.classLink "StainStreet" 67 "StainStreet$Log") := sx_a1 217 rfl rfl
set_option maxRecDepth 100000 in
theorem lX11_69 : sx_ml "StainStreet" 69 ⟨"StainStreet$Log", "<init>", "()V"⟩ := Or.inr ⟨"StainStreet", sx_a1 219 rfl rfl⟩
set_option maxRecDepth 100000 in
theorem fX11_70 : sx_fl "StainStreet" 70 11 8 := ⟨⟨by decide +kernel, by decide +kernel⟩, Or.inl (sx_a2 66 rfl rfl)⟩
set_option maxRecDepth 100000 in
theorem nX11_74 : sx_w (.classLink "StainStreet" 74 "StainStreet$Past") := sx_a1 233 rfl rfl
set_option maxRecDepth 100000 in
theorem lX11_76 : sx_ml "StainStreet" 76 ⟨"StainStreet$Past", "<init>", "(LStainStreet$Street;)V"⟩ := Or.inl (sx_a1 235 rfl rfl)
set_option maxRecDepth 100000 in
theorem fX11_77 : sx_fl "StainStreet" 77 11 9 := ⟨⟨by decide +kernel, by decide +kernel⟩, Or.inl (sx_a2 67 rfl rfl)⟩
set_option maxRecDepth 100000 in
theorem nX11_81 : sx_w (.classLink "StainStreet" 81 "StainStreet$Image") := sx_a2 13 rfl rfl
set_option maxRecDepth 100000 in
theorem lX11_83 : sx_ml "StainStreet" 83 ⟨"StainStreet$Image", "<init>", "(LStainStreet$Street;)V"⟩ := Or.inl (sx_a2 15 rfl rfl)
set_option maxRecDepth 100000 in
theorem fX11_84 : sx_fl "StainStreet" 84 11 10 := ⟨⟨by decide +kernel, by decide +kernel⟩, Or.inl (sx_a2 68 rfl rfl)⟩
set_option maxRecDepth 100000 in
theorem nX11_88 : sx_w (.classLink "StainStreet" 88 "StainStreet$Notes") := sx_a2 34 rfl rfl
set_option maxRecDepth 100000 in
theorem lX11_90 : sx_ml "StainStreet" 90 ⟨"StainStreet$Notes", "<init>", "()V"⟩ := Or.inr ⟨"StainStreet", sx_a2 36 rfl rfl⟩
set_option maxRecDepth 100000 in
theorem fX11_91 : sx_fl "StainStreet" 91 11 11 := ⟨⟨by decide +kernel, by decide +kernel⟩, Or.inl (sx_a2 69 rfl rfl)⟩
set_option maxRecDepth 100000 in
theorem fX11_95 : sx_fl "StainStreet" 95 11 12 := ⟨⟨by decide +kernel, by decide +kernel⟩, Or.inl (sx_a2 70 rfl rfl)⟩
set_option maxRecDepth 100000 in
theorem fX11_98 : sx_fl "StainStreet" 98 11 13 := ⟨⟨by decide +kernel, by decide +kernel⟩, Or.inl (sx_a2 71 rfl rfl)⟩
set_option maxRecDepth 100000 in
theorem fX11_102 : sx_fl "StainStreet" 102 11 16 := ⟨⟨by decide +kernel, by decide +kernel⟩, Or.inl (sx_a2 74 rfl rfl)⟩
set_option maxRecDepth 100000 in
theorem fX11_105 : sx_fl "StainStreet" 105 11 17 := ⟨⟨by decide +kernel, by decide +kernel⟩, Or.inl (sx_a2 75 rfl rfl)⟩
set_option maxRecDepth 100000 in
theorem fX11_108 : sx_fl "StainStreet" 108 11 18 := ⟨⟨by decide +kernel, by decide +kernel⟩, Or.inl (sx_a2 76 rfl rfl)⟩
set_option maxRecDepth 100000 in
theorem lX11_111 : sx_ml "StainStreet" 111 ⟨"StainStreet$Tape", "signsIn", "(I)I"⟩ := Or.inl (sx_a2 120 rfl rfl)
set_option maxRecDepth 100000 in
theorem fX11_115 : sx_fl "StainStreet" 115 10 1 := ⟨⟨by decide +kernel, by decide +kernel⟩, Or.inr ⟨"StainStreet", sx_a1 40 rfl rfl⟩⟩
set_option maxRecDepth 100000 in
theorem lX11_119 : sx_ml "StainStreet" 119 ⟨"StainStreet$Tape", "add", "(I)V"⟩ := Or.inl (sx_a2 123 rfl rfl)
set_option maxRecDepth 100000 in
theorem lX11_123 : sx_ml "StainStreet" 123 ⟨"StainStreet$StreetReader", "read", "(LStainStreet$Street;)I"⟩ := Or.inl (sx_a2 135 rfl rfl)
set_option maxRecDepth 100000 in
theorem lX11_127 : sx_ml "StainStreet" 127 ⟨"StainStreet$LawReader", "read", "(LStainStreet$Law;)I"⟩ := Or.inl (sx_a3 3 rfl rfl)
set_option maxRecDepth 100000 in
theorem lX11_130 : sx_ml "StainStreet" 130 ⟨"StainStreet", "beginStreet", "()I"⟩ := Or.inl (sx_a3 67 rfl rfl)
set_option maxRecDepth 100000 in
theorem fX11_134 : sx_fl "StainStreet" 134 2 1 := ⟨⟨by decide +kernel, by decide +kernel⟩, Or.inr ⟨"StainStreet", sx_a1 105 rfl rfl⟩⟩
set_option maxRecDepth 100000 in
theorem lX11_137 : sx_ml "StainStreet" 137 ⟨"StainStreet$LawBook", "take", "()I"⟩ := Or.inl (sx_a3 89 rfl rfl)
set_option maxRecDepth 100000 in
theorem lX11_140 : sx_ml "StainStreet" 140 ⟨"StainStreet$State", "begin", "(LStainStreet$Street;)V"⟩ := Or.inl (sx_a3 71 rfl rfl)
set_option maxRecDepth 100000 in
theorem lX11_143 : sx_ml "StainStreet" 143 ⟨"StainStreet$Past", "forget", "()V"⟩ := Or.inl (sx_a3 85 rfl rfl)
set_option maxRecDepth 100000 in
theorem fX11_146 : sx_fl "StainStreet" 146 0 2 := ⟨⟨by decide +kernel, by decide +kernel⟩, Or.inr ⟨"StainStreet", sx_a2 26 rfl rfl⟩⟩
set_option maxRecDepth 100000 in
theorem fX11_150 : sx_fl "StainStreet" 150 5 3 := ⟨⟨by decide +kernel, by decide +kernel⟩, Or.inr ⟨"StainStreet", sx_a2 47 rfl rfl⟩⟩
set_option maxRecDepth 100000 in
theorem fX11_151 : sx_fl "StainStreet" 151 8 0 := ⟨⟨by decide +kernel, by decide +kernel⟩, Or.inr ⟨"StainStreet", sx_a1 140 rfl rfl⟩⟩
set_option maxRecDepth 100000 in
theorem lX11_154 : sx_ml "StainStreet" 154 ⟨"StainStreet", "isStreet", "()Z"⟩ := Or.inl (sx_a3 97 rfl rfl)
set_option maxRecDepth 100000 in
theorem lX11_158 : sx_ml "StainStreet" 158 ⟨"StainStreet$Street", "daysBetween", "()I"⟩ := Or.inl (sx_a3 101 rfl rfl)
set_option maxRecDepth 100000 in
theorem fX11_161 : sx_fl "StainStreet" 161 7 9 := ⟨⟨by decide +kernel, by decide +kernel⟩, Or.inr ⟨"StainStreet", sx_a1 180 rfl rfl⟩⟩
set_option maxRecDepth 100000 in
theorem fX11_164 : sx_fl "StainStreet" 164 7 10 := ⟨⟨by decide +kernel, by decide +kernel⟩, Or.inr ⟨"StainStreet", sx_a1 183 rfl rfl⟩⟩
set_option maxRecDepth 100000 in
theorem fX11_167 : sx_fl "StainStreet" 167 7 8 := ⟨⟨by decide +kernel, by decide +kernel⟩, Or.inr ⟨"StainStreet", sx_a1 177 rfl rfl⟩⟩
set_option maxRecDepth 100000 in
theorem lX11_170 : sx_ml "StainStreet" 170 ⟨"StainStreet", "isHouse", "(I)Z"⟩ := Or.inl (sx_a3 161 rfl rfl)
set_option maxRecDepth 100000 in
theorem nX11_174 : sx_w (.classLink "StainStreet" 174 "java/util/NoSuchElementException") := sx_a5 57 rfl rfl
set_option maxRecDepth 100000 in
theorem lX11_176 : sx_ml "StainStreet" 176 ⟨"java/util/NoSuchElementException", "<init>", "()V"⟩ := Or.inl (sx_a5 96 rfl rfl)
set_option maxRecDepth 100000 in
theorem fX11_177 : sx_fl "StainStreet" 177 7 2 := ⟨⟨by decide +kernel, by decide +kernel⟩, Or.inr ⟨"StainStreet", sx_a1 165 rfl rfl⟩⟩
set_option maxRecDepth 100000 in
theorem fX11_180 : sx_fl "StainStreet" 180 7 4 := ⟨⟨by decide +kernel, by decide +kernel⟩, Or.inr ⟨"StainStreet", sx_a1 169 rfl rfl⟩⟩
set_option maxRecDepth 100000 in
theorem fX11_183 : sx_fl "StainStreet" 183 7 5 := ⟨⟨by decide +kernel, by decide +kernel⟩, Or.inr ⟨"StainStreet", sx_a1 171 rfl rfl⟩⟩
set_option maxRecDepth 100000 in
theorem fX11_186 : sx_fl "StainStreet" 186 7 6 := ⟨⟨by decide +kernel, by decide +kernel⟩, Or.inr ⟨"StainStreet", sx_a1 173 rfl rfl⟩⟩
set_option maxRecDepth 100000 in
theorem fX11_189 : sx_fl "StainStreet" 189 7 3 := ⟨⟨by decide +kernel, by decide +kernel⟩, Or.inr ⟨"StainStreet", sx_a1 167 rfl rfl⟩⟩
set_option maxRecDepth 100000 in
theorem lX11_192 : sx_ml "StainStreet" 192 ⟨"StainStreet$State", "hasPiano", "(I)Z"⟩ := Or.inl (sx_a3 196 rfl rfl)
set_option maxRecDepth 100000 in
theorem lX11_195 : sx_ml "StainStreet" 195 ⟨"StainStreet$LawBook", "holding", "()LStainStreet$Law;"⟩ := Or.inl (sx_a3 216 rfl rfl)
set_option maxRecDepth 100000 in
theorem lX11_198 : sx_ml "StainStreet" 198 ⟨"StainStreet$State", "minded", "(ILStainStreet$Law;)I"⟩ := Or.inl (sx_a4 108 rfl rfl)
set_option maxRecDepth 100000 in
theorem lX11_202 : sx_ml "StainStreet" 202 ⟨"StainStreet", "isForm", "(I)Z"⟩ := Or.inl (sx_a3 109 rfl rfl)
set_option maxRecDepth 100000 in
theorem lX11_205 : sx_ml "StainStreet" 205 ⟨"StainStreet$Street", "sizeOf", "(I)I"⟩ := Or.inl (sx_a3 113 rfl rfl)
set_option maxRecDepth 100000 in
theorem lX11_208 : sx_ml "StainStreet" 208 ⟨"StainStreet$Street", "following", "(I)I"⟩ := Or.inl (sx_a3 117 rfl rfl)
set_option maxRecDepth 100000 in
theorem fX11_211 : sx_fl "StainStreet" 211 2 2 := ⟨⟨by decide +kernel, by decide +kernel⟩, Or.inr ⟨"StainStreet", sx_a1 107 rfl rfl⟩⟩
set_option maxRecDepth 100000 in
theorem lX11_214 : sx_ml "StainStreet" 214 ⟨"StainStreet", "shownLog", "()I"⟩ := Or.inl (sx_a3 130 rfl rfl)
set_option maxRecDepth 100000 in
theorem kX11_217 : sx_w (.constant "StainStreet" 217 (-1000000 : Int32)) := sx_a3 137 rfl rfl
set_option maxRecDepth 100000 in
theorem fX11_218 : sx_fl "StainStreet" 218 7 12 := ⟨⟨by decide +kernel, by decide +kernel⟩, Or.inr ⟨"StainStreet", sx_a1 189 rfl rfl⟩⟩
set_option maxRecDepth 100000 in
theorem lX11_221 : sx_ml "StainStreet" 221 ⟨"StainStreet$Log", "dayAt", "(I)I"⟩ := Or.inl (sx_a3 138 rfl rfl)
set_option maxRecDepth 100000 in
theorem lX11_224 : sx_ml "StainStreet" 224 ⟨"StainStreet$Log", "placeAt", "(I)I"⟩ := Or.inl (sx_a3 145 rfl rfl)
set_option maxRecDepth 100000 in
theorem lX11_227 : sx_ml "StainStreet" 227 ⟨"StainStreet$Log", "formAt", "(I)I"⟩ := Or.inl (sx_a3 149 rfl rfl)
set_option maxRecDepth 100000 in
theorem fX11_230 : sx_fl "StainStreet" 230 8 1 := ⟨⟨by decide +kernel, by decide +kernel⟩, Or.inr ⟨"StainStreet", sx_a1 143 rfl rfl⟩⟩
set_option maxRecDepth 100000 in
theorem fX11_233 : sx_fl "StainStreet" 233 7 11 := ⟨⟨by decide +kernel, by decide +kernel⟩, Or.inr ⟨"StainStreet", sx_a1 186 rfl rfl⟩⟩
set_option maxRecDepth 100000 in
theorem fX11_236 : sx_fl "StainStreet" 236 11 14 := ⟨⟨by decide +kernel, by decide +kernel⟩, Or.inl (sx_a2 72 rfl rfl)⟩
set_option maxRecDepth 100000 in
theorem fX11_239 : sx_fl "StainStreet" 239 7 7 := ⟨⟨by decide +kernel, by decide +kernel⟩, Or.inr ⟨"StainStreet", sx_a1 175 rfl rfl⟩⟩
set_option maxRecDepth 100000 in
theorem fX11_242 : sx_fl "StainStreet" 242 6 2 := ⟨⟨by decide +kernel, by decide +kernel⟩, Or.inr ⟨"StainStreet", sx_a2 5 rfl rfl⟩⟩
set_option maxRecDepth 100000 in
theorem lX11_243 : sx_ml "StainStreet" 243 ⟨"java/lang/Math", "min", "(II)I"⟩ := Or.inl (sx_a3 134 rfl rfl)
set_option maxRecDepth 100000 in
theorem lX11_249 : sx_ml "StainStreet" 249 ⟨"StainStreet", "refused", "(II)I"⟩ := Or.inl (sx_a3 165 rfl rfl)
set_option maxRecDepth 100000 in
theorem lX11_252 : sx_ml "StainStreet" 252 ⟨"StainStreet$Past", "keep", "(LStainStreet$State;)V"⟩ := Or.inl (sx_a3 169 rfl rfl)
set_option maxRecDepth 100000 in
theorem lX11_256 : sx_ml "StainStreet" 256 ⟨"java/lang/Math", "max", "(II)I"⟩ := Or.inl (sx_a3 185 rfl rfl)
set_option maxRecDepth 100000 in
theorem lX11_259 : sx_ml "StainStreet" 259 ⟨"StainStreet", "liveDay", "()V"⟩ := Or.inl (sx_a3 212 rfl rfl)
set_option maxRecDepth 100000 in
theorem lX11_262 : sx_ml "StainStreet" 262 ⟨"StainStreet$State", "passDay", "(LStainStreet$Law;)Z"⟩ := Or.inl (sx_a3 220 rfl rfl)
set_option maxRecDepth 100000 in
theorem lX11_266 : sx_ml "StainStreet" 266 ⟨"StainStreet$Log", "write", "(LStainStreet$State;)V"⟩ := Or.inl (sx_a4 22 rfl rfl)
set_option maxRecDepth 100000 in
theorem fX11_269 : sx_fl "StainStreet" 269 11 15 := ⟨⟨by decide +kernel, by decide +kernel⟩, Or.inl (sx_a2 73 rfl rfl)⟩
set_option maxRecDepth 100000 in
theorem lX11_273 : sx_ml "StainStreet" 273 ⟨"StainStreet", "stir", "()V"⟩ := Or.inl (sx_a4 34 rfl rfl)
set_option maxRecDepth 100000 in
theorem lX11_276 : sx_ml "StainStreet" 276 ⟨"StainStreet", "draw", "(I)I"⟩ := Or.inl (sx_a4 38 rfl rfl)
set_option maxRecDepth 100000 in
theorem kX11_279 : sx_w (.constantLong "StainStreet" 279 (6364136223846793005 : Int64)) := sx_a4 42 rfl rfl
set_option maxRecDepth 100000 in
theorem kX11_281 : sx_w (.constantLong "StainStreet" 281 (1442695040888963407 : Int64)) := sx_a4 43 rfl rfl
set_option maxRecDepth 100000 in
theorem lX11_283 : sx_ml "StainStreet" 283 ⟨"StainStreet$Past", "takeBack", "(LStainStreet$State;)Z"⟩ := Or.inl (sx_a4 48 rfl rfl)
set_option maxRecDepth 100000 in
theorem lX11_287 : sx_ml "StainStreet" 287 ⟨"StainStreet$Image", "keep", "(LStainStreet$State;LStainStreet$Log;)V"⟩ := Or.inl (sx_a4 56 rfl rfl)
set_option maxRecDepth 100000 in
theorem lX11_290 : sx_ml "StainStreet" 290 ⟨"StainStreet$Image", "bringBack", "(LStainStreet$State;LStainStreet$Log;)V"⟩ := Or.inl (sx_a4 70 rfl rfl)
set_option maxRecDepth 100000 in
theorem lX11_293 : sx_ml "StainStreet" 293 ⟨"StainStreet$State", "copyFrom", "(LStainStreet$State;)V"⟩ := Or.inl (sx_a4 78 rfl rfl)
set_option maxRecDepth 100000 in
theorem lX11_296 : sx_ml "StainStreet" 296 ⟨"StainStreet", "bitOf", "(I)I"⟩ := Or.inl (sx_a4 87 rfl rfl)
set_option maxRecDepth 100000 in
theorem lX11_299 : sx_ml "StainStreet" 299 ⟨"StainStreet$State", "goal", "(LStainStreet$Law;)I"⟩ := Or.inl (sx_a4 98 rfl rfl)
set_option maxRecDepth 100000 in
theorem lX11_302 : sx_ml "StainStreet" 302 ⟨"StainStreet", "fillShamTable", "()V"⟩ := Or.inl (sx_a4 103 rfl rfl)
set_option maxRecDepth 100000 in
theorem lX11_305 : sx_ml "StainStreet" 305 ⟨"StainStreet", "shammingFor", "(II)I"⟩ := Or.inl (sx_a4 113 rfl rfl)
set_option maxRecDepth 100000 in
theorem lX11_308 : sx_ml "StainStreet" 308 ⟨"StainStreet$Street", "houseCount", "()I"⟩ := Or.inl (sx_a4 107 rfl rfl)
set_option maxRecDepth 100000 in
theorem lX11_311 : sx_ml "StainStreet" 311 ⟨"StainStreet", "enter", "(II)V"⟩ := Or.inl (sx_a4 109 rfl rfl)
set_option maxRecDepth 100000 in
theorem lX11_315 : sx_ml "StainStreet" 315 ⟨"StainStreet", "entry", "(I)I"⟩ := Or.inl (sx_a4 117 rfl rfl)
set_option maxRecDepth 100000 in
theorem lX11_318 : sx_ml "StainStreet" 318 ⟨"java/lang/Math", "abs", "(I)I"⟩ := Or.inl (sx_a4 121 rfl rfl)
set_option maxRecDepth 100000 in
theorem lX11_321 : sx_ml "StainStreet" 321 ⟨"StainStreet", "stepsToAtMost", "(II)I"⟩ := Or.inl (sx_a4 122 rfl rfl)
set_option maxRecDepth 100000 in
theorem lX11_324 : sx_ml "StainStreet" 324 ⟨"StainStreet", "fillTreatyWorths", "()V"⟩ := Or.inl (sx_a4 138 rfl rfl)
set_option maxRecDepth 100000 in
theorem lX11_327 : sx_ml "StainStreet" 327 ⟨"java/lang/Integer", "bitCount", "(I)I"⟩ := Or.inl (sx_a4 142 rfl rfl)
set_option maxRecDepth 100000 in
theorem lX11_332 : sx_ml "StainStreet" 332 ⟨"StainStreet", "goalOfMixed", "(I)I"⟩ := Or.inl (sx_a4 148 rfl rfl)
set_option maxRecDepth 100000 in
theorem lX11_335 : sx_ml "StainStreet" 335 ⟨"StainStreet", "goalOfGame", "(IIII)I"⟩ := Or.inl (sx_a4 156 rfl rfl)
set_option maxRecDepth 100000 in
theorem lX11_339 : sx_ml "StainStreet" 339 ⟨"StainStreet", "gain", "(ZI)I"⟩ := Or.inl (sx_a4 160 rfl rfl)
set_option maxRecDepth 100000 in
theorem lX11_343 : sx_ml "StainStreet" 343 ⟨"StainStreet", "fillGameTable", "(II)V"⟩ := Or.inl (sx_a4 167 rfl rfl)
set_option maxRecDepth 100000 in
theorem lX11_346 : sx_ml "StainStreet" 346 ⟨"StainStreet", "isBestForOne", "(III)Z"⟩ := Or.inl (sx_a4 171 rfl rfl)
set_option maxRecDepth 100000 in
theorem lX11_350 : sx_ml "StainStreet" 350 ⟨"StainStreet", "isBestForOther", "(III)Z"⟩ := Or.inl (sx_a4 175 rfl rfl)
set_option maxRecDepth 100000 in
theorem lX11_353 : sx_ml "StainStreet" 353 ⟨"StainStreet$Notes", "add", "(IIZ)Z"⟩ := Or.inl (sx_a4 183 rfl rfl)
set_option maxRecDepth 100000 in
theorem lX11_356 : sx_ml "StainStreet" 356 ⟨"StainStreet", "fillWalks", "(I)V"⟩ := Or.inl (sx_a4 191 rfl rfl)
set_option maxRecDepth 100000 in
theorem lX11_359 : sx_ml "StainStreet" 359 ⟨"StainStreet", "fitting", "()I"⟩ := Or.inl (sx_a4 199 rfl rfl)
set_option maxRecDepth 100000 in
theorem lX11_362 : sx_ml "StainStreet" 362 ⟨"StainStreet", "mostAgreeing", "(II)I"⟩ := Or.inl (sx_a4 211 rfl rfl)
set_option maxRecDepth 100000 in
theorem lX11_365 : sx_ml "StainStreet" 365 ⟨"StainStreet$State", "mindMore", "(II)V"⟩ := Or.inl (sx_a4 195 rfl rfl)
set_option maxRecDepth 100000 in
theorem lX11_368 : sx_ml "StainStreet" 368 ⟨"StainStreet", "fitsSeen", "(I)Z"⟩ := Or.inl (sx_a4 203 rfl rfl)
set_option maxRecDepth 100000 in
theorem fX11_371 : sx_fl "StainStreet" 371 5 0 := ⟨⟨by decide +kernel, by decide +kernel⟩, Or.inr ⟨"StainStreet", sx_a2 41 rfl rfl⟩⟩
set_option maxRecDepth 100000 in
theorem fX11_374 : sx_fl "StainStreet" 374 5 1 := ⟨⟨by decide +kernel, by decide +kernel⟩, Or.inr ⟨"StainStreet", sx_a2 43 rfl rfl⟩⟩
set_option maxRecDepth 100000 in
theorem fX11_377 : sx_fl "StainStreet" 377 5 2 := ⟨⟨by decide +kernel, by decide +kernel⟩, Or.inr ⟨"StainStreet", sx_a2 45 rfl rfl⟩⟩
set_option maxRecDepth 100000 in
theorem lX11_381 : sx_ml "StainStreet" 381 ⟨"StainStreet$Street", "changed", "(II)I"⟩ := Or.inl (sx_a4 219 rfl rfl)
set_option maxRecDepth 100000 in
theorem lX11_384 : sx_ml "StainStreet" 384 ⟨"StainStreet", "fitsWas", "(I)Z"⟩ := Or.inl (sx_a4 235 rfl rfl)
set_option maxRecDepth 100000 in
theorem lX11_387 : sx_ml "StainStreet" 387 ⟨"StainStreet", "fillOddsWorths", "()V"⟩ := Or.inl (sx_a5 3 rfl rfl)
set_option maxRecDepth 100000 in
theorem lX11_390 : sx_ml "StainStreet" 390 ⟨"StainStreet", "fillParts", "(I)V"⟩ := Or.inl (sx_a5 7 rfl rfl)
set_option maxRecDepth 100000 in
theorem kX11_393 : sx_w (.constant "StainStreet" 393 (1000000000 : Int32)) := sx_a5 11 rfl rfl
set_option maxRecDepth 100000 in
theorem kX11_394 : sx_w (.constantLong "StainStreet" 394 (100 : Int64)) := sx_a5 12 rfl rfl
set_option maxRecDepth 100000 in
theorem lX11_396 : sx_ml "StainStreet" 396 ⟨"StainStreet", "calmest", "()I"⟩ := Or.inl (sx_a5 21 rfl rfl)
set_option maxRecDepth 100000 in
theorem lX11_399 : sx_ml "StainStreet" 399 ⟨"StainStreet", "whitest", "()I"⟩ := Or.inl (sx_a5 25 rfl rfl)
set_option maxRecDepth 100000 in
theorem lX11_402 : sx_ml "StainStreet" 402 ⟨"StainStreet", "backs", "()I"⟩ := Or.inl (sx_a5 29 rfl rfl)
set_option maxRecDepth 100000 in
theorem lX11_405 : sx_ml "StainStreet" 405 ⟨"StainStreet", "crowd", "()I"⟩ := Or.inl (sx_a5 33 rfl rfl)
set_option maxRecDepth 100000 in
theorem lX11_408 : sx_ml "StainStreet" 408 ⟨"StainStreet", "lonely", "()I"⟩ := Or.inl (sx_a5 37 rfl rfl)

/-! names: a method's name, bytes, locals, answer; its instructions; what the tables say of it -/

abbrev mJ6_bitCount_0f7a4 : sxM := (⟨"java/lang/Integer", "bitCount", "(I)I"⟩, prog_19_method_49_code, 1, some FieldType.int)
def iJ6_bitCount_0f7a4 : List (Nat × Instr × Nat) := [(0, .iload_n 0, 1), (1, .iload_n 0, 1), (2, .iconst 1, 1), (3, .iushr, 1), (4, .ldc_w 265, 3), (7, .iand, 1), (8, .isub, 1), (9, .istore_n 0, 1), (10, .iload_n 0, 1), (11, .ldc_w 266, 3), (14, .iand, 1), (15, .iload_n 0, 1), (16, .iconst 2, 1), (17, .iushr, 1), (18, .ldc_w 266, 3), (21, .iand, 1), (22, .iadd, 1), (23, .istore_n 0, 1), (24, .iload_n 0, 1), (25, .iload_n 0, 1), (26, .iconst 4, 1), (27, .iushr, 1), (28, .iadd, 1), (29, .ldc_w 267, 3), (32, .iand, 1), (33, .istore_n 0, 1), (34, .iload_n 0, 1), (35, .iload_n 0, 1), (36, .bipush 8, 2), (38, .iushr, 1), (39, .iadd, 1), (40, .istore_n 0, 1), (41, .iload_n 0, 1), (42, .iload_n 0, 1), (43, .bipush 16, 2), (45, .iushr, 1), (46, .iadd, 1), (47, .istore_n 0, 1), (48, .iload_n 0, 1), (49, .bipush 63, 2), (51, .iand, 1), (52, .ireturn, 1)]
set_option maxRecDepth 100000 in
theorem dJ6_bitCount_0f7a4 : sx_dec prog_19_method_49_code iJ6_bitCount_0f7a4 = true := by decide +kernel
set_option maxRecDepth 100000 in
theorem vJ6_bitCount_0f7a4 : sx_ms mJ6_bitCount_0f7a4 1 := ⟨⟨sx_a4 144 rfl rfl, sx_a1 24 rfl rfl, nh_J6, by decide +kernel, Nat.le_of_ble_eq_true rfl⟩, sx_a4 143 rfl rfl⟩
abbrev mJ9_abs_0f7a4 : sxM := (⟨"java/lang/Math", "abs", "(I)I"⟩, prog_20_method_59_code, 1, some FieldType.int)
def iJ9_abs_0f7a4 : List (Nat × Instr × Nat) := [(0, .iload_n 0, 1), (1, .ifCond .ge 8, 3), (4, .iload_n 0, 1), (5, .ineg, 1), (6, .goto 4, 3), (9, .iload_n 0, 1), (10, .ireturn, 1)]
set_option maxRecDepth 100000 in
theorem dJ9_abs_0f7a4 : sx_dec prog_20_method_59_code iJ9_abs_0f7a4 = true := by decide +kernel
set_option maxRecDepth 100000 in
theorem vJ9_abs_0f7a4 : sx_ms mJ9_abs_0f7a4 1 := ⟨⟨sx_a4 1 rfl rfl, sx_a1 22 rfl rfl, nh_J9, by decide +kernel, Nat.le_of_ble_eq_true rfl⟩, sx_a4 0 rfl rfl⟩
abbrev mJ9_max_7cf53 : sxM := (⟨"java/lang/Math", "max", "(II)I"⟩, prog_20_method_65_code, 2, some FieldType.int)
def iJ9_max_7cf53 : List (Nat × Instr × Nat) := [(0, .iload_n 0, 1), (1, .iload_n 1, 1), (2, .if_icmp .lt 7, 3), (5, .iload_n 0, 1), (6, .goto 4, 3), (9, .iload_n 1, 1), (10, .ireturn, 1)]
set_option maxRecDepth 100000 in
theorem dJ9_max_7cf53 : sx_dec prog_20_method_65_code iJ9_max_7cf53 = true := by decide +kernel
set_option maxRecDepth 100000 in
theorem vJ9_max_7cf53 : sx_ms mJ9_max_7cf53 2 := ⟨⟨sx_a3 187 rfl rfl, sx_a1 22 rfl rfl, nh_J9, by decide +kernel, Nat.le_of_ble_eq_true rfl⟩, sx_a3 186 rfl rfl⟩
abbrev mJ9_max_f86c9 : sxM := (⟨"java/lang/Math", "max", "(JJ)J"⟩, prog_20_method_66_code, 4, some FieldType.long)
def iJ9_max_f86c9 : List (Nat × Instr × Nat) := [(0, .lload_n 0, 1), (1, .lload_n 2, 1), (2, .lcmp, 1), (3, .ifCond .lt 7, 3), (6, .lload_n 0, 1), (7, .goto 4, 3), (10, .lload_n 2, 1), (11, .lreturn, 1)]
set_option maxRecDepth 100000 in
theorem dJ9_max_f86c9 : sx_dec prog_20_method_66_code iJ9_max_f86c9 = true := by decide +kernel
set_option maxRecDepth 100000 in
theorem vJ9_max_f86c9 : sx_ms mJ9_max_f86c9 2 := ⟨⟨sx_a6 221 rfl rfl, sx_a1 22 rfl rfl, nh_J9, by decide +kernel, Nat.le_of_ble_eq_true rfl⟩, sx_a6 220 rfl rfl⟩
abbrev mJ9_min_7cf53 : sxM := (⟨"java/lang/Math", "min", "(II)I"⟩, prog_20_method_69_code, 2, some FieldType.int)
def iJ9_min_7cf53 : List (Nat × Instr × Nat) := [(0, .iload_n 0, 1), (1, .iload_n 1, 1), (2, .if_icmp .gt 7, 3), (5, .iload_n 0, 1), (6, .goto 4, 3), (9, .iload_n 1, 1), (10, .ireturn, 1)]
set_option maxRecDepth 100000 in
theorem dJ9_min_7cf53 : sx_dec prog_20_method_69_code iJ9_min_7cf53 = true := by decide +kernel
set_option maxRecDepth 100000 in
theorem vJ9_min_7cf53 : sx_ms mJ9_min_7cf53 2 := ⟨⟨sx_a3 136 rfl rfl, sx_a1 22 rfl rfl, nh_J9, by decide +kernel, Nat.le_of_ble_eq_true rfl⟩, sx_a3 135 rfl rfl⟩
abbrev mJ9_min_f86c9 : sxM := (⟨"java/lang/Math", "min", "(JJ)J"⟩, prog_20_method_70_code, 4, some FieldType.long)
def iJ9_min_f86c9 : List (Nat × Instr × Nat) := [(0, .lload_n 0, 1), (1, .lload_n 2, 1), (2, .lcmp, 1), (3, .ifCond .gt 7, 3), (6, .lload_n 0, 1), (7, .goto 4, 3), (10, .lload_n 2, 1), (11, .lreturn, 1)]
set_option maxRecDepth 100000 in
theorem dJ9_min_f86c9 : sx_dec prog_20_method_70_code iJ9_min_f86c9 = true := by decide +kernel
set_option maxRecDepth 100000 in
theorem vJ9_min_f86c9 : sx_ms mJ9_min_f86c9 2 := ⟨⟨sx_a6 218 rfl rfl, sx_a1 22 rfl rfl, nh_J9, by decide +kernel, Nat.le_of_ble_eq_true rfl⟩, sx_a6 217 rfl rfl⟩
abbrev mJ0_length_8abf5 : sxM := (⟨"java/lang/String", "length", "()I"⟩, prog_22_method_54_code, 1, some FieldType.int)
def iJ0_length_8abf5 : List (Nat × Instr × Nat) := [(0, .aload_n 0, 1), (1, .getfield 9, 3), (4, .arraylength, 1), (5, .aload_n 0, 1), (6, .invokevirtual 335, 3), (9, .ishr, 1), (10, .ireturn, 1)]
set_option maxRecDepth 100000 in
theorem dJ0_length_8abf5 : sx_dec prog_22_method_54_code iJ0_length_8abf5 = true := by decide +kernel
set_option maxRecDepth 100000 in
theorem vJ0_length_8abf5 : sx_mv mJ0_length_8abf5 0 := ⟨⟨sx_a3 32 rfl rfl, sx_a1 14 rfl rfl, nh_J0, by decide +kernel, Nat.le_of_ble_eq_true rfl⟩, sx_a3 30 rfl rfl, sx_a3 31 rfl rfl⟩
abbrev mJ0_charAt_5068e : sxM := (⟨"java/lang/String", "charAt", "(I)C"⟩, prog_22_method_56_code, 2, some FieldType.char)
def iJ0_charAt_5068e : List (Nat × Instr × Nat) := [(0, .aload_n 0, 1), (1, .invokevirtual 492, 3), (4, .ifCond .eq 12, 3), (7, .aload_n 0, 1), (8, .getfield 9, 3), (11, .iload_n 1, 1), (12, .invokestatic 495, 3), (15, .ireturn, 1), (16, .aload_n 0, 1), (17, .getfield 9, 3), (20, .iload_n 1, 1), (21, .invokestatic 498, 3), (24, .ireturn, 1)]
set_option maxRecDepth 100000 in
theorem dJ0_charAt_5068e : sx_dec prog_22_method_56_code iJ0_charAt_5068e = true := by decide +kernel
set_option maxRecDepth 100000 in
theorem vJ0_charAt_5068e : sx_mv mJ0_charAt_5068e 1 := ⟨⟨sx_a2 173 rfl rfl, sx_a1 14 rfl rfl, nh_J0, by decide +kernel, Nat.le_of_ble_eq_true rfl⟩, sx_a2 171 rfl rfl, sx_a2 172 rfl rfl⟩
abbrev mJ0_coder_7d493 : sxM := (⟨"java/lang/String", "coder", "()B"⟩, prog_22_method_152_code, 1, some FieldType.byte)
def iJ0_coder_7d493 : List (Nat × Instr × Nat) := [(0, .getstatic 38, 3), (3, .ifCond .eq 10, 3), (6, .aload_n 0, 1), (7, .getfield 15, 3), (10, .goto 4, 3), (13, .iconst 1, 1), (14, .ireturn, 1)]
set_option maxRecDepth 100000 in
theorem dJ0_coder_7d493 : sx_dec prog_22_method_152_code iJ0_coder_7d493 = true := by decide +kernel
set_option maxRecDepth 100000 in
theorem vJ0_coder_7d493 : sx_mv mJ0_coder_7d493 0 := ⟨⟨sx_a3 36 rfl rfl, sx_a1 14 rfl rfl, nh_J0, by decide +kernel, Nat.le_of_ble_eq_true rfl⟩, sx_a3 34 rfl rfl, sx_a3 35 rfl rfl⟩
abbrev mJ0_isLatin1_aae02 : sxM := (⟨"java/lang/String", "isLatin1", "()Z"⟩, prog_22_method_154_code, 1, some FieldType.boolean)
def iJ0_isLatin1_aae02 : List (Nat × Instr × Nat) := [(0, .getstatic 38, 3), (3, .ifCond .eq 14, 3), (6, .aload_n 0, 1), (7, .getfield 15, 3), (10, .ifCond .ne 7, 3), (13, .iconst 1, 1), (14, .goto 4, 3), (17, .iconst 0, 1), (18, .ireturn, 1)]
set_option maxRecDepth 100000 in
theorem dJ0_isLatin1_aae02 : sx_dec prog_22_method_154_code iJ0_isLatin1_aae02 = true := by decide +kernel
set_option maxRecDepth 100000 in
theorem vJ0_isLatin1_aae02 : sx_mv mJ0_isLatin1_aae02 0 := ⟨⟨sx_a2 177 rfl rfl, sx_a1 14 rfl rfl, nh_J0, by decide +kernel, Nat.le_of_ble_eq_true rfl⟩, sx_a2 175 rfl rfl, sx_a2 176 rfl rfl⟩
abbrev mJ0_checkIndex_df160 : sxM := (⟨"java/lang/String", "checkIndex", "(II)V"⟩, prog_22_method_155_code, 2, none)
def iJ0_checkIndex_df160 : List (Nat × Instr × Nat) := [(0, .iload_n 0, 1), (1, .iload_n 1, 1), (2, .getstatic 1053, 3), (5, .invokestatic 1059, 3), (8, .pop, 1), (9, .return_, 1)]
set_option maxRecDepth 100000 in
theorem dJ0_checkIndex_df160 : sx_dec prog_22_method_155_code iJ0_checkIndex_df160 = true := by decide +kernel
set_option maxRecDepth 100000 in
theorem vJ0_checkIndex_df160 : sx_ms mJ0_checkIndex_df160 2 := ⟨⟨sx_a2 185 rfl rfl, sx_a1 14 rfl rfl, nh_J0, by decide +kernel, Nat.le_of_ble_eq_true rfl⟩, sx_a2 184 rfl rfl⟩
abbrev mJ1_charAt_3b067 : sxM := (⟨"java/lang/StringLatin1", "charAt", "([BI)C"⟩, prog_23_method_2_code, 2, some FieldType.char)
def iJ1_charAt_3b067 : List (Nat × Instr × Nat) := [(0, .iload_n 1, 1), (1, .aload_n 0, 1), (2, .arraylength, 1), (3, .invokestatic 9, 3), (6, .aload_n 0, 1), (7, .iload_n 1, 1), (8, .baload, 1), (9, .sipush 255, 3), (12, .iand, 1), (13, .i2c, 1), (14, .ireturn, 1)]
set_option maxRecDepth 100000 in
theorem dJ1_charAt_3b067 : sx_dec prog_23_method_2_code iJ1_charAt_3b067 = true := by decide +kernel
set_option maxRecDepth 100000 in
theorem vJ1_charAt_3b067 : sx_ms mJ1_charAt_3b067 2 := ⟨⟨sx_a2 182 rfl rfl, sx_a1 15 rfl rfl, nh_J1, by decide +kernel, Nat.le_of_ble_eq_true rfl⟩, sx_a2 181 rfl rfl⟩
abbrev mJ2_getChar_3b067 : sxM := (⟨"java/lang/StringUTF16", "getChar", "([BI)C"⟩, prog_24_method_5_code, 2, some FieldType.char)
def iJ2_getChar_3b067 : List (Nat × Instr × Nat) := [(0, .getstatic 44, 3), (3, .ifCond .ne 25, 3), (6, .iload_n 1, 1), (7, .ifCond .lt 11, 3), (10, .iload_n 1, 1), (11, .aload_n 0, 1), (12, .invokestatic 48, 3), (15, .if_icmp .lt 13, 3), (18, .new 52, 3), (21, .dup, 1), (22, .ldc 54, 2), (24, .invokespecial 56, 3), (27, .athrow, 1), (28, .iload_n 1, 1), (29, .iconst 1, 1), (30, .ishl, 1), (31, .istore_n 1, 1), (32, .aload_n 0, 1), (33, .iload_n 1, 1), (34, .iinc 1 1, 3), (37, .baload, 1), (38, .sipush 255, 3), (41, .iand, 1), (42, .getstatic 59, 3), (45, .ishl, 1), (46, .aload_n 0, 1), (47, .iload_n 1, 1), (48, .baload, 1), (49, .sipush 255, 3), (52, .iand, 1), (53, .getstatic 63, 3), (56, .ishl, 1), (57, .ior, 1), (58, .i2c, 1), (59, .ireturn, 1)]
set_option maxRecDepth 100000 in
theorem dJ2_getChar_3b067 : sx_dec prog_24_method_5_code iJ2_getChar_3b067 = true := by decide +kernel
set_option maxRecDepth 100000 in
theorem vJ2_getChar_3b067 : sx_ms mJ2_getChar_3b067 2 := ⟨⟨sx_a2 203 rfl rfl, sx_a1 17 rfl rfl, nh_J2, by decide +kernel, Nat.le_of_ble_eq_true rfl⟩, sx_a2 202 rfl rfl⟩
abbrev mJ2_length_9d52b : sxM := (⟨"java/lang/StringUTF16", "length", "([B)I"⟩, prog_24_method_6_code, 1, some FieldType.int)
def iJ2_length_9d52b : List (Nat × Instr × Nat) := [(0, .aload_n 0, 1), (1, .arraylength, 1), (2, .iconst 1, 1), (3, .ishr, 1), (4, .ireturn, 1)]
set_option maxRecDepth 100000 in
theorem dJ2_length_9d52b : sx_dec prog_24_method_6_code iJ2_length_9d52b = true := by decide +kernel
set_option maxRecDepth 100000 in
theorem vJ2_length_9d52b : sx_ms mJ2_length_9d52b 1 := ⟨⟨sx_a2 199 rfl rfl, sx_a1 17 rfl rfl, nh_J2, by decide +kernel, Nat.le_of_ble_eq_true rfl⟩, sx_a2 198 rfl rfl⟩
abbrev mJ2_charAt_3b067 : sxM := (⟨"java/lang/StringUTF16", "charAt", "([BI)C"⟩, prog_24_method_83_code, 2, some FieldType.char)
def iJ2_charAt_3b067 : List (Nat × Instr × Nat) := [(0, .iload_n 1, 1), (1, .aload_n 0, 1), (2, .invokestatic 67, 3), (5, .aload_n 0, 1), (6, .iload_n 1, 1), (7, .invokestatic 71, 3), (10, .ireturn, 1)]
set_option maxRecDepth 100000 in
theorem dJ2_charAt_3b067 : sx_dec prog_24_method_83_code iJ2_charAt_3b067 = true := by decide +kernel
set_option maxRecDepth 100000 in
theorem vJ2_charAt_3b067 : sx_ms mJ2_charAt_3b067 2 := ⟨⟨sx_a2 193 rfl rfl, sx_a1 17 rfl rfl, nh_J2, by decide +kernel, Nat.le_of_ble_eq_true rfl⟩, sx_a2 192 rfl rfl⟩
abbrev mJ2_checkIndex_2214a : sxM := (⟨"java/lang/StringUTF16", "checkIndex", "(I[B)V"⟩, prog_24_method_91_code, 2, none)
def iJ2_checkIndex_2214a : List (Nat × Instr × Nat) := [(0, .iload_n 0, 1), (1, .aload_n 1, 1), (2, .invokestatic 48, 3), (5, .invokestatic 414, 3), (8, .return_, 1)]
set_option maxRecDepth 100000 in
theorem dJ2_checkIndex_2214a : sx_dec prog_24_method_91_code iJ2_checkIndex_2214a = true := by decide +kernel
set_option maxRecDepth 100000 in
theorem vJ2_checkIndex_2214a : sx_ms mJ2_checkIndex_2214a 2 := ⟨⟨sx_a2 196 rfl rfl, sx_a1 17 rfl rfl, nh_J2, by decide +kernel, Nat.le_of_ble_eq_true rfl⟩, sx_a2 195 rfl rfl⟩
abbrev mJ3_checkIndex_8e157 : sxM := (⟨"jdk/internal/util/Preconditions", "checkIndex", "(IILjava/util/function/BiFunction;)I"⟩, prog_30_method_11_code, 3, some FieldType.int)
def iJ3_checkIndex_8e157 : List (Nat × Instr × Nat) := [(0, .iload_n 0, 1), (1, .ifCond .lt 8, 3), (4, .iload_n 0, 1), (5, .iload_n 1, 1), (6, .if_icmp .lt 10, 3), (9, .aload_n 2, 1), (10, .iload_n 0, 1), (11, .iload_n 1, 1), (12, .invokestatic 95, 3), (15, .athrow, 1), (16, .iload_n 0, 1), (17, .ireturn, 1)]
set_option maxRecDepth 100000 in
theorem dJ3_checkIndex_8e157 : sx_dec prog_30_method_11_code iJ3_checkIndex_8e157 = true := by decide +kernel
set_option maxRecDepth 100000 in
theorem vJ3_checkIndex_8e157 : sx_ms mJ3_checkIndex_8e157 3 := ⟨⟨sx_a2 190 rfl rfl, sx_a1 16 rfl rfl, nh_J3, by decide +kernel, Nat.le_of_ble_eq_true rfl⟩, sx_a2 189 rfl rfl⟩
set_option maxRecDepth 100000 in
theorem kJ6_265 : sx_w (.constant "java/lang/Integer" 265 (1431655765 : Int32)) := sx_a4 145 rfl rfl
set_option maxRecDepth 100000 in
theorem kJ6_266 : sx_w (.constant "java/lang/Integer" 266 (858993459 : Int32)) := sx_a4 146 rfl rfl
set_option maxRecDepth 100000 in
theorem kJ6_267 : sx_w (.constant "java/lang/Integer" 267 (252645135 : Int32)) := sx_a4 147 rfl rfl
-- a field of another class: java/lang/String 9 ('f', 'fieldLink', 1747, 'java/lang/String', 'value', '[B', None)
-- a field of another class: java/lang/String 15 ('f', 'fieldLink', 1746, 'java/lang/String', 'coder', 'B', None)
-- a field of another class: java/lang/String 38 ('f', 'fieldLink', 418, 'java/lang/String', 'COMPACT_STRINGS', 'Z', None)
set_option maxRecDepth 100000 in
theorem lJ0_335 : sx_ml "java/lang/String" 335 ⟨"java/lang/String", "coder", "()B"⟩ := Or.inl (sx_a3 33 rfl rfl)
set_option maxRecDepth 100000 in
theorem lJ0_492 : sx_ml "java/lang/String" 492 ⟨"java/lang/String", "isLatin1", "()Z"⟩ := Or.inl (sx_a2 174 rfl rfl)
set_option maxRecDepth 100000 in
theorem lJ0_495 : sx_ml "java/lang/String" 495 ⟨"java/lang/StringLatin1", "charAt", "([BI)C"⟩ := Or.inl (sx_a2 180 rfl rfl)
set_option maxRecDepth 100000 in
theorem lJ0_498 : sx_ml "java/lang/String" 498 ⟨"java/lang/StringUTF16", "charAt", "([BI)C"⟩ := Or.inl (sx_a2 191 rfl rfl)
-- a field of another class: java/lang/String 1053 ('f', 'fieldLink', 426, 'jdk/internal/util/Preconditions', 'SIOOBE_FORMATTER', 'Ljava/util/function/BiFunction;', None)
set_option maxRecDepth 100000 in
theorem lJ0_1059 : sx_ml "java/lang/String" 1059 ⟨"jdk/internal/util/Preconditions", "checkIndex", "(IILjava/util/function/BiFunction;)I"⟩ := Or.inl (sx_a2 188 rfl rfl)
set_option maxRecDepth 100000 in
theorem lJ1_9 : sx_ml "java/lang/StringLatin1" 9 ⟨"java/lang/String", "checkIndex", "(II)V"⟩ := Or.inl (sx_a2 183 rfl rfl)
-- a field of another class: java/lang/StringUTF16 44 ('f', 'fieldLink', 444, 'java/lang/StringUTF16', '$assertionsDisabled', 'Z', None)
set_option maxRecDepth 100000 in
theorem lJ2_48 : sx_ml "java/lang/StringUTF16" 48 ⟨"java/lang/StringUTF16", "length", "([B)I"⟩ := Or.inl (sx_a2 197 rfl rfl)
-- a field of another class: java/lang/StringUTF16 59 ('f', 'fieldLink', 446, 'java/lang/StringUTF16', 'HI_BYTE_SHIFT', 'I', None)
-- a field of another class: java/lang/StringUTF16 63 ('f', 'fieldLink', 448, 'java/lang/StringUTF16', 'LO_BYTE_SHIFT', 'I', None)
set_option maxRecDepth 100000 in
theorem lJ2_67 : sx_ml "java/lang/StringUTF16" 67 ⟨"java/lang/StringUTF16", "checkIndex", "(I[B)V"⟩ := Or.inl (sx_a2 194 rfl rfl)
set_option maxRecDepth 100000 in
theorem lJ2_71 : sx_ml "java/lang/StringUTF16" 71 ⟨"java/lang/StringUTF16", "getChar", "([BI)C"⟩ := Or.inl (sx_a2 201 rfl rfl)
set_option maxRecDepth 100000 in
theorem lJ2_414 : sx_ml "java/lang/StringUTF16" 414 ⟨"java/lang/String", "checkIndex", "(II)V"⟩ := Or.inl (sx_a2 200 rfl rfl)

/-! names: the law itself, its instructions in chunks -/
abbrev mL_law : sxM := (⟨"StainStreetLaw", "law", "([I)Z"⟩, code, 7, some FieldType.boolean)
def iL_hd : List (Nat × Instr × Nat) := [(0, .new 8, 3), (3, .dup, 1), (4, .invokespecial 15, 3), (7, .astore_n 1, 1), (8, .new 16, 3), (11, .dup, 1), (12, .invokespecial 18, 3), (15, .astore_n 2, 1), (16, .iconst 1, 1), (17, .newarray .long, 2), (19, .astore_n 3, 1), (20, .iconst 0, 1), (21, .istore 4, 2), (23, .iload 4, 2), (25, .aload_n 0, 1), (26, .arraylength, 1), (27, .bipush 6, 2), (29, .isub, 1), (30, .if_icmp .gt 1725, 3), (33, .aload_n 0, 1), (34, .iload 4, 2), (36, .iaload, 1), (37, .bipush 63, 2), (39, .iand, 1), (40, .tableswitch 1709 0 45 #[200, 273, 298, 323, 348, 373, 441, 478, 503, 540, 577, 602, 627, 664, 689, 714, 739, 808, 833, 846, 883, 920, 945, 970, 995, 1008, 1045, 1058, 1083, 1120, 1193, 1242, 1307, 1344, 1369, 1406, 1431, 1496, 1509, 1546, 1583, 1608, 1633, 1658, 1671, 1684], 200)]
set_option maxRecDepth 100000 in
theorem dL_hd : sx_dec code iL_hd = true := by decide +kernel
def iL_q0 : List (Nat × Instr × Nat) := [(240, .aload_n 1, 1), (241, .aload_n 0, 1), (242, .iload 4, 2), (244, .iconst 1, 1), (245, .iadd, 1), (246, .iaload, 1), (247, .aload_n 0, 1), (248, .iload 4, 2), (250, .iconst 2, 1), (251, .iadd, 1), (252, .iaload, 1), (253, .aload_n 0, 1), (254, .iload 4, 2), (256, .iconst 3, 1), (257, .iadd, 1), (258, .iaload, 1), (259, .aload_n 0, 1), (260, .iload 4, 2), (262, .iconst 4, 1), (263, .iadd, 1), (264, .iaload, 1), (265, .aload_n 0, 1), (266, .iload 4, 2), (268, .iconst 5, 1), (269, .iadd, 1), (270, .iaload, 1), (271, .invokevirtual 19, 3), (274, .aload_n 2, 1), (275, .aload_n 0, 1), (276, .iload 4, 2), (278, .iconst 1, 1), (279, .iadd, 1), (280, .iaload, 1), (281, .aload_n 0, 1), (282, .iload 4, 2), (284, .iconst 2, 1), (285, .iadd, 1), (286, .iaload, 1), (287, .aload_n 0, 1), (288, .iload 4, 2), (290, .iconst 3, 1), (291, .iadd, 1), (292, .iaload, 1), (293, .aload_n 0, 1), (294, .iload 4, 2), (296, .iconst 4, 1), (297, .iadd, 1), (298, .iaload, 1), (299, .aload_n 0, 1), (300, .iload 4, 2), (302, .iconst 5, 1), (303, .iadd, 1), (304, .iaload, 1), (305, .invokevirtual 23, 3), (308, .if_icmp .eq 1441, 3), (311, .iconst 0, 1), (312, .ireturn, 1)]
set_option maxRecDepth 100000 in
theorem dL_q0 : sx_dec code iL_q0 = true := by decide +kernel
def iL_q1 : List (Nat × Instr × Nat) := [(313, .aload_n 1, 1), (314, .aload_n 0, 1), (315, .iload 4, 2), (317, .iconst 1, 1), (318, .iadd, 1), (319, .iaload, 1), (320, .invokevirtual 24, 3), (323, .aload_n 2, 1), (324, .aload_n 0, 1), (325, .iload 4, 2), (327, .iconst 1, 1), (328, .iadd, 1), (329, .iaload, 1), (330, .invokevirtual 28, 3), (333, .if_icmp .eq 1416, 3), (336, .iconst 0, 1), (337, .ireturn, 1)]
set_option maxRecDepth 100000 in
theorem dL_q1 : sx_dec code iL_q1 = true := by decide +kernel
def iL_q2 : List (Nat × Instr × Nat) := [(338, .aload_n 1, 1), (339, .aload_n 0, 1), (340, .iload 4, 2), (342, .iconst 1, 1), (343, .iadd, 1), (344, .iaload, 1), (345, .invokevirtual 29, 3), (348, .aload_n 2, 1), (349, .aload_n 0, 1), (350, .iload 4, 2), (352, .iconst 1, 1), (353, .iadd, 1), (354, .iaload, 1), (355, .invokevirtual 33, 3), (358, .if_icmp .eq 1391, 3), (361, .iconst 0, 1), (362, .ireturn, 1)]
set_option maxRecDepth 100000 in
theorem dL_q2 : sx_dec code iL_q2 = true := by decide +kernel
def iL_q3 : List (Nat × Instr × Nat) := [(363, .aload_n 1, 1), (364, .aload_n 0, 1), (365, .iload 4, 2), (367, .iconst 1, 1), (368, .iadd, 1), (369, .iaload, 1), (370, .invokevirtual 34, 3), (373, .aload_n 2, 1), (374, .aload_n 0, 1), (375, .iload 4, 2), (377, .iconst 1, 1), (378, .iadd, 1), (379, .iaload, 1), (380, .invokevirtual 37, 3), (383, .if_icmp .eq 1366, 3), (386, .iconst 0, 1), (387, .ireturn, 1)]
set_option maxRecDepth 100000 in
theorem dL_q3 : sx_dec code iL_q3 = true := by decide +kernel
def iL_q4 : List (Nat × Instr × Nat) := [(388, .aload_n 1, 1), (389, .aload_n 0, 1), (390, .iload 4, 2), (392, .iconst 1, 1), (393, .iadd, 1), (394, .iaload, 1), (395, .invokevirtual 38, 3), (398, .aload_n 2, 1), (399, .aload_n 0, 1), (400, .iload 4, 2), (402, .iconst 1, 1), (403, .iadd, 1), (404, .iaload, 1), (405, .invokevirtual 41, 3), (408, .if_icmp .eq 1341, 3), (411, .iconst 0, 1), (412, .ireturn, 1)]
set_option maxRecDepth 100000 in
theorem dL_q4 : sx_dec code iL_q4 = true := by decide +kernel
def iL_q5 : List (Nat × Instr × Nat) := [(413, .aload_n 1, 1), (414, .aload_n 0, 1), (415, .iload 4, 2), (417, .iconst 1, 1), (418, .iadd, 1), (419, .iaload, 1), (420, .aload_n 0, 1), (421, .iload 4, 2), (423, .iconst 2, 1), (424, .iadd, 1), (425, .iaload, 1), (426, .aload_n 3, 1), (427, .invokestatic 42, 3), (430, .istore 5, 2), (432, .aload_n 2, 1), (433, .aload_n 0, 1), (434, .iload 4, 2), (436, .iconst 1, 1), (437, .iadd, 1), (438, .iaload, 1), (439, .aload_n 0, 1), (440, .iload 4, 2), (442, .iconst 2, 1), (443, .iadd, 1), (444, .iaload, 1), (445, .invokevirtual 47, 3), (448, .istore 6, 2), (450, .aload_n 2, 1), (451, .invokevirtual 48, 3), (454, .iload 5, 2), (456, .if_icmp .eq 5, 3), (459, .iconst 0, 1), (460, .ireturn, 1), (461, .iload 5, 2), (463, .ifCond .ne 15, 3), (466, .aload_n 3, 1), (467, .iconst 0, 1), (468, .laload, 1), (469, .iload 6, 2), (471, .i2l, 1), (472, .lcmp, 1), (473, .ifCond .eq 5, 3), (476, .iconst 0, 1), (477, .ireturn, 1), (478, .goto 1271, 3)]
set_option maxRecDepth 100000 in
theorem dL_q5 : sx_dec code iL_q5 = true := by decide +kernel
def iL_q6 : List (Nat × Instr × Nat) := [(481, .aload_n 1, 1), (482, .aload_n 0, 1), (483, .iload 4, 2), (485, .iconst 1, 1), (486, .iadd, 1), (487, .iaload, 1), (488, .aload_n 0, 1), (489, .iload 4, 2), (491, .iconst 2, 1), (492, .iadd, 1), (493, .iaload, 1), (494, .invokevirtual 52, 3), (497, .aload_n 2, 1), (498, .aload_n 0, 1), (499, .iload 4, 2), (501, .iconst 1, 1), (502, .iadd, 1), (503, .iaload, 1), (504, .aload_n 0, 1), (505, .iload 4, 2), (507, .iconst 2, 1), (508, .iadd, 1), (509, .iaload, 1), (510, .invokevirtual 55, 3), (513, .if_icmp .eq 1236, 3), (516, .iconst 0, 1), (517, .ireturn, 1)]
set_option maxRecDepth 100000 in
theorem dL_q6 : sx_dec code iL_q6 = true := by decide +kernel
def iL_q7 : List (Nat × Instr × Nat) := [(518, .aload_n 1, 1), (519, .aload_n 0, 1), (520, .iload 4, 2), (522, .iconst 1, 1), (523, .iadd, 1), (524, .iaload, 1), (525, .invokevirtual 56, 3), (528, .aload_n 2, 1), (529, .aload_n 0, 1), (530, .iload 4, 2), (532, .iconst 1, 1), (533, .iadd, 1), (534, .iaload, 1), (535, .invokevirtual 59, 3), (538, .if_icmp .eq 1211, 3), (541, .iconst 0, 1), (542, .ireturn, 1)]
set_option maxRecDepth 100000 in
theorem dL_q7 : sx_dec code iL_q7 = true := by decide +kernel
def iL_q8 : List (Nat × Instr × Nat) := [(543, .aload_n 1, 1), (544, .aload_n 0, 1), (545, .iload 4, 2), (547, .iconst 1, 1), (548, .iadd, 1), (549, .iaload, 1), (550, .aload_n 0, 1), (551, .iload 4, 2), (553, .iconst 2, 1), (554, .iadd, 1), (555, .iaload, 1), (556, .invokevirtual 60, 3), (559, .aload_n 2, 1), (560, .aload_n 0, 1), (561, .iload 4, 2), (563, .iconst 1, 1), (564, .iadd, 1), (565, .iaload, 1), (566, .aload_n 0, 1), (567, .iload 4, 2), (569, .iconst 2, 1), (570, .iadd, 1), (571, .iaload, 1), (572, .invokevirtual 63, 3), (575, .if_icmp .eq 1174, 3), (578, .iconst 0, 1), (579, .ireturn, 1)]
set_option maxRecDepth 100000 in
theorem dL_q8 : sx_dec code iL_q8 = true := by decide +kernel
def iL_q9 : List (Nat × Instr × Nat) := [(580, .aload_n 1, 1), (581, .aload_n 0, 1), (582, .iload 4, 2), (584, .iconst 1, 1), (585, .iadd, 1), (586, .iaload, 1), (587, .aload_n 0, 1), (588, .iload 4, 2), (590, .iconst 2, 1), (591, .iadd, 1), (592, .iaload, 1), (593, .invokevirtual 64, 3), (596, .aload_n 2, 1), (597, .aload_n 0, 1), (598, .iload 4, 2), (600, .iconst 1, 1), (601, .iadd, 1), (602, .iaload, 1), (603, .aload_n 0, 1), (604, .iload 4, 2), (606, .iconst 2, 1), (607, .iadd, 1), (608, .iaload, 1), (609, .invokevirtual 67, 3), (612, .if_icmp .eq 1137, 3), (615, .iconst 0, 1), (616, .ireturn, 1)]
set_option maxRecDepth 100000 in
theorem dL_q9 : sx_dec code iL_q9 = true := by decide +kernel
def iL_q10 : List (Nat × Instr × Nat) := [(617, .aload_n 1, 1), (618, .aload_n 0, 1), (619, .iload 4, 2), (621, .iconst 1, 1), (622, .iadd, 1), (623, .iaload, 1), (624, .invokevirtual 68, 3), (627, .aload_n 2, 1), (628, .aload_n 0, 1), (629, .iload 4, 2), (631, .iconst 1, 1), (632, .iadd, 1), (633, .iaload, 1), (634, .invokevirtual 71, 3), (637, .if_icmp .eq 1112, 3), (640, .iconst 0, 1), (641, .ireturn, 1)]
set_option maxRecDepth 100000 in
theorem dL_q10 : sx_dec code iL_q10 = true := by decide +kernel
def iL_q11 : List (Nat × Instr × Nat) := [(642, .aload_n 1, 1), (643, .aload_n 0, 1), (644, .iload 4, 2), (646, .iconst 1, 1), (647, .iadd, 1), (648, .iaload, 1), (649, .invokevirtual 72, 3), (652, .aload_n 2, 1), (653, .aload_n 0, 1), (654, .iload 4, 2), (656, .iconst 1, 1), (657, .iadd, 1), (658, .iaload, 1), (659, .invokevirtual 75, 3), (662, .if_icmp .eq 1087, 3), (665, .iconst 0, 1), (666, .ireturn, 1)]
set_option maxRecDepth 100000 in
theorem dL_q11 : sx_dec code iL_q11 = true := by decide +kernel
def iL_q12 : List (Nat × Instr × Nat) := [(667, .aload_n 1, 1), (668, .aload_n 0, 1), (669, .iload 4, 2), (671, .iconst 1, 1), (672, .iadd, 1), (673, .iaload, 1), (674, .aload_n 0, 1), (675, .iload 4, 2), (677, .iconst 2, 1), (678, .iadd, 1), (679, .iaload, 1), (680, .invokevirtual 76, 3), (683, .aload_n 2, 1), (684, .aload_n 0, 1), (685, .iload 4, 2), (687, .iconst 1, 1), (688, .iadd, 1), (689, .iaload, 1), (690, .aload_n 0, 1), (691, .iload 4, 2), (693, .iconst 2, 1), (694, .iadd, 1), (695, .iaload, 1), (696, .invokevirtual 79, 3), (699, .if_icmp .eq 1050, 3), (702, .iconst 0, 1), (703, .ireturn, 1)]
set_option maxRecDepth 100000 in
theorem dL_q12 : sx_dec code iL_q12 = true := by decide +kernel
def iL_q13 : List (Nat × Instr × Nat) := [(704, .aload_n 1, 1), (705, .aload_n 0, 1), (706, .iload 4, 2), (708, .iconst 1, 1), (709, .iadd, 1), (710, .iaload, 1), (711, .invokevirtual 80, 3), (714, .aload_n 2, 1), (715, .aload_n 0, 1), (716, .iload 4, 2), (718, .iconst 1, 1), (719, .iadd, 1), (720, .iaload, 1), (721, .invokevirtual 83, 3), (724, .if_icmp .eq 1025, 3), (727, .iconst 0, 1), (728, .ireturn, 1)]
set_option maxRecDepth 100000 in
theorem dL_q13 : sx_dec code iL_q13 = true := by decide +kernel
def iL_q14 : List (Nat × Instr × Nat) := [(729, .aload_n 1, 1), (730, .aload_n 0, 1), (731, .iload 4, 2), (733, .iconst 1, 1), (734, .iadd, 1), (735, .iaload, 1), (736, .invokevirtual 84, 3), (739, .aload_n 2, 1), (740, .aload_n 0, 1), (741, .iload 4, 2), (743, .iconst 1, 1), (744, .iadd, 1), (745, .iaload, 1), (746, .invokevirtual 87, 3), (749, .if_icmp .eq 1000, 3), (752, .iconst 0, 1), (753, .ireturn, 1)]
set_option maxRecDepth 100000 in
theorem dL_q14 : sx_dec code iL_q14 = true := by decide +kernel
def iL_q15 : List (Nat × Instr × Nat) := [(754, .aload_n 1, 1), (755, .aload_n 0, 1), (756, .iload 4, 2), (758, .iconst 1, 1), (759, .iadd, 1), (760, .iaload, 1), (761, .invokevirtual 88, 3), (764, .aload_n 2, 1), (765, .aload_n 0, 1), (766, .iload 4, 2), (768, .iconst 1, 1), (769, .iadd, 1), (770, .iaload, 1), (771, .invokevirtual 91, 3), (774, .if_icmp .eq 975, 3), (777, .iconst 0, 1), (778, .ireturn, 1)]
set_option maxRecDepth 100000 in
theorem dL_q15 : sx_dec code iL_q15 = true := by decide +kernel
def iL_q16 : List (Nat × Instr × Nat) := [(779, .aload_n 1, 1), (780, .aload_n 0, 1), (781, .iload 4, 2), (783, .iconst 1, 1), (784, .iadd, 1), (785, .iaload, 1), (786, .aload_n 0, 1), (787, .iload 4, 2), (789, .iconst 2, 1), (790, .iadd, 1), (791, .iaload, 1), (792, .i2l, 1), (793, .bipush 32, 2), (795, .lshl, 1), (796, .aload_n 0, 1), (797, .iload 4, 2), (799, .iconst 3, 1), (800, .iadd, 1), (801, .iaload, 1), (802, .i2l, 1), (803, .ldc2_w 92, 3), (806, .land, 1), (807, .lor, 1), (808, .invokevirtual 94, 3), (811, .aload_n 2, 1), (812, .aload_n 0, 1), (813, .iload 4, 2), (815, .iconst 1, 1), (816, .iadd, 1), (817, .iaload, 1), (818, .aload_n 0, 1), (819, .iload 4, 2), (821, .iconst 2, 1), (822, .iadd, 1), (823, .iaload, 1), (824, .i2l, 1), (825, .bipush 32, 2), (827, .lshl, 1), (828, .aload_n 0, 1), (829, .iload 4, 2), (831, .iconst 3, 1), (832, .iadd, 1), (833, .iaload, 1), (834, .i2l, 1), (835, .ldc2_w 92, 3), (838, .land, 1), (839, .lor, 1), (840, .invokevirtual 98, 3), (843, .if_icmp .eq 906, 3), (846, .iconst 0, 1), (847, .ireturn, 1)]
set_option maxRecDepth 100000 in
theorem dL_q16 : sx_dec code iL_q16 = true := by decide +kernel
def iL_q17 : List (Nat × Instr × Nat) := [(848, .aload_n 1, 1), (849, .aload_n 0, 1), (850, .iload 4, 2), (852, .iconst 1, 1), (853, .iadd, 1), (854, .iaload, 1), (855, .invokevirtual 99, 3), (858, .aload_n 2, 1), (859, .aload_n 0, 1), (860, .iload 4, 2), (862, .iconst 1, 1), (863, .iadd, 1), (864, .iaload, 1), (865, .invokevirtual 102, 3), (868, .if_icmp .eq 881, 3), (871, .iconst 0, 1), (872, .ireturn, 1)]
set_option maxRecDepth 100000 in
theorem dL_q17 : sx_dec code iL_q17 = true := by decide +kernel
def iL_q18 : List (Nat × Instr × Nat) := [(873, .aload_n 1, 1), (874, .invokevirtual 103, 3), (877, .aload_n 2, 1), (878, .invokevirtual 106, 3), (881, .if_icmp .eq 868, 3), (884, .iconst 0, 1), (885, .ireturn, 1)]
set_option maxRecDepth 100000 in
theorem dL_q18 : sx_dec code iL_q18 = true := by decide +kernel
def iL_q19 : List (Nat × Instr × Nat) := [(886, .aload_n 1, 1), (887, .aload_n 0, 1), (888, .iload 4, 2), (890, .iconst 1, 1), (891, .iadd, 1), (892, .iaload, 1), (893, .aload_n 0, 1), (894, .iload 4, 2), (896, .iconst 2, 1), (897, .iadd, 1), (898, .iaload, 1), (899, .invokevirtual 107, 3), (902, .aload_n 2, 1), (903, .aload_n 0, 1), (904, .iload 4, 2), (906, .iconst 1, 1), (907, .iadd, 1), (908, .iaload, 1), (909, .aload_n 0, 1), (910, .iload 4, 2), (912, .iconst 2, 1), (913, .iadd, 1), (914, .iaload, 1), (915, .invokevirtual 110, 3), (918, .if_icmp .eq 831, 3), (921, .iconst 0, 1), (922, .ireturn, 1)]
set_option maxRecDepth 100000 in
theorem dL_q19 : sx_dec code iL_q19 = true := by decide +kernel
def iL_q20 : List (Nat × Instr × Nat) := [(923, .aload_n 1, 1), (924, .aload_n 0, 1), (925, .iload 4, 2), (927, .iconst 1, 1), (928, .iadd, 1), (929, .iaload, 1), (930, .aload_n 0, 1), (931, .iload 4, 2), (933, .iconst 2, 1), (934, .iadd, 1), (935, .iaload, 1), (936, .invokevirtual 111, 3), (939, .aload_n 2, 1), (940, .aload_n 0, 1), (941, .iload 4, 2), (943, .iconst 1, 1), (944, .iadd, 1), (945, .iaload, 1), (946, .aload_n 0, 1), (947, .iload 4, 2), (949, .iconst 2, 1), (950, .iadd, 1), (951, .iaload, 1), (952, .invokevirtual 114, 3), (955, .if_icmp .eq 794, 3), (958, .iconst 0, 1), (959, .ireturn, 1)]
set_option maxRecDepth 100000 in
theorem dL_q20 : sx_dec code iL_q20 = true := by decide +kernel
def iL_q21 : List (Nat × Instr × Nat) := [(960, .aload_n 1, 1), (961, .aload_n 0, 1), (962, .iload 4, 2), (964, .iconst 1, 1), (965, .iadd, 1), (966, .iaload, 1), (967, .invokevirtual 115, 3), (970, .aload_n 2, 1), (971, .aload_n 0, 1), (972, .iload 4, 2), (974, .iconst 1, 1), (975, .iadd, 1), (976, .iaload, 1), (977, .invokevirtual 118, 3), (980, .if_icmp .eq 769, 3), (983, .iconst 0, 1), (984, .ireturn, 1)]
set_option maxRecDepth 100000 in
theorem dL_q21 : sx_dec code iL_q21 = true := by decide +kernel
def iL_q22 : List (Nat × Instr × Nat) := [(985, .aload_n 1, 1), (986, .aload_n 0, 1), (987, .iload 4, 2), (989, .iconst 1, 1), (990, .iadd, 1), (991, .iaload, 1), (992, .invokevirtual 119, 3), (995, .aload_n 2, 1), (996, .aload_n 0, 1), (997, .iload 4, 2), (999, .iconst 1, 1), (1000, .iadd, 1), (1001, .iaload, 1), (1002, .invokevirtual 122, 3), (1005, .if_icmp .eq 744, 3), (1008, .iconst 0, 1), (1009, .ireturn, 1)]
set_option maxRecDepth 100000 in
theorem dL_q22 : sx_dec code iL_q22 = true := by decide +kernel
def iL_q23 : List (Nat × Instr × Nat) := [(1010, .aload_n 1, 1), (1011, .aload_n 0, 1), (1012, .iload 4, 2), (1014, .iconst 1, 1), (1015, .iadd, 1), (1016, .iaload, 1), (1017, .invokevirtual 123, 3), (1020, .aload_n 2, 1), (1021, .aload_n 0, 1), (1022, .iload 4, 2), (1024, .iconst 1, 1), (1025, .iadd, 1), (1026, .iaload, 1), (1027, .invokevirtual 126, 3), (1030, .if_icmp .eq 719, 3), (1033, .iconst 0, 1), (1034, .ireturn, 1)]
set_option maxRecDepth 100000 in
theorem dL_q23 : sx_dec code iL_q23 = true := by decide +kernel
def iL_q24 : List (Nat × Instr × Nat) := [(1035, .aload_n 1, 1), (1036, .invokevirtual 127, 3), (1039, .aload_n 2, 1), (1040, .invokevirtual 130, 3), (1043, .if_icmp .eq 706, 3), (1046, .iconst 0, 1), (1047, .ireturn, 1)]
set_option maxRecDepth 100000 in
theorem dL_q24 : sx_dec code iL_q24 = true := by decide +kernel
def iL_q25 : List (Nat × Instr × Nat) := [(1048, .aload_n 1, 1), (1049, .aload_n 0, 1), (1050, .iload 4, 2), (1052, .iconst 1, 1), (1053, .iadd, 1), (1054, .iaload, 1), (1055, .aload_n 0, 1), (1056, .iload 4, 2), (1058, .iconst 2, 1), (1059, .iadd, 1), (1060, .iaload, 1), (1061, .invokevirtual 131, 3), (1064, .aload_n 2, 1), (1065, .aload_n 0, 1), (1066, .iload 4, 2), (1068, .iconst 1, 1), (1069, .iadd, 1), (1070, .iaload, 1), (1071, .aload_n 0, 1), (1072, .iload 4, 2), (1074, .iconst 2, 1), (1075, .iadd, 1), (1076, .iaload, 1), (1077, .invokevirtual 134, 3), (1080, .if_icmp .eq 669, 3), (1083, .iconst 0, 1), (1084, .ireturn, 1)]
set_option maxRecDepth 100000 in
theorem dL_q25 : sx_dec code iL_q25 = true := by decide +kernel
def iL_q26 : List (Nat × Instr × Nat) := [(1085, .aload_n 1, 1), (1086, .invokevirtual 135, 3), (1089, .aload_n 2, 1), (1090, .invokevirtual 138, 3), (1093, .if_icmp .eq 656, 3), (1096, .iconst 0, 1), (1097, .ireturn, 1)]
set_option maxRecDepth 100000 in
theorem dL_q26 : sx_dec code iL_q26 = true := by decide +kernel
def iL_q27 : List (Nat × Instr × Nat) := [(1098, .aload_n 1, 1), (1099, .aload_n 0, 1), (1100, .iload 4, 2), (1102, .iconst 1, 1), (1103, .iadd, 1), (1104, .iaload, 1), (1105, .invokevirtual 139, 3), (1108, .aload_n 2, 1), (1109, .aload_n 0, 1), (1110, .iload 4, 2), (1112, .iconst 1, 1), (1113, .iadd, 1), (1114, .iaload, 1), (1115, .invokevirtual 142, 3), (1118, .if_icmp .eq 631, 3), (1121, .iconst 0, 1), (1122, .ireturn, 1)]
set_option maxRecDepth 100000 in
theorem dL_q27 : sx_dec code iL_q27 = true := by decide +kernel
def iL_q28 : List (Nat × Instr × Nat) := [(1123, .aload_n 1, 1), (1124, .aload_n 0, 1), (1125, .iload 4, 2), (1127, .iconst 1, 1), (1128, .iadd, 1), (1129, .iaload, 1), (1130, .aload_n 0, 1), (1131, .iload 4, 2), (1133, .iconst 2, 1), (1134, .iadd, 1), (1135, .iaload, 1), (1136, .invokevirtual 143, 3), (1139, .aload_n 2, 1), (1140, .aload_n 0, 1), (1141, .iload 4, 2), (1143, .iconst 1, 1), (1144, .iadd, 1), (1145, .iaload, 1), (1146, .aload_n 0, 1), (1147, .iload 4, 2), (1149, .iconst 2, 1), (1150, .iadd, 1), (1151, .iaload, 1), (1152, .invokevirtual 146, 3), (1155, .if_icmp .eq 594, 3), (1158, .iconst 0, 1), (1159, .ireturn, 1)]
set_option maxRecDepth 100000 in
theorem dL_q28 : sx_dec code iL_q28 = true := by decide +kernel
def iL_q29 : List (Nat × Instr × Nat) := [(1160, .aload_n 1, 1), (1161, .aload_n 0, 1), (1162, .iload 4, 2), (1164, .iconst 1, 1), (1165, .iadd, 1), (1166, .iaload, 1), (1167, .aload_n 0, 1), (1168, .iload 4, 2), (1170, .iconst 2, 1), (1171, .iadd, 1), (1172, .iaload, 1), (1173, .aload_n 0, 1), (1174, .iload 4, 2), (1176, .iconst 3, 1), (1177, .iadd, 1), (1178, .iaload, 1), (1179, .aload_n 0, 1), (1180, .iload 4, 2), (1182, .iconst 4, 1), (1183, .iadd, 1), (1184, .iaload, 1), (1185, .aload_n 0, 1), (1186, .iload 4, 2), (1188, .iconst 5, 1), (1189, .iadd, 1), (1190, .iaload, 1), (1191, .invokevirtual 147, 3), (1194, .aload_n 2, 1), (1195, .aload_n 0, 1), (1196, .iload 4, 2), (1198, .iconst 1, 1), (1199, .iadd, 1), (1200, .iaload, 1), (1201, .aload_n 0, 1), (1202, .iload 4, 2), (1204, .iconst 2, 1), (1205, .iadd, 1), (1206, .iaload, 1), (1207, .aload_n 0, 1), (1208, .iload 4, 2), (1210, .iconst 3, 1), (1211, .iadd, 1), (1212, .iaload, 1), (1213, .aload_n 0, 1), (1214, .iload 4, 2), (1216, .iconst 4, 1), (1217, .iadd, 1), (1218, .iaload, 1), (1219, .aload_n 0, 1), (1220, .iload 4, 2), (1222, .iconst 5, 1), (1223, .iadd, 1), (1224, .iaload, 1), (1225, .invokevirtual 150, 3), (1228, .if_icmp .eq 521, 3), (1231, .iconst 0, 1), (1232, .ireturn, 1)]
set_option maxRecDepth 100000 in
theorem dL_q29 : sx_dec code iL_q29 = true := by decide +kernel
def iL_q30 : List (Nat × Instr × Nat) := [(1233, .aload_n 1, 1), (1234, .aload_n 0, 1), (1235, .iload 4, 2), (1237, .iconst 1, 1), (1238, .iadd, 1), (1239, .iaload, 1), (1240, .aload_n 0, 1), (1241, .iload 4, 2), (1243, .iconst 2, 1), (1244, .iadd, 1), (1245, .iaload, 1), (1246, .aload_n 0, 1), (1247, .iload 4, 2), (1249, .iconst 3, 1), (1250, .iadd, 1), (1251, .iaload, 1), (1252, .invokevirtual 151, 3), (1255, .aload_n 2, 1), (1256, .aload_n 0, 1), (1257, .iload 4, 2), (1259, .iconst 1, 1), (1260, .iadd, 1), (1261, .iaload, 1), (1262, .aload_n 0, 1), (1263, .iload 4, 2), (1265, .iconst 2, 1), (1266, .iadd, 1), (1267, .iaload, 1), (1268, .aload_n 0, 1), (1269, .iload 4, 2), (1271, .iconst 3, 1), (1272, .iadd, 1), (1273, .iaload, 1), (1274, .invokevirtual 155, 3), (1277, .if_icmp .eq 472, 3), (1280, .iconst 0, 1), (1281, .ireturn, 1)]
set_option maxRecDepth 100000 in
theorem dL_q30 : sx_dec code iL_q30 = true := by decide +kernel
def iL_q31 : List (Nat × Instr × Nat) := [(1282, .aload_n 1, 1), (1283, .aload_n 0, 1), (1284, .iload 4, 2), (1286, .iconst 1, 1), (1287, .iadd, 1), (1288, .iaload, 1), (1289, .aload_n 0, 1), (1290, .iload 4, 2), (1292, .iconst 2, 1), (1293, .iadd, 1), (1294, .iaload, 1), (1295, .aload_n 0, 1), (1296, .iload 4, 2), (1298, .iconst 3, 1), (1299, .iadd, 1), (1300, .iaload, 1), (1301, .ifCond .eq 7, 3), (1304, .iconst 1, 1), (1305, .goto 4, 3), (1308, .iconst 0, 1), (1309, .invokevirtual 156, 3), (1312, .aload_n 2, 1), (1313, .aload_n 0, 1), (1314, .iload 4, 2), (1316, .iconst 1, 1), (1317, .iadd, 1), (1318, .iaload, 1), (1319, .aload_n 0, 1), (1320, .iload 4, 2), (1322, .iconst 2, 1), (1323, .iadd, 1), (1324, .iaload, 1), (1325, .aload_n 0, 1), (1326, .iload 4, 2), (1328, .iconst 3, 1), (1329, .iadd, 1), (1330, .iaload, 1), (1331, .ifCond .eq 7, 3), (1334, .iconst 1, 1), (1335, .goto 4, 3), (1338, .iconst 0, 1), (1339, .invokevirtual 160, 3), (1342, .if_icmp .eq 407, 3), (1345, .iconst 0, 1), (1346, .ireturn, 1)]
set_option maxRecDepth 100000 in
theorem dL_q31 : sx_dec code iL_q31 = true := by decide +kernel
def iL_q32 : List (Nat × Instr × Nat) := [(1347, .aload_n 1, 1), (1348, .aload_n 0, 1), (1349, .iload 4, 2), (1351, .iconst 1, 1), (1352, .iadd, 1), (1353, .iaload, 1), (1354, .aload_n 0, 1), (1355, .iload 4, 2), (1357, .iconst 2, 1), (1358, .iadd, 1), (1359, .iaload, 1), (1360, .invokevirtual 161, 3), (1363, .aload_n 2, 1), (1364, .aload_n 0, 1), (1365, .iload 4, 2), (1367, .iconst 1, 1), (1368, .iadd, 1), (1369, .iaload, 1), (1370, .aload_n 0, 1), (1371, .iload 4, 2), (1373, .iconst 2, 1), (1374, .iadd, 1), (1375, .iaload, 1), (1376, .invokevirtual 164, 3), (1379, .if_icmp .eq 370, 3), (1382, .iconst 0, 1), (1383, .ireturn, 1)]
set_option maxRecDepth 100000 in
theorem dL_q32 : sx_dec code iL_q32 = true := by decide +kernel
def iL_q33 : List (Nat × Instr × Nat) := [(1384, .aload_n 1, 1), (1385, .aload_n 0, 1), (1386, .iload 4, 2), (1388, .iconst 1, 1), (1389, .iadd, 1), (1390, .iaload, 1), (1391, .invokevirtual 165, 3), (1394, .aload_n 2, 1), (1395, .aload_n 0, 1), (1396, .iload 4, 2), (1398, .iconst 1, 1), (1399, .iadd, 1), (1400, .iaload, 1), (1401, .invokevirtual 168, 3), (1404, .if_icmp .eq 345, 3), (1407, .iconst 0, 1), (1408, .ireturn, 1)]
set_option maxRecDepth 100000 in
theorem dL_q33 : sx_dec code iL_q33 = true := by decide +kernel
def iL_q34 : List (Nat × Instr × Nat) := [(1409, .aload_n 1, 1), (1410, .aload_n 0, 1), (1411, .iload 4, 2), (1413, .iconst 1, 1), (1414, .iadd, 1), (1415, .iaload, 1), (1416, .aload_n 0, 1), (1417, .iload 4, 2), (1419, .iconst 2, 1), (1420, .iadd, 1), (1421, .iaload, 1), (1422, .invokevirtual 169, 3), (1425, .aload_n 2, 1), (1426, .aload_n 0, 1), (1427, .iload 4, 2), (1429, .iconst 1, 1), (1430, .iadd, 1), (1431, .iaload, 1), (1432, .aload_n 0, 1), (1433, .iload 4, 2), (1435, .iconst 2, 1), (1436, .iadd, 1), (1437, .iaload, 1), (1438, .invokevirtual 172, 3), (1441, .if_icmp .eq 308, 3), (1444, .iconst 0, 1), (1445, .ireturn, 1)]
set_option maxRecDepth 100000 in
theorem dL_q34 : sx_dec code iL_q34 = true := by decide +kernel
def iL_q35 : List (Nat × Instr × Nat) := [(1446, .aload_n 1, 1), (1447, .aload_n 0, 1), (1448, .iload 4, 2), (1450, .iconst 1, 1), (1451, .iadd, 1), (1452, .iaload, 1), (1453, .invokevirtual 173, 3), (1456, .aload_n 2, 1), (1457, .aload_n 0, 1), (1458, .iload 4, 2), (1460, .iconst 1, 1), (1461, .iadd, 1), (1462, .iaload, 1), (1463, .invokevirtual 176, 3), (1466, .if_icmp .eq 283, 3), (1469, .iconst 0, 1), (1470, .ireturn, 1)]
set_option maxRecDepth 100000 in
theorem dL_q35 : sx_dec code iL_q35 = true := by decide +kernel
def iL_q36 : List (Nat × Instr × Nat) := [(1471, .aload_n 1, 1), (1472, .aload_n 0, 1), (1473, .iload 4, 2), (1475, .iconst 1, 1), (1476, .iadd, 1), (1477, .iaload, 1), (1478, .aload_n 0, 1), (1479, .iload 4, 2), (1481, .iconst 2, 1), (1482, .iadd, 1), (1483, .iaload, 1), (1484, .aload_n 0, 1), (1485, .iload 4, 2), (1487, .iconst 3, 1), (1488, .iadd, 1), (1489, .iaload, 1), (1490, .ifCond .eq 7, 3), (1493, .iconst 1, 1), (1494, .goto 4, 3), (1497, .iconst 0, 1), (1498, .invokevirtual 177, 3), (1501, .aload_n 2, 1), (1502, .aload_n 0, 1), (1503, .iload 4, 2), (1505, .iconst 1, 1), (1506, .iadd, 1), (1507, .iaload, 1), (1508, .aload_n 0, 1), (1509, .iload 4, 2), (1511, .iconst 2, 1), (1512, .iadd, 1), (1513, .iaload, 1), (1514, .aload_n 0, 1), (1515, .iload 4, 2), (1517, .iconst 3, 1), (1518, .iadd, 1), (1519, .iaload, 1), (1520, .ifCond .eq 7, 3), (1523, .iconst 1, 1), (1524, .goto 4, 3), (1527, .iconst 0, 1), (1528, .invokevirtual 180, 3), (1531, .if_icmp .eq 218, 3), (1534, .iconst 0, 1), (1535, .ireturn, 1)]
set_option maxRecDepth 100000 in
theorem dL_q36 : sx_dec code iL_q36 = true := by decide +kernel
def iL_q37 : List (Nat × Instr × Nat) := [(1536, .aload_n 1, 1), (1537, .invokevirtual 181, 3), (1540, .aload_n 2, 1), (1541, .invokevirtual 184, 3), (1544, .if_icmp .eq 205, 3), (1547, .iconst 0, 1), (1548, .ireturn, 1)]
set_option maxRecDepth 100000 in
theorem dL_q37 : sx_dec code iL_q37 = true := by decide +kernel
def iL_q38 : List (Nat × Instr × Nat) := [(1549, .aload_n 1, 1), (1550, .aload_n 0, 1), (1551, .iload 4, 2), (1553, .iconst 1, 1), (1554, .iadd, 1), (1555, .iaload, 1), (1556, .aload_n 0, 1), (1557, .iload 4, 2), (1559, .iconst 2, 1), (1560, .iadd, 1), (1561, .iaload, 1), (1562, .invokevirtual 185, 3), (1565, .aload_n 2, 1), (1566, .aload_n 0, 1), (1567, .iload 4, 2), (1569, .iconst 1, 1), (1570, .iadd, 1), (1571, .iaload, 1), (1572, .aload_n 0, 1), (1573, .iload 4, 2), (1575, .iconst 2, 1), (1576, .iadd, 1), (1577, .iaload, 1), (1578, .invokevirtual 188, 3), (1581, .if_icmp .eq 168, 3), (1584, .iconst 0, 1), (1585, .ireturn, 1)]
set_option maxRecDepth 100000 in
theorem dL_q38 : sx_dec code iL_q38 = true := by decide +kernel
def iL_q39 : List (Nat × Instr × Nat) := [(1586, .aload_n 1, 1), (1587, .aload_n 0, 1), (1588, .iload 4, 2), (1590, .iconst 1, 1), (1591, .iadd, 1), (1592, .iaload, 1), (1593, .aload_n 0, 1), (1594, .iload 4, 2), (1596, .iconst 2, 1), (1597, .iadd, 1), (1598, .iaload, 1), (1599, .invokevirtual 189, 3), (1602, .aload_n 2, 1), (1603, .aload_n 0, 1), (1604, .iload 4, 2), (1606, .iconst 1, 1), (1607, .iadd, 1), (1608, .iaload, 1), (1609, .aload_n 0, 1), (1610, .iload 4, 2), (1612, .iconst 2, 1), (1613, .iadd, 1), (1614, .iaload, 1), (1615, .invokevirtual 192, 3), (1618, .if_icmp .eq 131, 3), (1621, .iconst 0, 1), (1622, .ireturn, 1)]
set_option maxRecDepth 100000 in
theorem dL_q39 : sx_dec code iL_q39 = true := by decide +kernel
def iL_q40 : List (Nat × Instr × Nat) := [(1623, .aload_n 1, 1), (1624, .aload_n 0, 1), (1625, .iload 4, 2), (1627, .iconst 1, 1), (1628, .iadd, 1), (1629, .iaload, 1), (1630, .invokevirtual 193, 3), (1633, .aload_n 2, 1), (1634, .aload_n 0, 1), (1635, .iload 4, 2), (1637, .iconst 1, 1), (1638, .iadd, 1), (1639, .iaload, 1), (1640, .invokevirtual 196, 3), (1643, .if_icmp .eq 106, 3), (1646, .iconst 0, 1), (1647, .ireturn, 1)]
set_option maxRecDepth 100000 in
theorem dL_q40 : sx_dec code iL_q40 = true := by decide +kernel
def iL_q41 : List (Nat × Instr × Nat) := [(1648, .aload_n 1, 1), (1649, .aload_n 0, 1), (1650, .iload 4, 2), (1652, .iconst 1, 1), (1653, .iadd, 1), (1654, .iaload, 1), (1655, .invokevirtual 197, 3), (1658, .aload_n 2, 1), (1659, .aload_n 0, 1), (1660, .iload 4, 2), (1662, .iconst 1, 1), (1663, .iadd, 1), (1664, .iaload, 1), (1665, .invokevirtual 200, 3), (1668, .if_icmp .eq 81, 3), (1671, .iconst 0, 1), (1672, .ireturn, 1)]
set_option maxRecDepth 100000 in
theorem dL_q41 : sx_dec code iL_q41 = true := by decide +kernel
def iL_q42 : List (Nat × Instr × Nat) := [(1673, .aload_n 1, 1), (1674, .aload_n 0, 1), (1675, .iload 4, 2), (1677, .iconst 1, 1), (1678, .iadd, 1), (1679, .iaload, 1), (1680, .invokevirtual 201, 3), (1683, .aload_n 2, 1), (1684, .aload_n 0, 1), (1685, .iload 4, 2), (1687, .iconst 1, 1), (1688, .iadd, 1), (1689, .iaload, 1), (1690, .invokevirtual 204, 3), (1693, .if_icmp .eq 56, 3), (1696, .iconst 0, 1), (1697, .ireturn, 1)]
set_option maxRecDepth 100000 in
theorem dL_q42 : sx_dec code iL_q42 = true := by decide +kernel
def iL_q43 : List (Nat × Instr × Nat) := [(1698, .aload_n 1, 1), (1699, .invokevirtual 205, 3), (1702, .aload_n 2, 1), (1703, .invokevirtual 208, 3), (1706, .if_icmp .eq 43, 3), (1709, .iconst 0, 1), (1710, .ireturn, 1)]
set_option maxRecDepth 100000 in
theorem dL_q43 : sx_dec code iL_q43 = true := by decide +kernel
def iL_q44 : List (Nat × Instr × Nat) := [(1711, .aload_n 1, 1), (1712, .invokevirtual 209, 3), (1715, .aload_n 2, 1), (1716, .invokevirtual 212, 3), (1719, .if_icmp .eq 30, 3), (1722, .iconst 0, 1), (1723, .ireturn, 1)]
set_option maxRecDepth 100000 in
theorem dL_q44 : sx_dec code iL_q44 = true := by decide +kernel
def iL_q45 : List (Nat × Instr × Nat) := [(1724, .aload_n 1, 1), (1725, .aload_n 0, 1), (1726, .iload 4, 2), (1728, .iconst 1, 1), (1729, .iadd, 1), (1730, .iaload, 1), (1731, .invokevirtual 213, 3), (1734, .aload_n 2, 1), (1735, .aload_n 0, 1), (1736, .iload 4, 2), (1738, .iconst 1, 1), (1739, .iadd, 1), (1740, .iaload, 1), (1741, .invokevirtual 216, 3), (1744, .if_icmp .eq 5, 3), (1747, .iconst 0, 1), (1748, .ireturn, 1)]
set_option maxRecDepth 100000 in
theorem dL_q45 : sx_dec code iL_q45 = true := by decide +kernel
def iL_tl : List (Nat × Instr × Nat) := [(1749, .iinc 4 6, 3), (1752, .goto (-1729), 3), (1755, .iconst 1, 1), (1756, .ireturn, 1)]
set_option maxRecDepth 100000 in
theorem dL_tl : sx_dec code iL_tl = true := by decide +kernel
set_option maxRecDepth 100000 in
theorem lL_7 : sx_ml "StainStreetLaw" 7 ⟨"StainStreet", "house", "(II)I"⟩ := Or.inl (sx_a5 53 rfl rfl)
set_option maxRecDepth 100000 in
theorem nL_8 : sx_w (.classLink "StainStreetLaw" 8 "StainStreet") := sx_a1 25 rfl rfl
set_option maxRecDepth 100000 in
theorem lL_15 : sx_ml "StainStreetLaw" 15 ⟨"StainStreet", "<init>", "()V"⟩ := Or.inl (sx_a1 27 rfl rfl)
set_option maxRecDepth 100000 in
theorem nL_16 : sx_w (.classLink "StainStreetLaw" 16 "StainStreetModel") := sx_a5 118 rfl rfl
set_option maxRecDepth 100000 in
theorem lL_18 : sx_ml "StainStreetLaw" 18 ⟨"StainStreetModel", "<init>", "()V"⟩ := Or.inl (sx_a5 120 rfl rfl)
set_option maxRecDepth 100000 in
theorem lL_19 : sx_ml "StainStreetLaw" 19 ⟨"StainStreet", "feed", "(IIIII)I"⟩ := Or.inl (sx_a2 116 rfl rfl)
set_option maxRecDepth 100000 in
theorem lL_23 : sx_ml "StainStreetLaw" 23 ⟨"StainStreetModel", "feed", "(IIIII)I"⟩ := Or.inl (sx_a6 33 rfl rfl)
set_option maxRecDepth 100000 in
theorem lL_24 : sx_ml "StainStreetLaw" 24 ⟨"StainStreet", "end", "(I)Z"⟩ := Or.inl (sx_a2 127 rfl rfl)
set_option maxRecDepth 100000 in
theorem lL_28 : sx_ml "StainStreetLaw" 28 ⟨"StainStreetModel", "end", "(I)Z"⟩ := Or.inl (sx_a6 40 rfl rfl)
set_option maxRecDepth 100000 in
theorem lL_29 : sx_ml "StainStreetLaw" 29 ⟨"StainStreet", "fault", "(I)I"⟩ := Or.inl (sx_a2 131 rfl rfl)
set_option maxRecDepth 100000 in
theorem lL_33 : sx_ml "StainStreetLaw" 33 ⟨"StainStreetModel", "fault", "(I)I"⟩ := Or.inl (sx_a6 44 rfl rfl)
set_option maxRecDepth 100000 in
theorem lL_34 : sx_ml "StainStreetLaw" 34 ⟨"StainStreet", "text", "(I)I"⟩ := Or.inl (sx_a3 63 rfl rfl)
set_option maxRecDepth 100000 in
theorem lL_37 : sx_ml "StainStreetLaw" 37 ⟨"StainStreetModel", "text", "(I)I"⟩ := Or.inl (sx_a6 167 rfl rfl)
set_option maxRecDepth 100000 in
theorem lL_38 : sx_ml "StainStreetLaw" 38 ⟨"StainStreet", "rule", "(I)I"⟩ := Or.inl (sx_a3 93 rfl rfl)
set_option maxRecDepth 100000 in
theorem lL_41 : sx_ml "StainStreetLaw" 41 ⟨"StainStreetModel", "rule", "(I)I"⟩ := Or.inl (sx_a6 183 rfl rfl)
set_option maxRecDepth 100000 in
theorem lL_42 : sx_ml "StainStreetLaw" 42 ⟨"StainStreetLaw", "house", "(LStainStreet;II[J)I"⟩ := Or.inl (sx_a5 49 rfl rfl)
set_option maxRecDepth 100000 in
theorem lL_47 : sx_ml "StainStreetLaw" 47 ⟨"StainStreetModel", "house", "(II)I"⟩ := Or.inl (sx_a6 187 rfl rfl)
set_option maxRecDepth 100000 in
theorem lL_48 : sx_ml "StainStreetLaw" 48 ⟨"StainStreetModel", "thrown", "()I"⟩ := Or.inl (sx_a6 29 rfl rfl)
set_option maxRecDepth 100000 in
theorem lL_52 : sx_ml "StainStreetLaw" 52 ⟨"StainStreet", "form", "(II)I"⟩ := Or.inl (sx_a3 105 rfl rfl)
set_option maxRecDepth 100000 in
theorem lL_55 : sx_ml "StainStreetLaw" 55 ⟨"StainStreetModel", "form", "(II)I"⟩ := Or.inl (sx_a6 224 rfl rfl)
set_option maxRecDepth 100000 in
theorem lL_56 : sx_ml "StainStreetLaw" 56 ⟨"StainStreet", "law", "(I)Z"⟩ := Or.inl (sx_a3 118 rfl rfl)
set_option maxRecDepth 100000 in
theorem lL_59 : sx_ml "StainStreetLaw" 59 ⟨"StainStreetModel", "law", "(I)Z"⟩ := Or.inl (sx_a6 232 rfl rfl)
set_option maxRecDepth 100000 in
theorem lL_60 : sx_ml "StainStreetLaw" 60 ⟨"StainStreet", "sham", "(II)I"⟩ := Or.inl (sx_a3 157 rfl rfl)
set_option maxRecDepth 100000 in
theorem lL_63 : sx_ml "StainStreetLaw" 63 ⟨"StainStreetModel", "sham", "(II)I"⟩ := Or.inl (sx_a6 236 rfl rfl)
set_option maxRecDepth 100000 in
theorem lL_64 : sx_ml "StainStreetLaw" 64 ⟨"StainStreet", "hang", "(II)I"⟩ := Or.inl (sx_a3 181 rfl rfl)
set_option maxRecDepth 100000 in
theorem lL_67 : sx_ml "StainStreetLaw" 67 ⟨"StainStreetModel", "hang", "(II)I"⟩ := Or.inl (sx_a7 9 rfl rfl)
set_option maxRecDepth 100000 in
theorem lL_68 : sx_ml "StainStreetLaw" 68 ⟨"StainStreet", "whiten", "(I)I"⟩ := Or.inl (sx_a3 188 rfl rfl)
set_option maxRecDepth 100000 in
theorem lL_71 : sx_ml "StainStreetLaw" 71 ⟨"StainStreetModel", "whiten", "(I)I"⟩ := Or.inl (sx_a7 13 rfl rfl)
set_option maxRecDepth 100000 in
theorem lL_72 : sx_ml "StainStreetLaw" 72 ⟨"StainStreet", "piano", "(I)I"⟩ := Or.inl (sx_a3 192 rfl rfl)
set_option maxRecDepth 100000 in
theorem lL_75 : sx_ml "StainStreetLaw" 75 ⟨"StainStreetModel", "piano", "(I)I"⟩ := Or.inl (sx_a7 17 rfl rfl)
set_option maxRecDepth 100000 in
theorem lL_76 : sx_ml "StainStreetLaw" 76 ⟨"StainStreet", "move", "(II)I"⟩ := Or.inl (sx_a3 200 rfl rfl)
set_option maxRecDepth 100000 in
theorem lL_79 : sx_ml "StainStreetLaw" 79 ⟨"StainStreetModel", "move", "(II)I"⟩ := Or.inl (sx_a7 21 rfl rfl)
set_option maxRecDepth 100000 in
theorem lL_80 : sx_ml "StainStreetLaw" 80 ⟨"StainStreet", "give", "(I)I"⟩ := Or.inl (sx_a3 204 rfl rfl)
set_option maxRecDepth 100000 in
theorem lL_83 : sx_ml "StainStreetLaw" 83 ⟨"StainStreetModel", "give", "(I)I"⟩ := Or.inl (sx_a7 29 rfl rfl)
set_option maxRecDepth 100000 in
theorem lL_84 : sx_ml "StainStreetLaw" 84 ⟨"StainStreet", "days", "(I)I"⟩ := Or.inl (sx_a3 208 rfl rfl)
set_option maxRecDepth 100000 in
theorem lL_87 : sx_ml "StainStreetLaw" 87 ⟨"StainStreetModel", "days", "(I)I"⟩ := Or.inl (sx_a7 33 rfl rfl)
set_option maxRecDepth 100000 in
theorem lL_88 : sx_ml "StainStreetLaw" 88 ⟨"StainStreet", "moods", "(I)Z"⟩ := Or.inl (sx_a4 26 rfl rfl)
set_option maxRecDepth 100000 in
theorem lL_91 : sx_ml "StainStreetLaw" 91 ⟨"StainStreetModel", "moods", "(I)Z"⟩ := Or.inl (sx_a7 57 rfl rfl)
set_option maxRecDepth 100000 in
theorem kL_92 : sx_w (.constantLong "StainStreetLaw" 92 (4294967295 : Int64)) := sx_a8 47 rfl rfl
set_option maxRecDepth 100000 in
theorem lL_94 : sx_ml "StainStreetLaw" 94 ⟨"StainStreet", "years", "(IJ)I"⟩ := Or.inl (sx_a4 30 rfl rfl)
set_option maxRecDepth 100000 in
theorem lL_98 : sx_ml "StainStreetLaw" 98 ⟨"StainStreetModel", "years", "(IJ)I"⟩ := Or.inl (sx_a7 61 rfl rfl)
set_option maxRecDepth 100000 in
theorem lL_99 : sx_ml "StainStreetLaw" 99 ⟨"StainStreet", "status", "(I)I"⟩ := Or.inl (sx_a3 122 rfl rfl)
set_option maxRecDepth 100000 in
theorem lL_102 : sx_ml "StainStreetLaw" 102 ⟨"StainStreetModel", "status", "(I)I"⟩ := Or.inl (sx_a7 79 rfl rfl)
set_option maxRecDepth 100000 in
theorem lL_103 : sx_ml "StainStreetLaw" 103 ⟨"StainStreet", "undo", "()I"⟩ := Or.inl (sx_a4 44 rfl rfl)
set_option maxRecDepth 100000 in
theorem lL_106 : sx_ml "StainStreetLaw" 106 ⟨"StainStreetModel", "undo", "()I"⟩ := Or.inl (sx_a7 83 rfl rfl)
set_option maxRecDepth 100000 in
theorem lL_107 : sx_ml "StainStreetLaw" 107 ⟨"StainStreet", "log", "(II)I"⟩ := Or.inl (sx_a3 126 rfl rfl)
set_option maxRecDepth 100000 in
theorem lL_110 : sx_ml "StainStreetLaw" 110 ⟨"StainStreetModel", "log", "(II)I"⟩ := Or.inl (sx_a7 87 rfl rfl)
set_option maxRecDepth 100000 in
theorem lL_111 : sx_ml "StainStreetLaw" 111 ⟨"StainStreet", "ahead", "(II)I"⟩ := Or.inl (sx_a4 74 rfl rfl)
set_option maxRecDepth 100000 in
theorem lL_114 : sx_ml "StainStreetLaw" 114 ⟨"StainStreetModel", "ahead", "(II)I"⟩ := Or.inl (sx_a7 95 rfl rfl)
set_option maxRecDepth 100000 in
theorem lL_115 : sx_ml "StainStreetLaw" 115 ⟨"StainStreet", "soonest", "(I)I"⟩ := Or.inl (sx_a4 79 rfl rfl)
set_option maxRecDepth 100000 in
theorem lL_118 : sx_ml "StainStreetLaw" 118 ⟨"StainStreetModel", "soonest", "(I)I"⟩ := Or.inl (sx_a7 107 rfl rfl)
set_option maxRecDepth 100000 in
theorem lL_119 : sx_ml "StainStreetLaw" 119 ⟨"StainStreet", "visits", "(I)I"⟩ := Or.inl (sx_a4 83 rfl rfl)
set_option maxRecDepth 100000 in
theorem lL_122 : sx_ml "StainStreetLaw" 122 ⟨"StainStreetModel", "visits", "(I)I"⟩ := Or.inl (sx_a7 111 rfl rfl)
set_option maxRecDepth 100000 in
theorem lL_123 : sx_ml "StainStreetLaw" 123 ⟨"StainStreet", "empty", "(I)I"⟩ := Or.inl (sx_a4 90 rfl rfl)
set_option maxRecDepth 100000 in
theorem lL_126 : sx_ml "StainStreetLaw" 126 ⟨"StainStreetModel", "empty", "(I)I"⟩ := Or.inl (sx_a7 123 rfl rfl)
set_option maxRecDepth 100000 in
theorem lL_127 : sx_ml "StainStreetLaw" 127 ⟨"StainStreet", "goesTo", "()I"⟩ := Or.inl (sx_a4 94 rfl rfl)
set_option maxRecDepth 100000 in
theorem lL_130 : sx_ml "StainStreetLaw" 130 ⟨"StainStreetModel", "goesTo", "()I"⟩ := Or.inl (sx_a7 127 rfl rfl)
set_option maxRecDepth 100000 in
theorem lL_131 : sx_ml "StainStreetLaw" 131 ⟨"StainStreet", "least", "(II)I"⟩ := Or.inl (sx_a4 99 rfl rfl)
set_option maxRecDepth 100000 in
theorem lL_134 : sx_ml "StainStreetLaw" 134 ⟨"StainStreetModel", "least", "(II)I"⟩ := Or.inl (sx_a7 131 rfl rfl)
set_option maxRecDepth 100000 in
theorem lL_135 : sx_ml "StainStreetLaw" 135 ⟨"StainStreet", "rid", "()I"⟩ := Or.inl (sx_a4 126 rfl rfl)
set_option maxRecDepth 100000 in
theorem lL_138 : sx_ml "StainStreetLaw" 138 ⟨"StainStreetModel", "rid", "()I"⟩ := Or.inl (sx_a7 147 rfl rfl)
set_option maxRecDepth 100000 in
theorem lL_139 : sx_ml "StainStreetLaw" 139 ⟨"StainStreet", "white", "(I)I"⟩ := Or.inl (sx_a4 130 rfl rfl)
set_option maxRecDepth 100000 in
theorem lL_142 : sx_ml "StainStreetLaw" 142 ⟨"StainStreetModel", "white", "(I)I"⟩ := Or.inl (sx_a7 151 rfl rfl)
set_option maxRecDepth 100000 in
theorem lL_143 : sx_ml "StainStreetLaw" 143 ⟨"StainStreet", "treaties", "(II)I"⟩ := Or.inl (sx_a4 134 rfl rfl)
set_option maxRecDepth 100000 in
theorem lL_146 : sx_ml "StainStreetLaw" 146 ⟨"StainStreetModel", "treaties", "(II)I"⟩ := Or.inl (sx_a7 155 rfl rfl)
set_option maxRecDepth 100000 in
theorem lL_147 : sx_ml "StainStreetLaw" 147 ⟨"StainStreet", "game", "(IIIII)I"⟩ := Or.inl (sx_a4 152 rfl rfl)
set_option maxRecDepth 100000 in
theorem lL_150 : sx_ml "StainStreetLaw" 150 ⟨"StainStreetModel", "game", "(IIIII)I"⟩ := Or.inl (sx_a7 164 rfl rfl)
set_option maxRecDepth 100000 in
theorem lL_151 : sx_ml "StainStreetLaw" 151 ⟨"StainStreet", "rests", "(III)I"⟩ := Or.inl (sx_a4 163 rfl rfl)
set_option maxRecDepth 100000 in
theorem lL_155 : sx_ml "StainStreetLaw" 155 ⟨"StainStreetModel", "rests", "(III)I"⟩ := Or.inl (sx_a7 176 rfl rfl)
set_option maxRecDepth 100000 in
theorem lL_156 : sx_ml "StainStreetLaw" 156 ⟨"StainStreet", "seen", "(IIZ)I"⟩ := Or.inl (sx_a4 179 rfl rfl)
set_option maxRecDepth 100000 in
theorem lL_160 : sx_ml "StainStreetLaw" 160 ⟨"StainStreetModel", "seen", "(IIZ)I"⟩ := Or.inl (sx_a7 184 rfl rfl)
set_option maxRecDepth 100000 in
theorem lL_161 : sx_ml "StainStreetLaw" 161 ⟨"StainStreet", "who", "(II)I"⟩ := Or.inl (sx_a4 187 rfl rfl)
set_option maxRecDepth 100000 in
theorem lL_164 : sx_ml "StainStreetLaw" 164 ⟨"StainStreetModel", "who", "(II)I"⟩ := Or.inl (sx_a7 188 rfl rfl)
set_option maxRecDepth 100000 in
theorem lL_165 : sx_ml "StainStreetLaw" 165 ⟨"StainStreet", "best", "(I)I"⟩ := Or.inl (sx_a4 207 rfl rfl)
set_option maxRecDepth 100000 in
theorem lL_168 : sx_ml "StainStreetLaw" 168 ⟨"StainStreetModel", "best", "(I)I"⟩ := Or.inl (sx_a7 208 rfl rfl)
set_option maxRecDepth 100000 in
theorem lL_169 : sx_ml "StainStreetLaw" 169 ⟨"StainStreet", "follows", "(II)I"⟩ := Or.inl (sx_a4 215 rfl rfl)
set_option maxRecDepth 100000 in
theorem lL_172 : sx_ml "StainStreetLaw" 172 ⟨"StainStreetModel", "follows", "(II)I"⟩ := Or.inl (sx_a7 217 rfl rfl)
set_option maxRecDepth 100000 in
theorem lL_173 : sx_ml "StainStreetLaw" 173 ⟨"StainStreet", "ring", "(I)I"⟩ := Or.inl (sx_a4 223 rfl rfl)
set_option maxRecDepth 100000 in
theorem lL_176 : sx_ml "StainStreetLaw" 176 ⟨"StainStreetModel", "ring", "(I)I"⟩ := Or.inl (sx_a7 225 rfl rfl)
set_option maxRecDepth 100000 in
theorem lL_177 : sx_ml "StainStreetLaw" 177 ⟨"StainStreet", "was", "(IIZ)I"⟩ := Or.inl (sx_a4 227 rfl rfl)
set_option maxRecDepth 100000 in
theorem lL_180 : sx_ml "StainStreetLaw" 180 ⟨"StainStreetModel", "was", "(IIZ)I"⟩ := Or.inl (sx_a7 229 rfl rfl)
set_option maxRecDepth 100000 in
theorem lL_181 : sx_ml "StainStreetLaw" 181 ⟨"StainStreet", "forms", "()I"⟩ := Or.inl (sx_a4 231 rfl rfl)
set_option maxRecDepth 100000 in
theorem lL_184 : sx_ml "StainStreetLaw" 184 ⟨"StainStreetModel", "forms", "()I"⟩ := Or.inl (sx_a7 233 rfl rfl)
set_option maxRecDepth 100000 in
theorem lL_185 : sx_ml "StainStreetLaw" 185 ⟨"StainStreet", "odds", "(II)I"⟩ := Or.inl (sx_a4 239 rfl rfl)
set_option maxRecDepth 100000 in
theorem lL_188 : sx_ml "StainStreetLaw" 188 ⟨"StainStreetModel", "odds", "(II)I"⟩ := Or.inl (sx_a7 237 rfl rfl)
set_option maxRecDepth 100000 in
theorem lL_189 : sx_ml "StainStreetLaw" 189 ⟨"StainStreet", "shares", "(II)I"⟩ := Or.inl (sx_a5 13 rfl rfl)
set_option maxRecDepth 100000 in
theorem lL_192 : sx_ml "StainStreetLaw" 192 ⟨"StainStreetModel", "shares", "(II)I"⟩ := Or.inl (sx_a8 7 rfl rfl)
set_option maxRecDepth 100000 in
theorem lL_193 : sx_ml "StainStreetLaw" 193 ⟨"StainStreet", "most", "(I)I"⟩ := Or.inl (sx_a5 17 rfl rfl)
set_option maxRecDepth 100000 in
theorem lL_196 : sx_ml "StainStreetLaw" 196 ⟨"StainStreetModel", "most", "(I)I"⟩ := Or.inl (sx_a8 11 rfl rfl)
set_option maxRecDepth 100000 in
theorem lL_197 : sx_ml "StainStreetLaw" 197 ⟨"StainStreet", "used", "(I)I"⟩ := Or.inl (sx_a5 41 rfl rfl)
set_option maxRecDepth 100000 in
theorem lL_200 : sx_ml "StainStreetLaw" 200 ⟨"StainStreetModel", "used", "(I)I"⟩ := Or.inl (sx_a8 27 rfl rfl)
set_option maxRecDepth 100000 in
theorem lL_201 : sx_ml "StainStreetLaw" 201 ⟨"StainStreet", "near", "(I)I"⟩ := Or.inl (sx_a5 45 rfl rfl)
set_option maxRecDepth 100000 in
theorem lL_204 : sx_ml "StainStreetLaw" 204 ⟨"StainStreetModel", "near", "(I)I"⟩ := Or.inl (sx_a8 31 rfl rfl)
set_option maxRecDepth 100000 in
theorem lL_205 : sx_ml "StainStreetLaw" 205 ⟨"StainStreet", "image", "()I"⟩ := Or.inl (sx_a4 52 rfl rfl)
set_option maxRecDepth 100000 in
theorem lL_208 : sx_ml "StainStreetLaw" 208 ⟨"StainStreetModel", "image", "()I"⟩ := Or.inl (sx_a8 35 rfl rfl)
set_option maxRecDepth 100000 in
theorem lL_209 : sx_ml "StainStreetLaw" 209 ⟨"StainStreet", "back", "()I"⟩ := Or.inl (sx_a4 66 rfl rfl)
set_option maxRecDepth 100000 in
theorem lL_212 : sx_ml "StainStreetLaw" 212 ⟨"StainStreetModel", "back", "()I"⟩ := Or.inl (sx_a8 39 rfl rfl)
set_option maxRecDepth 100000 in
theorem lL_213 : sx_ml "StainStreetLaw" 213 ⟨"StainStreet", "count", "(I)I"⟩ := Or.inl (sx_a3 153 rfl rfl)
set_option maxRecDepth 100000 in
theorem lL_216 : sx_ml "StainStreetLaw" 216 ⟨"StainStreetModel", "count", "(I)I"⟩ := Or.inl (sx_a8 43 rfl rfl)

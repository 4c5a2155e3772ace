-- P 14c
section
noncomputable abbrev dlLa_0 : List (Nat × Instr × Nat) := [(0, .new 8, 3), (3, .dup, 1), (4, .invokespecial 122, 3), (7, .astore_n 1, 1), (8, .new 123, 3), (11, .dup, 1), (12, .invokespecial 125, 3), (15, .astore_n 2, 1), (16, .iconst 1, 1), (17, .newarray .long, 2), (19, .astore_n 3, 1), (20, .iconst 0, 1), (21, .istore 4, 2), (23, .iload 4, 2), (25, .aload_n 0, 1), (26, .arraylength, 1), (27, .bipush 7, 2), (29, .isub, 1), (30, .if_icmp .gt 1916, 3), (33, .aload_n 0, 1), (34, .iload 4, 2), (36, .iaload, 1), (37, .bipush 63, 2), (39, .iand, 1), (40, .tableswitch 1900 0 46 #[204, 277, 305, 333, 361, 389, 402, 415, 443, 483, 511, 539, 615, 643, 683, 711, 751, 764, 777, 790, 818, 858, 898, 938, 1002, 1092, 1168, 1232, 1272, 1324, 1364, 1377, 1405, 1418, 1458, 1510, 1523, 1563, 1603, 1631, 1683, 1696, 1748, 1824, 1837, 1850, 1875], 204), (244, .aload_n 1, 1), (245, .aload_n 0, 1), (246, .iload 4, 2), (248, .iconst 1, 1), (249, .iadd, 1)]
theorem dtLa_0 : fmDec cL_law_ dlLa_0 = true := dk_fx 0 [(17, .newarray .long, 2), (40, .tableswitch 1900 0 46 #[204, 277, 305, 333, 361, 389, 402, 415, 443, 483, 511, 539, 615, 643, 683, 711, 751, 764, 777, 790, 818, 858, 898, 938, 1002, 1092, 1168, 1232, 1272, 1324, 1364, 1377, 1405, 1418, 1458, 1510, 1523, 1563, 1603, 1631, 1683, 1696, 1748, 1824, 1837, 1850, 1875], 204)] (by decide +kernel) (by decide +kernel)
noncomputable abbrev dlLa_1 : List (Nat × Instr × Nat) := [(250, .iaload, 1), (251, .aload_n 0, 1), (252, .iload 4, 2), (254, .iconst 2, 1), (255, .iadd, 1), (256, .iaload, 1), (257, .aload_n 0, 1), (258, .iload 4, 2), (260, .iconst 3, 1), (261, .iadd, 1), (262, .iaload, 1), (263, .aload_n 0, 1), (264, .iload 4, 2), (266, .iconst 4, 1), (267, .iadd, 1), (268, .iaload, 1), (269, .aload_n 0, 1), (270, .iload 4, 2), (272, .iconst 5, 1), (273, .iadd, 1), (274, .iaload, 1), (275, .invokevirtual 126, 3), (278, .pop, 1), (279, .aload_n 2, 1), (280, .aload_n 0, 1), (281, .iload 4, 2), (283, .iconst 1, 1), (284, .iadd, 1), (285, .iaload, 1), (286, .aload_n 0, 1)]
theorem dtLa_1 : fmDec cL_law_ dlLa_1 = true := dk_fm 250 (by decide +kernel)
noncomputable abbrev dlLa_2 : List (Nat × Instr × Nat) := [(287, .iload 4, 2), (289, .iconst 2, 1), (290, .iadd, 1), (291, .iaload, 1), (292, .aload_n 0, 1), (293, .iload 4, 2), (295, .iconst 3, 1), (296, .iadd, 1), (297, .iaload, 1), (298, .aload_n 0, 1), (299, .iload 4, 2), (301, .iconst 4, 1), (302, .iadd, 1), (303, .iaload, 1), (304, .aload_n 0, 1), (305, .iload 4, 2), (307, .iconst 5, 1), (308, .iadd, 1), (309, .iaload, 1), (310, .invokevirtual 129, 3), (313, .pop, 1), (314, .goto 1626, 3), (317, .aload_n 1, 1), (318, .aload_n 0, 1), (319, .iload 4, 2), (321, .iconst 1, 1), (322, .iadd, 1), (323, .iaload, 1), (324, .aload_n 3, 1), (325, .invokestatic 130, 3)]
theorem dtLa_2 : fmDec cL_law_ dlLa_2 = true := dk_fm 287 (by decide +kernel)
noncomputable abbrev dlLa_3 : List (Nat × Instr × Nat) := [(328, .istore 5, 2), (330, .aload_n 2, 1), (331, .aload_n 0, 1), (332, .iload 4, 2), (334, .iconst 1, 1), (335, .iadd, 1), (336, .iaload, 1), (337, .invokevirtual 135, 3), (340, .istore 6, 2), (342, .goto 1598, 3), (345, .aload_n 1, 1), (346, .aload_n 0, 1), (347, .iload 4, 2), (349, .iconst 1, 1), (350, .iadd, 1), (351, .iaload, 1), (352, .aload_n 3, 1), (353, .invokestatic 136, 3), (356, .istore 5, 2), (358, .aload_n 2, 1), (359, .aload_n 0, 1), (360, .iload 4, 2), (362, .iconst 1, 1), (363, .iadd, 1), (364, .iaload, 1), (365, .invokevirtual 138, 3), (368, .istore 6, 2), (370, .goto 1570, 3), (373, .aload_n 1, 1), (374, .aload_n 0, 1)]
theorem dtLa_3 : fmDec cL_law_ dlLa_3 = true := dk_fm 328 (by decide +kernel)
noncomputable abbrev dlLa_4 : List (Nat × Instr × Nat) := [(375, .iload 4, 2), (377, .iconst 1, 1), (378, .iadd, 1), (379, .iaload, 1), (380, .aload_n 3, 1), (381, .invokestatic 139, 3), (384, .istore 5, 2), (386, .aload_n 2, 1), (387, .aload_n 0, 1), (388, .iload 4, 2), (390, .iconst 1, 1), (391, .iadd, 1), (392, .iaload, 1), (393, .invokevirtual 141, 3), (396, .istore 6, 2), (398, .goto 1542, 3), (401, .aload_n 1, 1), (402, .aload_n 0, 1), (403, .iload 4, 2), (405, .iconst 1, 1), (406, .iadd, 1), (407, .iaload, 1), (408, .aload_n 3, 1), (409, .invokestatic 142, 3), (412, .istore 5, 2), (414, .aload_n 2, 1), (415, .aload_n 0, 1), (416, .iload 4, 2), (418, .iconst 1, 1), (419, .iadd, 1)]
theorem dtLa_4 : fmDec cL_law_ dlLa_4 = true := dk_fm 375 (by decide +kernel)
noncomputable abbrev dlLa_5 : List (Nat × Instr × Nat) := [(420, .iaload, 1), (421, .invokevirtual 144, 3), (424, .istore 6, 2), (426, .goto 1514, 3), (429, .aload_n 1, 1), (430, .invokevirtual 145, 3), (433, .pop, 1), (434, .aload_n 2, 1), (435, .invokevirtual 149, 3), (438, .pop, 1), (439, .goto 1501, 3), (442, .aload_n 1, 1), (443, .invokevirtual 150, 3), (446, .pop, 1), (447, .aload_n 2, 1), (448, .invokevirtual 153, 3), (451, .pop, 1), (452, .goto 1488, 3), (455, .aload_n 1, 1), (456, .aload_n 0, 1), (457, .iload 4, 2), (459, .iconst 1, 1), (460, .iadd, 1), (461, .iaload, 1), (462, .aload_n 3, 1), (463, .invokestatic 154, 3), (466, .istore 5, 2), (468, .aload_n 2, 1), (469, .aload_n 0, 1), (470, .iload 4, 2)]
theorem dtLa_5 : fmDec cL_law_ dlLa_5 = true := dk_fm 420 (by decide +kernel)
noncomputable abbrev dlLa_6 : List (Nat × Instr × Nat) := [(472, .iconst 1, 1), (473, .iadd, 1), (474, .iaload, 1), (475, .invokevirtual 156, 3), (478, .istore 6, 2), (480, .goto 1460, 3), (483, .aload_n 1, 1), (484, .aload_n 0, 1), (485, .iload 4, 2), (487, .iconst 1, 1), (488, .iadd, 1), (489, .iaload, 1), (490, .aload_n 0, 1), (491, .iload 4, 2), (493, .iconst 2, 1), (494, .iadd, 1), (495, .iaload, 1), (496, .aload_n 3, 1), (497, .invokestatic 157, 3), (500, .istore 5, 2), (502, .aload_n 2, 1), (503, .aload_n 0, 1), (504, .iload 4, 2), (506, .iconst 1, 1), (507, .iadd, 1), (508, .iaload, 1), (509, .aload_n 0, 1), (510, .iload 4, 2), (512, .iconst 2, 1), (513, .iadd, 1)]
theorem dtLa_6 : fmDec cL_law_ dlLa_6 = true := dk_fm 472 (by decide +kernel)
noncomputable abbrev dlLa_7 : List (Nat × Instr × Nat) := [(514, .iaload, 1), (515, .invokevirtual 160, 3), (518, .istore 6, 2), (520, .goto 1420, 3), (523, .aload_n 1, 1), (524, .aload_n 0, 1), (525, .iload 4, 2), (527, .iconst 1, 1), (528, .iadd, 1), (529, .iaload, 1), (530, .aload_n 3, 1), (531, .invokestatic 161, 3), (534, .istore 5, 2), (536, .aload_n 2, 1), (537, .aload_n 0, 1), (538, .iload 4, 2), (540, .iconst 1, 1), (541, .iadd, 1), (542, .iaload, 1), (543, .invokevirtual 163, 3), (546, .istore 6, 2), (548, .goto 1392, 3), (551, .aload_n 1, 1), (552, .aload_n 0, 1), (553, .iload 4, 2), (555, .iconst 1, 1), (556, .iadd, 1), (557, .iaload, 1), (558, .aload_n 3, 1), (559, .invokestatic 164, 3)]
theorem dtLa_7 : fmDec cL_law_ dlLa_7 = true := dk_fm 514 (by decide +kernel)
noncomputable abbrev dlLa_8 : List (Nat × Instr × Nat) := [(562, .istore 5, 2), (564, .aload_n 2, 1), (565, .aload_n 0, 1), (566, .iload 4, 2), (568, .iconst 1, 1), (569, .iadd, 1), (570, .iaload, 1), (571, .invokevirtual 166, 3), (574, .istore 6, 2), (576, .goto 1364, 3), (579, .aload_n 1, 1), (580, .aload_n 0, 1), (581, .iload 4, 2), (583, .iconst 1, 1), (584, .iadd, 1), (585, .iaload, 1), (586, .aload_n 0, 1), (587, .iload 4, 2), (589, .iconst 2, 1), (590, .iadd, 1), (591, .iaload, 1), (592, .aload_n 0, 1), (593, .iload 4, 2), (595, .iconst 3, 1), (596, .iadd, 1), (597, .iaload, 1), (598, .aload_n 0, 1), (599, .iload 4, 2), (601, .iconst 4, 1), (602, .iadd, 1)]
theorem dtLa_8 : fmDec cL_law_ dlLa_8 = true := dk_fm 562 (by decide +kernel)
noncomputable abbrev dlLa_9 : List (Nat × Instr × Nat) := [(603, .iaload, 1), (604, .aload_n 0, 1), (605, .iload 4, 2), (607, .iconst 5, 1), (608, .iadd, 1), (609, .iaload, 1), (610, .aload_n 3, 1), (611, .invokestatic 167, 3), (614, .istore 5, 2), (616, .aload_n 2, 1), (617, .aload_n 0, 1), (618, .iload 4, 2), (620, .iconst 1, 1), (621, .iadd, 1), (622, .iaload, 1), (623, .aload_n 0, 1), (624, .iload 4, 2), (626, .iconst 2, 1), (627, .iadd, 1), (628, .iaload, 1), (629, .aload_n 0, 1), (630, .iload 4, 2), (632, .iconst 3, 1), (633, .iadd, 1), (634, .iaload, 1), (635, .aload_n 0, 1), (636, .iload 4, 2), (638, .iconst 4, 1), (639, .iadd, 1), (640, .iaload, 1)]
theorem dtLa_9 : fmDec cL_law_ dlLa_9 = true := dk_fm 603 (by decide +kernel)
noncomputable abbrev dlLa_10 : List (Nat × Instr × Nat) := [(641, .aload_n 0, 1), (642, .iload 4, 2), (644, .iconst 5, 1), (645, .iadd, 1), (646, .iaload, 1), (647, .invokevirtual 170, 3), (650, .istore 6, 2), (652, .goto 1288, 3), (655, .aload_n 1, 1), (656, .aload_n 0, 1), (657, .iload 4, 2), (659, .iconst 1, 1), (660, .iadd, 1), (661, .iaload, 1), (662, .aload_n 3, 1), (663, .invokestatic 171, 3), (666, .istore 5, 2), (668, .aload_n 2, 1), (669, .aload_n 0, 1), (670, .iload 4, 2), (672, .iconst 1, 1), (673, .iadd, 1), (674, .iaload, 1), (675, .invokevirtual 173, 3), (678, .lstore 6, 2), (680, .goto 1260, 3), (683, .aload_n 1, 1), (684, .aload_n 0, 1), (685, .iload 4, 2), (687, .iconst 1, 1)]
theorem dtLa_10 : fmDec cL_law_ dlLa_10 = true := dk_fm 641 (by decide +kernel)
noncomputable abbrev dlLa_11 : List (Nat × Instr × Nat) := [(688, .iadd, 1), (689, .iaload, 1), (690, .aload_n 0, 1), (691, .iload 4, 2), (693, .iconst 2, 1), (694, .iadd, 1), (695, .iaload, 1), (696, .aload_n 3, 1), (697, .invokestatic 174, 3), (700, .istore 5, 2), (702, .aload_n 2, 1), (703, .aload_n 0, 1), (704, .iload 4, 2), (706, .iconst 1, 1), (707, .iadd, 1), (708, .iaload, 1), (709, .aload_n 0, 1), (710, .iload 4, 2), (712, .iconst 2, 1), (713, .iadd, 1), (714, .iaload, 1), (715, .invokevirtual 176, 3), (718, .lstore 6, 2), (720, .goto 1220, 3), (723, .aload_n 1, 1), (724, .aload_n 0, 1), (725, .iload 4, 2), (727, .iconst 1, 1), (728, .iadd, 1), (729, .iaload, 1)]
theorem dtLa_11 : fmDec cL_law_ dlLa_11 = true := dk_fm 688 (by decide +kernel)
noncomputable abbrev dlLa_12 : List (Nat × Instr × Nat) := [(730, .aload_n 3, 1), (731, .invokestatic 177, 3), (734, .istore 5, 2), (736, .aload_n 2, 1), (737, .aload_n 0, 1), (738, .iload 4, 2), (740, .iconst 1, 1), (741, .iadd, 1), (742, .iaload, 1), (743, .invokevirtual 179, 3), (746, .lstore 6, 2), (748, .goto 1192, 3), (751, .aload_n 1, 1), (752, .aload_n 0, 1), (753, .iload 4, 2), (755, .iconst 1, 1), (756, .iadd, 1), (757, .iaload, 1), (758, .aload_n 0, 1), (759, .iload 4, 2), (761, .iconst 2, 1), (762, .iadd, 1), (763, .iaload, 1), (764, .aload_n 3, 1), (765, .invokestatic 180, 3), (768, .istore 5, 2), (770, .aload_n 2, 1), (771, .aload_n 0, 1), (772, .iload 4, 2), (774, .iconst 1, 1)]
theorem dtLa_12 : fmDec cL_law_ dlLa_12 = true := dk_fm 730 (by decide +kernel)
noncomputable abbrev dlLa_13 : List (Nat × Instr × Nat) := [(775, .iadd, 1), (776, .iaload, 1), (777, .aload_n 0, 1), (778, .iload 4, 2), (780, .iconst 2, 1), (781, .iadd, 1), (782, .iaload, 1), (783, .invokevirtual 182, 3), (786, .lstore 6, 2), (788, .goto 1152, 3), (791, .aload_n 1, 1), (792, .invokevirtual 183, 3), (795, .pop, 1), (796, .aload_n 2, 1), (797, .invokevirtual 186, 3), (800, .pop, 1), (801, .goto 1139, 3), (804, .aload_n 1, 1), (805, .invokevirtual 187, 3), (808, .pop, 1), (809, .aload_n 2, 1), (810, .invokevirtual 190, 3), (813, .pop, 1), (814, .goto 1126, 3), (817, .aload_n 1, 1), (818, .invokevirtual 191, 3), (821, .pop, 1), (822, .aload_n 2, 1), (823, .invokevirtual 194, 3), (826, .pop, 1)]
theorem dtLa_13 : fmDec cL_law_ dlLa_13 = true := dk_fm 775 (by decide +kernel)
end
-- P 14d
section
noncomputable abbrev dlLa_14 : List (Nat × Instr × Nat) := [(827, .goto 1113, 3), (830, .aload_n 1, 1), (831, .aload_n 0, 1), (832, .iload 4, 2), (834, .iconst 1, 1), (835, .iadd, 1), (836, .iaload, 1), (837, .aload_n 3, 1), (838, .invokestatic 195, 3), (841, .istore 5, 2), (843, .aload_n 2, 1), (844, .aload_n 0, 1), (845, .iload 4, 2), (847, .iconst 1, 1), (848, .iadd, 1), (849, .iaload, 1), (850, .invokevirtual 197, 3), (853, .istore 6, 2), (855, .goto 1085, 3), (858, .aload_n 1, 1), (859, .aload_n 0, 1), (860, .iload 4, 2), (862, .iconst 1, 1), (863, .iadd, 1), (864, .iaload, 1), (865, .aload_n 0, 1), (866, .iload 4, 2), (868, .iconst 2, 1), (869, .iadd, 1), (870, .iaload, 1)]
theorem dtLa_14 : fmDec cL_law_ dlLa_14 = true := dk_fm 827 (by decide +kernel)
noncomputable abbrev dlLa_15 : List (Nat × Instr × Nat) := [(871, .aload_n 3, 1), (872, .invokestatic 198, 3), (875, .istore 5, 2), (877, .aload_n 2, 1), (878, .aload_n 0, 1), (879, .iload 4, 2), (881, .iconst 1, 1), (882, .iadd, 1), (883, .iaload, 1), (884, .aload_n 0, 1), (885, .iload 4, 2), (887, .iconst 2, 1), (888, .iadd, 1), (889, .iaload, 1), (890, .invokevirtual 200, 3), (893, .lstore 6, 2), (895, .goto 1045, 3), (898, .aload_n 1, 1), (899, .aload_n 0, 1), (900, .iload 4, 2), (902, .iconst 1, 1), (903, .iadd, 1), (904, .iaload, 1), (905, .aload_n 0, 1), (906, .iload 4, 2), (908, .iconst 2, 1), (909, .iadd, 1), (910, .iaload, 1), (911, .aload_n 3, 1), (912, .invokestatic 201, 3)]
theorem dtLa_15 : fmDec cL_law_ dlLa_15 = true := dk_fm 871 (by decide +kernel)
noncomputable abbrev dlLa_16 : List (Nat × Instr × Nat) := [(915, .istore 5, 2), (917, .aload_n 2, 1), (918, .aload_n 0, 1), (919, .iload 4, 2), (921, .iconst 1, 1), (922, .iadd, 1), (923, .iaload, 1), (924, .aload_n 0, 1), (925, .iload 4, 2), (927, .iconst 2, 1), (928, .iadd, 1), (929, .iaload, 1), (930, .invokevirtual 203, 3), (933, .istore 6, 2), (935, .goto 1005, 3), (938, .aload_n 1, 1), (939, .aload_n 0, 1), (940, .iload 4, 2), (942, .iconst 1, 1), (943, .iadd, 1), (944, .iaload, 1), (945, .aload_n 0, 1), (946, .iload 4, 2), (948, .iconst 2, 1), (949, .iadd, 1), (950, .iaload, 1), (951, .aload_n 3, 1), (952, .invokestatic 204, 3), (955, .istore 5, 2), (957, .aload_n 2, 1)]
theorem dtLa_16 : fmDec cL_law_ dlLa_16 = true := dk_fm 915 (by decide +kernel)
noncomputable abbrev dlLa_17 : List (Nat × Instr × Nat) := [(958, .aload_n 0, 1), (959, .iload 4, 2), (961, .iconst 1, 1), (962, .iadd, 1), (963, .iaload, 1), (964, .aload_n 0, 1), (965, .iload 4, 2), (967, .iconst 2, 1), (968, .iadd, 1), (969, .iaload, 1), (970, .invokevirtual 206, 3), (973, .istore 6, 2), (975, .goto 965, 3), (978, .aload_n 1, 1), (979, .aload_n 0, 1), (980, .iload 4, 2), (982, .iconst 1, 1), (983, .iadd, 1), (984, .iaload, 1), (985, .aload_n 0, 1), (986, .iload 4, 2), (988, .iconst 2, 1), (989, .iadd, 1), (990, .iaload, 1), (991, .aload_n 0, 1), (992, .iload 4, 2), (994, .iconst 3, 1), (995, .iadd, 1), (996, .iaload, 1), (997, .aload_n 0, 1)]
theorem dtLa_17 : fmDec cL_law_ dlLa_17 = true := dk_fm 958 (by decide +kernel)
noncomputable abbrev dlLa_18 : List (Nat × Instr × Nat) := [(998, .iload 4, 2), (1000, .iconst 4, 1), (1001, .iadd, 1), (1002, .iaload, 1), (1003, .aload_n 3, 1), (1004, .invokestatic 207, 3), (1007, .istore 5, 2), (1009, .aload_n 2, 1), (1010, .aload_n 0, 1), (1011, .iload 4, 2), (1013, .iconst 1, 1), (1014, .iadd, 1), (1015, .iaload, 1), (1016, .aload_n 0, 1), (1017, .iload 4, 2), (1019, .iconst 2, 1), (1020, .iadd, 1), (1021, .iaload, 1), (1022, .aload_n 0, 1), (1023, .iload 4, 2), (1025, .iconst 3, 1), (1026, .iadd, 1), (1027, .iaload, 1), (1028, .aload_n 0, 1), (1029, .iload 4, 2), (1031, .iconst 4, 1), (1032, .iadd, 1), (1033, .iaload, 1), (1034, .invokevirtual 210, 3), (1037, .lstore 6, 2)]
theorem dtLa_18 : fmDec cL_law_ dlLa_18 = true := dk_fm 998 (by decide +kernel)
noncomputable abbrev dlLa_19 : List (Nat × Instr × Nat) := [(1039, .goto 901, 3), (1042, .aload_n 1, 1), (1043, .aload_n 0, 1), (1044, .iload 4, 2), (1046, .iconst 1, 1), (1047, .iadd, 1), (1048, .iaload, 1), (1049, .aload_n 0, 1), (1050, .iload 4, 2), (1052, .iconst 2, 1), (1053, .iadd, 1), (1054, .iaload, 1), (1055, .aload_n 0, 1), (1056, .iload 4, 2), (1058, .iconst 3, 1), (1059, .iadd, 1), (1060, .iaload, 1), (1061, .aload_n 0, 1), (1062, .iload 4, 2), (1064, .iconst 4, 1), (1065, .iadd, 1), (1066, .iaload, 1), (1067, .aload_n 0, 1), (1068, .iload 4, 2), (1070, .iconst 5, 1), (1071, .iadd, 1), (1072, .iaload, 1), (1073, .aload_n 0, 1), (1074, .iload 4, 2), (1076, .bipush 6, 2)]
theorem dtLa_19 : fmDec cL_law_ dlLa_19 = true := dk_fm 1039 (by decide +kernel)
noncomputable abbrev dlLa_20 : List (Nat × Instr × Nat) := [(1078, .iadd, 1), (1079, .iaload, 1), (1080, .aload_n 3, 1), (1081, .invokestatic 211, 3), (1084, .istore 5, 2), (1086, .aload_n 2, 1), (1087, .aload_n 0, 1), (1088, .iload 4, 2), (1090, .iconst 1, 1), (1091, .iadd, 1), (1092, .iaload, 1), (1093, .aload_n 0, 1), (1094, .iload 4, 2), (1096, .iconst 2, 1), (1097, .iadd, 1), (1098, .iaload, 1), (1099, .aload_n 0, 1), (1100, .iload 4, 2), (1102, .iconst 3, 1), (1103, .iadd, 1), (1104, .iaload, 1), (1105, .aload_n 0, 1), (1106, .iload 4, 2), (1108, .iconst 4, 1), (1109, .iadd, 1), (1110, .iaload, 1), (1111, .aload_n 0, 1), (1112, .iload 4, 2), (1114, .iconst 5, 1), (1115, .iadd, 1)]
theorem dtLa_20 : fmDec cL_law_ dlLa_20 = true := dk_fm 1078 (by decide +kernel)
noncomputable abbrev dlLa_21 : List (Nat × Instr × Nat) := [(1116, .iaload, 1), (1117, .aload_n 0, 1), (1118, .iload 4, 2), (1120, .bipush 6, 2), (1122, .iadd, 1), (1123, .iaload, 1), (1124, .invokevirtual 214, 3), (1127, .istore 6, 2), (1129, .goto 811, 3), (1132, .aload_n 1, 1), (1133, .aload_n 0, 1), (1134, .iload 4, 2), (1136, .iconst 1, 1), (1137, .iadd, 1), (1138, .iaload, 1), (1139, .aload_n 0, 1), (1140, .iload 4, 2), (1142, .iconst 2, 1), (1143, .iadd, 1), (1144, .iaload, 1), (1145, .aload_n 0, 1), (1146, .iload 4, 2), (1148, .iconst 3, 1), (1149, .iadd, 1), (1150, .iaload, 1), (1151, .aload_n 0, 1), (1152, .iload 4, 2), (1154, .iconst 4, 1), (1155, .iadd, 1), (1156, .iaload, 1)]
theorem dtLa_21 : fmDec cL_law_ dlLa_21 = true := dk_fm 1116 (by decide +kernel)
noncomputable abbrev dlLa_22 : List (Nat × Instr × Nat) := [(1157, .aload_n 0, 1), (1158, .iload 4, 2), (1160, .iconst 5, 1), (1161, .iadd, 1), (1162, .iaload, 1), (1163, .aload_n 3, 1), (1164, .invokestatic 215, 3), (1167, .istore 5, 2), (1169, .aload_n 2, 1), (1170, .aload_n 0, 1), (1171, .iload 4, 2), (1173, .iconst 1, 1), (1174, .iadd, 1), (1175, .iaload, 1), (1176, .aload_n 0, 1), (1177, .iload 4, 2), (1179, .iconst 2, 1), (1180, .iadd, 1), (1181, .iaload, 1), (1182, .aload_n 0, 1), (1183, .iload 4, 2), (1185, .iconst 3, 1), (1186, .iadd, 1), (1187, .iaload, 1), (1188, .aload_n 0, 1), (1189, .iload 4, 2), (1191, .iconst 4, 1), (1192, .iadd, 1), (1193, .iaload, 1), (1194, .aload_n 0, 1)]
theorem dtLa_22 : fmDec cL_law_ dlLa_22 = true := dk_fm 1157 (by decide +kernel)
noncomputable abbrev dlLa_23 : List (Nat × Instr × Nat) := [(1195, .iload 4, 2), (1197, .iconst 5, 1), (1198, .iadd, 1), (1199, .iaload, 1), (1200, .invokevirtual 217, 3), (1203, .istore 6, 2), (1205, .goto 735, 3), (1208, .aload_n 1, 1), (1209, .aload_n 0, 1), (1210, .iload 4, 2), (1212, .iconst 1, 1), (1213, .iadd, 1), (1214, .iaload, 1), (1215, .aload_n 0, 1), (1216, .iload 4, 2), (1218, .iconst 2, 1), (1219, .iadd, 1), (1220, .iaload, 1), (1221, .aload_n 0, 1), (1222, .iload 4, 2), (1224, .iconst 3, 1), (1225, .iadd, 1), (1226, .iaload, 1), (1227, .aload_n 0, 1), (1228, .iload 4, 2), (1230, .iconst 4, 1), (1231, .iadd, 1), (1232, .iaload, 1), (1233, .aload_n 3, 1), (1234, .invokestatic 218, 3)]
theorem dtLa_23 : fmDec cL_law_ dlLa_23 = true := dk_fm 1195 (by decide +kernel)
noncomputable abbrev dlLa_24 : List (Nat × Instr × Nat) := [(1237, .istore 5, 2), (1239, .aload_n 2, 1), (1240, .aload_n 0, 1), (1241, .iload 4, 2), (1243, .iconst 1, 1), (1244, .iadd, 1), (1245, .iaload, 1), (1246, .aload_n 0, 1), (1247, .iload 4, 2), (1249, .iconst 2, 1), (1250, .iadd, 1), (1251, .iaload, 1), (1252, .aload_n 0, 1), (1253, .iload 4, 2), (1255, .iconst 3, 1), (1256, .iadd, 1), (1257, .iaload, 1), (1258, .aload_n 0, 1), (1259, .iload 4, 2), (1261, .iconst 4, 1), (1262, .iadd, 1), (1263, .iaload, 1), (1264, .invokevirtual 220, 3), (1267, .istore 6, 2), (1269, .goto 671, 3), (1272, .aload_n 1, 1), (1273, .aload_n 0, 1), (1274, .iload 4, 2), (1276, .iconst 1, 1), (1277, .iadd, 1)]
theorem dtLa_24 : fmDec cL_law_ dlLa_24 = true := dk_fm 1237 (by decide +kernel)
noncomputable abbrev dlLa_25 : List (Nat × Instr × Nat) := [(1278, .iaload, 1), (1279, .aload_n 0, 1), (1280, .iload 4, 2), (1282, .iconst 2, 1), (1283, .iadd, 1), (1284, .iaload, 1), (1285, .aload_n 3, 1), (1286, .invokestatic 221, 3), (1289, .istore 5, 2), (1291, .aload_n 2, 1), (1292, .aload_n 0, 1), (1293, .iload 4, 2), (1295, .iconst 1, 1), (1296, .iadd, 1), (1297, .iaload, 1), (1298, .aload_n 0, 1), (1299, .iload 4, 2), (1301, .iconst 2, 1), (1302, .iadd, 1), (1303, .iaload, 1), (1304, .invokevirtual 223, 3), (1307, .istore 6, 2), (1309, .goto 631, 3), (1312, .aload_n 1, 1), (1313, .aload_n 0, 1), (1314, .iload 4, 2), (1316, .iconst 1, 1), (1317, .iadd, 1), (1318, .iaload, 1), (1319, .aload_n 0, 1)]
theorem dtLa_25 : fmDec cL_law_ dlLa_25 = true := dk_fm 1278 (by decide +kernel)
noncomputable abbrev dlLa_26 : List (Nat × Instr × Nat) := [(1320, .iload 4, 2), (1322, .iconst 2, 1), (1323, .iadd, 1), (1324, .iaload, 1), (1325, .aload_n 0, 1), (1326, .iload 4, 2), (1328, .iconst 3, 1), (1329, .iadd, 1), (1330, .iaload, 1), (1331, .aload_n 3, 1), (1332, .invokestatic 224, 3), (1335, .istore 5, 2), (1337, .aload_n 2, 1), (1338, .aload_n 0, 1), (1339, .iload 4, 2), (1341, .iconst 1, 1), (1342, .iadd, 1), (1343, .iaload, 1), (1344, .aload_n 0, 1), (1345, .iload 4, 2), (1347, .iconst 2, 1), (1348, .iadd, 1), (1349, .iaload, 1), (1350, .aload_n 0, 1), (1351, .iload 4, 2), (1353, .iconst 3, 1), (1354, .iadd, 1), (1355, .iaload, 1), (1356, .invokevirtual 227, 3), (1359, .istore 6, 2)]
theorem dtLa_26 : fmDec cL_law_ dlLa_26 = true := dk_fm 1320 (by decide +kernel)
noncomputable abbrev dlLa_27 : List (Nat × Instr × Nat) := [(1361, .goto 579, 3), (1364, .aload_n 1, 1), (1365, .aload_n 0, 1), (1366, .iload 4, 2), (1368, .iconst 1, 1), (1369, .iadd, 1), (1370, .iaload, 1), (1371, .aload_n 0, 1), (1372, .iload 4, 2), (1374, .iconst 2, 1), (1375, .iadd, 1), (1376, .iaload, 1), (1377, .aload_n 3, 1), (1378, .invokestatic 228, 3), (1381, .istore 5, 2), (1383, .aload_n 2, 1), (1384, .aload_n 0, 1), (1385, .iload 4, 2), (1387, .iconst 1, 1), (1388, .iadd, 1), (1389, .iaload, 1), (1390, .aload_n 0, 1), (1391, .iload 4, 2), (1393, .iconst 2, 1), (1394, .iadd, 1), (1395, .iaload, 1), (1396, .invokevirtual 230, 3), (1399, .istore 6, 2), (1401, .goto 539, 3), (1404, .aload_n 1, 1)]
theorem dtLa_27 : fmDec cL_law_ dlLa_27 = true := dk_fm 1361 (by decide +kernel)
end
-- P 14e
section
noncomputable abbrev dlLa_28 : List (Nat × Instr × Nat) := [(1405, .invokevirtual 231, 3), (1408, .pop, 1), (1409, .aload_n 2, 1), (1410, .invokevirtual 234, 3), (1413, .pop, 1), (1414, .goto 526, 3), (1417, .aload_n 1, 1), (1418, .aload_n 0, 1), (1419, .iload 4, 2), (1421, .iconst 1, 1), (1422, .iadd, 1), (1423, .iaload, 1), (1424, .aload_n 3, 1), (1425, .invokestatic 235, 3), (1428, .istore 5, 2), (1430, .aload_n 2, 1), (1431, .aload_n 0, 1), (1432, .iload 4, 2), (1434, .iconst 1, 1), (1435, .iadd, 1), (1436, .iaload, 1), (1437, .invokevirtual 237, 3), (1440, .lstore 6, 2), (1442, .goto 498, 3), (1445, .aload_n 1, 1), (1446, .invokevirtual 238, 3), (1449, .pop, 1), (1450, .aload_n 2, 1), (1451, .invokevirtual 241, 3), (1454, .pop, 1)]
theorem dtLa_28 : fmDec cL_law_ dlLa_28 = true := dk_fm 1405 (by decide +kernel)
noncomputable abbrev dlLa_29 : List (Nat × Instr × Nat) := [(1455, .goto 485, 3), (1458, .aload_n 1, 1), (1459, .aload_n 0, 1), (1460, .iload 4, 2), (1462, .iconst 1, 1), (1463, .iadd, 1), (1464, .iaload, 1), (1465, .aload_n 0, 1), (1466, .iload 4, 2), (1468, .iconst 2, 1), (1469, .iadd, 1), (1470, .iaload, 1), (1471, .aload_n 3, 1), (1472, .invokestatic 242, 3), (1475, .istore 5, 2), (1477, .aload_n 2, 1), (1478, .aload_n 0, 1), (1479, .iload 4, 2), (1481, .iconst 1, 1), (1482, .iadd, 1), (1483, .iaload, 1), (1484, .aload_n 0, 1), (1485, .iload 4, 2), (1487, .iconst 2, 1), (1488, .iadd, 1), (1489, .iaload, 1), (1490, .invokevirtual 244, 3), (1493, .lstore 6, 2), (1495, .goto 445, 3), (1498, .aload_n 1, 1)]
theorem dtLa_29 : fmDec cL_law_ dlLa_29 = true := dk_fm 1455 (by decide +kernel)
noncomputable abbrev dlLa_30 : List (Nat × Instr × Nat) := [(1499, .aload_n 0, 1), (1500, .iload 4, 2), (1502, .iconst 1, 1), (1503, .iadd, 1), (1504, .iaload, 1), (1505, .aload_n 0, 1), (1506, .iload 4, 2), (1508, .iconst 2, 1), (1509, .iadd, 1), (1510, .iaload, 1), (1511, .aload_n 0, 1), (1512, .iload 4, 2), (1514, .iconst 3, 1), (1515, .iadd, 1), (1516, .iaload, 1), (1517, .aload_n 3, 1), (1518, .invokestatic 245, 3), (1521, .istore 5, 2), (1523, .aload_n 2, 1), (1524, .aload_n 0, 1), (1525, .iload 4, 2), (1527, .iconst 1, 1), (1528, .iadd, 1), (1529, .iaload, 1), (1530, .aload_n 0, 1), (1531, .iload 4, 2), (1533, .iconst 2, 1), (1534, .iadd, 1), (1535, .iaload, 1), (1536, .aload_n 0, 1)]
theorem dtLa_30 : fmDec cL_law_ dlLa_30 = true := dk_fm 1499 (by decide +kernel)
noncomputable abbrev dlLa_31 : List (Nat × Instr × Nat) := [(1537, .iload 4, 2), (1539, .iconst 3, 1), (1540, .iadd, 1), (1541, .iaload, 1), (1542, .invokevirtual 247, 3), (1545, .lstore 6, 2), (1547, .goto 393, 3), (1550, .aload_n 1, 1), (1551, .invokevirtual 248, 3), (1554, .pop, 1), (1555, .aload_n 2, 1), (1556, .invokevirtual 251, 3), (1559, .pop, 1), (1560, .goto 380, 3), (1563, .aload_n 1, 1), (1564, .aload_n 0, 1), (1565, .iload 4, 2), (1567, .iconst 1, 1), (1568, .iadd, 1), (1569, .iaload, 1), (1570, .aload_n 0, 1), (1571, .iload 4, 2), (1573, .iconst 2, 1), (1574, .iadd, 1), (1575, .iaload, 1), (1576, .aload_n 3, 1), (1577, .invokestatic 252, 3), (1580, .istore 5, 2), (1582, .aload_n 2, 1), (1583, .aload_n 0, 1)]
theorem dtLa_31 : fmDec cL_law_ dlLa_31 = true := dk_fm 1537 (by decide +kernel)
noncomputable abbrev dlLa_32 : List (Nat × Instr × Nat) := [(1584, .iload 4, 2), (1586, .iconst 1, 1), (1587, .iadd, 1), (1588, .iaload, 1), (1589, .aload_n 0, 1), (1590, .iload 4, 2), (1592, .iconst 2, 1), (1593, .iadd, 1), (1594, .iaload, 1), (1595, .invokevirtual 254, 3), (1598, .istore 6, 2), (1600, .goto 340, 3), (1603, .aload_n 1, 1), (1604, .aload_n 0, 1), (1605, .iload 4, 2), (1607, .iconst 1, 1), (1608, .iadd, 1), (1609, .iaload, 1), (1610, .aload_n 0, 1), (1611, .iload 4, 2), (1613, .iconst 2, 1), (1614, .iadd, 1), (1615, .iaload, 1), (1616, .aload_n 3, 1), (1617, .invokestatic 255, 3), (1620, .istore 5, 2), (1622, .aload_n 2, 1), (1623, .aload_n 0, 1), (1624, .iload 4, 2), (1626, .iconst 1, 1)]
theorem dtLa_32 : fmDec cL_law_ dlLa_32 = true := dk_fm 1584 (by decide +kernel)
noncomputable abbrev dlLa_33 : List (Nat × Instr × Nat) := [(1627, .iadd, 1), (1628, .iaload, 1), (1629, .aload_n 0, 1), (1630, .iload 4, 2), (1632, .iconst 2, 1), (1633, .iadd, 1), (1634, .iaload, 1), (1635, .invokevirtual 257, 3), (1638, .istore 6, 2), (1640, .goto 300, 3), (1643, .aload_n 1, 1), (1644, .aload_n 0, 1), (1645, .iload 4, 2), (1647, .iconst 1, 1), (1648, .iadd, 1), (1649, .iaload, 1), (1650, .aload_n 3, 1), (1651, .invokestatic 258, 3), (1654, .istore 5, 2), (1656, .aload_n 2, 1), (1657, .aload_n 0, 1), (1658, .iload 4, 2), (1660, .iconst 1, 1), (1661, .iadd, 1), (1662, .iaload, 1), (1663, .invokevirtual 260, 3), (1666, .istore 6, 2), (1668, .goto 272, 3), (1671, .aload_n 1, 1), (1672, .aload_n 0, 1)]
theorem dtLa_33 : fmDec cL_law_ dlLa_33 = true := dk_fm 1627 (by decide +kernel)
noncomputable abbrev dlLa_34 : List (Nat × Instr × Nat) := [(1673, .iload 4, 2), (1675, .iconst 1, 1), (1676, .iadd, 1), (1677, .iaload, 1), (1678, .aload_n 0, 1), (1679, .iload 4, 2), (1681, .iconst 2, 1), (1682, .iadd, 1), (1683, .iaload, 1), (1684, .aload_n 0, 1), (1685, .iload 4, 2), (1687, .iconst 3, 1), (1688, .iadd, 1), (1689, .iaload, 1), (1690, .aload_n 3, 1), (1691, .invokestatic 261, 3), (1694, .istore 5, 2), (1696, .aload_n 2, 1), (1697, .aload_n 0, 1), (1698, .iload 4, 2), (1700, .iconst 1, 1), (1701, .iadd, 1), (1702, .iaload, 1), (1703, .aload_n 0, 1), (1704, .iload 4, 2), (1706, .iconst 2, 1), (1707, .iadd, 1), (1708, .iaload, 1), (1709, .aload_n 0, 1), (1710, .iload 4, 2)]
theorem dtLa_34 : fmDec cL_law_ dlLa_34 = true := dk_fm 1673 (by decide +kernel)
noncomputable abbrev dlLa_35 : List (Nat × Instr × Nat) := [(1712, .iconst 3, 1), (1713, .iadd, 1), (1714, .iaload, 1), (1715, .invokevirtual 263, 3), (1718, .lstore 6, 2), (1720, .goto 220, 3), (1723, .aload_n 1, 1), (1724, .invokevirtual 264, 3), (1727, .pop, 1), (1728, .aload_n 2, 1), (1729, .invokevirtual 267, 3), (1732, .pop, 1), (1733, .goto 207, 3), (1736, .aload_n 1, 1), (1737, .aload_n 0, 1), (1738, .iload 4, 2), (1740, .iconst 1, 1), (1741, .iadd, 1), (1742, .iaload, 1), (1743, .aload_n 0, 1), (1744, .iload 4, 2), (1746, .iconst 2, 1), (1747, .iadd, 1), (1748, .iaload, 1), (1749, .aload_n 0, 1), (1750, .iload 4, 2), (1752, .iconst 3, 1), (1753, .iadd, 1), (1754, .iaload, 1), (1755, .aload_n 3, 1)]
theorem dtLa_35 : fmDec cL_law_ dlLa_35 = true := dk_fm 1712 (by decide +kernel)
noncomputable abbrev dlLa_36 : List (Nat × Instr × Nat) := [(1756, .invokestatic 268, 3), (1759, .istore 5, 2), (1761, .aload_n 2, 1), (1762, .aload_n 0, 1), (1763, .iload 4, 2), (1765, .iconst 1, 1), (1766, .iadd, 1), (1767, .iaload, 1), (1768, .aload_n 0, 1), (1769, .iload 4, 2), (1771, .iconst 2, 1), (1772, .iadd, 1), (1773, .iaload, 1), (1774, .aload_n 0, 1), (1775, .iload 4, 2), (1777, .iconst 3, 1), (1778, .iadd, 1), (1779, .iaload, 1), (1780, .invokevirtual 270, 3), (1783, .istore 6, 2), (1785, .goto 155, 3), (1788, .aload_n 1, 1), (1789, .aload_n 0, 1), (1790, .iload 4, 2), (1792, .iconst 1, 1), (1793, .iadd, 1), (1794, .iaload, 1), (1795, .aload_n 0, 1), (1796, .iload 4, 2), (1798, .iconst 2, 1)]
theorem dtLa_36 : fmDec cL_law_ dlLa_36 = true := dk_fm 1756 (by decide +kernel)
noncomputable abbrev dlLa_37 : List (Nat × Instr × Nat) := [(1799, .iadd, 1), (1800, .iaload, 1), (1801, .aload_n 0, 1), (1802, .iload 4, 2), (1804, .iconst 3, 1), (1805, .iadd, 1), (1806, .iaload, 1), (1807, .aload_n 0, 1), (1808, .iload 4, 2), (1810, .iconst 4, 1), (1811, .iadd, 1), (1812, .iaload, 1), (1813, .aload_n 0, 1), (1814, .iload 4, 2), (1816, .iconst 5, 1), (1817, .iadd, 1), (1818, .iaload, 1), (1819, .aload_n 3, 1), (1820, .invokestatic 271, 3), (1823, .istore 5, 2), (1825, .aload_n 2, 1), (1826, .aload_n 0, 1), (1827, .iload 4, 2), (1829, .iconst 1, 1), (1830, .iadd, 1), (1831, .iaload, 1), (1832, .aload_n 0, 1), (1833, .iload 4, 2), (1835, .iconst 2, 1), (1836, .iadd, 1)]
theorem dtLa_37 : fmDec cL_law_ dlLa_37 = true := dk_fm 1799 (by decide +kernel)
noncomputable abbrev dlLa_38 : List (Nat × Instr × Nat) := [(1837, .iaload, 1), (1838, .aload_n 0, 1), (1839, .iload 4, 2), (1841, .iconst 3, 1), (1842, .iadd, 1), (1843, .iaload, 1), (1844, .aload_n 0, 1), (1845, .iload 4, 2), (1847, .iconst 4, 1), (1848, .iadd, 1), (1849, .iaload, 1), (1850, .aload_n 0, 1), (1851, .iload 4, 2), (1853, .iconst 5, 1), (1854, .iadd, 1), (1855, .iaload, 1), (1856, .invokevirtual 273, 3), (1859, .istore 6, 2), (1861, .goto 79, 3), (1864, .aload_n 1, 1), (1865, .invokevirtual 274, 3), (1868, .pop, 1), (1869, .aload_n 2, 1), (1870, .invokevirtual 277, 3), (1873, .pop, 1), (1874, .goto 66, 3), (1877, .aload_n 1, 1), (1878, .invokevirtual 278, 3), (1881, .aload_n 2, 1), (1882, .invokevirtual 281, 3)]
theorem dtLa_38 : fmDec cL_law_ dlLa_38 = true := dk_fm 1837 (by decide +kernel)
noncomputable abbrev dlLa_39 : List (Nat × Instr × Nat) := [(1885, .if_icmp .eq 55, 3), (1888, .iconst 0, 1), (1889, .ireturn, 1), (1890, .aload_n 1, 1), (1891, .aload_n 0, 1), (1892, .iload 4, 2), (1894, .iconst 1, 1), (1895, .iadd, 1), (1896, .iaload, 1), (1897, .invokevirtual 282, 3), (1900, .pop, 1), (1901, .aload_n 2, 1), (1902, .aload_n 0, 1), (1903, .iload 4, 2), (1905, .iconst 1, 1), (1906, .iadd, 1), (1907, .iaload, 1), (1908, .invokevirtual 285, 3), (1911, .pop, 1), (1912, .goto 28, 3), (1915, .aload_n 1, 1), (1916, .aload_n 0, 1), (1917, .iload 4, 2), (1919, .iconst 1, 1), (1920, .iadd, 1), (1921, .iaload, 1), (1922, .invokevirtual 286, 3), (1925, .pop, 1), (1926, .aload_n 2, 1), (1927, .aload_n 0, 1)]
theorem dtLa_39 : fmDec cL_law_ dlLa_39 = true := dk_fm 1885 (by decide +kernel)
noncomputable abbrev dlLa_40 : List (Nat × Instr × Nat) := [(1928, .iload 4, 2), (1930, .iconst 1, 1), (1931, .iadd, 1), (1932, .iaload, 1), (1933, .invokevirtual 289, 3), (1936, .pop, 1), (1937, .goto 3, 3), (1940, .iinc 4 7, 3), (1943, .goto (-1920), 3), (1946, .iconst 1, 1), (1947, .ireturn, 1)]
theorem dtLa_40 : fmDec cL_law_ dlLa_40 = true := dk_fm 1928 (by decide +kernel)
end
-- P 15
section
/-! THE CLAIM OUT OF ONE WALK OF THE LAW'S BODY. Your part is whole_start (and what it stands on); all else here is the same for every law, but numbers. -/
def R_law : String := "LifeDrawerLaw"
def lw_P (b : Addr) (xs : List Int32) (args : Array Value) (s : State) : Prop := args = #[.ref b] ∧ s.IntsAt b xs ∧ xs.length ≤ 3584 ∧ (Jvm.Cond.and given_1 narrow_1).before args s = true
def lw_Q (_ : Array Value) (s : State) (o : Outcome) (t : State) : Prop := o = .returned (some (.int 1)) ∧ Framed s o t [] 601024 7293034
def lw_Z (below : List Frame) (a : Array Value) (s : State) : State → Prop := fun t => ∃ o, t.status = .running ∧ Ended t below o ∧ lw_Q a s o t
/-- the law's own end, with 1 on the stack, nothing written that was there before, its room as the claim has it -/
theorem lw_ret {p : Program} {l : Launch} {e : Env} {s : State} {m : MethodId} {below : List Frame} {meth : Method} {c : Code} {b : Nat} (hx : p.tables.exec = Jvm.exec) (hb : c.code = code) (hr : meth.sig.returnType = ret) (hlocks : meth.locks = false) {pc : Nat} {H : Heap} {ls : Array Slot} (hdg : decode code pc = .ok (.ireturn, 1)) : W p l e room_1 s m #[Value.ref b] below meth c H [] 601024 7293034 (lw_Z below #[Value.ref b] s) (F0 m pc ls [.int 1]) := by
  intro T hT X
  obtain ⟨fs, hret, hrun, hended, hW, hframe⟩ := X.leave (v := some (.int 1)) (hlocks := hlocks) (fun h => by rw [hr] at h; cases h)
  have hmeth' : T.vm.method? m = some meth := X.method'
  refine ⟨T.setFrames fs, ?_, .returned (some (.int 1)), hrun, hended, rfl, ⟨_, rfl⟩, hW, hframe⟩
  jvm_step X.here [X.here.top, hx, hb, hdg, hmeth', hr, ret, narrow_b1]
  (try refine ⟨rfl, ?_⟩); (try refine ⟨rfl, ?_⟩)
  first | (intro acts; rw [hret _ acts rfl rfl rfl]) | rw [hret _ _ rfl rfl rfl]
  exact Steps.refl _
/-- what holds at the law's entry: the machine, the code, the tables' words (any of lw_tbl by 'hts w (by decide +kernel)'), the script of L ints xs at the cell b, what the Statement gives of the start (any of its parts by flat_of_before) -/
def lw_At (p : Program) (s : State) (m : MethodId) (meth : Method) (c : Code) (b L : Nat) (xs : Nat → Int32) : Prop :=
  p.tables.exec = Jvm.exec ∧ c.code = code ∧ meth.sig.returnType = ret ∧ c.maxLocals = 8 ∧ s.vm.findClass R_law = some m.cls ∧ (∀ w ∈ lw_tbl, w.before #[Value.ref b] s = true) ∧ va_X b L xs s s.heap ∧ b < s.heap.size ∧ meth.locks = false ∧ (Jvm.Cond.and given_1 narrow_1).before #[Value.ref b] s = true
/-- the law at work on a script of n ints -/
def laC (p : Program) (l : Launch) (s : State) (m : MethodId) (meth : Method) (c : Code) (G : fmG) (b n : Nat) (xs : Nat → Int32) : Prop := zFix p s m #[.ref b] c "LifeDrawerLaw" cL_law_ 8 G (fun q => s.heap.size ≤ q) ∧ va_X b n xs s s.heap ∧ b < s.heap.size ∧ meth.sig.returnType = ret ∧ meth.locks = false ∧ l.stackTraces = false
/-- i stands at the t-th int, and six more follow -/
def laI (n : Nat) (i : Int32) (t : Nat) : Prop := ∀ k : Nat, k < 7 → vp_in (i + Int32.ofNat k) n ∧ (i + Int32.ofNat k).toNatClampNeg = t + k
theorem rm_fr {d : Nat} (h : d ≤ 300) : d + 10 + 1 ≤ room_1.frames := by show d + 10 + 1 ≤ 2048; omega
theorem rm_lo {d k : Nat} (h : d ≤ 300) (hk : k ≤ 60) : 8 + (k + 11) + (60 * d + 200) ≤ room_1.locals := by show _ ≤ 84000; omega
theorem rm_c {k : Nat} (h : k + 1 ≤ 601024) : k + 1 ≤ room_1.cells := h
theorem rm_s {k : Nat} (h : k + 6 ≤ 7293034) : k + 6 ≤ room_1.slots := h
theorem lg_cmp_self (x : Int64) : lg_cmp x x = 0 := by simp [lg_cmp]
theorem wperm {α : Type} (x : α) (u v : List α) : (u ++ (x :: v)).Perm (v ++ (u ++ [x])) := by
  apply fm_sums
  intro f
  simp only [List.map_append, List.map_cons, List.map_nil, List.sum_append, List.sum_cons, List.sum_nil]; omega
theorem wpermW (x : Nat × va_E) (u v : va_W) : List.Perm (u ++ (x :: v) : va_W) (v ++ (u ++ [x]) : va_W) := wperm x u v
theorem wpermB (x : Nat × va_E) (u v : va_W) : List.Perm (v ++ (u ++ [x]) : va_W) (u ++ (x :: v) : va_W) := (wperm x u v).symm
section LaRows
variable {p : Program} {l : Launch} {e : Env} {s : State} {m : MethodId} {below : List Frame} {meth : Method} {c : Code} {G : fmG} {b n : Nat} {xs : Nat → Int32} {pc : Nat} {L : List (Option Value)} {st : List Value} {ws : va_W} {cu su : Nat}
theorem la_len (C : laC p l s m meth c G b n xs) (hdg : decode cL_law_ pc = .ok (.arraylength, 1)) (k : zEv p l e room_1 s m #[.ref b] below meth c G (fun q => s.heap.size ≤ q) 8 (lw_Z below #[.ref b] s) (pc + 1) L (.int (Int32.ofNat n) :: st) ws cu su) : zEv p l e room_1 s m #[.ref b] below meth c G (fun q => s.heap.size ≤ q) 8 (lw_Z below #[.ref b] s) pc L (.ref b :: st) ws cu su := by
  intro H locs ls hP hS hL
  exact va_slen C.1.1 C.1.2.1 C.2.1 C.2.2.1 (Nat.not_le.mpr C.2.2.1) hS hdg (k H locs ls hP hS hL)
theorem la_sld (C : laC p l s m meth c G b n xs) {i : Int32} (hin : vp_in i n) (hdg : decode cL_law_ pc = .ok (.iaload, 1)) (k : zEv p l e room_1 s m #[.ref b] below meth c G (fun q => s.heap.size ≤ q) 8 (lw_Z below #[.ref b] s) (pc + 1) L (.int (xs i.toNatClampNeg) :: st) ws cu su) : zEv p l e room_1 s m #[.ref b] below meth c G (fun q => s.heap.size ≤ q) 8 (lw_Z below #[.ref b] s) pc L (.int i :: .ref b :: st) ws cu su := by
  intro H locs ls hP hS hL
  exact va_sld C.1.1 C.1.2.1 C.2.1 C.2.2.1 (Nat.not_le.mpr C.2.2.1) hS hin hdg (k H locs ls hP hS hL)
theorem la_arg (C : laC p l s m meth c G b n xs) {i v : Int32} (a : Nat) (h0 : L[0]? = some (some (.ref b))) (h4 : L[4]? = some (some (.int i))) (hin : vp_in (i + v) n ∧ (i + v).toNatClampNeg = a) {v9 : Int} (hv : Int32.ofInt v9 = v)
    (d0 : decode cL_law_ pc = .ok (.aload_n 0, 1)) (d1 : decode cL_law_ (pc + 1) = .ok (.iload 4, 2)) (d3 : decode cL_law_ (pc + 1 + 2) = .ok (.iconst v9, 1)) (d4 : decode cL_law_ (pc + 1 + 2 + 1) = .ok (.iadd, 1)) (d5 : decode cL_law_ (pc + 1 + 2 + 1 + 1) = .ok (.iaload, 1)) (kk : zEv p l e room_1 s m #[.ref b] below meth c G (fun q => s.heap.size ≤ q) 8 (lw_Z below #[.ref b] s) (pc + 1 + 2 + 1 + 1 + 1) L (.int (xs a) :: st) ws cu su) : zEv p l e room_1 s m #[.ref b] below meth c G (fun q => s.heap.size ≤ q) 8 (lw_Z below #[.ref b] s) pc L st ws cu su := by
  refine z_aloadn C.1 (n := 0) 0 rfl h0 d0 ?_
  refine z_iload C.1 h4 d1 ?_
  refine z_iconst C.1 (v := v) hv d3 ?_
  refine z_iadd C.1 d4 ?_
  refine la_sld C hin.1 d5 ?_
  rw [hin.2]
  exact kk
theorem la_arg6 (C : laC p l s m meth c G b n xs) {i v : Int32} (a : Nat) (h0 : L[0]? = some (some (.ref b))) (h4 : L[4]? = some (some (.int i))) (hin : vp_in (i + v) n ∧ (i + v).toNatClampNeg = a) {v9 : Int} (hv : (Int8.ofInt v9).toInt32 = v)
    (d0 : decode cL_law_ pc = .ok (.aload_n 0, 1)) (d1 : decode cL_law_ (pc + 1) = .ok (.iload 4, 2)) (d3 : decode cL_law_ (pc + 1 + 2) = .ok (.bipush v9, 2)) (d4 : decode cL_law_ (pc + 1 + 2 + 2) = .ok (.iadd, 1)) (d5 : decode cL_law_ (pc + 1 + 2 + 2 + 1) = .ok (.iaload, 1)) (kk : zEv p l e room_1 s m #[.ref b] below meth c G (fun q => s.heap.size ≤ q) 8 (lw_Z below #[.ref b] s) (pc + 1 + 2 + 2 + 1 + 1) L (.int (xs a) :: st) ws cu su) : zEv p l e room_1 s m #[.ref b] below meth c G (fun q => s.heap.size ≤ q) 8 (lw_Z below #[.ref b] s) pc L st ws cu su := by
  refine z_aloadn C.1 (n := 0) 0 rfl h0 d0 ?_
  refine z_iload C.1 h4 d1 ?_
  refine z_bipush C.1 (v := v) hv d3 ?_
  refine z_iadd C.1 d4 ?_
  refine la_sld C hin.1 d5 ?_
  rw [hin.2]
  exact kk
theorem la_true (C : laC p l s m meth c G b n xs) (hc : cu ≤ 601024) (hs : su ≤ 7293034) : zEv p l e room_1 s m #[.ref b] below meth c G (fun q => s.heap.size ≤ q) 8 (lw_Z below #[.ref b] s) 1946 L [] ws cu su := by
  refine z_iconst C.1 (pc := 1946) (v := 1) (by decide) (fm_dec dtLa_40 9 rfl) ?_
  refine z_more hc hs ?_
  intro H locs ls hP hS hL
  exact va_forget (fun q hq => hS.2.2 q hq) (lw_ret C.1.1 C.1.2.1 C.2.2.2.1 C.2.2.2.2.1 (fm_dec dtLa_40 10 rfl))
/-- what stands in locals 5 to 7 is forgotten -/
theorem la_fgt {k0 k1 k2 k3 k4 k5 k6 k7 : Option Value} (k : zEv p l e room_1 s m #[.ref b] below meth c G (fun q => s.heap.size ≤ q) 8 (lw_Z below #[.ref b] s) pc [k0, k1, k2, k3, k4, none, none, none] st ws cu su) : zEv p l e room_1 s m #[.ref b] below meth c G (fun q => s.heap.size ≤ q) 8 (lw_Z below #[.ref b] s) pc [k0, k1, k2, k3, k4, k5, k6, k7] st ws cu su := by
  intro H locs ls hP hS hL
  refine k H locs ls hP hS ⟨hL.1, hL.2.1, fun i v hi => ?_⟩
  match i, hi with
  | 0, hi => exact hL.2.2 0 v hi
  | 1, hi => exact hL.2.2 1 v hi
  | 2, hi => exact hL.2.2 2 v hi
  | 3, hi => exact hL.2.2 3 v hi
  | 4, hi => exact hL.2.2 4 v hi
  | 5, hi => cases hi
  | 6, hi => cases hi
  | 7, hi => cases hi
  | i + 8, hi => simp at hi
/-- a call of the reference: it ends with a value -/
theorem la_ref (C : laC p l s m meth c G b n xs) {g2 : Nat → Nat} {M2 : fmM} {rest : va_W} {idx nn : Nat} {y' : fmY} {As st0 : List Value} {P : fmR → fmM → Prop} (hc : fmCv "LifeDrawerLaw" idx y' nn 11) (hpl : plainName y'.1.cls = true) (hn : As.length = nn) (hst0 : st0 = As.reverse ++ .ref (g2 0) :: st) (hcat : (st.map fun v => v.category).sum ≤ 8) (hml : y'.2.2.1 ≤ 60) (hcu : cu + 1 ≤ 601024) (hsu : su + 6 ≤ 7293034) (hdg : decode cL_law_ pc = .ok (.invokevirtual idx, 3)) (hAs : pvTs (g2, G.2) As = As) (hp : pvGood Tm 250 y' (.ref 0 :: As) M2 P)
    (kk : ∀ (r : fmR) (M' : fmM), P r M' → match pvTo (g2, G.2) r with
      | .inl v => zEv p l e room_1 s m #[.ref b] below meth c G (fun q => s.heap.size ≤ q) 8 (lw_Z below #[.ref b] s) (pc + 3) L (v.toList ++ st) (fmL Tm (g2, G.2) M' ++ rest) cu su
      | .inr E => False) : zEv p l e room_1 s m #[.ref b] below meth c G (fun q => s.heap.size ≤ q) 8 (lw_Z below #[.ref b] s) pc L st0 (fmL Tm (g2, G.2) M2 ++ rest) cu su := by
  refine z_callX C.1 (T := Tm) (g := g2) (M := M2) (rest := rest) (k := 0) (ci := 11) (d' := 250) (As := As) (st := st) hc (by decide) rfl hn hst0 hcat (rm_fr (by decide)) (rm_lo (by decide) hml) (rm_c hcu) (rm_s hsu) hdg ?_
  have h9 := pvGood.fm (G := (g2, G.2)) C.2.2.2.2.2 (by decide) hpl hp
  have e9 : pvTs (g2, G.2) (.ref 0 :: As) = .ref (g2 0) :: As := by
    show pvTr (g2, G.2) (.ref 0) :: pvTs (g2, G.2) As = _
    rw [hAs]
    rfl
  rw [e9] at h9
  refine fmGood.imp h9 (fun o' M' h => ?_)
  obtain ⟨r, rfl, h8⟩ := h
  have h7 := kk r M' h8
  rcases r with v | E
  · exact h7
  · exact False.elim h7

end LaRows
def mtI (ia ns : Int32) (r r2 : fmR) (M2 : fmM) : Prop := match r with
  | .inl v => M2.1 0 0 = 0 ∧ r2 = .inl v
  | .inr E => (E = fmIAE → M2.1 0 0 = ia) ∧ (E = fmNSE → M2.1 0 0 = ns)
def rkI (ia ns : Bool) (r : fmR) : Prop := (∃ v : Int32, r = .inl (some (.int v))) ∨ (ia = true ∧ r = .inr fmIAE) ∨ (ns = true ∧ r = .inr fmNSE)
def rkJ (ia ns : Bool) (r : fmR) : Prop := (∃ v : Int64, r = .inl (some (.long v))) ∨ (ia = true ∧ r = .inr fmIAE) ∨ (ns = true ∧ r = .inr fmNSE)
end
-- P 15b
section
def laS_feed (I : fmM → fmM → Prop) : Prop := ∀ (M M2 : fmM) (a0 a1 a2 a3 a4 : Int32), I M M2 → pvGood Tx 250 qX10_feed [.ref 0, .int a0, .int a1, .int a2, .int a3, .int a4] M (fun r M' => rkI false false r ∧ pvGood Tm 250 qX11_feed [.ref 0, .int a0, .int a1, .int a2, .int a3, .int a4] M2 (fun r2 M2' => tI r2 ∧ I M' M2'))
def laS_drawer (I : fmM → fmM → Prop) : Prop := ∀ (M M2 : fmM) (a0 : Int32), I M M2 → pvGood Tx 250 qX10_drawer [.ref 0, .int a0] M (fun r M' => rkI true false r ∧ pvGood Tm 250 qX11_drawer [.ref 0, .int a0] M2 (fun r2 M2' => tI r2 ∧ I M' M2'))
def laS_law (I : fmM → fmM → Prop) : Prop := ∀ (M M2 : fmM) (a0 : Int32), I M M2 → pvGood Tx 250 qX10_law [.ref 0, .int a0] M (fun r M' => rkI true false r ∧ pvGood Tm 250 qX11_law [.ref 0, .int a0] M2 (fun r2 M2' => tI r2 ∧ I M' M2'))
def laS_work (I : fmM → fmM → Prop) : Prop := ∀ (M M2 : fmM) (a0 : Int32), I M M2 → pvGood Tx 250 qX10_work [.ref 0, .int a0] M (fun r M' => rkI true false r ∧ pvGood Tm 250 qX11_work [.ref 0, .int a0] M2 (fun r2 M2' => tI r2 ∧ I M' M2'))
def laS_page (I : fmM → fmM → Prop) : Prop := ∀ (M M2 : fmM) (a0 : Int32), I M M2 → pvGood Tx 250 qX10_page [.ref 0, .int a0] M (fun r M' => rkI true false r ∧ pvGood Tm 250 qX11_page [.ref 0, .int a0] M2 (fun r2 M2' => tI r2 ∧ I M' M2'))
def laS_fault (I : fmM → fmM → Prop) : Prop := ∀ (M M2 : fmM), I M M2 → pvGood Tx 250 qX10_fault [.ref 0] M (fun r M' => rkI false false r ∧ pvGood Tm 250 qX11_fault [.ref 0] M2 (fun r2 M2' => tI r2 ∧ I M' M2'))
def laS_undo (I : fmM → fmM → Prop) : Prop := ∀ (M M2 : fmM), I M M2 → pvGood Tx 250 qX10_undo [.ref 0] M (fun r M' => rkI false false r ∧ pvGood Tm 250 qX11_undo [.ref 0] M2 (fun r2 M2' => tI r2 ∧ I M' M2'))
def laS_told (I : fmM → fmM → Prop) : Prop := ∀ (M M2 : fmM) (a0 : Int32), I M M2 → pvGood Tx 250 qX10_told [.ref 0, .int a0] M (fun r M' => rkI true false r ∧ pvGood Tm 250 qX11_told [.ref 0, .int a0] M2 (fun r2 M2' => tI r2 ∧ I M' M2'))
def laS_life (I : fmM → fmM → Prop) : Prop := ∀ (M M2 : fmM) (a0 a1 : Int32), I M M2 → pvGood Tx 250 qX10_life [.ref 0, .int a0, .int a1] M (fun r M' => rkI true true r ∧ pvGood Tm 250 qX11_life [.ref 0, .int a0, .int a1] M2 (fun r2 M2' => tI r2 ∧ I M' M2'))
def laS_facts (I : fmM → fmM → Prop) : Prop := ∀ (M M2 : fmM) (a0 : Int32), I M M2 → pvGood Tx 250 qX10_facts [.ref 0, .int a0] M (fun r M' => rkI false true r ∧ pvGood Tm 250 qX11_facts [.ref 0, .int a0] M2 (fun r2 M2' => tI r2 ∧ I M' M2'))
def laS_wrong (I : fmM → fmM → Prop) : Prop := ∀ (M M2 : fmM) (a0 : Int32), I M M2 → pvGood Tx 250 qX10_wrong [.ref 0, .int a0] M (fun r M' => rkI false true r ∧ pvGood Tm 250 qX11_wrong [.ref 0, .int a0] M2 (fun r2 M2' => tI r2 ∧ I M' M2'))
def laS_would (I : fmM → fmM → Prop) : Prop := ∀ (M M2 : fmM) (a0 a1 a2 a3 a4 : Int32), I M M2 → pvGood Tx 250 qX10_would [.ref 0, .int a0, .int a1, .int a2, .int a3, .int a4] M (fun r M' => rkI true false r ∧ pvGood Tm 250 qX11_would [.ref 0, .int a0, .int a1, .int a2, .int a3, .int a4] M2 (fun r2 M2' => tI r2 ∧ I M' M2'))
def laS_loss (I : fmM → fmM → Prop) : Prop := ∀ (M M2 : fmM) (a0 : Int32), I M M2 → pvGood Tx 250 qX10_loss [.ref 0, .int a0] M (fun r M' => rkJ true false r ∧ pvGood Tm 250 qX11_loss [.ref 0, .int a0] M2 (fun r2 M2' => tJ r2 ∧ I M' M2'))
def laS_cost (I : fmM → fmM → Prop) : Prop := ∀ (M M2 : fmM) (a0 a1 : Int32), I M M2 → pvGood Tx 250 qX10_cost [.ref 0, .int a0, .int a1] M (fun r M' => rkJ true true r ∧ pvGood Tm 250 qX11_cost [.ref 0, .int a0, .int a1] M2 (fun r2 M2' => tJ r2 ∧ I M' M2'))
def laS_risk (I : fmM → fmM → Prop) : Prop := ∀ (M M2 : fmM) (a0 : Int32), I M M2 → pvGood Tx 250 qX10_risk [.ref 0, .int a0] M (fun r M' => rkJ true false r ∧ pvGood Tm 250 qX11_risk [.ref 0, .int a0] M2 (fun r2 M2' => tJ r2 ∧ I M' M2'))
def laS_saves (I : fmM → fmM → Prop) : Prop := ∀ (M M2 : fmM) (a0 a1 : Int32), I M M2 → pvGood Tx 250 qX10_saves [.ref 0, .int a0, .int a1] M (fun r M' => rkJ true true r ∧ pvGood Tm 250 qX11_saves [.ref 0, .int a0, .int a1] M2 (fun r2 M2' => tJ r2 ∧ I M' M2'))
def laS_first (I : fmM → fmM → Prop) : Prop := ∀ (M M2 : fmM), I M M2 → pvGood Tx 250 qX10_first [.ref 0] M (fun r M' => rkI false false r ∧ pvGood Tm 250 qX11_first [.ref 0] M2 (fun r2 M2' => tI r2 ∧ I M' M2'))
def laS_lacking (I : fmM → fmM → Prop) : Prop := ∀ (M M2 : fmM), I M M2 → pvGood Tx 250 qX10_lacking [.ref 0] M (fun r M' => rkI false false r ∧ pvGood Tm 250 qX11_lacking [.ref 0] M2 (fun r2 M2' => tI r2 ∧ I M' M2'))
def laS_signed (I : fmM → fmM → Prop) : Prop := ∀ (M M2 : fmM), I M M2 → pvGood Tx 250 qX10_signed [.ref 0] M (fun r M' => rkI false false r ∧ pvGood Tm 250 qX11_signed [.ref 0] M2 (fun r2 M2' => tI r2 ∧ I M' M2'))
def laS_stale (I : fmM → fmM → Prop) : Prop := ∀ (M M2 : fmM) (a0 : Int32), I M M2 → pvGood Tx 250 qX10_stale [.ref 0, .int a0] M (fun r M' => rkI true false r ∧ pvGood Tm 250 qX11_stale [.ref 0, .int a0] M2 (fun r2 M2' => tI r2 ∧ I M' M2'))
def laS_best (I : fmM → fmM → Prop) : Prop := ∀ (M M2 : fmM) (a0 a1 : Int32), I M M2 → pvGood Tx 250 qX10_best [.ref 0, .int a0, .int a1] M (fun r M' => rkJ true false r ∧ pvGood Tm 250 qX11_best [.ref 0, .int a0, .int a1] M2 (fun r2 M2' => tJ r2 ∧ I M' M2'))
def laS_bestIn (I : fmM → fmM → Prop) : Prop := ∀ (M M2 : fmM) (a0 a1 : Int32), I M M2 → pvGood Tx 250 qX10_bestIn [.ref 0, .int a0, .int a1] M (fun r M' => rkI true false r ∧ pvGood Tm 250 qX11_bestIn [.ref 0, .int a0, .int a1] M2 (fun r2 M2' => tI r2 ∧ I M' M2'))
def laS_often (I : fmM → fmM → Prop) : Prop := ∀ (M M2 : fmM) (a0 a1 : Int32), I M M2 → pvGood Tx 250 qX10_often [.ref 0, .int a0, .int a1] M (fun r M' => rkI true true r ∧ pvGood Tm 250 qX11_often [.ref 0, .int a0, .int a1] M2 (fun r2 M2' => tI r2 ∧ I M' M2'))
def laS_yearly (I : fmM → fmM → Prop) : Prop := ∀ (M M2 : fmM) (a0 a1 a2 a3 : Int32), I M M2 → pvGood Tx 250 qX10_yearly [.ref 0, .int a0, .int a1, .int a2, .int a3] M (fun r M' => rkJ true true r ∧ pvGood Tm 250 qX11_yearly [.ref 0, .int a0, .int a1, .int a2, .int a3] M2 (fun r2 M2' => tJ r2 ∧ I M' M2'))
def laS_brings (I : fmM → fmM → Prop) : Prop := ∀ (M M2 : fmM) (a0 a1 a2 a3 a4 a5 : Int32), I M M2 → pvGood Tx 250 qX10_brings [.ref 0, .int a0, .int a1, .int a2, .int a3, .int a4, .int a5] M (fun r M' => rkI true false r ∧ pvGood Tm 250 qX11_brings [.ref 0, .int a0, .int a1, .int a2, .int a3, .int a4, .int a5] M2 (fun r2 M2' => tI r2 ∧ I M' M2'))
def laS_says (I : fmM → fmM → Prop) : Prop := ∀ (M M2 : fmM) (a0 a1 a2 a3 a4 : Int32), I M M2 → pvGood Tx 250 qX10_says [.ref 0, .int a0, .int a1, .int a2, .int a3, .int a4] M (fun r M' => rkI true false r ∧ pvGood Tm 250 qX11_says [.ref 0, .int a0, .int a1, .int a2, .int a3, .int a4] M2 (fun r2 M2' => tI r2 ∧ I M' M2'))
def laS_line (I : fmM → fmM → Prop) : Prop := ∀ (M M2 : fmM) (a0 a1 a2 a3 : Int32), I M M2 → pvGood Tx 250 qX10_line [.ref 0, .int a0, .int a1, .int a2, .int a3] M (fun r M' => rkI true false r ∧ pvGood Tm 250 qX11_line [.ref 0, .int a0, .int a1, .int a2, .int a3] M2 (fun r2 M2' => tI r2 ∧ I M' M2'))
def laS_room (I : fmM → fmM → Prop) : Prop := ∀ (M M2 : fmM) (a0 a1 : Int32), I M M2 → pvGood Tx 250 qX10_room [.ref 0, .int a0, .int a1] M (fun r M' => rkI true false r ∧ pvGood Tm 250 qX11_room [.ref 0, .int a0, .int a1] M2 (fun r2 M2' => tI r2 ∧ I M' M2'))
def laS_lines (I : fmM → fmM → Prop) : Prop := ∀ (M M2 : fmM) (a0 a1 a2 : Int32), I M M2 → pvGood Tx 250 qX10_lines [.ref 0, .int a0, .int a1, .int a2] M (fun r M' => rkI true true r ∧ pvGood Tm 250 qX11_lines [.ref 0, .int a0, .int a1, .int a2] M2 (fun r2 M2' => tI r2 ∧ I M' M2'))
def laS_apart (I : fmM → fmM → Prop) : Prop := ∀ (M M2 : fmM) (a0 a1 : Int32), I M M2 → pvGood Tx 250 qX10_apart [.ref 0, .int a0, .int a1] M (fun r M' => rkI true false r ∧ pvGood Tm 250 qX11_apart [.ref 0, .int a0, .int a1] M2 (fun r2 M2' => tI r2 ∧ I M' M2'))
def laS_twins (I : fmM → fmM → Prop) : Prop := ∀ (M M2 : fmM), I M M2 → pvGood Tx 250 qX10_twins [.ref 0] M (fun r M' => rkI false false r ∧ pvGood Tm 250 qX11_twins [.ref 0] M2 (fun r2 M2' => tI r2 ∧ I M' M2'))
def laS_written (I : fmM → fmM → Prop) : Prop := ∀ (M M2 : fmM) (a0 : Int32), I M M2 → pvGood Tx 250 qX10_written [.ref 0, .int a0] M (fun r M' => rkJ false true r ∧ pvGood Tm 250 qX11_written [.ref 0, .int a0] M2 (fun r2 M2' => tJ r2 ∧ I M' M2'))
def laS_whose (I : fmM → fmM → Prop) : Prop := ∀ (M M2 : fmM), I M M2 → pvGood Tx 250 qX10_whose [.ref 0] M (fun r M' => rkI false false r ∧ pvGood Tm 250 qX11_whose [.ref 0] M2 (fun r2 M2' => tI r2 ∧ I M' M2'))
def laS_ahead (I : fmM → fmM → Prop) : Prop := ∀ (M M2 : fmM) (a0 a1 : Int32), I M M2 → pvGood Tx 250 qX10_ahead [.ref 0, .int a0, .int a1] M (fun r M' => rkJ true false r ∧ pvGood Tm 250 qX11_ahead [.ref 0, .int a0, .int a1] M2 (fun r2 M2' => tJ r2 ∧ I M' M2'))
def laS_lives (I : fmM → fmM → Prop) : Prop := ∀ (M M2 : fmM) (a0 a1 a2 : Int32), I M M2 → pvGood Tx 250 qX10_lives [.ref 0, .int a0, .int a1, .int a2] M (fun r M' => rkJ true true r ∧ pvGood Tm 250 qX11_lives [.ref 0, .int a0, .int a1, .int a2] M2 (fun r2 M2' => tJ r2 ∧ I M' M2'))
def laS_oldest (I : fmM → fmM → Prop) : Prop := ∀ (M M2 : fmM), I M M2 → pvGood Tx 250 qX10_oldest [.ref 0] M (fun r M' => rkI false false r ∧ pvGood Tm 250 qX11_oldest [.ref 0] M2 (fun r2 M2' => tI r2 ∧ I M' M2'))
def laS_chain (I : fmM → fmM → Prop) : Prop := ∀ (M M2 : fmM) (a0 a1 : Int32), I M M2 → pvGood Tx 250 qX10_chain [.ref 0, .int a0, .int a1] M (fun r M' => rkI true true r ∧ pvGood Tm 250 qX11_chain [.ref 0, .int a0, .int a1] M2 (fun r2 M2' => tI r2 ∧ I M' M2'))
def laS_due (I : fmM → fmM → Prop) : Prop := ∀ (M M2 : fmM) (a0 a1 : Int32), I M M2 → pvGood Tx 250 qX10_due [.ref 0, .int a0, .int a1] M (fun r M' => rkI true true r ∧ pvGood Tm 250 qX11_due [.ref 0, .int a0, .int a1] M2 (fun r2 M2' => tI r2 ∧ I M' M2'))
def laS_news (I : fmM → fmM → Prop) : Prop := ∀ (M M2 : fmM) (a0 : Int32), I M M2 → pvGood Tx 250 qX10_news [.ref 0, .int a0] M (fun r M' => rkI false true r ∧ pvGood Tm 250 qX11_news [.ref 0, .int a0] M2 (fun r2 M2' => tI r2 ∧ I M' M2'))
def laS_expects (I : fmM → fmM → Prop) : Prop := ∀ (M M2 : fmM) (a0 a1 a2 : Int32), I M M2 → pvGood Tx 250 qX10_expects [.ref 0, .int a0, .int a1, .int a2] M (fun r M' => rkJ true true r ∧ pvGood Tm 250 qX11_expects [.ref 0, .int a0, .int a1, .int a2] M2 (fun r2 M2' => tJ r2 ∧ I M' M2'))
def laS_worst (I : fmM → fmM → Prop) : Prop := ∀ (M M2 : fmM), I M M2 → pvGood Tx 250 qX10_worst [.ref 0] M (fun r M' => rkI false false r ∧ pvGood Tm 250 qX11_worst [.ref 0] M2 (fun r2 M2' => tI r2 ∧ I M' M2'))
def laS_years (I : fmM → fmM → Prop) : Prop := ∀ (M M2 : fmM) (a0 a1 a2 : Int32), I M M2 → pvGood Tx 250 qX10_years [.ref 0, .int a0, .int a1, .int a2] M (fun r M' => rkI true false r ∧ pvGood Tm 250 qX11_years [.ref 0, .int a0, .int a1, .int a2] M2 (fun r2 M2' => tI r2 ∧ I M' M2'))
def laS_span (I : fmM → fmM → Prop) : Prop := ∀ (M M2 : fmM) (a0 a1 a2 a3 a4 : Int32), I M M2 → pvGood Tx 250 qX10_span [.ref 0, .int a0, .int a1, .int a2, .int a3, .int a4] M (fun r M' => rkI true false r ∧ pvGood Tm 250 qX11_span [.ref 0, .int a0, .int a1, .int a2, .int a3, .int a4] M2 (fun r2 M2' => tI r2 ∧ I M' M2'))
def laS_image (I : fmM → fmM → Prop) : Prop := ∀ (M M2 : fmM), I M M2 → pvGood Tx 250 qX10_image [.ref 0] M (fun r M' => rkI false false r ∧ pvGood Tm 250 qX11_image [.ref 0] M2 (fun r2 M2' => tI r2 ∧ I M' M2'))
def laS_restore (I : fmM → fmM → Prop) : Prop := ∀ (M M2 : fmM), I M M2 → pvGood Tx 250 qX10_restore [.ref 0] M (fun r M' => rkI false false r ∧ pvGood Tm 250 qX11_restore [.ref 0] M2 (fun r2 M2' => tI r2 ∧ r2 = r ∧ I M' M2'))
def laS_status (I : fmM → fmM → Prop) : Prop := ∀ (M M2 : fmM) (a0 : Int32), I M M2 → pvGood Tx 250 qX10_status [.ref 0, .int a0] M (fun r M' => rkI false false r ∧ pvGood Tm 250 qX11_status [.ref 0, .int a0] M2 (fun r2 M2' => tI r2 ∧ I M' M2'))
def laS_count (I : fmM → fmM → Prop) : Prop := ∀ (M M2 : fmM) (a0 : Int32), I M M2 → pvGood Tx 250 qX10_count [.ref 0, .int a0] M (fun r M' => rkI false false r ∧ pvGood Tm 250 qX11_count [.ref 0, .int a0] M2 (fun r2 M2' => tI r2 ∧ I M' M2'))
theorem z_pop {p : Program} {l : Launch} {e : Env} {R : Room} {s : State} {m : MethodId} {args : Array Value} {below : List Frame} {meth : Method} {c : Code} {own : String} {cc : ByteArray} {nL : Nat} {G : fmG} {A : Nat → Prop} {Z : State → Prop} {pc : Nat} {L : List (Option Value)} {st : List Value} {ws : va_W} {cu su : Nat} (hF : zFix p s m args c own cc nL G A) {v : Value} (hc : v.category = 1) (hdg : decode cc pc = .ok (.pop, 1)) (k : zEv p l e R s m args below meth c G A nL Z (pc + 1) L st ws cu su) : zEv p l e R s m args below meth c G A nL Z pc L (v :: st) ws cu su := z_row hF (fun _ _ _ _ _ _ _ _ _ _ _ _ _ _ _ hx hb hL kk => lv_pop hx hb hdg hc kk) k
set_option maxRecDepth 20000 in
theorem la_c0 {p : Program} {l : Launch} {e : Env} {s : State} {m : MethodId} {below : List Frame} {meth : Method} {c : Code} {G : fmG} {b n : Nat} {xs : Nat → Int32} {I : fmM → fmM → Prop} (hS : laS_feed I) (C : laC p l s m meth c G b n xs) {g g2 : Nat → Nat} {M M2 : fmM} {f : Nat → Int64} {o t : Nat} {i : Int32} {cu su : Nat} (hi : laI n i t) (hcu : cu + 1 ≤ 601024) (hsu : su + 6 ≤ 7293034) (hcu1 : cu + 1 + 1 ≤ 601024) (hsu1 : su + 6 + 6 ≤ 7293034) (hI : I M M2) (kk : ∀ (M' : fmM) (f' : Nat → Int64) (M2' : fmM), I M' M2' → zEv p l e room_1 s m #[.ref b] below meth c G (fun q => s.heap.size ≤ q) 8 (lw_Z below #[.ref b] s) 1940 [some (.ref b), some (.ref (g 0)), some (.ref (g2 0)), some (.ref o), some (.int i), none, none, none] [] (fmL Tx (g, G.2) M' ++ ((o, .inl (G.2.2.1 1, 1, .inr (.inl f'))) :: fmL Tm (g2, G.2) M2')) (cu + 1) (su + 6)) : zEv p l e room_1 s m #[.ref b] below meth c G (fun q => s.heap.size ≤ q) 8 (lw_Z below #[.ref b] s) 244 [some (.ref b), some (.ref (g 0)), some (.ref (g2 0)), some (.ref o), some (.int i), none, none, none] [] (fmL Tx (g, G.2) M ++ ((o, .inl (G.2.2.1 1, 1, .inr (.inl f))) :: fmL Tm (g2, G.2) M2)) cu su := by
  have h0 := hS M M2 (xs (t + 1)) (xs (t + 2)) (xs (t + 3)) (xs (t + 4)) (xs (t + 5)) hI
  refine z_aloadn C.1 (pc := 244) (n := 1) 1 rfl rfl (fm_dec dtLa_0 25 rfl) ?_
  refine la_arg C (pc := 245) (v := 1) (t + 1) rfl rfl (hi 1 (by decide)) (by decide) (fm_dec dtLa_0 26 rfl) (fm_dec dtLa_0 27 rfl) (fm_dec dtLa_0 28 rfl) (fm_dec dtLa_0 29 rfl) (fm_dec dtLa_1 0 rfl) ?_
  refine la_arg C (pc := 251) (v := 2) (t + 2) rfl rfl (hi 2 (by decide)) (by decide) (fm_dec dtLa_1 1 rfl) (fm_dec dtLa_1 2 rfl) (fm_dec dtLa_1 3 rfl) (fm_dec dtLa_1 4 rfl) (fm_dec dtLa_1 5 rfl) ?_
  refine la_arg C (pc := 257) (v := 3) (t + 3) rfl rfl (hi 3 (by decide)) (by decide) (fm_dec dtLa_1 6 rfl) (fm_dec dtLa_1 7 rfl) (fm_dec dtLa_1 8 rfl) (fm_dec dtLa_1 9 rfl) (fm_dec dtLa_1 10 rfl) ?_
  refine la_arg C (pc := 263) (v := 4) (t + 4) rfl rfl (hi 4 (by decide)) (by decide) (fm_dec dtLa_1 11 rfl) (fm_dec dtLa_1 12 rfl) (fm_dec dtLa_1 13 rfl) (fm_dec dtLa_1 14 rfl) (fm_dec dtLa_1 15 rfl) ?_
  refine la_arg C (pc := 269) (v := 5) (t + 5) rfl rfl (hi 5 (by decide)) (by decide) (fm_dec dtLa_1 16 rfl) (fm_dec dtLa_1 17 rfl) (fm_dec dtLa_1 18 rfl) (fm_dec dtLa_1 19 rfl) (fm_dec dtLa_1 20 rfl) ?_
  refine z_callX C.1 (T := Tx) (g := g) (M := M) (rest := (o, .inl (G.2.2.1 1, 1, .inr (.inl f))) :: fmL Tm (g2, G.2) M2) (k := 0) (ci := 10) (d' := 250) (pc := 275) (As := [.int (xs (t + 1)), .int (xs (t + 2)), .int (xs (t + 3)), .int (xs (t + 4)), .int (xs (t + 5))]) (st := []) cvL_126 (by decide) rfl rfl rfl (by decide) (rm_fr (by decide)) (rm_lo (by decide) (by decide)) (rm_c hcu) (rm_s hsu) (fm_dec dtLa_1 21 rfl) ?_
  refine fmGood.imp (pvGood.fm C.2.2.2.2.2 (by decide) (by decide +kernel) h0) (fun o9 M1 h9 => ?_)
  obtain ⟨o', rfl, h8, h2⟩ := h9
  rcases h8 with ⟨v, rfl⟩ | ⟨h8, -⟩ | ⟨h8, -⟩
  · refine z_then1 ?_
    refine z_pop C.1 (pc := 278) rfl (fm_dec dtLa_1 22 rfl) ?_
    refine z_aloadn C.1 (pc := 279) (n := 2) 2 rfl rfl (fm_dec dtLa_1 23 rfl) ?_
    refine la_arg C (pc := 280) (v := 1) (t + 1) rfl rfl (hi 1 (by decide)) (by decide) (fm_dec dtLa_1 24 rfl) (fm_dec dtLa_1 25 rfl) (fm_dec dtLa_1 26 rfl) (fm_dec dtLa_1 27 rfl) (fm_dec dtLa_1 28 rfl) ?_
    refine la_arg C (pc := 286) (v := 2) (t + 2) rfl rfl (hi 2 (by decide)) (by decide) (fm_dec dtLa_1 29 rfl) (fm_dec dtLa_2 0 rfl) (fm_dec dtLa_2 1 rfl) (fm_dec dtLa_2 2 rfl) (fm_dec dtLa_2 3 rfl) ?_
    refine la_arg C (pc := 292) (v := 3) (t + 3) rfl rfl (hi 3 (by decide)) (by decide) (fm_dec dtLa_2 4 rfl) (fm_dec dtLa_2 5 rfl) (fm_dec dtLa_2 6 rfl) (fm_dec dtLa_2 7 rfl) (fm_dec dtLa_2 8 rfl) ?_
    refine la_arg C (pc := 298) (v := 4) (t + 4) rfl rfl (hi 4 (by decide)) (by decide) (fm_dec dtLa_2 9 rfl) (fm_dec dtLa_2 10 rfl) (fm_dec dtLa_2 11 rfl) (fm_dec dtLa_2 12 rfl) (fm_dec dtLa_2 13 rfl) ?_
    refine la_arg C (pc := 304) (v := 5) (t + 5) rfl rfl (hi 5 (by decide)) (by decide) (fm_dec dtLa_2 14 rfl) (fm_dec dtLa_2 15 rfl) (fm_dec dtLa_2 16 rfl) (fm_dec dtLa_2 17 rfl) (fm_dec dtLa_2 18 rfl) ?_
    have hcw := hcu
    have hsw := hsu
    refine z_perm (ws := (fmL Tx (g, G.2) M1 ++ ((o, .inl (G.2.2.1 1, 1, .inr (.inl f))) :: fmL Tm (g2, G.2) M2))) (wpermW _ _ _) ?_
    refine la_ref C (pc := 310) (As := [.int (xs (t + 1)), .int (xs (t + 2)), .int (xs (t + 3)), .int (xs (t + 4)), .int (xs (t + 5))]) (st := []) cvL_129 (by decide +kernel) rfl rfl (Nat.le_of_ble_eq_true rfl) (by decide) hcw hsw (fm_dec dtLa_2 19 rfl) rfl h2 (fun r2 M3 h3 => ?_)
    obtain ⟨⟨v2, rfl⟩, hI3⟩ := h3
    refine z_then1 ?_
    refine z_pop C.1 (pc := 313) rfl (fm_dec dtLa_2 20 rfl) ?_
    refine z_goto C.1 (pc := 314) 1940 (by decide) (fm_dec dtLa_2 21 rfl) ?_
    refine z_more (Nat.le_succ _) (Nat.le_add_right _ 6) ?_
    exact z_perm (wpermB _ _ _) (la_fgt (kk M1 f M3 hI3))
  · cases h8
  · cases h8
set_option maxRecDepth 20000 in
theorem la_c1 {p : Program} {l : Launch} {e : Env} {s : State} {m : MethodId} {below : List Frame} {meth : Method} {c : Code} {G : fmG} {b n : Nat} {xs : Nat → Int32} {I : fmM → fmM → Prop} (hS : laS_drawer I) (C : laC p l s m meth c G b n xs) {g g2 : Nat → Nat} {M M2 : fmM} {f : Nat → Int64} {o t : Nat} {i : Int32} {cu su : Nat} (hi : laI n i t) (hcu : cu + 1 ≤ 601024) (hsu : su + 6 ≤ 7293034) (hcu1 : cu + 1 + 1 ≤ 601024) (hsu1 : su + 6 + 6 ≤ 7293034) (hI : I M M2) (kk : ∀ (M' : fmM) (f' : Nat → Int64) (M2' : fmM), I M' M2' → zEv p l e room_1 s m #[.ref b] below meth c G (fun q => s.heap.size ≤ q) 8 (lw_Z below #[.ref b] s) 1940 [some (.ref b), some (.ref (g 0)), some (.ref (g2 0)), some (.ref o), some (.int i), none, none, none] [] (fmL Tx (g, G.2) M' ++ ((o, .inl (G.2.2.1 1, 1, .inr (.inl f'))) :: fmL Tm (g2, G.2) M2')) (cu + 1) (su + 6)) : zEv p l e room_1 s m #[.ref b] below meth c G (fun q => s.heap.size ≤ q) 8 (lw_Z below #[.ref b] s) 317 [some (.ref b), some (.ref (g 0)), some (.ref (g2 0)), some (.ref o), some (.int i), none, none, none] [] (fmL Tx (g, G.2) M ++ ((o, .inl (G.2.2.1 1, 1, .inr (.inl f))) :: fmL Tm (g2, G.2) M2)) cu su := by
  have h0 := hS M M2 (xs (t + 1)) hI
  refine z_aloadn C.1 (pc := 317) (n := 1) 1 rfl rfl (fm_dec dtLa_2 22 rfl) ?_
  refine la_arg C (pc := 318) (v := 1) (t + 1) rfl rfl (hi 1 (by decide)) (by decide) (fm_dec dtLa_2 23 rfl) (fm_dec dtLa_2 24 rfl) (fm_dec dtLa_2 25 rfl) (fm_dec dtLa_2 26 rfl) (fm_dec dtLa_2 27 rfl) ?_
  refine z_aloadn C.1 (pc := 324) (n := 3) 3 rfl rfl (fm_dec dtLa_2 28 rfl) ?_
  have hw : pvGood Tx 250 qX10_drawer [.ref 0, .int (xs (t + 1))] M (wI f (fun (r : Int32) (u : fmM × (Nat → Int64)) => pvGood Tm 250 qX11_drawer [.ref 0, .int (xs (t + 1))] M2 (fun r2 M2' => tI r2 ∧ I u.1 M2')) (fun E M' => (E = fmIAE ∧ (fun (r : Int32) (u : fmM × (Nat → Int64)) => pvGood Tm 250 qX11_drawer [.ref 0, .int (xs (t + 1))] M2 (fun r2 M2' => tI r2 ∧ I u.1 M2')) 1 (M', f)))) := h0.imp (fun r9 M9 h9 => by
    obtain ⟨h8, h2⟩ := h9
    rcases h8 with ⟨v, rfl⟩ | ⟨h6, rfl⟩ | ⟨h6, rfl⟩
    · exact h2
    · exact ⟨rfl, h2⟩
    · exact absurd h6 (by decide))
  refine z_callW C.1 (y' := qL_drawer) (hh := [(0, 9, 12, 13)]) (W0 := WX G g o (fmL Tm (g2, G.2) M2) (M, f)) (WW := WX G g o (fmL Tm (g2, G.2) M2)) (Q := fun (r : Int32) (u : fmM × (Nat → Int64)) => pvGood Tm 250 qX11_drawer [.ref 0, .int (xs (t + 1))] M2 (fun r2 M2' => tI r2 ∧ I u.1 M2')) (As := [.ref (g 0), .int (xs (t + 1)), .ref o]) (st := []) (pc := 325) (fm_c3 109 (by eq_refl) rfl) nst_L_drawer niL nw_L_drawer nd_L_drawer rfl rfl (by decide) (show 311 ≤ room_1.frames by decide) (show 8 + (4 + 11) + 18200 ≤ room_1.locals by decide) (rm_c hcu) (rm_s hsu) (fm_dec dtLa_2 29 rfl) (w_drawer C.2.2.2.2.2 hw) (fun r u hQ => ?_)
  obtain ⟨M1, f1⟩ := u
  refine z_istore C.1 (pc := 328) (i := 5) (by decide) rfl (fm_dec dtLa_3 0 rfl) ?_
  dsimp only [List.set_cons_zero, List.set_cons_succ]
  refine z_aloadn C.1 (pc := 330) (n := 2) 2 rfl rfl (fm_dec dtLa_3 1 rfl) ?_
  refine la_arg C (pc := 331) (v := 1) (t + 1) rfl rfl (hi 1 (by decide)) (by decide) (fm_dec dtLa_3 2 rfl) (fm_dec dtLa_3 3 rfl) (fm_dec dtLa_3 4 rfl) (fm_dec dtLa_3 5 rfl) (fm_dec dtLa_3 6 rfl) ?_
  have hcw := hcu1
  have hsw := hsu1
  refine z_perm (ws := (fmL Tx (g, G.2) M1 ++ ((o, .inl (G.2.2.1 1, 1, .inr (.inl f1))) :: fmL Tm (g2, G.2) M2))) (wpermW _ _ _) ?_
  refine la_ref C (pc := 337) (As := [.int (xs (t + 1))]) (st := []) cvL_135 (by decide +kernel) rfl rfl (Nat.le_of_ble_eq_true rfl) (by decide) hcw hsw (fm_dec dtLa_3 7 rfl) rfl hQ (fun r2 M3 h3 => ?_)
  obtain ⟨⟨v2, rfl⟩, hI3⟩ := h3
  refine z_then1 ?_
  refine z_istore C.1 (pc := 340) (i := 6) (by decide) rfl (fm_dec dtLa_3 8 rfl) ?_
  dsimp only [List.set_cons_zero, List.set_cons_succ]
  refine z_goto C.1 (pc := 342) 1940 (by decide) (fm_dec dtLa_3 9 rfl) ?_
  exact z_perm (wpermB _ _ _) (la_fgt (kk M1 f1 M3 hI3))
set_option maxRecDepth 20000 in
theorem la_c2 {p : Program} {l : Launch} {e : Env} {s : State} {m : MethodId} {below : List Frame} {meth : Method} {c : Code} {G : fmG} {b n : Nat} {xs : Nat → Int32} {I : fmM → fmM → Prop} (hS : laS_law I) (C : laC p l s m meth c G b n xs) {g g2 : Nat → Nat} {M M2 : fmM} {f : Nat → Int64} {o t : Nat} {i : Int32} {cu su : Nat} (hi : laI n i t) (hcu : cu + 1 ≤ 601024) (hsu : su + 6 ≤ 7293034) (hcu1 : cu + 1 + 1 ≤ 601024) (hsu1 : su + 6 + 6 ≤ 7293034) (hI : I M M2) (kk : ∀ (M' : fmM) (f' : Nat → Int64) (M2' : fmM), I M' M2' → zEv p l e room_1 s m #[.ref b] below meth c G (fun q => s.heap.size ≤ q) 8 (lw_Z below #[.ref b] s) 1940 [some (.ref b), some (.ref (g 0)), some (.ref (g2 0)), some (.ref o), some (.int i), none, none, none] [] (fmL Tx (g, G.2) M' ++ ((o, .inl (G.2.2.1 1, 1, .inr (.inl f'))) :: fmL Tm (g2, G.2) M2')) (cu + 1) (su + 6)) : zEv p l e room_1 s m #[.ref b] below meth c G (fun q => s.heap.size ≤ q) 8 (lw_Z below #[.ref b] s) 345 [some (.ref b), some (.ref (g 0)), some (.ref (g2 0)), some (.ref o), some (.int i), none, none, none] [] (fmL Tx (g, G.2) M ++ ((o, .inl (G.2.2.1 1, 1, .inr (.inl f))) :: fmL Tm (g2, G.2) M2)) cu su := by
  have h0 := hS M M2 (xs (t + 1)) hI
  refine z_aloadn C.1 (pc := 345) (n := 1) 1 rfl rfl (fm_dec dtLa_3 10 rfl) ?_
  refine la_arg C (pc := 346) (v := 1) (t + 1) rfl rfl (hi 1 (by decide)) (by decide) (fm_dec dtLa_3 11 rfl) (fm_dec dtLa_3 12 rfl) (fm_dec dtLa_3 13 rfl) (fm_dec dtLa_3 14 rfl) (fm_dec dtLa_3 15 rfl) ?_
  refine z_aloadn C.1 (pc := 352) (n := 3) 3 rfl rfl (fm_dec dtLa_3 16 rfl) ?_
  have hw : pvGood Tx 250 qX10_law [.ref 0, .int (xs (t + 1))] M (wI f (fun (r : Int32) (u : fmM × (Nat → Int64)) => pvGood Tm 250 qX11_law [.ref 0, .int (xs (t + 1))] M2 (fun r2 M2' => tI r2 ∧ I u.1 M2')) (fun E M' => (E = fmIAE ∧ (fun (r : Int32) (u : fmM × (Nat → Int64)) => pvGood Tm 250 qX11_law [.ref 0, .int (xs (t + 1))] M2 (fun r2 M2' => tI r2 ∧ I u.1 M2')) 1 (M', f)))) := h0.imp (fun r9 M9 h9 => by
    obtain ⟨h8, h2⟩ := h9
    rcases h8 with ⟨v, rfl⟩ | ⟨h6, rfl⟩ | ⟨h6, rfl⟩
    · exact h2
    · exact ⟨rfl, h2⟩
    · exact absurd h6 (by decide))
  refine z_callW C.1 (y' := qL_law) (hh := [(0, 9, 12, 13)]) (W0 := WX G g o (fmL Tm (g2, G.2) M2) (M, f)) (WW := WX G g o (fmL Tm (g2, G.2) M2)) (Q := fun (r : Int32) (u : fmM × (Nat → Int64)) => pvGood Tm 250 qX11_law [.ref 0, .int (xs (t + 1))] M2 (fun r2 M2' => tI r2 ∧ I u.1 M2')) (As := [.ref (g 0), .int (xs (t + 1)), .ref o]) (st := []) (pc := 353) (fm_c4 79 (by eq_refl) rfl) nst_L_law niL nw_L_law nd_L_law rfl rfl (by decide) (show 311 ≤ room_1.frames by decide) (show 8 + (4 + 11) + 18200 ≤ room_1.locals by decide) (rm_c hcu) (rm_s hsu) (fm_dec dtLa_3 17 rfl) (w_law C.2.2.2.2.2 hw) (fun r u hQ => ?_)
  obtain ⟨M1, f1⟩ := u
  refine z_istore C.1 (pc := 356) (i := 5) (by decide) rfl (fm_dec dtLa_3 18 rfl) ?_
  dsimp only [List.set_cons_zero, List.set_cons_succ]
  refine z_aloadn C.1 (pc := 358) (n := 2) 2 rfl rfl (fm_dec dtLa_3 19 rfl) ?_
  refine la_arg C (pc := 359) (v := 1) (t + 1) rfl rfl (hi 1 (by decide)) (by decide) (fm_dec dtLa_3 20 rfl) (fm_dec dtLa_3 21 rfl) (fm_dec dtLa_3 22 rfl) (fm_dec dtLa_3 23 rfl) (fm_dec dtLa_3 24 rfl) ?_
  have hcw := hcu1
  have hsw := hsu1
  refine z_perm (ws := (fmL Tx (g, G.2) M1 ++ ((o, .inl (G.2.2.1 1, 1, .inr (.inl f1))) :: fmL Tm (g2, G.2) M2))) (wpermW _ _ _) ?_
  refine la_ref C (pc := 365) (As := [.int (xs (t + 1))]) (st := []) cvL_138 (by decide +kernel) rfl rfl (Nat.le_of_ble_eq_true rfl) (by decide) hcw hsw (fm_dec dtLa_3 25 rfl) rfl hQ (fun r2 M3 h3 => ?_)
  obtain ⟨⟨v2, rfl⟩, hI3⟩ := h3
  refine z_then1 ?_
  refine z_istore C.1 (pc := 368) (i := 6) (by decide) rfl (fm_dec dtLa_3 26 rfl) ?_
  dsimp only [List.set_cons_zero, List.set_cons_succ]
  refine z_goto C.1 (pc := 370) 1940 (by decide) (fm_dec dtLa_3 27 rfl) ?_
  exact z_perm (wpermB _ _ _) (la_fgt (kk M1 f1 M3 hI3))
set_option maxRecDepth 20000 in
theorem la_c3 {p : Program} {l : Launch} {e : Env} {s : State} {m : MethodId} {below : List Frame} {meth : Method} {c : Code} {G : fmG} {b n : Nat} {xs : Nat → Int32} {I : fmM → fmM → Prop} (hS : laS_work I) (C : laC p l s m meth c G b n xs) {g g2 : Nat → Nat} {M M2 : fmM} {f : Nat → Int64} {o t : Nat} {i : Int32} {cu su : Nat} (hi : laI n i t) (hcu : cu + 1 ≤ 601024) (hsu : su + 6 ≤ 7293034) (hcu1 : cu + 1 + 1 ≤ 601024) (hsu1 : su + 6 + 6 ≤ 7293034) (hI : I M M2) (kk : ∀ (M' : fmM) (f' : Nat → Int64) (M2' : fmM), I M' M2' → zEv p l e room_1 s m #[.ref b] below meth c G (fun q => s.heap.size ≤ q) 8 (lw_Z below #[.ref b] s) 1940 [some (.ref b), some (.ref (g 0)), some (.ref (g2 0)), some (.ref o), some (.int i), none, none, none] [] (fmL Tx (g, G.2) M' ++ ((o, .inl (G.2.2.1 1, 1, .inr (.inl f'))) :: fmL Tm (g2, G.2) M2')) (cu + 1) (su + 6)) : zEv p l e room_1 s m #[.ref b] below meth c G (fun q => s.heap.size ≤ q) 8 (lw_Z below #[.ref b] s) 373 [some (.ref b), some (.ref (g 0)), some (.ref (g2 0)), some (.ref o), some (.int i), none, none, none] [] (fmL Tx (g, G.2) M ++ ((o, .inl (G.2.2.1 1, 1, .inr (.inl f))) :: fmL Tm (g2, G.2) M2)) cu su := by
  have h0 := hS M M2 (xs (t + 1)) hI
  refine z_aloadn C.1 (pc := 373) (n := 1) 1 rfl rfl (fm_dec dtLa_3 28 rfl) ?_
  refine la_arg C (pc := 374) (v := 1) (t + 1) rfl rfl (hi 1 (by decide)) (by decide) (fm_dec dtLa_3 29 rfl) (fm_dec dtLa_4 0 rfl) (fm_dec dtLa_4 1 rfl) (fm_dec dtLa_4 2 rfl) (fm_dec dtLa_4 3 rfl) ?_
  refine z_aloadn C.1 (pc := 380) (n := 3) 3 rfl rfl (fm_dec dtLa_4 4 rfl) ?_
  have hw : pvGood Tx 250 qX10_work [.ref 0, .int (xs (t + 1))] M (wI f (fun (r : Int32) (u : fmM × (Nat → Int64)) => pvGood Tm 250 qX11_work [.ref 0, .int (xs (t + 1))] M2 (fun r2 M2' => tI r2 ∧ I u.1 M2')) (fun E M' => (E = fmIAE ∧ (fun (r : Int32) (u : fmM × (Nat → Int64)) => pvGood Tm 250 qX11_work [.ref 0, .int (xs (t + 1))] M2 (fun r2 M2' => tI r2 ∧ I u.1 M2')) 1 (M', f)))) := h0.imp (fun r9 M9 h9 => by
    obtain ⟨h8, h2⟩ := h9
    rcases h8 with ⟨v, rfl⟩ | ⟨h6, rfl⟩ | ⟨h6, rfl⟩
    · exact h2
    · exact ⟨rfl, h2⟩
    · exact absurd h6 (by decide))
  refine z_callW C.1 (y' := qL_work) (hh := [(0, 9, 12, 13)]) (W0 := WX G g o (fmL Tm (g2, G.2) M2) (M, f)) (WW := WX G g o (fmL Tm (g2, G.2) M2)) (Q := fun (r : Int32) (u : fmM × (Nat → Int64)) => pvGood Tm 250 qX11_work [.ref 0, .int (xs (t + 1))] M2 (fun r2 M2' => tI r2 ∧ I u.1 M2')) (As := [.ref (g 0), .int (xs (t + 1)), .ref o]) (st := []) (pc := 381) (fm_c4 118 (by eq_refl) rfl) nst_L_work niL nw_L_work nd_L_work rfl rfl (by decide) (show 311 ≤ room_1.frames by decide) (show 8 + (4 + 11) + 18200 ≤ room_1.locals by decide) (rm_c hcu) (rm_s hsu) (fm_dec dtLa_4 5 rfl) (w_work C.2.2.2.2.2 hw) (fun r u hQ => ?_)
  obtain ⟨M1, f1⟩ := u
  refine z_istore C.1 (pc := 384) (i := 5) (by decide) rfl (fm_dec dtLa_4 6 rfl) ?_
  dsimp only [List.set_cons_zero, List.set_cons_succ]
  refine z_aloadn C.1 (pc := 386) (n := 2) 2 rfl rfl (fm_dec dtLa_4 7 rfl) ?_
  refine la_arg C (pc := 387) (v := 1) (t + 1) rfl rfl (hi 1 (by decide)) (by decide) (fm_dec dtLa_4 8 rfl) (fm_dec dtLa_4 9 rfl) (fm_dec dtLa_4 10 rfl) (fm_dec dtLa_4 11 rfl) (fm_dec dtLa_4 12 rfl) ?_
  have hcw := hcu1
  have hsw := hsu1
  refine z_perm (ws := (fmL Tx (g, G.2) M1 ++ ((o, .inl (G.2.2.1 1, 1, .inr (.inl f1))) :: fmL Tm (g2, G.2) M2))) (wpermW _ _ _) ?_
  refine la_ref C (pc := 393) (As := [.int (xs (t + 1))]) (st := []) cvL_141 (by decide +kernel) rfl rfl (Nat.le_of_ble_eq_true rfl) (by decide) hcw hsw (fm_dec dtLa_4 13 rfl) rfl hQ (fun r2 M3 h3 => ?_)
  obtain ⟨⟨v2, rfl⟩, hI3⟩ := h3
  refine z_then1 ?_
  refine z_istore C.1 (pc := 396) (i := 6) (by decide) rfl (fm_dec dtLa_4 14 rfl) ?_
  dsimp only [List.set_cons_zero, List.set_cons_succ]
  refine z_goto C.1 (pc := 398) 1940 (by decide) (fm_dec dtLa_4 15 rfl) ?_
  exact z_perm (wpermB _ _ _) (la_fgt (kk M1 f1 M3 hI3))
set_option maxRecDepth 20000 in
theorem la_c4 {p : Program} {l : Launch} {e : Env} {s : State} {m : MethodId} {below : List Frame} {meth : Method} {c : Code} {G : fmG} {b n : Nat} {xs : Nat → Int32} {I : fmM → fmM → Prop} (hS : laS_page I) (C : laC p l s m meth c G b n xs) {g g2 : Nat → Nat} {M M2 : fmM} {f : Nat → Int64} {o t : Nat} {i : Int32} {cu su : Nat} (hi : laI n i t) (hcu : cu + 1 ≤ 601024) (hsu : su + 6 ≤ 7293034) (hcu1 : cu + 1 + 1 ≤ 601024) (hsu1 : su + 6 + 6 ≤ 7293034) (hI : I M M2) (kk : ∀ (M' : fmM) (f' : Nat → Int64) (M2' : fmM), I M' M2' → zEv p l e room_1 s m #[.ref b] below meth c G (fun q => s.heap.size ≤ q) 8 (lw_Z below #[.ref b] s) 1940 [some (.ref b), some (.ref (g 0)), some (.ref (g2 0)), some (.ref o), some (.int i), none, none, none] [] (fmL Tx (g, G.2) M' ++ ((o, .inl (G.2.2.1 1, 1, .inr (.inl f'))) :: fmL Tm (g2, G.2) M2')) (cu + 1) (su + 6)) : zEv p l e room_1 s m #[.ref b] below meth c G (fun q => s.heap.size ≤ q) 8 (lw_Z below #[.ref b] s) 401 [some (.ref b), some (.ref (g 0)), some (.ref (g2 0)), some (.ref o), some (.int i), none, none, none] [] (fmL Tx (g, G.2) M ++ ((o, .inl (G.2.2.1 1, 1, .inr (.inl f))) :: fmL Tm (g2, G.2) M2)) cu su := by
  have h0 := hS M M2 (xs (t + 1)) hI
  refine z_aloadn C.1 (pc := 401) (n := 1) 1 rfl rfl (fm_dec dtLa_4 16 rfl) ?_
  refine la_arg C (pc := 402) (v := 1) (t + 1) rfl rfl (hi 1 (by decide)) (by decide) (fm_dec dtLa_4 17 rfl) (fm_dec dtLa_4 18 rfl) (fm_dec dtLa_4 19 rfl) (fm_dec dtLa_4 20 rfl) (fm_dec dtLa_4 21 rfl) ?_
  refine z_aloadn C.1 (pc := 408) (n := 3) 3 rfl rfl (fm_dec dtLa_4 22 rfl) ?_
  have hw : pvGood Tx 250 qX10_page [.ref 0, .int (xs (t + 1))] M (wI f (fun (r : Int32) (u : fmM × (Nat → Int64)) => pvGood Tm 250 qX11_page [.ref 0, .int (xs (t + 1))] M2 (fun r2 M2' => tI r2 ∧ I u.1 M2')) (fun E M' => (E = fmIAE ∧ (fun (r : Int32) (u : fmM × (Nat → Int64)) => pvGood Tm 250 qX11_page [.ref 0, .int (xs (t + 1))] M2 (fun r2 M2' => tI r2 ∧ I u.1 M2')) 1 (M', f)))) := h0.imp (fun r9 M9 h9 => by
    obtain ⟨h8, h2⟩ := h9
    rcases h8 with ⟨v, rfl⟩ | ⟨h6, rfl⟩ | ⟨h6, rfl⟩
    · exact h2
    · exact ⟨rfl, h2⟩
    · exact absurd h6 (by decide))
  refine z_callW C.1 (y' := qL_page) (hh := [(0, 9, 12, 13)]) (W0 := WX G g o (fmL Tm (g2, G.2) M2) (M, f)) (WW := WX G g o (fmL Tm (g2, G.2) M2)) (Q := fun (r : Int32) (u : fmM × (Nat → Int64)) => pvGood Tm 250 qX11_page [.ref 0, .int (xs (t + 1))] M2 (fun r2 M2' => tI r2 ∧ I u.1 M2')) (As := [.ref (g 0), .int (xs (t + 1)), .ref o]) (st := []) (pc := 409) (fm_c4 175 (by eq_refl) rfl) nst_L_page niL nw_L_page nd_L_page rfl rfl (by decide) (show 311 ≤ room_1.frames by decide) (show 8 + (4 + 11) + 18200 ≤ room_1.locals by decide) (rm_c hcu) (rm_s hsu) (fm_dec dtLa_4 23 rfl) (w_page C.2.2.2.2.2 hw) (fun r u hQ => ?_)
  obtain ⟨M1, f1⟩ := u
  refine z_istore C.1 (pc := 412) (i := 5) (by decide) rfl (fm_dec dtLa_4 24 rfl) ?_
  dsimp only [List.set_cons_zero, List.set_cons_succ]
  refine z_aloadn C.1 (pc := 414) (n := 2) 2 rfl rfl (fm_dec dtLa_4 25 rfl) ?_
  refine la_arg C (pc := 415) (v := 1) (t + 1) rfl rfl (hi 1 (by decide)) (by decide) (fm_dec dtLa_4 26 rfl) (fm_dec dtLa_4 27 rfl) (fm_dec dtLa_4 28 rfl) (fm_dec dtLa_4 29 rfl) (fm_dec dtLa_5 0 rfl) ?_
  have hcw := hcu1
  have hsw := hsu1
  refine z_perm (ws := (fmL Tx (g, G.2) M1 ++ ((o, .inl (G.2.2.1 1, 1, .inr (.inl f1))) :: fmL Tm (g2, G.2) M2))) (wpermW _ _ _) ?_
  refine la_ref C (pc := 421) (As := [.int (xs (t + 1))]) (st := []) cvL_144 (by decide +kernel) rfl rfl (Nat.le_of_ble_eq_true rfl) (by decide) hcw hsw (fm_dec dtLa_5 1 rfl) rfl hQ (fun r2 M3 h3 => ?_)
  obtain ⟨⟨v2, rfl⟩, hI3⟩ := h3
  refine z_then1 ?_
  refine z_istore C.1 (pc := 424) (i := 6) (by decide) rfl (fm_dec dtLa_5 2 rfl) ?_
  dsimp only [List.set_cons_zero, List.set_cons_succ]
  refine z_goto C.1 (pc := 426) 1940 (by decide) (fm_dec dtLa_5 3 rfl) ?_
  exact z_perm (wpermB _ _ _) (la_fgt (kk M1 f1 M3 hI3))
set_option maxRecDepth 20000 in
theorem la_c5 {p : Program} {l : Launch} {e : Env} {s : State} {m : MethodId} {below : List Frame} {meth : Method} {c : Code} {G : fmG} {b n : Nat} {xs : Nat → Int32} {I : fmM → fmM → Prop} (hS : laS_fault I) (C : laC p l s m meth c G b n xs) {g g2 : Nat → Nat} {M M2 : fmM} {f : Nat → Int64} {o t : Nat} {i : Int32} {cu su : Nat} (hi : laI n i t) (hcu : cu + 1 ≤ 601024) (hsu : su + 6 ≤ 7293034) (hcu1 : cu + 1 + 1 ≤ 601024) (hsu1 : su + 6 + 6 ≤ 7293034) (hI : I M M2) (kk : ∀ (M' : fmM) (f' : Nat → Int64) (M2' : fmM), I M' M2' → zEv p l e room_1 s m #[.ref b] below meth c G (fun q => s.heap.size ≤ q) 8 (lw_Z below #[.ref b] s) 1940 [some (.ref b), some (.ref (g 0)), some (.ref (g2 0)), some (.ref o), some (.int i), none, none, none] [] (fmL Tx (g, G.2) M' ++ ((o, .inl (G.2.2.1 1, 1, .inr (.inl f'))) :: fmL Tm (g2, G.2) M2')) (cu + 1) (su + 6)) : zEv p l e room_1 s m #[.ref b] below meth c G (fun q => s.heap.size ≤ q) 8 (lw_Z below #[.ref b] s) 429 [some (.ref b), some (.ref (g 0)), some (.ref (g2 0)), some (.ref o), some (.int i), none, none, none] [] (fmL Tx (g, G.2) M ++ ((o, .inl (G.2.2.1 1, 1, .inr (.inl f))) :: fmL Tm (g2, G.2) M2)) cu su := by
  have h0 := hS M M2 hI
  refine z_aloadn C.1 (pc := 429) (n := 1) 1 rfl rfl (fm_dec dtLa_5 4 rfl) ?_
  refine z_callX C.1 (T := Tx) (g := g) (M := M) (rest := (o, .inl (G.2.2.1 1, 1, .inr (.inl f))) :: fmL Tm (g2, G.2) M2) (k := 0) (ci := 10) (d' := 250) (pc := 430) (As := []) (st := []) cvL_145 (by decide) rfl rfl rfl (by decide) (rm_fr (by decide)) (rm_lo (by decide) (by decide)) (rm_c hcu) (rm_s hsu) (fm_dec dtLa_5 5 rfl) ?_
  refine fmGood.imp (pvGood.fm C.2.2.2.2.2 (by decide) (by decide +kernel) h0) (fun o9 M1 h9 => ?_)
  obtain ⟨o', rfl, h8, h2⟩ := h9
  rcases h8 with ⟨v, rfl⟩ | ⟨h8, -⟩ | ⟨h8, -⟩
  · refine z_then1 ?_
    refine z_pop C.1 (pc := 433) rfl (fm_dec dtLa_5 6 rfl) ?_
    refine z_aloadn C.1 (pc := 434) (n := 2) 2 rfl rfl (fm_dec dtLa_5 7 rfl) ?_
    have hcw := hcu
    have hsw := hsu
    refine z_perm (ws := (fmL Tx (g, G.2) M1 ++ ((o, .inl (G.2.2.1 1, 1, .inr (.inl f))) :: fmL Tm (g2, G.2) M2))) (wpermW _ _ _) ?_
    refine la_ref C (pc := 435) (As := []) (st := []) cvL_149 (by decide +kernel) rfl rfl (Nat.le_of_ble_eq_true rfl) (by decide) hcw hsw (fm_dec dtLa_5 8 rfl) rfl h2 (fun r2 M3 h3 => ?_)
    obtain ⟨⟨v2, rfl⟩, hI3⟩ := h3
    refine z_then1 ?_
    refine z_pop C.1 (pc := 438) rfl (fm_dec dtLa_5 9 rfl) ?_
    refine z_goto C.1 (pc := 439) 1940 (by decide) (fm_dec dtLa_5 10 rfl) ?_
    refine z_more (Nat.le_succ _) (Nat.le_add_right _ 6) ?_
    exact z_perm (wpermB _ _ _) (la_fgt (kk M1 f M3 hI3))
  · cases h8
  · cases h8
set_option maxRecDepth 20000 in
theorem la_c6 {p : Program} {l : Launch} {e : Env} {s : State} {m : MethodId} {below : List Frame} {meth : Method} {c : Code} {G : fmG} {b n : Nat} {xs : Nat → Int32} {I : fmM → fmM → Prop} (hS : laS_undo I) (C : laC p l s m meth c G b n xs) {g g2 : Nat → Nat} {M M2 : fmM} {f : Nat → Int64} {o t : Nat} {i : Int32} {cu su : Nat} (hi : laI n i t) (hcu : cu + 1 ≤ 601024) (hsu : su + 6 ≤ 7293034) (hcu1 : cu + 1 + 1 ≤ 601024) (hsu1 : su + 6 + 6 ≤ 7293034) (hI : I M M2) (kk : ∀ (M' : fmM) (f' : Nat → Int64) (M2' : fmM), I M' M2' → zEv p l e room_1 s m #[.ref b] below meth c G (fun q => s.heap.size ≤ q) 8 (lw_Z below #[.ref b] s) 1940 [some (.ref b), some (.ref (g 0)), some (.ref (g2 0)), some (.ref o), some (.int i), none, none, none] [] (fmL Tx (g, G.2) M' ++ ((o, .inl (G.2.2.1 1, 1, .inr (.inl f'))) :: fmL Tm (g2, G.2) M2')) (cu + 1) (su + 6)) : zEv p l e room_1 s m #[.ref b] below meth c G (fun q => s.heap.size ≤ q) 8 (lw_Z below #[.ref b] s) 442 [some (.ref b), some (.ref (g 0)), some (.ref (g2 0)), some (.ref o), some (.int i), none, none, none] [] (fmL Tx (g, G.2) M ++ ((o, .inl (G.2.2.1 1, 1, .inr (.inl f))) :: fmL Tm (g2, G.2) M2)) cu su := by
  have h0 := hS M M2 hI
  refine z_aloadn C.1 (pc := 442) (n := 1) 1 rfl rfl (fm_dec dtLa_5 11 rfl) ?_
  refine z_callX C.1 (T := Tx) (g := g) (M := M) (rest := (o, .inl (G.2.2.1 1, 1, .inr (.inl f))) :: fmL Tm (g2, G.2) M2) (k := 0) (ci := 10) (d' := 250) (pc := 443) (As := []) (st := []) cvL_150 (by decide) rfl rfl rfl (by decide) (rm_fr (by decide)) (rm_lo (by decide) (by decide)) (rm_c hcu) (rm_s hsu) (fm_dec dtLa_5 12 rfl) ?_
  refine fmGood.imp (pvGood.fm C.2.2.2.2.2 (by decide) (by decide +kernel) h0) (fun o9 M1 h9 => ?_)
  obtain ⟨o', rfl, h8, h2⟩ := h9
  rcases h8 with ⟨v, rfl⟩ | ⟨h8, -⟩ | ⟨h8, -⟩
  · refine z_then1 ?_
    refine z_pop C.1 (pc := 446) rfl (fm_dec dtLa_5 13 rfl) ?_
    refine z_aloadn C.1 (pc := 447) (n := 2) 2 rfl rfl (fm_dec dtLa_5 14 rfl) ?_
    have hcw := hcu
    have hsw := hsu
    refine z_perm (ws := (fmL Tx (g, G.2) M1 ++ ((o, .inl (G.2.2.1 1, 1, .inr (.inl f))) :: fmL Tm (g2, G.2) M2))) (wpermW _ _ _) ?_
    refine la_ref C (pc := 448) (As := []) (st := []) cvL_153 (by decide +kernel) rfl rfl (Nat.le_of_ble_eq_true rfl) (by decide) hcw hsw (fm_dec dtLa_5 15 rfl) rfl h2 (fun r2 M3 h3 => ?_)
    obtain ⟨⟨v2, rfl⟩, hI3⟩ := h3
    refine z_then1 ?_
    refine z_pop C.1 (pc := 451) rfl (fm_dec dtLa_5 16 rfl) ?_
    refine z_goto C.1 (pc := 452) 1940 (by decide) (fm_dec dtLa_5 17 rfl) ?_
    refine z_more (Nat.le_succ _) (Nat.le_add_right _ 6) ?_
    exact z_perm (wpermB _ _ _) (la_fgt (kk M1 f M3 hI3))
  · cases h8
  · cases h8
set_option maxRecDepth 20000 in
theorem la_c7 {p : Program} {l : Launch} {e : Env} {s : State} {m : MethodId} {below : List Frame} {meth : Method} {c : Code} {G : fmG} {b n : Nat} {xs : Nat → Int32} {I : fmM → fmM → Prop} (hS : laS_told I) (C : laC p l s m meth c G b n xs) {g g2 : Nat → Nat} {M M2 : fmM} {f : Nat → Int64} {o t : Nat} {i : Int32} {cu su : Nat} (hi : laI n i t) (hcu : cu + 1 ≤ 601024) (hsu : su + 6 ≤ 7293034) (hcu1 : cu + 1 + 1 ≤ 601024) (hsu1 : su + 6 + 6 ≤ 7293034) (hI : I M M2) (kk : ∀ (M' : fmM) (f' : Nat → Int64) (M2' : fmM), I M' M2' → zEv p l e room_1 s m #[.ref b] below meth c G (fun q => s.heap.size ≤ q) 8 (lw_Z below #[.ref b] s) 1940 [some (.ref b), some (.ref (g 0)), some (.ref (g2 0)), some (.ref o), some (.int i), none, none, none] [] (fmL Tx (g, G.2) M' ++ ((o, .inl (G.2.2.1 1, 1, .inr (.inl f'))) :: fmL Tm (g2, G.2) M2')) (cu + 1) (su + 6)) : zEv p l e room_1 s m #[.ref b] below meth c G (fun q => s.heap.size ≤ q) 8 (lw_Z below #[.ref b] s) 455 [some (.ref b), some (.ref (g 0)), some (.ref (g2 0)), some (.ref o), some (.int i), none, none, none] [] (fmL Tx (g, G.2) M ++ ((o, .inl (G.2.2.1 1, 1, .inr (.inl f))) :: fmL Tm (g2, G.2) M2)) cu su := by
  have h0 := hS M M2 (xs (t + 1)) hI
  refine z_aloadn C.1 (pc := 455) (n := 1) 1 rfl rfl (fm_dec dtLa_5 18 rfl) ?_
  refine la_arg C (pc := 456) (v := 1) (t + 1) rfl rfl (hi 1 (by decide)) (by decide) (fm_dec dtLa_5 19 rfl) (fm_dec dtLa_5 20 rfl) (fm_dec dtLa_5 21 rfl) (fm_dec dtLa_5 22 rfl) (fm_dec dtLa_5 23 rfl) ?_
  refine z_aloadn C.1 (pc := 462) (n := 3) 3 rfl rfl (fm_dec dtLa_5 24 rfl) ?_
  have hw : pvGood Tx 250 qX10_told [.ref 0, .int (xs (t + 1))] M (wI f (fun (r : Int32) (u : fmM × (Nat → Int64)) => pvGood Tm 250 qX11_told [.ref 0, .int (xs (t + 1))] M2 (fun r2 M2' => tI r2 ∧ I u.1 M2')) (fun E M' => (E = fmIAE ∧ (fun (r : Int32) (u : fmM × (Nat → Int64)) => pvGood Tm 250 qX11_told [.ref 0, .int (xs (t + 1))] M2 (fun r2 M2' => tI r2 ∧ I u.1 M2')) 1 (M', f)))) := h0.imp (fun r9 M9 h9 => by
    obtain ⟨h8, h2⟩ := h9
    rcases h8 with ⟨v, rfl⟩ | ⟨h6, rfl⟩ | ⟨h6, rfl⟩
    · exact h2
    · exact ⟨rfl, h2⟩
    · exact absurd h6 (by decide))
  refine z_callW C.1 (y' := qL_told) (hh := [(0, 9, 12, 13)]) (W0 := WX G g o (fmL Tm (g2, G.2) M2) (M, f)) (WW := WX G g o (fmL Tm (g2, G.2) M2)) (Q := fun (r : Int32) (u : fmM × (Nat → Int64)) => pvGood Tm 250 qX11_told [.ref 0, .int (xs (t + 1))] M2 (fun r2 M2' => tI r2 ∧ I u.1 M2')) (As := [.ref (g 0), .int (xs (t + 1)), .ref o]) (st := []) (pc := 463) (fm_c4 198 (by eq_refl) rfl) nst_L_told niL nw_L_told nd_L_told rfl rfl (by decide) (show 311 ≤ room_1.frames by decide) (show 8 + (4 + 11) + 18200 ≤ room_1.locals by decide) (rm_c hcu) (rm_s hsu) (fm_dec dtLa_5 25 rfl) (w_told C.2.2.2.2.2 hw) (fun r u hQ => ?_)
  obtain ⟨M1, f1⟩ := u
  refine z_istore C.1 (pc := 466) (i := 5) (by decide) rfl (fm_dec dtLa_5 26 rfl) ?_
  dsimp only [List.set_cons_zero, List.set_cons_succ]
  refine z_aloadn C.1 (pc := 468) (n := 2) 2 rfl rfl (fm_dec dtLa_5 27 rfl) ?_
  refine la_arg C (pc := 469) (v := 1) (t + 1) rfl rfl (hi 1 (by decide)) (by decide) (fm_dec dtLa_5 28 rfl) (fm_dec dtLa_5 29 rfl) (fm_dec dtLa_6 0 rfl) (fm_dec dtLa_6 1 rfl) (fm_dec dtLa_6 2 rfl) ?_
  have hcw := hcu1
  have hsw := hsu1
  refine z_perm (ws := (fmL Tx (g, G.2) M1 ++ ((o, .inl (G.2.2.1 1, 1, .inr (.inl f1))) :: fmL Tm (g2, G.2) M2))) (wpermW _ _ _) ?_
  refine la_ref C (pc := 475) (As := [.int (xs (t + 1))]) (st := []) cvL_156 (by decide +kernel) rfl rfl (Nat.le_of_ble_eq_true rfl) (by decide) hcw hsw (fm_dec dtLa_6 3 rfl) rfl hQ (fun r2 M3 h3 => ?_)
  obtain ⟨⟨v2, rfl⟩, hI3⟩ := h3
  refine z_then1 ?_
  refine z_istore C.1 (pc := 478) (i := 6) (by decide) rfl (fm_dec dtLa_6 4 rfl) ?_
  dsimp only [List.set_cons_zero, List.set_cons_succ]
  refine z_goto C.1 (pc := 480) 1940 (by decide) (fm_dec dtLa_6 5 rfl) ?_
  exact z_perm (wpermB _ _ _) (la_fgt (kk M1 f1 M3 hI3))
set_option maxRecDepth 20000 in
theorem la_c8 {p : Program} {l : Launch} {e : Env} {s : State} {m : MethodId} {below : List Frame} {meth : Method} {c : Code} {G : fmG} {b n : Nat} {xs : Nat → Int32} {I : fmM → fmM → Prop} (hS : laS_life I) (C : laC p l s m meth c G b n xs) {g g2 : Nat → Nat} {M M2 : fmM} {f : Nat → Int64} {o t : Nat} {i : Int32} {cu su : Nat} (hi : laI n i t) (hcu : cu + 1 ≤ 601024) (hsu : su + 6 ≤ 7293034) (hcu1 : cu + 1 + 1 ≤ 601024) (hsu1 : su + 6 + 6 ≤ 7293034) (hI : I M M2) (kk : ∀ (M' : fmM) (f' : Nat → Int64) (M2' : fmM), I M' M2' → zEv p l e room_1 s m #[.ref b] below meth c G (fun q => s.heap.size ≤ q) 8 (lw_Z below #[.ref b] s) 1940 [some (.ref b), some (.ref (g 0)), some (.ref (g2 0)), some (.ref o), some (.int i), none, none, none] [] (fmL Tx (g, G.2) M' ++ ((o, .inl (G.2.2.1 1, 1, .inr (.inl f'))) :: fmL Tm (g2, G.2) M2')) (cu + 1) (su + 6)) : zEv p l e room_1 s m #[.ref b] below meth c G (fun q => s.heap.size ≤ q) 8 (lw_Z below #[.ref b] s) 483 [some (.ref b), some (.ref (g 0)), some (.ref (g2 0)), some (.ref o), some (.int i), none, none, none] [] (fmL Tx (g, G.2) M ++ ((o, .inl (G.2.2.1 1, 1, .inr (.inl f))) :: fmL Tm (g2, G.2) M2)) cu su := by
  have h0 := hS M M2 (xs (t + 1)) (xs (t + 2)) hI
  refine z_aloadn C.1 (pc := 483) (n := 1) 1 rfl rfl (fm_dec dtLa_6 6 rfl) ?_
  refine la_arg C (pc := 484) (v := 1) (t + 1) rfl rfl (hi 1 (by decide)) (by decide) (fm_dec dtLa_6 7 rfl) (fm_dec dtLa_6 8 rfl) (fm_dec dtLa_6 9 rfl) (fm_dec dtLa_6 10 rfl) (fm_dec dtLa_6 11 rfl) ?_
  refine la_arg C (pc := 490) (v := 2) (t + 2) rfl rfl (hi 2 (by decide)) (by decide) (fm_dec dtLa_6 12 rfl) (fm_dec dtLa_6 13 rfl) (fm_dec dtLa_6 14 rfl) (fm_dec dtLa_6 15 rfl) (fm_dec dtLa_6 16 rfl) ?_
  refine z_aloadn C.1 (pc := 496) (n := 3) 3 rfl rfl (fm_dec dtLa_6 17 rfl) ?_
  have hw : pvGood Tx 250 qX10_life [.ref 0, .int (xs (t + 1)), .int (xs (t + 2))] M (wI f (fun (r : Int32) (u : fmM × (Nat → Int64)) => pvGood Tm 250 qX11_life [.ref 0, .int (xs (t + 1)), .int (xs (t + 2))] M2 (fun r2 M2' => tI r2 ∧ I u.1 M2')) (fun E M' => (E = fmNSE ∧ (fun (r : Int32) (u : fmM × (Nat → Int64)) => pvGood Tm 250 qX11_life [.ref 0, .int (xs (t + 1)), .int (xs (t + 2))] M2 (fun r2 M2' => tI r2 ∧ I u.1 M2')) 1 (M', f)) ∨ (E = fmIAE ∧ (fun (r : Int32) (u : fmM × (Nat → Int64)) => pvGood Tm 250 qX11_life [.ref 0, .int (xs (t + 1)), .int (xs (t + 2))] M2 (fun r2 M2' => tI r2 ∧ I u.1 M2')) 2 (M', f)))) := h0.imp (fun r9 M9 h9 => by
    obtain ⟨h8, h2⟩ := h9
    rcases h8 with ⟨v, rfl⟩ | ⟨-, rfl⟩ | ⟨-, rfl⟩
    · exact h2
    · exact Or.inr ⟨rfl, h2⟩
    · exact Or.inl ⟨rfl, h2⟩)
  refine z_callW C.1 (y' := qL_life) (hh := [(0, 10, 13, 31), (0, 10, 17, 13)]) (W0 := WX G g o (fmL Tm (g2, G.2) M2) (M, f)) (WW := WX G g o (fmL Tm (g2, G.2) M2)) (Q := fun (r : Int32) (u : fmM × (Nat → Int64)) => pvGood Tm 250 qX11_life [.ref 0, .int (xs (t + 1)), .int (xs (t + 2))] M2 (fun r2 M2' => tI r2 ∧ I u.1 M2')) (As := [.ref (g 0), .int (xs (t + 1)), .int (xs (t + 2)), .ref o]) (st := []) (pc := 497) (fm_c4 210 (by eq_refl) rfl) nst_L_life niL nw_L_life nd_L_life rfl rfl (by decide) (show 311 ≤ room_1.frames by decide) (show 8 + (5 + 11) + 18200 ≤ room_1.locals by decide) (rm_c hcu) (rm_s hsu) (fm_dec dtLa_6 18 rfl) (w_life C.2.2.2.2.2 hw) (fun r u hQ => ?_)
  obtain ⟨M1, f1⟩ := u
  refine z_istore C.1 (pc := 500) (i := 5) (by decide) rfl (fm_dec dtLa_6 19 rfl) ?_
  dsimp only [List.set_cons_zero, List.set_cons_succ]
  refine z_aloadn C.1 (pc := 502) (n := 2) 2 rfl rfl (fm_dec dtLa_6 20 rfl) ?_
  refine la_arg C (pc := 503) (v := 1) (t + 1) rfl rfl (hi 1 (by decide)) (by decide) (fm_dec dtLa_6 21 rfl) (fm_dec dtLa_6 22 rfl) (fm_dec dtLa_6 23 rfl) (fm_dec dtLa_6 24 rfl) (fm_dec dtLa_6 25 rfl) ?_
  refine la_arg C (pc := 509) (v := 2) (t + 2) rfl rfl (hi 2 (by decide)) (by decide) (fm_dec dtLa_6 26 rfl) (fm_dec dtLa_6 27 rfl) (fm_dec dtLa_6 28 rfl) (fm_dec dtLa_6 29 rfl) (fm_dec dtLa_7 0 rfl) ?_
  have hcw := hcu1
  have hsw := hsu1
  refine z_perm (ws := (fmL Tx (g, G.2) M1 ++ ((o, .inl (G.2.2.1 1, 1, .inr (.inl f1))) :: fmL Tm (g2, G.2) M2))) (wpermW _ _ _) ?_
  refine la_ref C (pc := 515) (As := [.int (xs (t + 1)), .int (xs (t + 2))]) (st := []) cvL_160 (by decide +kernel) rfl rfl (Nat.le_of_ble_eq_true rfl) (by decide) hcw hsw (fm_dec dtLa_7 1 rfl) rfl hQ (fun r2 M3 h3 => ?_)
  obtain ⟨⟨v2, rfl⟩, hI3⟩ := h3
  refine z_then1 ?_
  refine z_istore C.1 (pc := 518) (i := 6) (by decide) rfl (fm_dec dtLa_7 2 rfl) ?_
  dsimp only [List.set_cons_zero, List.set_cons_succ]
  refine z_goto C.1 (pc := 520) 1940 (by decide) (fm_dec dtLa_7 3 rfl) ?_
  exact z_perm (wpermB _ _ _) (la_fgt (kk M1 f1 M3 hI3))
set_option maxRecDepth 20000 in
theorem la_c9 {p : Program} {l : Launch} {e : Env} {s : State} {m : MethodId} {below : List Frame} {meth : Method} {c : Code} {G : fmG} {b n : Nat} {xs : Nat → Int32} {I : fmM → fmM → Prop} (hS : laS_facts I) (C : laC p l s m meth c G b n xs) {g g2 : Nat → Nat} {M M2 : fmM} {f : Nat → Int64} {o t : Nat} {i : Int32} {cu su : Nat} (hi : laI n i t) (hcu : cu + 1 ≤ 601024) (hsu : su + 6 ≤ 7293034) (hcu1 : cu + 1 + 1 ≤ 601024) (hsu1 : su + 6 + 6 ≤ 7293034) (hI : I M M2) (kk : ∀ (M' : fmM) (f' : Nat → Int64) (M2' : fmM), I M' M2' → zEv p l e room_1 s m #[.ref b] below meth c G (fun q => s.heap.size ≤ q) 8 (lw_Z below #[.ref b] s) 1940 [some (.ref b), some (.ref (g 0)), some (.ref (g2 0)), some (.ref o), some (.int i), none, none, none] [] (fmL Tx (g, G.2) M' ++ ((o, .inl (G.2.2.1 1, 1, .inr (.inl f'))) :: fmL Tm (g2, G.2) M2')) (cu + 1) (su + 6)) : zEv p l e room_1 s m #[.ref b] below meth c G (fun q => s.heap.size ≤ q) 8 (lw_Z below #[.ref b] s) 523 [some (.ref b), some (.ref (g 0)), some (.ref (g2 0)), some (.ref o), some (.int i), none, none, none] [] (fmL Tx (g, G.2) M ++ ((o, .inl (G.2.2.1 1, 1, .inr (.inl f))) :: fmL Tm (g2, G.2) M2)) cu su := by
  have h0 := hS M M2 (xs (t + 1)) hI
  refine z_aloadn C.1 (pc := 523) (n := 1) 1 rfl rfl (fm_dec dtLa_7 4 rfl) ?_
  refine la_arg C (pc := 524) (v := 1) (t + 1) rfl rfl (hi 1 (by decide)) (by decide) (fm_dec dtLa_7 5 rfl) (fm_dec dtLa_7 6 rfl) (fm_dec dtLa_7 7 rfl) (fm_dec dtLa_7 8 rfl) (fm_dec dtLa_7 9 rfl) ?_
  refine z_aloadn C.1 (pc := 530) (n := 3) 3 rfl rfl (fm_dec dtLa_7 10 rfl) ?_
  have hw : pvGood Tx 250 qX10_facts [.ref 0, .int (xs (t + 1))] M (wI f (fun (r : Int32) (u : fmM × (Nat → Int64)) => pvGood Tm 250 qX11_facts [.ref 0, .int (xs (t + 1))] M2 (fun r2 M2' => tI r2 ∧ I u.1 M2')) (fun E M' => (E = fmNSE ∧ (fun (r : Int32) (u : fmM × (Nat → Int64)) => pvGood Tm 250 qX11_facts [.ref 0, .int (xs (t + 1))] M2 (fun r2 M2' => tI r2 ∧ I u.1 M2')) 1 (M', f)))) := h0.imp (fun r9 M9 h9 => by
    obtain ⟨h8, h2⟩ := h9
    rcases h8 with ⟨v, rfl⟩ | ⟨h6, rfl⟩ | ⟨h6, rfl⟩
    · exact h2
    · exact absurd h6 (by decide)
    · exact ⟨rfl, h2⟩)
  refine z_callW C.1 (y' := qL_facts) (hh := [(0, 9, 12, 31)]) (W0 := WX G g o (fmL Tm (g2, G.2) M2) (M, f)) (WW := WX G g o (fmL Tm (g2, G.2) M2)) (Q := fun (r : Int32) (u : fmM × (Nat → Int64)) => pvGood Tm 250 qX11_facts [.ref 0, .int (xs (t + 1))] M2 (fun r2 M2' => tI r2 ∧ I u.1 M2')) (As := [.ref (g 0), .int (xs (t + 1)), .ref o]) (st := []) (pc := 531) (fm_c5 0 (by eq_refl) rfl) nst_L_facts niL nw_L_facts nd_L_facts rfl rfl (by decide) (show 311 ≤ room_1.frames by decide) (show 8 + (4 + 11) + 18200 ≤ room_1.locals by decide) (rm_c hcu) (rm_s hsu) (fm_dec dtLa_7 11 rfl) (w_facts C.2.2.2.2.2 hw) (fun r u hQ => ?_)
  obtain ⟨M1, f1⟩ := u
  refine z_istore C.1 (pc := 534) (i := 5) (by decide) rfl (fm_dec dtLa_7 12 rfl) ?_
  dsimp only [List.set_cons_zero, List.set_cons_succ]
  refine z_aloadn C.1 (pc := 536) (n := 2) 2 rfl rfl (fm_dec dtLa_7 13 rfl) ?_
  refine la_arg C (pc := 537) (v := 1) (t + 1) rfl rfl (hi 1 (by decide)) (by decide) (fm_dec dtLa_7 14 rfl) (fm_dec dtLa_7 15 rfl) (fm_dec dtLa_7 16 rfl) (fm_dec dtLa_7 17 rfl) (fm_dec dtLa_7 18 rfl) ?_
  have hcw := hcu1
  have hsw := hsu1
  refine z_perm (ws := (fmL Tx (g, G.2) M1 ++ ((o, .inl (G.2.2.1 1, 1, .inr (.inl f1))) :: fmL Tm (g2, G.2) M2))) (wpermW _ _ _) ?_
  refine la_ref C (pc := 543) (As := [.int (xs (t + 1))]) (st := []) cvL_163 (by decide +kernel) rfl rfl (Nat.le_of_ble_eq_true rfl) (by decide) hcw hsw (fm_dec dtLa_7 19 rfl) rfl hQ (fun r2 M3 h3 => ?_)
  obtain ⟨⟨v2, rfl⟩, hI3⟩ := h3
  refine z_then1 ?_
  refine z_istore C.1 (pc := 546) (i := 6) (by decide) rfl (fm_dec dtLa_7 20 rfl) ?_
  dsimp only [List.set_cons_zero, List.set_cons_succ]
  refine z_goto C.1 (pc := 548) 1940 (by decide) (fm_dec dtLa_7 21 rfl) ?_
  exact z_perm (wpermB _ _ _) (la_fgt (kk M1 f1 M3 hI3))
set_option maxRecDepth 20000 in
theorem la_c10 {p : Program} {l : Launch} {e : Env} {s : State} {m : MethodId} {below : List Frame} {meth : Method} {c : Code} {G : fmG} {b n : Nat} {xs : Nat → Int32} {I : fmM → fmM → Prop} (hS : laS_wrong I) (C : laC p l s m meth c G b n xs) {g g2 : Nat → Nat} {M M2 : fmM} {f : Nat → Int64} {o t : Nat} {i : Int32} {cu su : Nat} (hi : laI n i t) (hcu : cu + 1 ≤ 601024) (hsu : su + 6 ≤ 7293034) (hcu1 : cu + 1 + 1 ≤ 601024) (hsu1 : su + 6 + 6 ≤ 7293034) (hI : I M M2) (kk : ∀ (M' : fmM) (f' : Nat → Int64) (M2' : fmM), I M' M2' → zEv p l e room_1 s m #[.ref b] below meth c G (fun q => s.heap.size ≤ q) 8 (lw_Z below #[.ref b] s) 1940 [some (.ref b), some (.ref (g 0)), some (.ref (g2 0)), some (.ref o), some (.int i), none, none, none] [] (fmL Tx (g, G.2) M' ++ ((o, .inl (G.2.2.1 1, 1, .inr (.inl f'))) :: fmL Tm (g2, G.2) M2')) (cu + 1) (su + 6)) : zEv p l e room_1 s m #[.ref b] below meth c G (fun q => s.heap.size ≤ q) 8 (lw_Z below #[.ref b] s) 551 [some (.ref b), some (.ref (g 0)), some (.ref (g2 0)), some (.ref o), some (.int i), none, none, none] [] (fmL Tx (g, G.2) M ++ ((o, .inl (G.2.2.1 1, 1, .inr (.inl f))) :: fmL Tm (g2, G.2) M2)) cu su := by
  have h0 := hS M M2 (xs (t + 1)) hI
  refine z_aloadn C.1 (pc := 551) (n := 1) 1 rfl rfl (fm_dec dtLa_7 22 rfl) ?_
  refine la_arg C (pc := 552) (v := 1) (t + 1) rfl rfl (hi 1 (by decide)) (by decide) (fm_dec dtLa_7 23 rfl) (fm_dec dtLa_7 24 rfl) (fm_dec dtLa_7 25 rfl) (fm_dec dtLa_7 26 rfl) (fm_dec dtLa_7 27 rfl) ?_
  refine z_aloadn C.1 (pc := 558) (n := 3) 3 rfl rfl (fm_dec dtLa_7 28 rfl) ?_
  have hw : pvGood Tx 250 qX10_wrong [.ref 0, .int (xs (t + 1))] M (wI f (fun (r : Int32) (u : fmM × (Nat → Int64)) => pvGood Tm 250 qX11_wrong [.ref 0, .int (xs (t + 1))] M2 (fun r2 M2' => tI r2 ∧ I u.1 M2')) (fun E M' => (E = fmNSE ∧ (fun (r : Int32) (u : fmM × (Nat → Int64)) => pvGood Tm 250 qX11_wrong [.ref 0, .int (xs (t + 1))] M2 (fun r2 M2' => tI r2 ∧ I u.1 M2')) 1 (M', f)))) := h0.imp (fun r9 M9 h9 => by
    obtain ⟨h8, h2⟩ := h9
    rcases h8 with ⟨v, rfl⟩ | ⟨h6, rfl⟩ | ⟨h6, rfl⟩
    · exact h2
    · exact absurd h6 (by decide)
    · exact ⟨rfl, h2⟩)
  refine z_callW C.1 (y' := qL_wrong) (hh := [(0, 9, 12, 31)]) (W0 := WX G g o (fmL Tm (g2, G.2) M2) (M, f)) (WW := WX G g o (fmL Tm (g2, G.2) M2)) (Q := fun (r : Int32) (u : fmM × (Nat → Int64)) => pvGood Tm 250 qX11_wrong [.ref 0, .int (xs (t + 1))] M2 (fun r2 M2' => tI r2 ∧ I u.1 M2')) (As := [.ref (g 0), .int (xs (t + 1)), .ref o]) (st := []) (pc := 559) (fm_c5 7 (by eq_refl) rfl) nst_L_wrong niL nw_L_wrong nd_L_wrong rfl rfl (by decide) (show 311 ≤ room_1.frames by decide) (show 8 + (4 + 11) + 18200 ≤ room_1.locals by decide) (rm_c hcu) (rm_s hsu) (fm_dec dtLa_7 29 rfl) (w_wrong C.2.2.2.2.2 hw) (fun r u hQ => ?_)
  obtain ⟨M1, f1⟩ := u
  refine z_istore C.1 (pc := 562) (i := 5) (by decide) rfl (fm_dec dtLa_8 0 rfl) ?_
  dsimp only [List.set_cons_zero, List.set_cons_succ]
  refine z_aloadn C.1 (pc := 564) (n := 2) 2 rfl rfl (fm_dec dtLa_8 1 rfl) ?_
  refine la_arg C (pc := 565) (v := 1) (t + 1) rfl rfl (hi 1 (by decide)) (by decide) (fm_dec dtLa_8 2 rfl) (fm_dec dtLa_8 3 rfl) (fm_dec dtLa_8 4 rfl) (fm_dec dtLa_8 5 rfl) (fm_dec dtLa_8 6 rfl) ?_
  have hcw := hcu1
  have hsw := hsu1
  refine z_perm (ws := (fmL Tx (g, G.2) M1 ++ ((o, .inl (G.2.2.1 1, 1, .inr (.inl f1))) :: fmL Tm (g2, G.2) M2))) (wpermW _ _ _) ?_
  refine la_ref C (pc := 571) (As := [.int (xs (t + 1))]) (st := []) cvL_166 (by decide +kernel) rfl rfl (Nat.le_of_ble_eq_true rfl) (by decide) hcw hsw (fm_dec dtLa_8 7 rfl) rfl hQ (fun r2 M3 h3 => ?_)
  obtain ⟨⟨v2, rfl⟩, hI3⟩ := h3
  refine z_then1 ?_
  refine z_istore C.1 (pc := 574) (i := 6) (by decide) rfl (fm_dec dtLa_8 8 rfl) ?_
  dsimp only [List.set_cons_zero, List.set_cons_succ]
  refine z_goto C.1 (pc := 576) 1940 (by decide) (fm_dec dtLa_8 9 rfl) ?_
  exact z_perm (wpermB _ _ _) (la_fgt (kk M1 f1 M3 hI3))
set_option maxRecDepth 20000 in
theorem la_c11 {p : Program} {l : Launch} {e : Env} {s : State} {m : MethodId} {below : List Frame} {meth : Method} {c : Code} {G : fmG} {b n : Nat} {xs : Nat → Int32} {I : fmM → fmM → Prop} (hS : laS_would I) (C : laC p l s m meth c G b n xs) {g g2 : Nat → Nat} {M M2 : fmM} {f : Nat → Int64} {o t : Nat} {i : Int32} {cu su : Nat} (hi : laI n i t) (hcu : cu + 1 ≤ 601024) (hsu : su + 6 ≤ 7293034) (hcu1 : cu + 1 + 1 ≤ 601024) (hsu1 : su + 6 + 6 ≤ 7293034) (hI : I M M2) (kk : ∀ (M' : fmM) (f' : Nat → Int64) (M2' : fmM), I M' M2' → zEv p l e room_1 s m #[.ref b] below meth c G (fun q => s.heap.size ≤ q) 8 (lw_Z below #[.ref b] s) 1940 [some (.ref b), some (.ref (g 0)), some (.ref (g2 0)), some (.ref o), some (.int i), none, none, none] [] (fmL Tx (g, G.2) M' ++ ((o, .inl (G.2.2.1 1, 1, .inr (.inl f'))) :: fmL Tm (g2, G.2) M2')) (cu + 1) (su + 6)) : zEv p l e room_1 s m #[.ref b] below meth c G (fun q => s.heap.size ≤ q) 8 (lw_Z below #[.ref b] s) 579 [some (.ref b), some (.ref (g 0)), some (.ref (g2 0)), some (.ref o), some (.int i), none, none, none] [] (fmL Tx (g, G.2) M ++ ((o, .inl (G.2.2.1 1, 1, .inr (.inl f))) :: fmL Tm (g2, G.2) M2)) cu su := by
  have h0 := hS M M2 (xs (t + 1)) (xs (t + 2)) (xs (t + 3)) (xs (t + 4)) (xs (t + 5)) hI
  refine z_aloadn C.1 (pc := 579) (n := 1) 1 rfl rfl (fm_dec dtLa_8 10 rfl) ?_
  refine la_arg C (pc := 580) (v := 1) (t + 1) rfl rfl (hi 1 (by decide)) (by decide) (fm_dec dtLa_8 11 rfl) (fm_dec dtLa_8 12 rfl) (fm_dec dtLa_8 13 rfl) (fm_dec dtLa_8 14 rfl) (fm_dec dtLa_8 15 rfl) ?_
  refine la_arg C (pc := 586) (v := 2) (t + 2) rfl rfl (hi 2 (by decide)) (by decide) (fm_dec dtLa_8 16 rfl) (fm_dec dtLa_8 17 rfl) (fm_dec dtLa_8 18 rfl) (fm_dec dtLa_8 19 rfl) (fm_dec dtLa_8 20 rfl) ?_
  refine la_arg C (pc := 592) (v := 3) (t + 3) rfl rfl (hi 3 (by decide)) (by decide) (fm_dec dtLa_8 21 rfl) (fm_dec dtLa_8 22 rfl) (fm_dec dtLa_8 23 rfl) (fm_dec dtLa_8 24 rfl) (fm_dec dtLa_8 25 rfl) ?_
  refine la_arg C (pc := 598) (v := 4) (t + 4) rfl rfl (hi 4 (by decide)) (by decide) (fm_dec dtLa_8 26 rfl) (fm_dec dtLa_8 27 rfl) (fm_dec dtLa_8 28 rfl) (fm_dec dtLa_8 29 rfl) (fm_dec dtLa_9 0 rfl) ?_
  refine la_arg C (pc := 604) (v := 5) (t + 5) rfl rfl (hi 5 (by decide)) (by decide) (fm_dec dtLa_9 1 rfl) (fm_dec dtLa_9 2 rfl) (fm_dec dtLa_9 3 rfl) (fm_dec dtLa_9 4 rfl) (fm_dec dtLa_9 5 rfl) ?_
  refine z_aloadn C.1 (pc := 610) (n := 3) 3 rfl rfl (fm_dec dtLa_9 6 rfl) ?_
  have hw : pvGood Tx 250 qX10_would [.ref 0, .int (xs (t + 1)), .int (xs (t + 2)), .int (xs (t + 3)), .int (xs (t + 4)), .int (xs (t + 5))] M (wI f (fun (r : Int32) (u : fmM × (Nat → Int64)) => pvGood Tm 250 qX11_would [.ref 0, .int (xs (t + 1)), .int (xs (t + 2)), .int (xs (t + 3)), .int (xs (t + 4)), .int (xs (t + 5))] M2 (fun r2 M2' => tI r2 ∧ I u.1 M2')) (fun E M' => (E = fmIAE ∧ (fun (r : Int32) (u : fmM × (Nat → Int64)) => pvGood Tm 250 qX11_would [.ref 0, .int (xs (t + 1)), .int (xs (t + 2)), .int (xs (t + 3)), .int (xs (t + 4)), .int (xs (t + 5))] M2 (fun r2 M2' => tI r2 ∧ I u.1 M2')) 1 (M', f)))) := h0.imp (fun r9 M9 h9 => by
    obtain ⟨h8, h2⟩ := h9
    rcases h8 with ⟨v, rfl⟩ | ⟨h6, rfl⟩ | ⟨h6, rfl⟩
    · exact h2
    · exact ⟨rfl, h2⟩
    · exact absurd h6 (by decide))
  refine z_callW C.1 (y' := qL_would) (hh := [(0, 16, 19, 13)]) (W0 := WX G g o (fmL Tm (g2, G.2) M2) (M, f)) (WW := WX G g o (fmL Tm (g2, G.2) M2)) (Q := fun (r : Int32) (u : fmM × (Nat → Int64)) => pvGood Tm 250 qX11_would [.ref 0, .int (xs (t + 1)), .int (xs (t + 2)), .int (xs (t + 3)), .int (xs (t + 4)), .int (xs (t + 5))] M2 (fun r2 M2' => tI r2 ∧ I u.1 M2')) (As := [.ref (g 0), .int (xs (t + 1)), .int (xs (t + 2)), .int (xs (t + 3)), .int (xs (t + 4)), .int (xs (t + 5)), .ref o]) (st := []) (pc := 611) (fm_c5 15 (by eq_refl) rfl) nst_L_would niL nw_L_would nd_L_would rfl rfl (by decide) (show 311 ≤ room_1.frames by decide) (show 8 + (8 + 11) + 18200 ≤ room_1.locals by decide) (rm_c hcu) (rm_s hsu) (fm_dec dtLa_9 7 rfl) (w_would C.2.2.2.2.2 hw) (fun r u hQ => ?_)
  obtain ⟨M1, f1⟩ := u
  refine z_istore C.1 (pc := 614) (i := 5) (by decide) rfl (fm_dec dtLa_9 8 rfl) ?_
  dsimp only [List.set_cons_zero, List.set_cons_succ]
  refine z_aloadn C.1 (pc := 616) (n := 2) 2 rfl rfl (fm_dec dtLa_9 9 rfl) ?_
  refine la_arg C (pc := 617) (v := 1) (t + 1) rfl rfl (hi 1 (by decide)) (by decide) (fm_dec dtLa_9 10 rfl) (fm_dec dtLa_9 11 rfl) (fm_dec dtLa_9 12 rfl) (fm_dec dtLa_9 13 rfl) (fm_dec dtLa_9 14 rfl) ?_
  refine la_arg C (pc := 623) (v := 2) (t + 2) rfl rfl (hi 2 (by decide)) (by decide) (fm_dec dtLa_9 15 rfl) (fm_dec dtLa_9 16 rfl) (fm_dec dtLa_9 17 rfl) (fm_dec dtLa_9 18 rfl) (fm_dec dtLa_9 19 rfl) ?_
  refine la_arg C (pc := 629) (v := 3) (t + 3) rfl rfl (hi 3 (by decide)) (by decide) (fm_dec dtLa_9 20 rfl) (fm_dec dtLa_9 21 rfl) (fm_dec dtLa_9 22 rfl) (fm_dec dtLa_9 23 rfl) (fm_dec dtLa_9 24 rfl) ?_
  refine la_arg C (pc := 635) (v := 4) (t + 4) rfl rfl (hi 4 (by decide)) (by decide) (fm_dec dtLa_9 25 rfl) (fm_dec dtLa_9 26 rfl) (fm_dec dtLa_9 27 rfl) (fm_dec dtLa_9 28 rfl) (fm_dec dtLa_9 29 rfl) ?_
  refine la_arg C (pc := 641) (v := 5) (t + 5) rfl rfl (hi 5 (by decide)) (by decide) (fm_dec dtLa_10 0 rfl) (fm_dec dtLa_10 1 rfl) (fm_dec dtLa_10 2 rfl) (fm_dec dtLa_10 3 rfl) (fm_dec dtLa_10 4 rfl) ?_
  have hcw := hcu1
  have hsw := hsu1
  refine z_perm (ws := (fmL Tx (g, G.2) M1 ++ ((o, .inl (G.2.2.1 1, 1, .inr (.inl f1))) :: fmL Tm (g2, G.2) M2))) (wpermW _ _ _) ?_
  refine la_ref C (pc := 647) (As := [.int (xs (t + 1)), .int (xs (t + 2)), .int (xs (t + 3)), .int (xs (t + 4)), .int (xs (t + 5))]) (st := []) cvL_170 (by decide +kernel) rfl rfl (Nat.le_of_ble_eq_true rfl) (by decide) hcw hsw (fm_dec dtLa_10 5 rfl) rfl hQ (fun r2 M3 h3 => ?_)
  obtain ⟨⟨v2, rfl⟩, hI3⟩ := h3
  refine z_then1 ?_
  refine z_istore C.1 (pc := 650) (i := 6) (by decide) rfl (fm_dec dtLa_10 6 rfl) ?_
  dsimp only [List.set_cons_zero, List.set_cons_succ]
  refine z_goto C.1 (pc := 652) 1940 (by decide) (fm_dec dtLa_10 7 rfl) ?_
  exact z_perm (wpermB _ _ _) (la_fgt (kk M1 f1 M3 hI3))
set_option maxRecDepth 20000 in
theorem la_c12 {p : Program} {l : Launch} {e : Env} {s : State} {m : MethodId} {below : List Frame} {meth : Method} {c : Code} {G : fmG} {b n : Nat} {xs : Nat → Int32} {I : fmM → fmM → Prop} (hS : laS_loss I) (C : laC p l s m meth c G b n xs) {g g2 : Nat → Nat} {M M2 : fmM} {f : Nat → Int64} {o t : Nat} {i : Int32} {cu su : Nat} (hi : laI n i t) (hcu : cu + 1 ≤ 601024) (hsu : su + 6 ≤ 7293034) (hcu1 : cu + 1 + 1 ≤ 601024) (hsu1 : su + 6 + 6 ≤ 7293034) (hI : I M M2) (kk : ∀ (M' : fmM) (f' : Nat → Int64) (M2' : fmM), I M' M2' → zEv p l e room_1 s m #[.ref b] below meth c G (fun q => s.heap.size ≤ q) 8 (lw_Z below #[.ref b] s) 1940 [some (.ref b), some (.ref (g 0)), some (.ref (g2 0)), some (.ref o), some (.int i), none, none, none] [] (fmL Tx (g, G.2) M' ++ ((o, .inl (G.2.2.1 1, 1, .inr (.inl f'))) :: fmL Tm (g2, G.2) M2')) (cu + 1) (su + 6)) : zEv p l e room_1 s m #[.ref b] below meth c G (fun q => s.heap.size ≤ q) 8 (lw_Z below #[.ref b] s) 655 [some (.ref b), some (.ref (g 0)), some (.ref (g2 0)), some (.ref o), some (.int i), none, none, none] [] (fmL Tx (g, G.2) M ++ ((o, .inl (G.2.2.1 1, 1, .inr (.inl f))) :: fmL Tm (g2, G.2) M2)) cu su := by
  have h0 := hS M M2 (xs (t + 1)) hI
  refine z_aloadn C.1 (pc := 655) (n := 1) 1 rfl rfl (fm_dec dtLa_10 8 rfl) ?_
  refine la_arg C (pc := 656) (v := 1) (t + 1) rfl rfl (hi 1 (by decide)) (by decide) (fm_dec dtLa_10 9 rfl) (fm_dec dtLa_10 10 rfl) (fm_dec dtLa_10 11 rfl) (fm_dec dtLa_10 12 rfl) (fm_dec dtLa_10 13 rfl) ?_
  refine z_aloadn C.1 (pc := 662) (n := 3) 3 rfl rfl (fm_dec dtLa_10 14 rfl) ?_
  have hw : pvGood Tx 250 qX10_loss [.ref 0, .int (xs (t + 1))] M (wJ f (fun (r : Int32) (u : fmM × (Nat → Int64)) => pvGood Tm 250 qX11_loss [.ref 0, .int (xs (t + 1))] M2 (fun r2 M2' => tJ r2 ∧ I u.1 M2')) (fun E M' => (E = fmIAE ∧ (fun (r : Int32) (u : fmM × (Nat → Int64)) => pvGood Tm 250 qX11_loss [.ref 0, .int (xs (t + 1))] M2 (fun r2 M2' => tJ r2 ∧ I u.1 M2')) 1 (M', f)))) := h0.imp (fun r9 M9 h9 => by
    obtain ⟨h8, h2⟩ := h9
    rcases h8 with ⟨v, rfl⟩ | ⟨h6, rfl⟩ | ⟨h6, rfl⟩
    · exact h2
    · exact ⟨rfl, h2⟩
    · exact absurd h6 (by decide))
  refine z_callW C.1 (y' := qL_loss) (hh := [(0, 8, 11, 13)]) (W0 := WX G g o (fmL Tm (g2, G.2) M2) (M, f)) (WW := WX G g o (fmL Tm (g2, G.2) M2)) (Q := fun (r : Int32) (u : fmM × (Nat → Int64)) => pvGood Tm 250 qX11_loss [.ref 0, .int (xs (t + 1))] M2 (fun r2 M2' => tJ r2 ∧ I u.1 M2')) (As := [.ref (g 0), .int (xs (t + 1)), .ref o]) (st := []) (pc := 663) (fm_c5 23 (by eq_refl) rfl) nst_L_loss niL nw_L_loss nd_L_loss rfl rfl (by decide) (show 311 ≤ room_1.frames by decide) (show 8 + (4 + 11) + 18200 ≤ room_1.locals by decide) (rm_c hcu) (rm_s hsu) (fm_dec dtLa_10 15 rfl) (w_loss C.2.2.2.2.2 hw) (fun r u hQ => ?_)
  obtain ⟨M1, f1⟩ := u
  refine z_istore C.1 (pc := 666) (i := 5) (by decide) rfl (fm_dec dtLa_10 16 rfl) ?_
  dsimp only [List.set_cons_zero, List.set_cons_succ]
  refine z_aloadn C.1 (pc := 668) (n := 2) 2 rfl rfl (fm_dec dtLa_10 17 rfl) ?_
  refine la_arg C (pc := 669) (v := 1) (t + 1) rfl rfl (hi 1 (by decide)) (by decide) (fm_dec dtLa_10 18 rfl) (fm_dec dtLa_10 19 rfl) (fm_dec dtLa_10 20 rfl) (fm_dec dtLa_10 21 rfl) (fm_dec dtLa_10 22 rfl) ?_
  have hcw := hcu1
  have hsw := hsu1
  refine z_perm (ws := (fmL Tx (g, G.2) M1 ++ ((o, .inl (G.2.2.1 1, 1, .inr (.inl f1))) :: fmL Tm (g2, G.2) M2))) (wpermW _ _ _) ?_
  refine la_ref C (pc := 675) (As := [.int (xs (t + 1))]) (st := []) cvL_173 (by decide +kernel) rfl rfl (Nat.le_of_ble_eq_true rfl) (by decide) hcw hsw (fm_dec dtLa_10 23 rfl) rfl hQ (fun r2 M3 h3 => ?_)
  obtain ⟨⟨v2, rfl⟩, hI3⟩ := h3
  refine z_then1 ?_
  refine z_lstore C.1 (pc := 678) (i := 6) (by decide) rfl (fm_dec dtLa_10 24 rfl) ?_
  dsimp only [List.set_cons_zero, List.set_cons_succ]
  refine z_goto C.1 (pc := 680) 1940 (by decide) (fm_dec dtLa_10 25 rfl) ?_
  exact z_perm (wpermB _ _ _) (la_fgt (kk M1 f1 M3 hI3))
set_option maxRecDepth 20000 in
theorem la_c13 {p : Program} {l : Launch} {e : Env} {s : State} {m : MethodId} {below : List Frame} {meth : Method} {c : Code} {G : fmG} {b n : Nat} {xs : Nat → Int32} {I : fmM → fmM → Prop} (hS : laS_cost I) (C : laC p l s m meth c G b n xs) {g g2 : Nat → Nat} {M M2 : fmM} {f : Nat → Int64} {o t : Nat} {i : Int32} {cu su : Nat} (hi : laI n i t) (hcu : cu + 1 ≤ 601024) (hsu : su + 6 ≤ 7293034) (hcu1 : cu + 1 + 1 ≤ 601024) (hsu1 : su + 6 + 6 ≤ 7293034) (hI : I M M2) (kk : ∀ (M' : fmM) (f' : Nat → Int64) (M2' : fmM), I M' M2' → zEv p l e room_1 s m #[.ref b] below meth c G (fun q => s.heap.size ≤ q) 8 (lw_Z below #[.ref b] s) 1940 [some (.ref b), some (.ref (g 0)), some (.ref (g2 0)), some (.ref o), some (.int i), none, none, none] [] (fmL Tx (g, G.2) M' ++ ((o, .inl (G.2.2.1 1, 1, .inr (.inl f'))) :: fmL Tm (g2, G.2) M2')) (cu + 1) (su + 6)) : zEv p l e room_1 s m #[.ref b] below meth c G (fun q => s.heap.size ≤ q) 8 (lw_Z below #[.ref b] s) 683 [some (.ref b), some (.ref (g 0)), some (.ref (g2 0)), some (.ref o), some (.int i), none, none, none] [] (fmL Tx (g, G.2) M ++ ((o, .inl (G.2.2.1 1, 1, .inr (.inl f))) :: fmL Tm (g2, G.2) M2)) cu su := by
  have h0 := hS M M2 (xs (t + 1)) (xs (t + 2)) hI
  refine z_aloadn C.1 (pc := 683) (n := 1) 1 rfl rfl (fm_dec dtLa_10 26 rfl) ?_
  refine la_arg C (pc := 684) (v := 1) (t + 1) rfl rfl (hi 1 (by decide)) (by decide) (fm_dec dtLa_10 27 rfl) (fm_dec dtLa_10 28 rfl) (fm_dec dtLa_10 29 rfl) (fm_dec dtLa_11 0 rfl) (fm_dec dtLa_11 1 rfl) ?_
  refine la_arg C (pc := 690) (v := 2) (t + 2) rfl rfl (hi 2 (by decide)) (by decide) (fm_dec dtLa_11 2 rfl) (fm_dec dtLa_11 3 rfl) (fm_dec dtLa_11 4 rfl) (fm_dec dtLa_11 5 rfl) (fm_dec dtLa_11 6 rfl) ?_
  refine z_aloadn C.1 (pc := 696) (n := 3) 3 rfl rfl (fm_dec dtLa_11 7 rfl) ?_
  have hw : pvGood Tx 250 qX10_cost [.ref 0, .int (xs (t + 1)), .int (xs (t + 2))] M (wJ f (fun (r : Int32) (u : fmM × (Nat → Int64)) => pvGood Tm 250 qX11_cost [.ref 0, .int (xs (t + 1)), .int (xs (t + 2))] M2 (fun r2 M2' => tJ r2 ∧ I u.1 M2')) (fun E M' => (E = fmNSE ∧ (fun (r : Int32) (u : fmM × (Nat → Int64)) => pvGood Tm 250 qX11_cost [.ref 0, .int (xs (t + 1)), .int (xs (t + 2))] M2 (fun r2 M2' => tJ r2 ∧ I u.1 M2')) 1 (M', f)) ∨ (E = fmIAE ∧ (fun (r : Int32) (u : fmM × (Nat → Int64)) => pvGood Tm 250 qX11_cost [.ref 0, .int (xs (t + 1)), .int (xs (t + 2))] M2 (fun r2 M2' => tJ r2 ∧ I u.1 M2')) 2 (M', f)))) := h0.imp (fun r9 M9 h9 => by
    obtain ⟨h8, h2⟩ := h9
    rcases h8 with ⟨v, rfl⟩ | ⟨-, rfl⟩ | ⟨-, rfl⟩
    · exact h2
    · exact Or.inr ⟨rfl, h2⟩
    · exact Or.inl ⟨rfl, h2⟩)
  refine z_callW C.1 (y' := qL_cost) (hh := [(0, 9, 12, 31), (0, 9, 16, 13)]) (W0 := WX G g o (fmL Tm (g2, G.2) M2) (M, f)) (WW := WX G g o (fmL Tm (g2, G.2) M2)) (Q := fun (r : Int32) (u : fmM × (Nat → Int64)) => pvGood Tm 250 qX11_cost [.ref 0, .int (xs (t + 1)), .int (xs (t + 2))] M2 (fun r2 M2' => tJ r2 ∧ I u.1 M2')) (As := [.ref (g 0), .int (xs (t + 1)), .int (xs (t + 2)), .ref o]) (st := []) (pc := 697) (fm_c5 38 (by eq_refl) rfl) nst_L_cost niL nw_L_cost nd_L_cost rfl rfl (by decide) (show 311 ≤ room_1.frames by decide) (show 8 + (5 + 11) + 18200 ≤ room_1.locals by decide) (rm_c hcu) (rm_s hsu) (fm_dec dtLa_11 8 rfl) (w_cost C.2.2.2.2.2 hw) (fun r u hQ => ?_)
  obtain ⟨M1, f1⟩ := u
  refine z_istore C.1 (pc := 700) (i := 5) (by decide) rfl (fm_dec dtLa_11 9 rfl) ?_
  dsimp only [List.set_cons_zero, List.set_cons_succ]
  refine z_aloadn C.1 (pc := 702) (n := 2) 2 rfl rfl (fm_dec dtLa_11 10 rfl) ?_
  refine la_arg C (pc := 703) (v := 1) (t + 1) rfl rfl (hi 1 (by decide)) (by decide) (fm_dec dtLa_11 11 rfl) (fm_dec dtLa_11 12 rfl) (fm_dec dtLa_11 13 rfl) (fm_dec dtLa_11 14 rfl) (fm_dec dtLa_11 15 rfl) ?_
  refine la_arg C (pc := 709) (v := 2) (t + 2) rfl rfl (hi 2 (by decide)) (by decide) (fm_dec dtLa_11 16 rfl) (fm_dec dtLa_11 17 rfl) (fm_dec dtLa_11 18 rfl) (fm_dec dtLa_11 19 rfl) (fm_dec dtLa_11 20 rfl) ?_
  have hcw := hcu1
  have hsw := hsu1
  refine z_perm (ws := (fmL Tx (g, G.2) M1 ++ ((o, .inl (G.2.2.1 1, 1, .inr (.inl f1))) :: fmL Tm (g2, G.2) M2))) (wpermW _ _ _) ?_
  refine la_ref C (pc := 715) (As := [.int (xs (t + 1)), .int (xs (t + 2))]) (st := []) cvL_176 (by decide +kernel) rfl rfl (Nat.le_of_ble_eq_true rfl) (by decide) hcw hsw (fm_dec dtLa_11 21 rfl) rfl hQ (fun r2 M3 h3 => ?_)
  obtain ⟨⟨v2, rfl⟩, hI3⟩ := h3
  refine z_then1 ?_
  refine z_lstore C.1 (pc := 718) (i := 6) (by decide) rfl (fm_dec dtLa_11 22 rfl) ?_
  dsimp only [List.set_cons_zero, List.set_cons_succ]
  refine z_goto C.1 (pc := 720) 1940 (by decide) (fm_dec dtLa_11 23 rfl) ?_
  exact z_perm (wpermB _ _ _) (la_fgt (kk M1 f1 M3 hI3))
set_option maxRecDepth 20000 in
theorem la_c14 {p : Program} {l : Launch} {e : Env} {s : State} {m : MethodId} {below : List Frame} {meth : Method} {c : Code} {G : fmG} {b n : Nat} {xs : Nat → Int32} {I : fmM → fmM → Prop} (hS : laS_risk I) (C : laC p l s m meth c G b n xs) {g g2 : Nat → Nat} {M M2 : fmM} {f : Nat → Int64} {o t : Nat} {i : Int32} {cu su : Nat} (hi : laI n i t) (hcu : cu + 1 ≤ 601024) (hsu : su + 6 ≤ 7293034) (hcu1 : cu + 1 + 1 ≤ 601024) (hsu1 : su + 6 + 6 ≤ 7293034) (hI : I M M2) (kk : ∀ (M' : fmM) (f' : Nat → Int64) (M2' : fmM), I M' M2' → zEv p l e room_1 s m #[.ref b] below meth c G (fun q => s.heap.size ≤ q) 8 (lw_Z below #[.ref b] s) 1940 [some (.ref b), some (.ref (g 0)), some (.ref (g2 0)), some (.ref o), some (.int i), none, none, none] [] (fmL Tx (g, G.2) M' ++ ((o, .inl (G.2.2.1 1, 1, .inr (.inl f'))) :: fmL Tm (g2, G.2) M2')) (cu + 1) (su + 6)) : zEv p l e room_1 s m #[.ref b] below meth c G (fun q => s.heap.size ≤ q) 8 (lw_Z below #[.ref b] s) 723 [some (.ref b), some (.ref (g 0)), some (.ref (g2 0)), some (.ref o), some (.int i), none, none, none] [] (fmL Tx (g, G.2) M ++ ((o, .inl (G.2.2.1 1, 1, .inr (.inl f))) :: fmL Tm (g2, G.2) M2)) cu su := by
  have h0 := hS M M2 (xs (t + 1)) hI
  refine z_aloadn C.1 (pc := 723) (n := 1) 1 rfl rfl (fm_dec dtLa_11 24 rfl) ?_
  refine la_arg C (pc := 724) (v := 1) (t + 1) rfl rfl (hi 1 (by decide)) (by decide) (fm_dec dtLa_11 25 rfl) (fm_dec dtLa_11 26 rfl) (fm_dec dtLa_11 27 rfl) (fm_dec dtLa_11 28 rfl) (fm_dec dtLa_11 29 rfl) ?_
  refine z_aloadn C.1 (pc := 730) (n := 3) 3 rfl rfl (fm_dec dtLa_12 0 rfl) ?_
  have hw : pvGood Tx 250 qX10_risk [.ref 0, .int (xs (t + 1))] M (wJ f (fun (r : Int32) (u : fmM × (Nat → Int64)) => pvGood Tm 250 qX11_risk [.ref 0, .int (xs (t + 1))] M2 (fun r2 M2' => tJ r2 ∧ I u.1 M2')) (fun E M' => (E = fmIAE ∧ (fun (r : Int32) (u : fmM × (Nat → Int64)) => pvGood Tm 250 qX11_risk [.ref 0, .int (xs (t + 1))] M2 (fun r2 M2' => tJ r2 ∧ I u.1 M2')) 1 (M', f)))) := h0.imp (fun r9 M9 h9 => by
    obtain ⟨h8, h2⟩ := h9
    rcases h8 with ⟨v, rfl⟩ | ⟨h6, rfl⟩ | ⟨h6, rfl⟩
    · exact h2
    · exact ⟨rfl, h2⟩
    · exact absurd h6 (by decide))
  refine z_callW C.1 (y' := qL_risk) (hh := [(0, 8, 11, 13)]) (W0 := WX G g o (fmL Tm (g2, G.2) M2) (M, f)) (WW := WX G g o (fmL Tm (g2, G.2) M2)) (Q := fun (r : Int32) (u : fmM × (Nat → Int64)) => pvGood Tm 250 qX11_risk [.ref 0, .int (xs (t + 1))] M2 (fun r2 M2' => tJ r2 ∧ I u.1 M2')) (As := [.ref (g 0), .int (xs (t + 1)), .ref o]) (st := []) (pc := 731) (fm_c5 46 (by eq_refl) rfl) nst_L_risk niL nw_L_risk nd_L_risk rfl rfl (by decide) (show 311 ≤ room_1.frames by decide) (show 8 + (4 + 11) + 18200 ≤ room_1.locals by decide) (rm_c hcu) (rm_s hsu) (fm_dec dtLa_12 1 rfl) (w_risk C.2.2.2.2.2 hw) (fun r u hQ => ?_)
  obtain ⟨M1, f1⟩ := u
  refine z_istore C.1 (pc := 734) (i := 5) (by decide) rfl (fm_dec dtLa_12 2 rfl) ?_
  dsimp only [List.set_cons_zero, List.set_cons_succ]
  refine z_aloadn C.1 (pc := 736) (n := 2) 2 rfl rfl (fm_dec dtLa_12 3 rfl) ?_
  refine la_arg C (pc := 737) (v := 1) (t + 1) rfl rfl (hi 1 (by decide)) (by decide) (fm_dec dtLa_12 4 rfl) (fm_dec dtLa_12 5 rfl) (fm_dec dtLa_12 6 rfl) (fm_dec dtLa_12 7 rfl) (fm_dec dtLa_12 8 rfl) ?_
  have hcw := hcu1
  have hsw := hsu1
  refine z_perm (ws := (fmL Tx (g, G.2) M1 ++ ((o, .inl (G.2.2.1 1, 1, .inr (.inl f1))) :: fmL Tm (g2, G.2) M2))) (wpermW _ _ _) ?_
  refine la_ref C (pc := 743) (As := [.int (xs (t + 1))]) (st := []) cvL_179 (by decide +kernel) rfl rfl (Nat.le_of_ble_eq_true rfl) (by decide) hcw hsw (fm_dec dtLa_12 9 rfl) rfl hQ (fun r2 M3 h3 => ?_)
  obtain ⟨⟨v2, rfl⟩, hI3⟩ := h3
  refine z_then1 ?_
  refine z_lstore C.1 (pc := 746) (i := 6) (by decide) rfl (fm_dec dtLa_12 10 rfl) ?_
  dsimp only [List.set_cons_zero, List.set_cons_succ]
  refine z_goto C.1 (pc := 748) 1940 (by decide) (fm_dec dtLa_12 11 rfl) ?_
  exact z_perm (wpermB _ _ _) (la_fgt (kk M1 f1 M3 hI3))
set_option maxRecDepth 20000 in
theorem la_c15 {p : Program} {l : Launch} {e : Env} {s : State} {m : MethodId} {below : List Frame} {meth : Method} {c : Code} {G : fmG} {b n : Nat} {xs : Nat → Int32} {I : fmM → fmM → Prop} (hS : laS_saves I) (C : laC p l s m meth c G b n xs) {g g2 : Nat → Nat} {M M2 : fmM} {f : Nat → Int64} {o t : Nat} {i : Int32} {cu su : Nat} (hi : laI n i t) (hcu : cu + 1 ≤ 601024) (hsu : su + 6 ≤ 7293034) (hcu1 : cu + 1 + 1 ≤ 601024) (hsu1 : su + 6 + 6 ≤ 7293034) (hI : I M M2) (kk : ∀ (M' : fmM) (f' : Nat → Int64) (M2' : fmM), I M' M2' → zEv p l e room_1 s m #[.ref b] below meth c G (fun q => s.heap.size ≤ q) 8 (lw_Z below #[.ref b] s) 1940 [some (.ref b), some (.ref (g 0)), some (.ref (g2 0)), some (.ref o), some (.int i), none, none, none] [] (fmL Tx (g, G.2) M' ++ ((o, .inl (G.2.2.1 1, 1, .inr (.inl f'))) :: fmL Tm (g2, G.2) M2')) (cu + 1) (su + 6)) : zEv p l e room_1 s m #[.ref b] below meth c G (fun q => s.heap.size ≤ q) 8 (lw_Z below #[.ref b] s) 751 [some (.ref b), some (.ref (g 0)), some (.ref (g2 0)), some (.ref o), some (.int i), none, none, none] [] (fmL Tx (g, G.2) M ++ ((o, .inl (G.2.2.1 1, 1, .inr (.inl f))) :: fmL Tm (g2, G.2) M2)) cu su := by
  have h0 := hS M M2 (xs (t + 1)) (xs (t + 2)) hI
  refine z_aloadn C.1 (pc := 751) (n := 1) 1 rfl rfl (fm_dec dtLa_12 12 rfl) ?_
  refine la_arg C (pc := 752) (v := 1) (t + 1) rfl rfl (hi 1 (by decide)) (by decide) (fm_dec dtLa_12 13 rfl) (fm_dec dtLa_12 14 rfl) (fm_dec dtLa_12 15 rfl) (fm_dec dtLa_12 16 rfl) (fm_dec dtLa_12 17 rfl) ?_
  refine la_arg C (pc := 758) (v := 2) (t + 2) rfl rfl (hi 2 (by decide)) (by decide) (fm_dec dtLa_12 18 rfl) (fm_dec dtLa_12 19 rfl) (fm_dec dtLa_12 20 rfl) (fm_dec dtLa_12 21 rfl) (fm_dec dtLa_12 22 rfl) ?_
  refine z_aloadn C.1 (pc := 764) (n := 3) 3 rfl rfl (fm_dec dtLa_12 23 rfl) ?_
  have hw : pvGood Tx 250 qX10_saves [.ref 0, .int (xs (t + 1)), .int (xs (t + 2))] M (wJ f (fun (r : Int32) (u : fmM × (Nat → Int64)) => pvGood Tm 250 qX11_saves [.ref 0, .int (xs (t + 1)), .int (xs (t + 2))] M2 (fun r2 M2' => tJ r2 ∧ I u.1 M2')) (fun E M' => (E = fmNSE ∧ (fun (r : Int32) (u : fmM × (Nat → Int64)) => pvGood Tm 250 qX11_saves [.ref 0, .int (xs (t + 1)), .int (xs (t + 2))] M2 (fun r2 M2' => tJ r2 ∧ I u.1 M2')) 1 (M', f)) ∨ (E = fmIAE ∧ (fun (r : Int32) (u : fmM × (Nat → Int64)) => pvGood Tm 250 qX11_saves [.ref 0, .int (xs (t + 1)), .int (xs (t + 2))] M2 (fun r2 M2' => tJ r2 ∧ I u.1 M2')) 2 (M', f)))) := h0.imp (fun r9 M9 h9 => by
    obtain ⟨h8, h2⟩ := h9
    rcases h8 with ⟨v, rfl⟩ | ⟨-, rfl⟩ | ⟨-, rfl⟩
    · exact h2
    · exact Or.inr ⟨rfl, h2⟩
    · exact Or.inl ⟨rfl, h2⟩)
  refine z_callW C.1 (y' := qL_saves) (hh := [(0, 9, 12, 31), (0, 9, 16, 13)]) (W0 := WX G g o (fmL Tm (g2, G.2) M2) (M, f)) (WW := WX G g o (fmL Tm (g2, G.2) M2)) (Q := fun (r : Int32) (u : fmM × (Nat → Int64)) => pvGood Tm 250 qX11_saves [.ref 0, .int (xs (t + 1)), .int (xs (t + 2))] M2 (fun r2 M2' => tJ r2 ∧ I u.1 M2')) (As := [.ref (g 0), .int (xs (t + 1)), .int (xs (t + 2)), .ref o]) (st := []) (pc := 765) (fm_c5 54 (by eq_refl) rfl) nst_L_saves niL nw_L_saves nd_L_saves rfl rfl (by decide) (show 311 ≤ room_1.frames by decide) (show 8 + (5 + 11) + 18200 ≤ room_1.locals by decide) (rm_c hcu) (rm_s hsu) (fm_dec dtLa_12 24 rfl) (w_saves C.2.2.2.2.2 hw) (fun r u hQ => ?_)
  obtain ⟨M1, f1⟩ := u
  refine z_istore C.1 (pc := 768) (i := 5) (by decide) rfl (fm_dec dtLa_12 25 rfl) ?_
  dsimp only [List.set_cons_zero, List.set_cons_succ]
  refine z_aloadn C.1 (pc := 770) (n := 2) 2 rfl rfl (fm_dec dtLa_12 26 rfl) ?_
  refine la_arg C (pc := 771) (v := 1) (t + 1) rfl rfl (hi 1 (by decide)) (by decide) (fm_dec dtLa_12 27 rfl) (fm_dec dtLa_12 28 rfl) (fm_dec dtLa_12 29 rfl) (fm_dec dtLa_13 0 rfl) (fm_dec dtLa_13 1 rfl) ?_
  refine la_arg C (pc := 777) (v := 2) (t + 2) rfl rfl (hi 2 (by decide)) (by decide) (fm_dec dtLa_13 2 rfl) (fm_dec dtLa_13 3 rfl) (fm_dec dtLa_13 4 rfl) (fm_dec dtLa_13 5 rfl) (fm_dec dtLa_13 6 rfl) ?_
  have hcw := hcu1
  have hsw := hsu1
  refine z_perm (ws := (fmL Tx (g, G.2) M1 ++ ((o, .inl (G.2.2.1 1, 1, .inr (.inl f1))) :: fmL Tm (g2, G.2) M2))) (wpermW _ _ _) ?_
  refine la_ref C (pc := 783) (As := [.int (xs (t + 1)), .int (xs (t + 2))]) (st := []) cvL_182 (by decide +kernel) rfl rfl (Nat.le_of_ble_eq_true rfl) (by decide) hcw hsw (fm_dec dtLa_13 7 rfl) rfl hQ (fun r2 M3 h3 => ?_)
  obtain ⟨⟨v2, rfl⟩, hI3⟩ := h3
  refine z_then1 ?_
  refine z_lstore C.1 (pc := 786) (i := 6) (by decide) rfl (fm_dec dtLa_13 8 rfl) ?_
  dsimp only [List.set_cons_zero, List.set_cons_succ]
  refine z_goto C.1 (pc := 788) 1940 (by decide) (fm_dec dtLa_13 9 rfl) ?_
  exact z_perm (wpermB _ _ _) (la_fgt (kk M1 f1 M3 hI3))
end
-- P 15c
section
set_option maxRecDepth 20000 in
theorem la_c16 {p : Program} {l : Launch} {e : Env} {s : State} {m : MethodId} {below : List Frame} {meth : Method} {c : Code} {G : fmG} {b n : Nat} {xs : Nat → Int32} {I : fmM → fmM → Prop} (hS : laS_first I) (C : laC p l s m meth c G b n xs) {g g2 : Nat → Nat} {M M2 : fmM} {f : Nat → Int64} {o t : Nat} {i : Int32} {cu su : Nat} (hi : laI n i t) (hcu : cu + 1 ≤ 601024) (hsu : su + 6 ≤ 7293034) (hcu1 : cu + 1 + 1 ≤ 601024) (hsu1 : su + 6 + 6 ≤ 7293034) (hI : I M M2) (kk : ∀ (M' : fmM) (f' : Nat → Int64) (M2' : fmM), I M' M2' → zEv p l e room_1 s m #[.ref b] below meth c G (fun q => s.heap.size ≤ q) 8 (lw_Z below #[.ref b] s) 1940 [some (.ref b), some (.ref (g 0)), some (.ref (g2 0)), some (.ref o), some (.int i), none, none, none] [] (fmL Tx (g, G.2) M' ++ ((o, .inl (G.2.2.1 1, 1, .inr (.inl f'))) :: fmL Tm (g2, G.2) M2')) (cu + 1) (su + 6)) : zEv p l e room_1 s m #[.ref b] below meth c G (fun q => s.heap.size ≤ q) 8 (lw_Z below #[.ref b] s) 791 [some (.ref b), some (.ref (g 0)), some (.ref (g2 0)), some (.ref o), some (.int i), none, none, none] [] (fmL Tx (g, G.2) M ++ ((o, .inl (G.2.2.1 1, 1, .inr (.inl f))) :: fmL Tm (g2, G.2) M2)) cu su := by
  have h0 := hS M M2 hI
  refine z_aloadn C.1 (pc := 791) (n := 1) 1 rfl rfl (fm_dec dtLa_13 10 rfl) ?_
  refine z_callX C.1 (T := Tx) (g := g) (M := M) (rest := (o, .inl (G.2.2.1 1, 1, .inr (.inl f))) :: fmL Tm (g2, G.2) M2) (k := 0) (ci := 10) (d' := 250) (pc := 792) (As := []) (st := []) cvL_183 (by decide) rfl rfl rfl (by decide) (rm_fr (by decide)) (rm_lo (by decide) (by decide)) (rm_c hcu) (rm_s hsu) (fm_dec dtLa_13 11 rfl) ?_
  refine fmGood.imp (pvGood.fm C.2.2.2.2.2 (by decide) (by decide +kernel) h0) (fun o9 M1 h9 => ?_)
  obtain ⟨o', rfl, h8, h2⟩ := h9
  rcases h8 with ⟨v, rfl⟩ | ⟨h8, -⟩ | ⟨h8, -⟩
  · refine z_then1 ?_
    refine z_pop C.1 (pc := 795) rfl (fm_dec dtLa_13 12 rfl) ?_
    refine z_aloadn C.1 (pc := 796) (n := 2) 2 rfl rfl (fm_dec dtLa_13 13 rfl) ?_
    have hcw := hcu
    have hsw := hsu
    refine z_perm (ws := (fmL Tx (g, G.2) M1 ++ ((o, .inl (G.2.2.1 1, 1, .inr (.inl f))) :: fmL Tm (g2, G.2) M2))) (wpermW _ _ _) ?_
    refine la_ref C (pc := 797) (As := []) (st := []) cvL_186 (by decide +kernel) rfl rfl (Nat.le_of_ble_eq_true rfl) (by decide) hcw hsw (fm_dec dtLa_13 14 rfl) rfl h2 (fun r2 M3 h3 => ?_)
    obtain ⟨⟨v2, rfl⟩, hI3⟩ := h3
    refine z_then1 ?_
    refine z_pop C.1 (pc := 800) rfl (fm_dec dtLa_13 15 rfl) ?_
    refine z_goto C.1 (pc := 801) 1940 (by decide) (fm_dec dtLa_13 16 rfl) ?_
    refine z_more (Nat.le_succ _) (Nat.le_add_right _ 6) ?_
    exact z_perm (wpermB _ _ _) (la_fgt (kk M1 f M3 hI3))
  · cases h8
  · cases h8
set_option maxRecDepth 20000 in
theorem la_c17 {p : Program} {l : Launch} {e : Env} {s : State} {m : MethodId} {below : List Frame} {meth : Method} {c : Code} {G : fmG} {b n : Nat} {xs : Nat → Int32} {I : fmM → fmM → Prop} (hS : laS_lacking I) (C : laC p l s m meth c G b n xs) {g g2 : Nat → Nat} {M M2 : fmM} {f : Nat → Int64} {o t : Nat} {i : Int32} {cu su : Nat} (hi : laI n i t) (hcu : cu + 1 ≤ 601024) (hsu : su + 6 ≤ 7293034) (hcu1 : cu + 1 + 1 ≤ 601024) (hsu1 : su + 6 + 6 ≤ 7293034) (hI : I M M2) (kk : ∀ (M' : fmM) (f' : Nat → Int64) (M2' : fmM), I M' M2' → zEv p l e room_1 s m #[.ref b] below meth c G (fun q => s.heap.size ≤ q) 8 (lw_Z below #[.ref b] s) 1940 [some (.ref b), some (.ref (g 0)), some (.ref (g2 0)), some (.ref o), some (.int i), none, none, none] [] (fmL Tx (g, G.2) M' ++ ((o, .inl (G.2.2.1 1, 1, .inr (.inl f'))) :: fmL Tm (g2, G.2) M2')) (cu + 1) (su + 6)) : zEv p l e room_1 s m #[.ref b] below meth c G (fun q => s.heap.size ≤ q) 8 (lw_Z below #[.ref b] s) 804 [some (.ref b), some (.ref (g 0)), some (.ref (g2 0)), some (.ref o), some (.int i), none, none, none] [] (fmL Tx (g, G.2) M ++ ((o, .inl (G.2.2.1 1, 1, .inr (.inl f))) :: fmL Tm (g2, G.2) M2)) cu su := by
  have h0 := hS M M2 hI
  refine z_aloadn C.1 (pc := 804) (n := 1) 1 rfl rfl (fm_dec dtLa_13 17 rfl) ?_
  refine z_callX C.1 (T := Tx) (g := g) (M := M) (rest := (o, .inl (G.2.2.1 1, 1, .inr (.inl f))) :: fmL Tm (g2, G.2) M2) (k := 0) (ci := 10) (d' := 250) (pc := 805) (As := []) (st := []) cvL_187 (by decide) rfl rfl rfl (by decide) (rm_fr (by decide)) (rm_lo (by decide) (by decide)) (rm_c hcu) (rm_s hsu) (fm_dec dtLa_13 18 rfl) ?_
  refine fmGood.imp (pvGood.fm C.2.2.2.2.2 (by decide) (by decide +kernel) h0) (fun o9 M1 h9 => ?_)
  obtain ⟨o', rfl, h8, h2⟩ := h9
  rcases h8 with ⟨v, rfl⟩ | ⟨h8, -⟩ | ⟨h8, -⟩
  · refine z_then1 ?_
    refine z_pop C.1 (pc := 808) rfl (fm_dec dtLa_13 19 rfl) ?_
    refine z_aloadn C.1 (pc := 809) (n := 2) 2 rfl rfl (fm_dec dtLa_13 20 rfl) ?_
    have hcw := hcu
    have hsw := hsu
    refine z_perm (ws := (fmL Tx (g, G.2) M1 ++ ((o, .inl (G.2.2.1 1, 1, .inr (.inl f))) :: fmL Tm (g2, G.2) M2))) (wpermW _ _ _) ?_
    refine la_ref C (pc := 810) (As := []) (st := []) cvL_190 (by decide +kernel) rfl rfl (Nat.le_of_ble_eq_true rfl) (by decide) hcw hsw (fm_dec dtLa_13 21 rfl) rfl h2 (fun r2 M3 h3 => ?_)
    obtain ⟨⟨v2, rfl⟩, hI3⟩ := h3
    refine z_then1 ?_
    refine z_pop C.1 (pc := 813) rfl (fm_dec dtLa_13 22 rfl) ?_
    refine z_goto C.1 (pc := 814) 1940 (by decide) (fm_dec dtLa_13 23 rfl) ?_
    refine z_more (Nat.le_succ _) (Nat.le_add_right _ 6) ?_
    exact z_perm (wpermB _ _ _) (la_fgt (kk M1 f M3 hI3))
  · cases h8
  · cases h8
set_option maxRecDepth 20000 in
theorem la_c18 {p : Program} {l : Launch} {e : Env} {s : State} {m : MethodId} {below : List Frame} {meth : Method} {c : Code} {G : fmG} {b n : Nat} {xs : Nat → Int32} {I : fmM → fmM → Prop} (hS : laS_signed I) (C : laC p l s m meth c G b n xs) {g g2 : Nat → Nat} {M M2 : fmM} {f : Nat → Int64} {o t : Nat} {i : Int32} {cu su : Nat} (hi : laI n i t) (hcu : cu + 1 ≤ 601024) (hsu : su + 6 ≤ 7293034) (hcu1 : cu + 1 + 1 ≤ 601024) (hsu1 : su + 6 + 6 ≤ 7293034) (hI : I M M2) (kk : ∀ (M' : fmM) (f' : Nat → Int64) (M2' : fmM), I M' M2' → zEv p l e room_1 s m #[.ref b] below meth c G (fun q => s.heap.size ≤ q) 8 (lw_Z below #[.ref b] s) 1940 [some (.ref b), some (.ref (g 0)), some (.ref (g2 0)), some (.ref o), some (.int i), none, none, none] [] (fmL Tx (g, G.2) M' ++ ((o, .inl (G.2.2.1 1, 1, .inr (.inl f'))) :: fmL Tm (g2, G.2) M2')) (cu + 1) (su + 6)) : zEv p l e room_1 s m #[.ref b] below meth c G (fun q => s.heap.size ≤ q) 8 (lw_Z below #[.ref b] s) 817 [some (.ref b), some (.ref (g 0)), some (.ref (g2 0)), some (.ref o), some (.int i), none, none, none] [] (fmL Tx (g, G.2) M ++ ((o, .inl (G.2.2.1 1, 1, .inr (.inl f))) :: fmL Tm (g2, G.2) M2)) cu su := by
  have h0 := hS M M2 hI
  refine z_aloadn C.1 (pc := 817) (n := 1) 1 rfl rfl (fm_dec dtLa_13 24 rfl) ?_
  refine z_callX C.1 (T := Tx) (g := g) (M := M) (rest := (o, .inl (G.2.2.1 1, 1, .inr (.inl f))) :: fmL Tm (g2, G.2) M2) (k := 0) (ci := 10) (d' := 250) (pc := 818) (As := []) (st := []) cvL_191 (by decide) rfl rfl rfl (by decide) (rm_fr (by decide)) (rm_lo (by decide) (by decide)) (rm_c hcu) (rm_s hsu) (fm_dec dtLa_13 25 rfl) ?_
  refine fmGood.imp (pvGood.fm C.2.2.2.2.2 (by decide) (by decide +kernel) h0) (fun o9 M1 h9 => ?_)
  obtain ⟨o', rfl, h8, h2⟩ := h9
  rcases h8 with ⟨v, rfl⟩ | ⟨h8, -⟩ | ⟨h8, -⟩
  · refine z_then1 ?_
    refine z_pop C.1 (pc := 821) rfl (fm_dec dtLa_13 26 rfl) ?_
    refine z_aloadn C.1 (pc := 822) (n := 2) 2 rfl rfl (fm_dec dtLa_13 27 rfl) ?_
    have hcw := hcu
    have hsw := hsu
    refine z_perm (ws := (fmL Tx (g, G.2) M1 ++ ((o, .inl (G.2.2.1 1, 1, .inr (.inl f))) :: fmL Tm (g2, G.2) M2))) (wpermW _ _ _) ?_
    refine la_ref C (pc := 823) (As := []) (st := []) cvL_194 (by decide +kernel) rfl rfl (Nat.le_of_ble_eq_true rfl) (by decide) hcw hsw (fm_dec dtLa_13 28 rfl) rfl h2 (fun r2 M3 h3 => ?_)
    obtain ⟨⟨v2, rfl⟩, hI3⟩ := h3
    refine z_then1 ?_
    refine z_pop C.1 (pc := 826) rfl (fm_dec dtLa_13 29 rfl) ?_
    refine z_goto C.1 (pc := 827) 1940 (by decide) (fm_dec dtLa_14 0 rfl) ?_
    refine z_more (Nat.le_succ _) (Nat.le_add_right _ 6) ?_
    exact z_perm (wpermB _ _ _) (la_fgt (kk M1 f M3 hI3))
  · cases h8
  · cases h8
set_option maxRecDepth 20000 in
theorem la_c19 {p : Program} {l : Launch} {e : Env} {s : State} {m : MethodId} {below : List Frame} {meth : Method} {c : Code} {G : fmG} {b n : Nat} {xs : Nat → Int32} {I : fmM → fmM → Prop} (hS : laS_stale I) (C : laC p l s m meth c G b n xs) {g g2 : Nat → Nat} {M M2 : fmM} {f : Nat → Int64} {o t : Nat} {i : Int32} {cu su : Nat} (hi : laI n i t) (hcu : cu + 1 ≤ 601024) (hsu : su + 6 ≤ 7293034) (hcu1 : cu + 1 + 1 ≤ 601024) (hsu1 : su + 6 + 6 ≤ 7293034) (hI : I M M2) (kk : ∀ (M' : fmM) (f' : Nat → Int64) (M2' : fmM), I M' M2' → zEv p l e room_1 s m #[.ref b] below meth c G (fun q => s.heap.size ≤ q) 8 (lw_Z below #[.ref b] s) 1940 [some (.ref b), some (.ref (g 0)), some (.ref (g2 0)), some (.ref o), some (.int i), none, none, none] [] (fmL Tx (g, G.2) M' ++ ((o, .inl (G.2.2.1 1, 1, .inr (.inl f'))) :: fmL Tm (g2, G.2) M2')) (cu + 1) (su + 6)) : zEv p l e room_1 s m #[.ref b] below meth c G (fun q => s.heap.size ≤ q) 8 (lw_Z below #[.ref b] s) 830 [some (.ref b), some (.ref (g 0)), some (.ref (g2 0)), some (.ref o), some (.int i), none, none, none] [] (fmL Tx (g, G.2) M ++ ((o, .inl (G.2.2.1 1, 1, .inr (.inl f))) :: fmL Tm (g2, G.2) M2)) cu su := by
  have h0 := hS M M2 (xs (t + 1)) hI
  refine z_aloadn C.1 (pc := 830) (n := 1) 1 rfl rfl (fm_dec dtLa_14 1 rfl) ?_
  refine la_arg C (pc := 831) (v := 1) (t + 1) rfl rfl (hi 1 (by decide)) (by decide) (fm_dec dtLa_14 2 rfl) (fm_dec dtLa_14 3 rfl) (fm_dec dtLa_14 4 rfl) (fm_dec dtLa_14 5 rfl) (fm_dec dtLa_14 6 rfl) ?_
  refine z_aloadn C.1 (pc := 837) (n := 3) 3 rfl rfl (fm_dec dtLa_14 7 rfl) ?_
  have hw : pvGood Tx 250 qX10_stale [.ref 0, .int (xs (t + 1))] M (wI f (fun (r : Int32) (u : fmM × (Nat → Int64)) => pvGood Tm 250 qX11_stale [.ref 0, .int (xs (t + 1))] M2 (fun r2 M2' => tI r2 ∧ I u.1 M2')) (fun E M' => (E = fmIAE ∧ (fun (r : Int32) (u : fmM × (Nat → Int64)) => pvGood Tm 250 qX11_stale [.ref 0, .int (xs (t + 1))] M2 (fun r2 M2' => tI r2 ∧ I u.1 M2')) 1 (M', f)))) := h0.imp (fun r9 M9 h9 => by
    obtain ⟨h8, h2⟩ := h9
    rcases h8 with ⟨v, rfl⟩ | ⟨h6, rfl⟩ | ⟨h6, rfl⟩
    · exact h2
    · exact ⟨rfl, h2⟩
    · exact absurd h6 (by decide))
  refine z_callW C.1 (y' := qL_stale) (hh := [(0, 9, 12, 13)]) (W0 := WX G g o (fmL Tm (g2, G.2) M2) (M, f)) (WW := WX G g o (fmL Tm (g2, G.2) M2)) (Q := fun (r : Int32) (u : fmM × (Nat → Int64)) => pvGood Tm 250 qX11_stale [.ref 0, .int (xs (t + 1))] M2 (fun r2 M2' => tI r2 ∧ I u.1 M2')) (As := [.ref (g 0), .int (xs (t + 1)), .ref o]) (st := []) (pc := 838) (fm_c5 63 (by eq_refl) rfl) nst_L_stale niL nw_L_stale nd_L_stale rfl rfl (by decide) (show 311 ≤ room_1.frames by decide) (show 8 + (4 + 11) + 18200 ≤ room_1.locals by decide) (rm_c hcu) (rm_s hsu) (fm_dec dtLa_14 8 rfl) (w_stale C.2.2.2.2.2 hw) (fun r u hQ => ?_)
  obtain ⟨M1, f1⟩ := u
  refine z_istore C.1 (pc := 841) (i := 5) (by decide) rfl (fm_dec dtLa_14 9 rfl) ?_
  dsimp only [List.set_cons_zero, List.set_cons_succ]
  refine z_aloadn C.1 (pc := 843) (n := 2) 2 rfl rfl (fm_dec dtLa_14 10 rfl) ?_
  refine la_arg C (pc := 844) (v := 1) (t + 1) rfl rfl (hi 1 (by decide)) (by decide) (fm_dec dtLa_14 11 rfl) (fm_dec dtLa_14 12 rfl) (fm_dec dtLa_14 13 rfl) (fm_dec dtLa_14 14 rfl) (fm_dec dtLa_14 15 rfl) ?_
  have hcw := hcu1
  have hsw := hsu1
  refine z_perm (ws := (fmL Tx (g, G.2) M1 ++ ((o, .inl (G.2.2.1 1, 1, .inr (.inl f1))) :: fmL Tm (g2, G.2) M2))) (wpermW _ _ _) ?_
  refine la_ref C (pc := 850) (As := [.int (xs (t + 1))]) (st := []) cvL_197 (by decide +kernel) rfl rfl (Nat.le_of_ble_eq_true rfl) (by decide) hcw hsw (fm_dec dtLa_14 16 rfl) rfl hQ (fun r2 M3 h3 => ?_)
  obtain ⟨⟨v2, rfl⟩, hI3⟩ := h3
  refine z_then1 ?_
  refine z_istore C.1 (pc := 853) (i := 6) (by decide) rfl (fm_dec dtLa_14 17 rfl) ?_
  dsimp only [List.set_cons_zero, List.set_cons_succ]
  refine z_goto C.1 (pc := 855) 1940 (by decide) (fm_dec dtLa_14 18 rfl) ?_
  exact z_perm (wpermB _ _ _) (la_fgt (kk M1 f1 M3 hI3))
set_option maxRecDepth 20000 in
theorem la_c20 {p : Program} {l : Launch} {e : Env} {s : State} {m : MethodId} {below : List Frame} {meth : Method} {c : Code} {G : fmG} {b n : Nat} {xs : Nat → Int32} {I : fmM → fmM → Prop} (hS : laS_best I) (C : laC p l s m meth c G b n xs) {g g2 : Nat → Nat} {M M2 : fmM} {f : Nat → Int64} {o t : Nat} {i : Int32} {cu su : Nat} (hi : laI n i t) (hcu : cu + 1 ≤ 601024) (hsu : su + 6 ≤ 7293034) (hcu1 : cu + 1 + 1 ≤ 601024) (hsu1 : su + 6 + 6 ≤ 7293034) (hI : I M M2) (kk : ∀ (M' : fmM) (f' : Nat → Int64) (M2' : fmM), I M' M2' → zEv p l e room_1 s m #[.ref b] below meth c G (fun q => s.heap.size ≤ q) 8 (lw_Z below #[.ref b] s) 1940 [some (.ref b), some (.ref (g 0)), some (.ref (g2 0)), some (.ref o), some (.int i), none, none, none] [] (fmL Tx (g, G.2) M' ++ ((o, .inl (G.2.2.1 1, 1, .inr (.inl f'))) :: fmL Tm (g2, G.2) M2')) (cu + 1) (su + 6)) : zEv p l e room_1 s m #[.ref b] below meth c G (fun q => s.heap.size ≤ q) 8 (lw_Z below #[.ref b] s) 858 [some (.ref b), some (.ref (g 0)), some (.ref (g2 0)), some (.ref o), some (.int i), none, none, none] [] (fmL Tx (g, G.2) M ++ ((o, .inl (G.2.2.1 1, 1, .inr (.inl f))) :: fmL Tm (g2, G.2) M2)) cu su := by
  have h0 := hS M M2 (xs (t + 1)) (xs (t + 2)) hI
  refine z_aloadn C.1 (pc := 858) (n := 1) 1 rfl rfl (fm_dec dtLa_14 19 rfl) ?_
  refine la_arg C (pc := 859) (v := 1) (t + 1) rfl rfl (hi 1 (by decide)) (by decide) (fm_dec dtLa_14 20 rfl) (fm_dec dtLa_14 21 rfl) (fm_dec dtLa_14 22 rfl) (fm_dec dtLa_14 23 rfl) (fm_dec dtLa_14 24 rfl) ?_
  refine la_arg C (pc := 865) (v := 2) (t + 2) rfl rfl (hi 2 (by decide)) (by decide) (fm_dec dtLa_14 25 rfl) (fm_dec dtLa_14 26 rfl) (fm_dec dtLa_14 27 rfl) (fm_dec dtLa_14 28 rfl) (fm_dec dtLa_14 29 rfl) ?_
  refine z_aloadn C.1 (pc := 871) (n := 3) 3 rfl rfl (fm_dec dtLa_15 0 rfl) ?_
  have hw : pvGood Tx 250 qX10_best [.ref 0, .int (xs (t + 1)), .int (xs (t + 2))] M (wJ f (fun (r : Int32) (u : fmM × (Nat → Int64)) => pvGood Tm 250 qX11_best [.ref 0, .int (xs (t + 1)), .int (xs (t + 2))] M2 (fun r2 M2' => tJ r2 ∧ I u.1 M2')) (fun E M' => (E = fmIAE ∧ (fun (r : Int32) (u : fmM × (Nat → Int64)) => pvGood Tm 250 qX11_best [.ref 0, .int (xs (t + 1)), .int (xs (t + 2))] M2 (fun r2 M2' => tJ r2 ∧ I u.1 M2')) 1 (M', f)))) := h0.imp (fun r9 M9 h9 => by
    obtain ⟨h8, h2⟩ := h9
    rcases h8 with ⟨v, rfl⟩ | ⟨h6, rfl⟩ | ⟨h6, rfl⟩
    · exact h2
    · exact ⟨rfl, h2⟩
    · exact absurd h6 (by decide))
  refine z_callW C.1 (y' := qL_best) (hh := [(0, 9, 12, 13)]) (W0 := WX G g o (fmL Tm (g2, G.2) M2) (M, f)) (WW := WX G g o (fmL Tm (g2, G.2) M2)) (Q := fun (r : Int32) (u : fmM × (Nat → Int64)) => pvGood Tm 250 qX11_best [.ref 0, .int (xs (t + 1)), .int (xs (t + 2))] M2 (fun r2 M2' => tJ r2 ∧ I u.1 M2')) (As := [.ref (g 0), .int (xs (t + 1)), .int (xs (t + 2)), .ref o]) (st := []) (pc := 872) (fm_c5 74 (by eq_refl) rfl) nst_L_best niL nw_L_best nd_L_best rfl rfl (by decide) (show 311 ≤ room_1.frames by decide) (show 8 + (5 + 11) + 18200 ≤ room_1.locals by decide) (rm_c hcu) (rm_s hsu) (fm_dec dtLa_15 1 rfl) (w_best C.2.2.2.2.2 hw) (fun r u hQ => ?_)
  obtain ⟨M1, f1⟩ := u
  refine z_istore C.1 (pc := 875) (i := 5) (by decide) rfl (fm_dec dtLa_15 2 rfl) ?_
  dsimp only [List.set_cons_zero, List.set_cons_succ]
  refine z_aloadn C.1 (pc := 877) (n := 2) 2 rfl rfl (fm_dec dtLa_15 3 rfl) ?_
  refine la_arg C (pc := 878) (v := 1) (t + 1) rfl rfl (hi 1 (by decide)) (by decide) (fm_dec dtLa_15 4 rfl) (fm_dec dtLa_15 5 rfl) (fm_dec dtLa_15 6 rfl) (fm_dec dtLa_15 7 rfl) (fm_dec dtLa_15 8 rfl) ?_
  refine la_arg C (pc := 884) (v := 2) (t + 2) rfl rfl (hi 2 (by decide)) (by decide) (fm_dec dtLa_15 9 rfl) (fm_dec dtLa_15 10 rfl) (fm_dec dtLa_15 11 rfl) (fm_dec dtLa_15 12 rfl) (fm_dec dtLa_15 13 rfl) ?_
  have hcw := hcu1
  have hsw := hsu1
  refine z_perm (ws := (fmL Tx (g, G.2) M1 ++ ((o, .inl (G.2.2.1 1, 1, .inr (.inl f1))) :: fmL Tm (g2, G.2) M2))) (wpermW _ _ _) ?_
  refine la_ref C (pc := 890) (As := [.int (xs (t + 1)), .int (xs (t + 2))]) (st := []) cvL_200 (by decide +kernel) rfl rfl (Nat.le_of_ble_eq_true rfl) (by decide) hcw hsw (fm_dec dtLa_15 14 rfl) rfl hQ (fun r2 M3 h3 => ?_)
  obtain ⟨⟨v2, rfl⟩, hI3⟩ := h3
  refine z_then1 ?_
  refine z_lstore C.1 (pc := 893) (i := 6) (by decide) rfl (fm_dec dtLa_15 15 rfl) ?_
  dsimp only [List.set_cons_zero, List.set_cons_succ]
  refine z_goto C.1 (pc := 895) 1940 (by decide) (fm_dec dtLa_15 16 rfl) ?_
  exact z_perm (wpermB _ _ _) (la_fgt (kk M1 f1 M3 hI3))
set_option maxRecDepth 20000 in
theorem la_c21 {p : Program} {l : Launch} {e : Env} {s : State} {m : MethodId} {below : List Frame} {meth : Method} {c : Code} {G : fmG} {b n : Nat} {xs : Nat → Int32} {I : fmM → fmM → Prop} (hS : laS_bestIn I) (C : laC p l s m meth c G b n xs) {g g2 : Nat → Nat} {M M2 : fmM} {f : Nat → Int64} {o t : Nat} {i : Int32} {cu su : Nat} (hi : laI n i t) (hcu : cu + 1 ≤ 601024) (hsu : su + 6 ≤ 7293034) (hcu1 : cu + 1 + 1 ≤ 601024) (hsu1 : su + 6 + 6 ≤ 7293034) (hI : I M M2) (kk : ∀ (M' : fmM) (f' : Nat → Int64) (M2' : fmM), I M' M2' → zEv p l e room_1 s m #[.ref b] below meth c G (fun q => s.heap.size ≤ q) 8 (lw_Z below #[.ref b] s) 1940 [some (.ref b), some (.ref (g 0)), some (.ref (g2 0)), some (.ref o), some (.int i), none, none, none] [] (fmL Tx (g, G.2) M' ++ ((o, .inl (G.2.2.1 1, 1, .inr (.inl f'))) :: fmL Tm (g2, G.2) M2')) (cu + 1) (su + 6)) : zEv p l e room_1 s m #[.ref b] below meth c G (fun q => s.heap.size ≤ q) 8 (lw_Z below #[.ref b] s) 898 [some (.ref b), some (.ref (g 0)), some (.ref (g2 0)), some (.ref o), some (.int i), none, none, none] [] (fmL Tx (g, G.2) M ++ ((o, .inl (G.2.2.1 1, 1, .inr (.inl f))) :: fmL Tm (g2, G.2) M2)) cu su := by
  have h0 := hS M M2 (xs (t + 1)) (xs (t + 2)) hI
  refine z_aloadn C.1 (pc := 898) (n := 1) 1 rfl rfl (fm_dec dtLa_15 17 rfl) ?_
  refine la_arg C (pc := 899) (v := 1) (t + 1) rfl rfl (hi 1 (by decide)) (by decide) (fm_dec dtLa_15 18 rfl) (fm_dec dtLa_15 19 rfl) (fm_dec dtLa_15 20 rfl) (fm_dec dtLa_15 21 rfl) (fm_dec dtLa_15 22 rfl) ?_
  refine la_arg C (pc := 905) (v := 2) (t + 2) rfl rfl (hi 2 (by decide)) (by decide) (fm_dec dtLa_15 23 rfl) (fm_dec dtLa_15 24 rfl) (fm_dec dtLa_15 25 rfl) (fm_dec dtLa_15 26 rfl) (fm_dec dtLa_15 27 rfl) ?_
  refine z_aloadn C.1 (pc := 911) (n := 3) 3 rfl rfl (fm_dec dtLa_15 28 rfl) ?_
  have hw : pvGood Tx 250 qX10_bestIn [.ref 0, .int (xs (t + 1)), .int (xs (t + 2))] M (wI f (fun (r : Int32) (u : fmM × (Nat → Int64)) => pvGood Tm 250 qX11_bestIn [.ref 0, .int (xs (t + 1)), .int (xs (t + 2))] M2 (fun r2 M2' => tI r2 ∧ I u.1 M2')) (fun E M' => (E = fmIAE ∧ (fun (r : Int32) (u : fmM × (Nat → Int64)) => pvGood Tm 250 qX11_bestIn [.ref 0, .int (xs (t + 1)), .int (xs (t + 2))] M2 (fun r2 M2' => tI r2 ∧ I u.1 M2')) 1 (M', f)))) := h0.imp (fun r9 M9 h9 => by
    obtain ⟨h8, h2⟩ := h9
    rcases h8 with ⟨v, rfl⟩ | ⟨h6, rfl⟩ | ⟨h6, rfl⟩
    · exact h2
    · exact ⟨rfl, h2⟩
    · exact absurd h6 (by decide))
  refine z_callW C.1 (y' := qL_bestIn) (hh := [(0, 10, 13, 13)]) (W0 := WX G g o (fmL Tm (g2, G.2) M2) (M, f)) (WW := WX G g o (fmL Tm (g2, G.2) M2)) (Q := fun (r : Int32) (u : fmM × (Nat → Int64)) => pvGood Tm 250 qX11_bestIn [.ref 0, .int (xs (t + 1)), .int (xs (t + 2))] M2 (fun r2 M2' => tI r2 ∧ I u.1 M2')) (As := [.ref (g 0), .int (xs (t + 1)), .int (xs (t + 2)), .ref o]) (st := []) (pc := 912) (fm_c5 125 (by eq_refl) rfl) nst_L_bestIn niL nw_L_bestIn nd_L_bestIn rfl rfl (by decide) (show 311 ≤ room_1.frames by decide) (show 8 + (5 + 11) + 18200 ≤ room_1.locals by decide) (rm_c hcu) (rm_s hsu) (fm_dec dtLa_15 29 rfl) (w_bestIn C.2.2.2.2.2 hw) (fun r u hQ => ?_)
  obtain ⟨M1, f1⟩ := u
  refine z_istore C.1 (pc := 915) (i := 5) (by decide) rfl (fm_dec dtLa_16 0 rfl) ?_
  dsimp only [List.set_cons_zero, List.set_cons_succ]
  refine z_aloadn C.1 (pc := 917) (n := 2) 2 rfl rfl (fm_dec dtLa_16 1 rfl) ?_
  refine la_arg C (pc := 918) (v := 1) (t + 1) rfl rfl (hi 1 (by decide)) (by decide) (fm_dec dtLa_16 2 rfl) (fm_dec dtLa_16 3 rfl) (fm_dec dtLa_16 4 rfl) (fm_dec dtLa_16 5 rfl) (fm_dec dtLa_16 6 rfl) ?_
  refine la_arg C (pc := 924) (v := 2) (t + 2) rfl rfl (hi 2 (by decide)) (by decide) (fm_dec dtLa_16 7 rfl) (fm_dec dtLa_16 8 rfl) (fm_dec dtLa_16 9 rfl) (fm_dec dtLa_16 10 rfl) (fm_dec dtLa_16 11 rfl) ?_
  have hcw := hcu1
  have hsw := hsu1
  refine z_perm (ws := (fmL Tx (g, G.2) M1 ++ ((o, .inl (G.2.2.1 1, 1, .inr (.inl f1))) :: fmL Tm (g2, G.2) M2))) (wpermW _ _ _) ?_
  refine la_ref C (pc := 930) (As := [.int (xs (t + 1)), .int (xs (t + 2))]) (st := []) cvL_203 (by decide +kernel) rfl rfl (Nat.le_of_ble_eq_true rfl) (by decide) hcw hsw (fm_dec dtLa_16 12 rfl) rfl hQ (fun r2 M3 h3 => ?_)
  obtain ⟨⟨v2, rfl⟩, hI3⟩ := h3
  refine z_then1 ?_
  refine z_istore C.1 (pc := 933) (i := 6) (by decide) rfl (fm_dec dtLa_16 13 rfl) ?_
  dsimp only [List.set_cons_zero, List.set_cons_succ]
  refine z_goto C.1 (pc := 935) 1940 (by decide) (fm_dec dtLa_16 14 rfl) ?_
  exact z_perm (wpermB _ _ _) (la_fgt (kk M1 f1 M3 hI3))
set_option maxRecDepth 20000 in
theorem la_c22 {p : Program} {l : Launch} {e : Env} {s : State} {m : MethodId} {below : List Frame} {meth : Method} {c : Code} {G : fmG} {b n : Nat} {xs : Nat → Int32} {I : fmM → fmM → Prop} (hS : laS_often I) (C : laC p l s m meth c G b n xs) {g g2 : Nat → Nat} {M M2 : fmM} {f : Nat → Int64} {o t : Nat} {i : Int32} {cu su : Nat} (hi : laI n i t) (hcu : cu + 1 ≤ 601024) (hsu : su + 6 ≤ 7293034) (hcu1 : cu + 1 + 1 ≤ 601024) (hsu1 : su + 6 + 6 ≤ 7293034) (hI : I M M2) (kk : ∀ (M' : fmM) (f' : Nat → Int64) (M2' : fmM), I M' M2' → zEv p l e room_1 s m #[.ref b] below meth c G (fun q => s.heap.size ≤ q) 8 (lw_Z below #[.ref b] s) 1940 [some (.ref b), some (.ref (g 0)), some (.ref (g2 0)), some (.ref o), some (.int i), none, none, none] [] (fmL Tx (g, G.2) M' ++ ((o, .inl (G.2.2.1 1, 1, .inr (.inl f'))) :: fmL Tm (g2, G.2) M2')) (cu + 1) (su + 6)) : zEv p l e room_1 s m #[.ref b] below meth c G (fun q => s.heap.size ≤ q) 8 (lw_Z below #[.ref b] s) 938 [some (.ref b), some (.ref (g 0)), some (.ref (g2 0)), some (.ref o), some (.int i), none, none, none] [] (fmL Tx (g, G.2) M ++ ((o, .inl (G.2.2.1 1, 1, .inr (.inl f))) :: fmL Tm (g2, G.2) M2)) cu su := by
  have h0 := hS M M2 (xs (t + 1)) (xs (t + 2)) hI
  refine z_aloadn C.1 (pc := 938) (n := 1) 1 rfl rfl (fm_dec dtLa_16 15 rfl) ?_
  refine la_arg C (pc := 939) (v := 1) (t + 1) rfl rfl (hi 1 (by decide)) (by decide) (fm_dec dtLa_16 16 rfl) (fm_dec dtLa_16 17 rfl) (fm_dec dtLa_16 18 rfl) (fm_dec dtLa_16 19 rfl) (fm_dec dtLa_16 20 rfl) ?_
  refine la_arg C (pc := 945) (v := 2) (t + 2) rfl rfl (hi 2 (by decide)) (by decide) (fm_dec dtLa_16 21 rfl) (fm_dec dtLa_16 22 rfl) (fm_dec dtLa_16 23 rfl) (fm_dec dtLa_16 24 rfl) (fm_dec dtLa_16 25 rfl) ?_
  refine z_aloadn C.1 (pc := 951) (n := 3) 3 rfl rfl (fm_dec dtLa_16 26 rfl) ?_
  have hw : pvGood Tx 250 qX10_often [.ref 0, .int (xs (t + 1)), .int (xs (t + 2))] M (wI f (fun (r : Int32) (u : fmM × (Nat → Int64)) => pvGood Tm 250 qX11_often [.ref 0, .int (xs (t + 1)), .int (xs (t + 2))] M2 (fun r2 M2' => tI r2 ∧ I u.1 M2')) (fun E M' => (E = fmNSE ∧ (fun (r : Int32) (u : fmM × (Nat → Int64)) => pvGood Tm 250 qX11_often [.ref 0, .int (xs (t + 1)), .int (xs (t + 2))] M2 (fun r2 M2' => tI r2 ∧ I u.1 M2')) 1 (M', f)) ∨ (E = fmIAE ∧ (fun (r : Int32) (u : fmM × (Nat → Int64)) => pvGood Tm 250 qX11_often [.ref 0, .int (xs (t + 1)), .int (xs (t + 2))] M2 (fun r2 M2' => tI r2 ∧ I u.1 M2')) 2 (M', f)))) := h0.imp (fun r9 M9 h9 => by
    obtain ⟨h8, h2⟩ := h9
    rcases h8 with ⟨v, rfl⟩ | ⟨-, rfl⟩ | ⟨-, rfl⟩
    · exact h2
    · exact Or.inr ⟨rfl, h2⟩
    · exact Or.inl ⟨rfl, h2⟩)
  refine z_callW C.1 (y' := qL_often) (hh := [(0, 10, 13, 31), (0, 10, 17, 13)]) (W0 := WX G g o (fmL Tm (g2, G.2) M2) (M, f)) (WW := WX G g o (fmL Tm (g2, G.2) M2)) (Q := fun (r : Int32) (u : fmM × (Nat → Int64)) => pvGood Tm 250 qX11_often [.ref 0, .int (xs (t + 1)), .int (xs (t + 2))] M2 (fun r2 M2' => tI r2 ∧ I u.1 M2')) (As := [.ref (g 0), .int (xs (t + 1)), .int (xs (t + 2)), .ref o]) (st := []) (pc := 952) (fm_c5 136 (by eq_refl) rfl) nst_L_often niL nw_L_often nd_L_often rfl rfl (by decide) (show 311 ≤ room_1.frames by decide) (show 8 + (5 + 11) + 18200 ≤ room_1.locals by decide) (rm_c hcu) (rm_s hsu) (fm_dec dtLa_16 27 rfl) (w_often C.2.2.2.2.2 hw) (fun r u hQ => ?_)
  obtain ⟨M1, f1⟩ := u
  refine z_istore C.1 (pc := 955) (i := 5) (by decide) rfl (fm_dec dtLa_16 28 rfl) ?_
  dsimp only [List.set_cons_zero, List.set_cons_succ]
  refine z_aloadn C.1 (pc := 957) (n := 2) 2 rfl rfl (fm_dec dtLa_16 29 rfl) ?_
  refine la_arg C (pc := 958) (v := 1) (t + 1) rfl rfl (hi 1 (by decide)) (by decide) (fm_dec dtLa_17 0 rfl) (fm_dec dtLa_17 1 rfl) (fm_dec dtLa_17 2 rfl) (fm_dec dtLa_17 3 rfl) (fm_dec dtLa_17 4 rfl) ?_
  refine la_arg C (pc := 964) (v := 2) (t + 2) rfl rfl (hi 2 (by decide)) (by decide) (fm_dec dtLa_17 5 rfl) (fm_dec dtLa_17 6 rfl) (fm_dec dtLa_17 7 rfl) (fm_dec dtLa_17 8 rfl) (fm_dec dtLa_17 9 rfl) ?_
  have hcw := hcu1
  have hsw := hsu1
  refine z_perm (ws := (fmL Tx (g, G.2) M1 ++ ((o, .inl (G.2.2.1 1, 1, .inr (.inl f1))) :: fmL Tm (g2, G.2) M2))) (wpermW _ _ _) ?_
  refine la_ref C (pc := 970) (As := [.int (xs (t + 1)), .int (xs (t + 2))]) (st := []) cvL_206 (by decide +kernel) rfl rfl (Nat.le_of_ble_eq_true rfl) (by decide) hcw hsw (fm_dec dtLa_17 10 rfl) rfl hQ (fun r2 M3 h3 => ?_)
  obtain ⟨⟨v2, rfl⟩, hI3⟩ := h3
  refine z_then1 ?_
  refine z_istore C.1 (pc := 973) (i := 6) (by decide) rfl (fm_dec dtLa_17 11 rfl) ?_
  dsimp only [List.set_cons_zero, List.set_cons_succ]
  refine z_goto C.1 (pc := 975) 1940 (by decide) (fm_dec dtLa_17 12 rfl) ?_
  exact z_perm (wpermB _ _ _) (la_fgt (kk M1 f1 M3 hI3))
set_option maxRecDepth 20000 in
theorem la_c23 {p : Program} {l : Launch} {e : Env} {s : State} {m : MethodId} {below : List Frame} {meth : Method} {c : Code} {G : fmG} {b n : Nat} {xs : Nat → Int32} {I : fmM → fmM → Prop} (hS : laS_yearly I) (C : laC p l s m meth c G b n xs) {g g2 : Nat → Nat} {M M2 : fmM} {f : Nat → Int64} {o t : Nat} {i : Int32} {cu su : Nat} (hi : laI n i t) (hcu : cu + 1 ≤ 601024) (hsu : su + 6 ≤ 7293034) (hcu1 : cu + 1 + 1 ≤ 601024) (hsu1 : su + 6 + 6 ≤ 7293034) (hI : I M M2) (kk : ∀ (M' : fmM) (f' : Nat → Int64) (M2' : fmM), I M' M2' → zEv p l e room_1 s m #[.ref b] below meth c G (fun q => s.heap.size ≤ q) 8 (lw_Z below #[.ref b] s) 1940 [some (.ref b), some (.ref (g 0)), some (.ref (g2 0)), some (.ref o), some (.int i), none, none, none] [] (fmL Tx (g, G.2) M' ++ ((o, .inl (G.2.2.1 1, 1, .inr (.inl f'))) :: fmL Tm (g2, G.2) M2')) (cu + 1) (su + 6)) : zEv p l e room_1 s m #[.ref b] below meth c G (fun q => s.heap.size ≤ q) 8 (lw_Z below #[.ref b] s) 978 [some (.ref b), some (.ref (g 0)), some (.ref (g2 0)), some (.ref o), some (.int i), none, none, none] [] (fmL Tx (g, G.2) M ++ ((o, .inl (G.2.2.1 1, 1, .inr (.inl f))) :: fmL Tm (g2, G.2) M2)) cu su := by
  have h0 := hS M M2 (xs (t + 1)) (xs (t + 2)) (xs (t + 3)) (xs (t + 4)) hI
  refine z_aloadn C.1 (pc := 978) (n := 1) 1 rfl rfl (fm_dec dtLa_17 13 rfl) ?_
  refine la_arg C (pc := 979) (v := 1) (t + 1) rfl rfl (hi 1 (by decide)) (by decide) (fm_dec dtLa_17 14 rfl) (fm_dec dtLa_17 15 rfl) (fm_dec dtLa_17 16 rfl) (fm_dec dtLa_17 17 rfl) (fm_dec dtLa_17 18 rfl) ?_
  refine la_arg C (pc := 985) (v := 2) (t + 2) rfl rfl (hi 2 (by decide)) (by decide) (fm_dec dtLa_17 19 rfl) (fm_dec dtLa_17 20 rfl) (fm_dec dtLa_17 21 rfl) (fm_dec dtLa_17 22 rfl) (fm_dec dtLa_17 23 rfl) ?_
  refine la_arg C (pc := 991) (v := 3) (t + 3) rfl rfl (hi 3 (by decide)) (by decide) (fm_dec dtLa_17 24 rfl) (fm_dec dtLa_17 25 rfl) (fm_dec dtLa_17 26 rfl) (fm_dec dtLa_17 27 rfl) (fm_dec dtLa_17 28 rfl) ?_
  refine la_arg C (pc := 997) (v := 4) (t + 4) rfl rfl (hi 4 (by decide)) (by decide) (fm_dec dtLa_17 29 rfl) (fm_dec dtLa_18 0 rfl) (fm_dec dtLa_18 1 rfl) (fm_dec dtLa_18 2 rfl) (fm_dec dtLa_18 3 rfl) ?_
  refine z_aloadn C.1 (pc := 1003) (n := 3) 3 rfl rfl (fm_dec dtLa_18 4 rfl) ?_
  have hw : pvGood Tx 250 qX10_yearly [.ref 0, .int (xs (t + 1)), .int (xs (t + 2)), .int (xs (t + 3)), .int (xs (t + 4))] M (wJ f (fun (r : Int32) (u : fmM × (Nat → Int64)) => pvGood Tm 250 qX11_yearly [.ref 0, .int (xs (t + 1)), .int (xs (t + 2)), .int (xs (t + 3)), .int (xs (t + 4))] M2 (fun r2 M2' => tJ r2 ∧ I u.1 M2')) (fun E M' => (E = fmNSE ∧ (fun (r : Int32) (u : fmM × (Nat → Int64)) => pvGood Tm 250 qX11_yearly [.ref 0, .int (xs (t + 1)), .int (xs (t + 2)), .int (xs (t + 3)), .int (xs (t + 4))] M2 (fun r2 M2' => tJ r2 ∧ I u.1 M2')) 1 (M', f)) ∨ (E = fmIAE ∧ (fun (r : Int32) (u : fmM × (Nat → Int64)) => pvGood Tm 250 qX11_yearly [.ref 0, .int (xs (t + 1)), .int (xs (t + 2)), .int (xs (t + 3)), .int (xs (t + 4))] M2 (fun r2 M2' => tJ r2 ∧ I u.1 M2')) 2 (M', f)))) := h0.imp (fun r9 M9 h9 => by
    obtain ⟨h8, h2⟩ := h9
    rcases h8 with ⟨v, rfl⟩ | ⟨-, rfl⟩ | ⟨-, rfl⟩
    · exact h2
    · exact Or.inr ⟨rfl, h2⟩
    · exact Or.inl ⟨rfl, h2⟩)
  refine z_callW C.1 (y' := qL_yearly) (hh := [(0, 13, 16, 31), (0, 13, 20, 13)]) (W0 := WX G g o (fmL Tm (g2, G.2) M2) (M, f)) (WW := WX G g o (fmL Tm (g2, G.2) M2)) (Q := fun (r : Int32) (u : fmM × (Nat → Int64)) => pvGood Tm 250 qX11_yearly [.ref 0, .int (xs (t + 1)), .int (xs (t + 2)), .int (xs (t + 3)), .int (xs (t + 4))] M2 (fun r2 M2' => tJ r2 ∧ I u.1 M2')) (As := [.ref (g 0), .int (xs (t + 1)), .int (xs (t + 2)), .int (xs (t + 3)), .int (xs (t + 4)), .ref o]) (st := []) (pc := 1004) (fm_c5 151 (by eq_refl) rfl) nst_L_yearly niL nw_L_yearly nd_L_yearly rfl rfl (by decide) (show 311 ≤ room_1.frames by decide) (show 8 + (7 + 11) + 18200 ≤ room_1.locals by decide) (rm_c hcu) (rm_s hsu) (fm_dec dtLa_18 5 rfl) (w_yearly C.2.2.2.2.2 hw) (fun r u hQ => ?_)
  obtain ⟨M1, f1⟩ := u
  refine z_istore C.1 (pc := 1007) (i := 5) (by decide) rfl (fm_dec dtLa_18 6 rfl) ?_
  dsimp only [List.set_cons_zero, List.set_cons_succ]
  refine z_aloadn C.1 (pc := 1009) (n := 2) 2 rfl rfl (fm_dec dtLa_18 7 rfl) ?_
  refine la_arg C (pc := 1010) (v := 1) (t + 1) rfl rfl (hi 1 (by decide)) (by decide) (fm_dec dtLa_18 8 rfl) (fm_dec dtLa_18 9 rfl) (fm_dec dtLa_18 10 rfl) (fm_dec dtLa_18 11 rfl) (fm_dec dtLa_18 12 rfl) ?_
  refine la_arg C (pc := 1016) (v := 2) (t + 2) rfl rfl (hi 2 (by decide)) (by decide) (fm_dec dtLa_18 13 rfl) (fm_dec dtLa_18 14 rfl) (fm_dec dtLa_18 15 rfl) (fm_dec dtLa_18 16 rfl) (fm_dec dtLa_18 17 rfl) ?_
  refine la_arg C (pc := 1022) (v := 3) (t + 3) rfl rfl (hi 3 (by decide)) (by decide) (fm_dec dtLa_18 18 rfl) (fm_dec dtLa_18 19 rfl) (fm_dec dtLa_18 20 rfl) (fm_dec dtLa_18 21 rfl) (fm_dec dtLa_18 22 rfl) ?_
  refine la_arg C (pc := 1028) (v := 4) (t + 4) rfl rfl (hi 4 (by decide)) (by decide) (fm_dec dtLa_18 23 rfl) (fm_dec dtLa_18 24 rfl) (fm_dec dtLa_18 25 rfl) (fm_dec dtLa_18 26 rfl) (fm_dec dtLa_18 27 rfl) ?_
  have hcw := hcu1
  have hsw := hsu1
  refine z_perm (ws := (fmL Tx (g, G.2) M1 ++ ((o, .inl (G.2.2.1 1, 1, .inr (.inl f1))) :: fmL Tm (g2, G.2) M2))) (wpermW _ _ _) ?_
  refine la_ref C (pc := 1034) (As := [.int (xs (t + 1)), .int (xs (t + 2)), .int (xs (t + 3)), .int (xs (t + 4))]) (st := []) cvL_210 (by decide +kernel) rfl rfl (Nat.le_of_ble_eq_true rfl) (by decide) hcw hsw (fm_dec dtLa_18 28 rfl) rfl hQ (fun r2 M3 h3 => ?_)
  obtain ⟨⟨v2, rfl⟩, hI3⟩ := h3
  refine z_then1 ?_
  refine z_lstore C.1 (pc := 1037) (i := 6) (by decide) rfl (fm_dec dtLa_18 29 rfl) ?_
  dsimp only [List.set_cons_zero, List.set_cons_succ]
  refine z_goto C.1 (pc := 1039) 1940 (by decide) (fm_dec dtLa_19 0 rfl) ?_
  exact z_perm (wpermB _ _ _) (la_fgt (kk M1 f1 M3 hI3))
set_option maxRecDepth 20000 in
theorem la_c24 {p : Program} {l : Launch} {e : Env} {s : State} {m : MethodId} {below : List Frame} {meth : Method} {c : Code} {G : fmG} {b n : Nat} {xs : Nat → Int32} {I : fmM → fmM → Prop} (hS : laS_brings I) (C : laC p l s m meth c G b n xs) {g g2 : Nat → Nat} {M M2 : fmM} {f : Nat → Int64} {o t : Nat} {i : Int32} {cu su : Nat} (hi : laI n i t) (hcu : cu + 1 ≤ 601024) (hsu : su + 6 ≤ 7293034) (hcu1 : cu + 1 + 1 ≤ 601024) (hsu1 : su + 6 + 6 ≤ 7293034) (hI : I M M2) (kk : ∀ (M' : fmM) (f' : Nat → Int64) (M2' : fmM), I M' M2' → zEv p l e room_1 s m #[.ref b] below meth c G (fun q => s.heap.size ≤ q) 8 (lw_Z below #[.ref b] s) 1940 [some (.ref b), some (.ref (g 0)), some (.ref (g2 0)), some (.ref o), some (.int i), none, none, none] [] (fmL Tx (g, G.2) M' ++ ((o, .inl (G.2.2.1 1, 1, .inr (.inl f'))) :: fmL Tm (g2, G.2) M2')) (cu + 1) (su + 6)) : zEv p l e room_1 s m #[.ref b] below meth c G (fun q => s.heap.size ≤ q) 8 (lw_Z below #[.ref b] s) 1042 [some (.ref b), some (.ref (g 0)), some (.ref (g2 0)), some (.ref o), some (.int i), none, none, none] [] (fmL Tx (g, G.2) M ++ ((o, .inl (G.2.2.1 1, 1, .inr (.inl f))) :: fmL Tm (g2, G.2) M2)) cu su := by
  have h0 := hS M M2 (xs (t + 1)) (xs (t + 2)) (xs (t + 3)) (xs (t + 4)) (xs (t + 5)) (xs (t + 6)) hI
  refine z_aloadn C.1 (pc := 1042) (n := 1) 1 rfl rfl (fm_dec dtLa_19 1 rfl) ?_
  refine la_arg C (pc := 1043) (v := 1) (t + 1) rfl rfl (hi 1 (by decide)) (by decide) (fm_dec dtLa_19 2 rfl) (fm_dec dtLa_19 3 rfl) (fm_dec dtLa_19 4 rfl) (fm_dec dtLa_19 5 rfl) (fm_dec dtLa_19 6 rfl) ?_
  refine la_arg C (pc := 1049) (v := 2) (t + 2) rfl rfl (hi 2 (by decide)) (by decide) (fm_dec dtLa_19 7 rfl) (fm_dec dtLa_19 8 rfl) (fm_dec dtLa_19 9 rfl) (fm_dec dtLa_19 10 rfl) (fm_dec dtLa_19 11 rfl) ?_
  refine la_arg C (pc := 1055) (v := 3) (t + 3) rfl rfl (hi 3 (by decide)) (by decide) (fm_dec dtLa_19 12 rfl) (fm_dec dtLa_19 13 rfl) (fm_dec dtLa_19 14 rfl) (fm_dec dtLa_19 15 rfl) (fm_dec dtLa_19 16 rfl) ?_
  refine la_arg C (pc := 1061) (v := 4) (t + 4) rfl rfl (hi 4 (by decide)) (by decide) (fm_dec dtLa_19 17 rfl) (fm_dec dtLa_19 18 rfl) (fm_dec dtLa_19 19 rfl) (fm_dec dtLa_19 20 rfl) (fm_dec dtLa_19 21 rfl) ?_
  refine la_arg C (pc := 1067) (v := 5) (t + 5) rfl rfl (hi 5 (by decide)) (by decide) (fm_dec dtLa_19 22 rfl) (fm_dec dtLa_19 23 rfl) (fm_dec dtLa_19 24 rfl) (fm_dec dtLa_19 25 rfl) (fm_dec dtLa_19 26 rfl) ?_
  refine la_arg6 C (pc := 1073) (v := 6) (t + 6) rfl rfl (hi 6 (by decide)) (by decide) (fm_dec dtLa_19 27 rfl) (fm_dec dtLa_19 28 rfl) (fm_dec dtLa_19 29 rfl) (fm_dec dtLa_20 0 rfl) (fm_dec dtLa_20 1 rfl) ?_
  refine z_aloadn C.1 (pc := 1080) (n := 3) 3 rfl rfl (fm_dec dtLa_20 2 rfl) ?_
  have hw : pvGood Tx 250 qX10_brings [.ref 0, .int (xs (t + 1)), .int (xs (t + 2)), .int (xs (t + 3)), .int (xs (t + 4)), .int (xs (t + 5)), .int (xs (t + 6))] M (wI f (fun (r : Int32) (u : fmM × (Nat → Int64)) => pvGood Tm 250 qX11_brings [.ref 0, .int (xs (t + 1)), .int (xs (t + 2)), .int (xs (t + 3)), .int (xs (t + 4)), .int (xs (t + 5)), .int (xs (t + 6))] M2 (fun r2 M2' => tI r2 ∧ I u.1 M2')) (fun E M' => (E = fmIAE ∧ (fun (r : Int32) (u : fmM × (Nat → Int64)) => pvGood Tm 250 qX11_brings [.ref 0, .int (xs (t + 1)), .int (xs (t + 2)), .int (xs (t + 3)), .int (xs (t + 4)), .int (xs (t + 5)), .int (xs (t + 6))] M2 (fun r2 M2' => tI r2 ∧ I u.1 M2')) 1 (M', f)))) := h0.imp (fun r9 M9 h9 => by
    obtain ⟨h8, h2⟩ := h9
    rcases h8 with ⟨v, rfl⟩ | ⟨h6, rfl⟩ | ⟨h6, rfl⟩
    · exact h2
    · exact ⟨rfl, h2⟩
    · exact absurd h6 (by decide))
  refine z_callW C.1 (y' := qL_brings) (hh := [(0, 18, 21, 13)]) (W0 := WX G g o (fmL Tm (g2, G.2) M2) (M, f)) (WW := WX G g o (fmL Tm (g2, G.2) M2)) (Q := fun (r : Int32) (u : fmM × (Nat → Int64)) => pvGood Tm 250 qX11_brings [.ref 0, .int (xs (t + 1)), .int (xs (t + 2)), .int (xs (t + 3)), .int (xs (t + 4)), .int (xs (t + 5)), .int (xs (t + 6))] M2 (fun r2 M2' => tI r2 ∧ I u.1 M2')) (As := [.ref (g 0), .int (xs (t + 1)), .int (xs (t + 2)), .int (xs (t + 3)), .int (xs (t + 4)), .int (xs (t + 5)), .int (xs (t + 6)), .ref o]) (st := []) (pc := 1081) (fm_c5 158 (by eq_refl) rfl) nst_L_brings niL nw_L_brings nd_L_brings rfl rfl (by decide) (show 311 ≤ room_1.frames by decide) (show 8 + (9 + 11) + 18200 ≤ room_1.locals by decide) (rm_c hcu) (rm_s hsu) (fm_dec dtLa_20 3 rfl) (w_brings C.2.2.2.2.2 hw) (fun r u hQ => ?_)
  obtain ⟨M1, f1⟩ := u
  refine z_istore C.1 (pc := 1084) (i := 5) (by decide) rfl (fm_dec dtLa_20 4 rfl) ?_
  dsimp only [List.set_cons_zero, List.set_cons_succ]
  refine z_aloadn C.1 (pc := 1086) (n := 2) 2 rfl rfl (fm_dec dtLa_20 5 rfl) ?_
  refine la_arg C (pc := 1087) (v := 1) (t + 1) rfl rfl (hi 1 (by decide)) (by decide) (fm_dec dtLa_20 6 rfl) (fm_dec dtLa_20 7 rfl) (fm_dec dtLa_20 8 rfl) (fm_dec dtLa_20 9 rfl) (fm_dec dtLa_20 10 rfl) ?_
  refine la_arg C (pc := 1093) (v := 2) (t + 2) rfl rfl (hi 2 (by decide)) (by decide) (fm_dec dtLa_20 11 rfl) (fm_dec dtLa_20 12 rfl) (fm_dec dtLa_20 13 rfl) (fm_dec dtLa_20 14 rfl) (fm_dec dtLa_20 15 rfl) ?_
  refine la_arg C (pc := 1099) (v := 3) (t + 3) rfl rfl (hi 3 (by decide)) (by decide) (fm_dec dtLa_20 16 rfl) (fm_dec dtLa_20 17 rfl) (fm_dec dtLa_20 18 rfl) (fm_dec dtLa_20 19 rfl) (fm_dec dtLa_20 20 rfl) ?_
  refine la_arg C (pc := 1105) (v := 4) (t + 4) rfl rfl (hi 4 (by decide)) (by decide) (fm_dec dtLa_20 21 rfl) (fm_dec dtLa_20 22 rfl) (fm_dec dtLa_20 23 rfl) (fm_dec dtLa_20 24 rfl) (fm_dec dtLa_20 25 rfl) ?_
  refine la_arg C (pc := 1111) (v := 5) (t + 5) rfl rfl (hi 5 (by decide)) (by decide) (fm_dec dtLa_20 26 rfl) (fm_dec dtLa_20 27 rfl) (fm_dec dtLa_20 28 rfl) (fm_dec dtLa_20 29 rfl) (fm_dec dtLa_21 0 rfl) ?_
  refine la_arg6 C (pc := 1117) (v := 6) (t + 6) rfl rfl (hi 6 (by decide)) (by decide) (fm_dec dtLa_21 1 rfl) (fm_dec dtLa_21 2 rfl) (fm_dec dtLa_21 3 rfl) (fm_dec dtLa_21 4 rfl) (fm_dec dtLa_21 5 rfl) ?_
  have hcw := hcu1
  have hsw := hsu1
  refine z_perm (ws := (fmL Tx (g, G.2) M1 ++ ((o, .inl (G.2.2.1 1, 1, .inr (.inl f1))) :: fmL Tm (g2, G.2) M2))) (wpermW _ _ _) ?_
  refine la_ref C (pc := 1124) (As := [.int (xs (t + 1)), .int (xs (t + 2)), .int (xs (t + 3)), .int (xs (t + 4)), .int (xs (t + 5)), .int (xs (t + 6))]) (st := []) cvL_214 (by decide +kernel) rfl rfl (Nat.le_of_ble_eq_true rfl) (by decide) hcw hsw (fm_dec dtLa_21 6 rfl) rfl hQ (fun r2 M3 h3 => ?_)
  obtain ⟨⟨v2, rfl⟩, hI3⟩ := h3
  refine z_then1 ?_
  refine z_istore C.1 (pc := 1127) (i := 6) (by decide) rfl (fm_dec dtLa_21 7 rfl) ?_
  dsimp only [List.set_cons_zero, List.set_cons_succ]
  refine z_goto C.1 (pc := 1129) 1940 (by decide) (fm_dec dtLa_21 8 rfl) ?_
  exact z_perm (wpermB _ _ _) (la_fgt (kk M1 f1 M3 hI3))
set_option maxRecDepth 20000 in
theorem la_c25 {p : Program} {l : Launch} {e : Env} {s : State} {m : MethodId} {below : List Frame} {meth : Method} {c : Code} {G : fmG} {b n : Nat} {xs : Nat → Int32} {I : fmM → fmM → Prop} (hS : laS_says I) (C : laC p l s m meth c G b n xs) {g g2 : Nat → Nat} {M M2 : fmM} {f : Nat → Int64} {o t : Nat} {i : Int32} {cu su : Nat} (hi : laI n i t) (hcu : cu + 1 ≤ 601024) (hsu : su + 6 ≤ 7293034) (hcu1 : cu + 1 + 1 ≤ 601024) (hsu1 : su + 6 + 6 ≤ 7293034) (hI : I M M2) (kk : ∀ (M' : fmM) (f' : Nat → Int64) (M2' : fmM), I M' M2' → zEv p l e room_1 s m #[.ref b] below meth c G (fun q => s.heap.size ≤ q) 8 (lw_Z below #[.ref b] s) 1940 [some (.ref b), some (.ref (g 0)), some (.ref (g2 0)), some (.ref o), some (.int i), none, none, none] [] (fmL Tx (g, G.2) M' ++ ((o, .inl (G.2.2.1 1, 1, .inr (.inl f'))) :: fmL Tm (g2, G.2) M2')) (cu + 1) (su + 6)) : zEv p l e room_1 s m #[.ref b] below meth c G (fun q => s.heap.size ≤ q) 8 (lw_Z below #[.ref b] s) 1132 [some (.ref b), some (.ref (g 0)), some (.ref (g2 0)), some (.ref o), some (.int i), none, none, none] [] (fmL Tx (g, G.2) M ++ ((o, .inl (G.2.2.1 1, 1, .inr (.inl f))) :: fmL Tm (g2, G.2) M2)) cu su := by
  have h0 := hS M M2 (xs (t + 1)) (xs (t + 2)) (xs (t + 3)) (xs (t + 4)) (xs (t + 5)) hI
  refine z_aloadn C.1 (pc := 1132) (n := 1) 1 rfl rfl (fm_dec dtLa_21 9 rfl) ?_
  refine la_arg C (pc := 1133) (v := 1) (t + 1) rfl rfl (hi 1 (by decide)) (by decide) (fm_dec dtLa_21 10 rfl) (fm_dec dtLa_21 11 rfl) (fm_dec dtLa_21 12 rfl) (fm_dec dtLa_21 13 rfl) (fm_dec dtLa_21 14 rfl) ?_
  refine la_arg C (pc := 1139) (v := 2) (t + 2) rfl rfl (hi 2 (by decide)) (by decide) (fm_dec dtLa_21 15 rfl) (fm_dec dtLa_21 16 rfl) (fm_dec dtLa_21 17 rfl) (fm_dec dtLa_21 18 rfl) (fm_dec dtLa_21 19 rfl) ?_
  refine la_arg C (pc := 1145) (v := 3) (t + 3) rfl rfl (hi 3 (by decide)) (by decide) (fm_dec dtLa_21 20 rfl) (fm_dec dtLa_21 21 rfl) (fm_dec dtLa_21 22 rfl) (fm_dec dtLa_21 23 rfl) (fm_dec dtLa_21 24 rfl) ?_
  refine la_arg C (pc := 1151) (v := 4) (t + 4) rfl rfl (hi 4 (by decide)) (by decide) (fm_dec dtLa_21 25 rfl) (fm_dec dtLa_21 26 rfl) (fm_dec dtLa_21 27 rfl) (fm_dec dtLa_21 28 rfl) (fm_dec dtLa_21 29 rfl) ?_
  refine la_arg C (pc := 1157) (v := 5) (t + 5) rfl rfl (hi 5 (by decide)) (by decide) (fm_dec dtLa_22 0 rfl) (fm_dec dtLa_22 1 rfl) (fm_dec dtLa_22 2 rfl) (fm_dec dtLa_22 3 rfl) (fm_dec dtLa_22 4 rfl) ?_
  refine z_aloadn C.1 (pc := 1163) (n := 3) 3 rfl rfl (fm_dec dtLa_22 5 rfl) ?_
  have hw : pvGood Tx 250 qX10_says [.ref 0, .int (xs (t + 1)), .int (xs (t + 2)), .int (xs (t + 3)), .int (xs (t + 4)), .int (xs (t + 5))] M (wI f (fun (r : Int32) (u : fmM × (Nat → Int64)) => pvGood Tm 250 qX11_says [.ref 0, .int (xs (t + 1)), .int (xs (t + 2)), .int (xs (t + 3)), .int (xs (t + 4)), .int (xs (t + 5))] M2 (fun r2 M2' => tI r2 ∧ I u.1 M2')) (fun E M' => (E = fmIAE ∧ (fun (r : Int32) (u : fmM × (Nat → Int64)) => pvGood Tm 250 qX11_says [.ref 0, .int (xs (t + 1)), .int (xs (t + 2)), .int (xs (t + 3)), .int (xs (t + 4)), .int (xs (t + 5))] M2 (fun r2 M2' => tI r2 ∧ I u.1 M2')) 1 (M', f)))) := h0.imp (fun r9 M9 h9 => by
    obtain ⟨h8, h2⟩ := h9
    rcases h8 with ⟨v, rfl⟩ | ⟨h6, rfl⟩ | ⟨h6, rfl⟩
    · exact h2
    · exact ⟨rfl, h2⟩
    · exact absurd h6 (by decide))
  refine z_callW C.1 (y' := qL_says) (hh := [(0, 16, 19, 13)]) (W0 := WX G g o (fmL Tm (g2, G.2) M2) (M, f)) (WW := WX G g o (fmL Tm (g2, G.2) M2)) (Q := fun (r : Int32) (u : fmM × (Nat → Int64)) => pvGood Tm 250 qX11_says [.ref 0, .int (xs (t + 1)), .int (xs (t + 2)), .int (xs (t + 3)), .int (xs (t + 4)), .int (xs (t + 5))] M2 (fun r2 M2' => tI r2 ∧ I u.1 M2')) (As := [.ref (g 0), .int (xs (t + 1)), .int (xs (t + 2)), .int (xs (t + 3)), .int (xs (t + 4)), .int (xs (t + 5)), .ref o]) (st := []) (pc := 1164) (fm_c5 172 (by eq_refl) rfl) nst_L_says niL nw_L_says nd_L_says rfl rfl (by decide) (show 311 ≤ room_1.frames by decide) (show 8 + (8 + 11) + 18200 ≤ room_1.locals by decide) (rm_c hcu) (rm_s hsu) (fm_dec dtLa_22 6 rfl) (w_says C.2.2.2.2.2 hw) (fun r u hQ => ?_)
  obtain ⟨M1, f1⟩ := u
  refine z_istore C.1 (pc := 1167) (i := 5) (by decide) rfl (fm_dec dtLa_22 7 rfl) ?_
  dsimp only [List.set_cons_zero, List.set_cons_succ]
  refine z_aloadn C.1 (pc := 1169) (n := 2) 2 rfl rfl (fm_dec dtLa_22 8 rfl) ?_
  refine la_arg C (pc := 1170) (v := 1) (t + 1) rfl rfl (hi 1 (by decide)) (by decide) (fm_dec dtLa_22 9 rfl) (fm_dec dtLa_22 10 rfl) (fm_dec dtLa_22 11 rfl) (fm_dec dtLa_22 12 rfl) (fm_dec dtLa_22 13 rfl) ?_
  refine la_arg C (pc := 1176) (v := 2) (t + 2) rfl rfl (hi 2 (by decide)) (by decide) (fm_dec dtLa_22 14 rfl) (fm_dec dtLa_22 15 rfl) (fm_dec dtLa_22 16 rfl) (fm_dec dtLa_22 17 rfl) (fm_dec dtLa_22 18 rfl) ?_
  refine la_arg C (pc := 1182) (v := 3) (t + 3) rfl rfl (hi 3 (by decide)) (by decide) (fm_dec dtLa_22 19 rfl) (fm_dec dtLa_22 20 rfl) (fm_dec dtLa_22 21 rfl) (fm_dec dtLa_22 22 rfl) (fm_dec dtLa_22 23 rfl) ?_
  refine la_arg C (pc := 1188) (v := 4) (t + 4) rfl rfl (hi 4 (by decide)) (by decide) (fm_dec dtLa_22 24 rfl) (fm_dec dtLa_22 25 rfl) (fm_dec dtLa_22 26 rfl) (fm_dec dtLa_22 27 rfl) (fm_dec dtLa_22 28 rfl) ?_
  refine la_arg C (pc := 1194) (v := 5) (t + 5) rfl rfl (hi 5 (by decide)) (by decide) (fm_dec dtLa_22 29 rfl) (fm_dec dtLa_23 0 rfl) (fm_dec dtLa_23 1 rfl) (fm_dec dtLa_23 2 rfl) (fm_dec dtLa_23 3 rfl) ?_
  have hcw := hcu1
  have hsw := hsu1
  refine z_perm (ws := (fmL Tx (g, G.2) M1 ++ ((o, .inl (G.2.2.1 1, 1, .inr (.inl f1))) :: fmL Tm (g2, G.2) M2))) (wpermW _ _ _) ?_
  refine la_ref C (pc := 1200) (As := [.int (xs (t + 1)), .int (xs (t + 2)), .int (xs (t + 3)), .int (xs (t + 4)), .int (xs (t + 5))]) (st := []) cvL_217 (by decide +kernel) rfl rfl (Nat.le_of_ble_eq_true rfl) (by decide) hcw hsw (fm_dec dtLa_23 4 rfl) rfl hQ (fun r2 M3 h3 => ?_)
  obtain ⟨⟨v2, rfl⟩, hI3⟩ := h3
  refine z_then1 ?_
  refine z_istore C.1 (pc := 1203) (i := 6) (by decide) rfl (fm_dec dtLa_23 5 rfl) ?_
  dsimp only [List.set_cons_zero, List.set_cons_succ]
  refine z_goto C.1 (pc := 1205) 1940 (by decide) (fm_dec dtLa_23 6 rfl) ?_
  exact z_perm (wpermB _ _ _) (la_fgt (kk M1 f1 M3 hI3))
set_option maxRecDepth 20000 in
theorem la_c26 {p : Program} {l : Launch} {e : Env} {s : State} {m : MethodId} {below : List Frame} {meth : Method} {c : Code} {G : fmG} {b n : Nat} {xs : Nat → Int32} {I : fmM → fmM → Prop} (hS : laS_line I) (C : laC p l s m meth c G b n xs) {g g2 : Nat → Nat} {M M2 : fmM} {f : Nat → Int64} {o t : Nat} {i : Int32} {cu su : Nat} (hi : laI n i t) (hcu : cu + 1 ≤ 601024) (hsu : su + 6 ≤ 7293034) (hcu1 : cu + 1 + 1 ≤ 601024) (hsu1 : su + 6 + 6 ≤ 7293034) (hI : I M M2) (kk : ∀ (M' : fmM) (f' : Nat → Int64) (M2' : fmM), I M' M2' → zEv p l e room_1 s m #[.ref b] below meth c G (fun q => s.heap.size ≤ q) 8 (lw_Z below #[.ref b] s) 1940 [some (.ref b), some (.ref (g 0)), some (.ref (g2 0)), some (.ref o), some (.int i), none, none, none] [] (fmL Tx (g, G.2) M' ++ ((o, .inl (G.2.2.1 1, 1, .inr (.inl f'))) :: fmL Tm (g2, G.2) M2')) (cu + 1) (su + 6)) : zEv p l e room_1 s m #[.ref b] below meth c G (fun q => s.heap.size ≤ q) 8 (lw_Z below #[.ref b] s) 1208 [some (.ref b), some (.ref (g 0)), some (.ref (g2 0)), some (.ref o), some (.int i), none, none, none] [] (fmL Tx (g, G.2) M ++ ((o, .inl (G.2.2.1 1, 1, .inr (.inl f))) :: fmL Tm (g2, G.2) M2)) cu su := by
  have h0 := hS M M2 (xs (t + 1)) (xs (t + 2)) (xs (t + 3)) (xs (t + 4)) hI
  refine z_aloadn C.1 (pc := 1208) (n := 1) 1 rfl rfl (fm_dec dtLa_23 7 rfl) ?_
  refine la_arg C (pc := 1209) (v := 1) (t + 1) rfl rfl (hi 1 (by decide)) (by decide) (fm_dec dtLa_23 8 rfl) (fm_dec dtLa_23 9 rfl) (fm_dec dtLa_23 10 rfl) (fm_dec dtLa_23 11 rfl) (fm_dec dtLa_23 12 rfl) ?_
  refine la_arg C (pc := 1215) (v := 2) (t + 2) rfl rfl (hi 2 (by decide)) (by decide) (fm_dec dtLa_23 13 rfl) (fm_dec dtLa_23 14 rfl) (fm_dec dtLa_23 15 rfl) (fm_dec dtLa_23 16 rfl) (fm_dec dtLa_23 17 rfl) ?_
  refine la_arg C (pc := 1221) (v := 3) (t + 3) rfl rfl (hi 3 (by decide)) (by decide) (fm_dec dtLa_23 18 rfl) (fm_dec dtLa_23 19 rfl) (fm_dec dtLa_23 20 rfl) (fm_dec dtLa_23 21 rfl) (fm_dec dtLa_23 22 rfl) ?_
  refine la_arg C (pc := 1227) (v := 4) (t + 4) rfl rfl (hi 4 (by decide)) (by decide) (fm_dec dtLa_23 23 rfl) (fm_dec dtLa_23 24 rfl) (fm_dec dtLa_23 25 rfl) (fm_dec dtLa_23 26 rfl) (fm_dec dtLa_23 27 rfl) ?_
  refine z_aloadn C.1 (pc := 1233) (n := 3) 3 rfl rfl (fm_dec dtLa_23 28 rfl) ?_
  have hw : pvGood Tx 250 qX10_line [.ref 0, .int (xs (t + 1)), .int (xs (t + 2)), .int (xs (t + 3)), .int (xs (t + 4))] M (wI f (fun (r : Int32) (u : fmM × (Nat → Int64)) => pvGood Tm 250 qX11_line [.ref 0, .int (xs (t + 1)), .int (xs (t + 2)), .int (xs (t + 3)), .int (xs (t + 4))] M2 (fun r2 M2' => tI r2 ∧ I u.1 M2')) (fun E M' => (E = fmIAE ∧ (fun (r : Int32) (u : fmM × (Nat → Int64)) => pvGood Tm 250 qX11_line [.ref 0, .int (xs (t + 1)), .int (xs (t + 2)), .int (xs (t + 3)), .int (xs (t + 4))] M2 (fun r2 M2' => tI r2 ∧ I u.1 M2')) 1 (M', f)))) := h0.imp (fun r9 M9 h9 => by
    obtain ⟨h8, h2⟩ := h9
    rcases h8 with ⟨v, rfl⟩ | ⟨h6, rfl⟩ | ⟨h6, rfl⟩
    · exact h2
    · exact ⟨rfl, h2⟩
    · exact absurd h6 (by decide))
  refine z_callW C.1 (y' := qL_line) (hh := [(0, 14, 17, 13)]) (W0 := WX G g o (fmL Tm (g2, G.2) M2) (M, f)) (WW := WX G g o (fmL Tm (g2, G.2) M2)) (Q := fun (r : Int32) (u : fmM × (Nat → Int64)) => pvGood Tm 250 qX11_line [.ref 0, .int (xs (t + 1)), .int (xs (t + 2)), .int (xs (t + 3)), .int (xs (t + 4))] M2 (fun r2 M2' => tI r2 ∧ I u.1 M2')) (As := [.ref (g 0), .int (xs (t + 1)), .int (xs (t + 2)), .int (xs (t + 3)), .int (xs (t + 4)), .ref o]) (st := []) (pc := 1234) (fm_c5 182 (by eq_refl) rfl) nst_L_line niL nw_L_line nd_L_line rfl rfl (by decide) (show 311 ≤ room_1.frames by decide) (show 8 + (7 + 11) + 18200 ≤ room_1.locals by decide) (rm_c hcu) (rm_s hsu) (fm_dec dtLa_23 29 rfl) (w_line C.2.2.2.2.2 hw) (fun r u hQ => ?_)
  obtain ⟨M1, f1⟩ := u
  refine z_istore C.1 (pc := 1237) (i := 5) (by decide) rfl (fm_dec dtLa_24 0 rfl) ?_
  dsimp only [List.set_cons_zero, List.set_cons_succ]
  refine z_aloadn C.1 (pc := 1239) (n := 2) 2 rfl rfl (fm_dec dtLa_24 1 rfl) ?_
  refine la_arg C (pc := 1240) (v := 1) (t + 1) rfl rfl (hi 1 (by decide)) (by decide) (fm_dec dtLa_24 2 rfl) (fm_dec dtLa_24 3 rfl) (fm_dec dtLa_24 4 rfl) (fm_dec dtLa_24 5 rfl) (fm_dec dtLa_24 6 rfl) ?_
  refine la_arg C (pc := 1246) (v := 2) (t + 2) rfl rfl (hi 2 (by decide)) (by decide) (fm_dec dtLa_24 7 rfl) (fm_dec dtLa_24 8 rfl) (fm_dec dtLa_24 9 rfl) (fm_dec dtLa_24 10 rfl) (fm_dec dtLa_24 11 rfl) ?_
  refine la_arg C (pc := 1252) (v := 3) (t + 3) rfl rfl (hi 3 (by decide)) (by decide) (fm_dec dtLa_24 12 rfl) (fm_dec dtLa_24 13 rfl) (fm_dec dtLa_24 14 rfl) (fm_dec dtLa_24 15 rfl) (fm_dec dtLa_24 16 rfl) ?_
  refine la_arg C (pc := 1258) (v := 4) (t + 4) rfl rfl (hi 4 (by decide)) (by decide) (fm_dec dtLa_24 17 rfl) (fm_dec dtLa_24 18 rfl) (fm_dec dtLa_24 19 rfl) (fm_dec dtLa_24 20 rfl) (fm_dec dtLa_24 21 rfl) ?_
  have hcw := hcu1
  have hsw := hsu1
  refine z_perm (ws := (fmL Tx (g, G.2) M1 ++ ((o, .inl (G.2.2.1 1, 1, .inr (.inl f1))) :: fmL Tm (g2, G.2) M2))) (wpermW _ _ _) ?_
  refine la_ref C (pc := 1264) (As := [.int (xs (t + 1)), .int (xs (t + 2)), .int (xs (t + 3)), .int (xs (t + 4))]) (st := []) cvL_220 (by decide +kernel) rfl rfl (Nat.le_of_ble_eq_true rfl) (by decide) hcw hsw (fm_dec dtLa_24 22 rfl) rfl hQ (fun r2 M3 h3 => ?_)
  obtain ⟨⟨v2, rfl⟩, hI3⟩ := h3
  refine z_then1 ?_
  refine z_istore C.1 (pc := 1267) (i := 6) (by decide) rfl (fm_dec dtLa_24 23 rfl) ?_
  dsimp only [List.set_cons_zero, List.set_cons_succ]
  refine z_goto C.1 (pc := 1269) 1940 (by decide) (fm_dec dtLa_24 24 rfl) ?_
  exact z_perm (wpermB _ _ _) (la_fgt (kk M1 f1 M3 hI3))
set_option maxRecDepth 20000 in
theorem la_c27 {p : Program} {l : Launch} {e : Env} {s : State} {m : MethodId} {below : List Frame} {meth : Method} {c : Code} {G : fmG} {b n : Nat} {xs : Nat → Int32} {I : fmM → fmM → Prop} (hS : laS_room I) (C : laC p l s m meth c G b n xs) {g g2 : Nat → Nat} {M M2 : fmM} {f : Nat → Int64} {o t : Nat} {i : Int32} {cu su : Nat} (hi : laI n i t) (hcu : cu + 1 ≤ 601024) (hsu : su + 6 ≤ 7293034) (hcu1 : cu + 1 + 1 ≤ 601024) (hsu1 : su + 6 + 6 ≤ 7293034) (hI : I M M2) (kk : ∀ (M' : fmM) (f' : Nat → Int64) (M2' : fmM), I M' M2' → zEv p l e room_1 s m #[.ref b] below meth c G (fun q => s.heap.size ≤ q) 8 (lw_Z below #[.ref b] s) 1940 [some (.ref b), some (.ref (g 0)), some (.ref (g2 0)), some (.ref o), some (.int i), none, none, none] [] (fmL Tx (g, G.2) M' ++ ((o, .inl (G.2.2.1 1, 1, .inr (.inl f'))) :: fmL Tm (g2, G.2) M2')) (cu + 1) (su + 6)) : zEv p l e room_1 s m #[.ref b] below meth c G (fun q => s.heap.size ≤ q) 8 (lw_Z below #[.ref b] s) 1272 [some (.ref b), some (.ref (g 0)), some (.ref (g2 0)), some (.ref o), some (.int i), none, none, none] [] (fmL Tx (g, G.2) M ++ ((o, .inl (G.2.2.1 1, 1, .inr (.inl f))) :: fmL Tm (g2, G.2) M2)) cu su := by
  have h0 := hS M M2 (xs (t + 1)) (xs (t + 2)) hI
  refine z_aloadn C.1 (pc := 1272) (n := 1) 1 rfl rfl (fm_dec dtLa_24 25 rfl) ?_
  refine la_arg C (pc := 1273) (v := 1) (t + 1) rfl rfl (hi 1 (by decide)) (by decide) (fm_dec dtLa_24 26 rfl) (fm_dec dtLa_24 27 rfl) (fm_dec dtLa_24 28 rfl) (fm_dec dtLa_24 29 rfl) (fm_dec dtLa_25 0 rfl) ?_
  refine la_arg C (pc := 1279) (v := 2) (t + 2) rfl rfl (hi 2 (by decide)) (by decide) (fm_dec dtLa_25 1 rfl) (fm_dec dtLa_25 2 rfl) (fm_dec dtLa_25 3 rfl) (fm_dec dtLa_25 4 rfl) (fm_dec dtLa_25 5 rfl) ?_
  refine z_aloadn C.1 (pc := 1285) (n := 3) 3 rfl rfl (fm_dec dtLa_25 6 rfl) ?_
  have hw : pvGood Tx 250 qX10_room [.ref 0, .int (xs (t + 1)), .int (xs (t + 2))] M (wI f (fun (r : Int32) (u : fmM × (Nat → Int64)) => pvGood Tm 250 qX11_room [.ref 0, .int (xs (t + 1)), .int (xs (t + 2))] M2 (fun r2 M2' => tI r2 ∧ I u.1 M2')) (fun E M' => (E = fmIAE ∧ (fun (r : Int32) (u : fmM × (Nat → Int64)) => pvGood Tm 250 qX11_room [.ref 0, .int (xs (t + 1)), .int (xs (t + 2))] M2 (fun r2 M2' => tI r2 ∧ I u.1 M2')) 1 (M', f)))) := h0.imp (fun r9 M9 h9 => by
    obtain ⟨h8, h2⟩ := h9
    rcases h8 with ⟨v, rfl⟩ | ⟨h6, rfl⟩ | ⟨h6, rfl⟩
    · exact h2
    · exact ⟨rfl, h2⟩
    · exact absurd h6 (by decide))
  refine z_callW C.1 (y' := qL_room) (hh := [(0, 10, 13, 13)]) (W0 := WX G g o (fmL Tm (g2, G.2) M2) (M, f)) (WW := WX G g o (fmL Tm (g2, G.2) M2)) (Q := fun (r : Int32) (u : fmM × (Nat → Int64)) => pvGood Tm 250 qX11_room [.ref 0, .int (xs (t + 1)), .int (xs (t + 2))] M2 (fun r2 M2' => tI r2 ∧ I u.1 M2')) (As := [.ref (g 0), .int (xs (t + 1)), .int (xs (t + 2)), .ref o]) (st := []) (pc := 1286) (fm_c5 189 (by eq_refl) rfl) nst_L_room niL nw_L_room nd_L_room rfl rfl (by decide) (show 311 ≤ room_1.frames by decide) (show 8 + (5 + 11) + 18200 ≤ room_1.locals by decide) (rm_c hcu) (rm_s hsu) (fm_dec dtLa_25 7 rfl) (w_room C.2.2.2.2.2 hw) (fun r u hQ => ?_)
  obtain ⟨M1, f1⟩ := u
  refine z_istore C.1 (pc := 1289) (i := 5) (by decide) rfl (fm_dec dtLa_25 8 rfl) ?_
  dsimp only [List.set_cons_zero, List.set_cons_succ]
  refine z_aloadn C.1 (pc := 1291) (n := 2) 2 rfl rfl (fm_dec dtLa_25 9 rfl) ?_
  refine la_arg C (pc := 1292) (v := 1) (t + 1) rfl rfl (hi 1 (by decide)) (by decide) (fm_dec dtLa_25 10 rfl) (fm_dec dtLa_25 11 rfl) (fm_dec dtLa_25 12 rfl) (fm_dec dtLa_25 13 rfl) (fm_dec dtLa_25 14 rfl) ?_
  refine la_arg C (pc := 1298) (v := 2) (t + 2) rfl rfl (hi 2 (by decide)) (by decide) (fm_dec dtLa_25 15 rfl) (fm_dec dtLa_25 16 rfl) (fm_dec dtLa_25 17 rfl) (fm_dec dtLa_25 18 rfl) (fm_dec dtLa_25 19 rfl) ?_
  have hcw := hcu1
  have hsw := hsu1
  refine z_perm (ws := (fmL Tx (g, G.2) M1 ++ ((o, .inl (G.2.2.1 1, 1, .inr (.inl f1))) :: fmL Tm (g2, G.2) M2))) (wpermW _ _ _) ?_
  refine la_ref C (pc := 1304) (As := [.int (xs (t + 1)), .int (xs (t + 2))]) (st := []) cvL_223 (by decide +kernel) rfl rfl (Nat.le_of_ble_eq_true rfl) (by decide) hcw hsw (fm_dec dtLa_25 20 rfl) rfl hQ (fun r2 M3 h3 => ?_)
  obtain ⟨⟨v2, rfl⟩, hI3⟩ := h3
  refine z_then1 ?_
  refine z_istore C.1 (pc := 1307) (i := 6) (by decide) rfl (fm_dec dtLa_25 21 rfl) ?_
  dsimp only [List.set_cons_zero, List.set_cons_succ]
  refine z_goto C.1 (pc := 1309) 1940 (by decide) (fm_dec dtLa_25 22 rfl) ?_
  exact z_perm (wpermB _ _ _) (la_fgt (kk M1 f1 M3 hI3))
set_option maxRecDepth 20000 in
theorem la_c28 {p : Program} {l : Launch} {e : Env} {s : State} {m : MethodId} {below : List Frame} {meth : Method} {c : Code} {G : fmG} {b n : Nat} {xs : Nat → Int32} {I : fmM → fmM → Prop} (hS : laS_lines I) (C : laC p l s m meth c G b n xs) {g g2 : Nat → Nat} {M M2 : fmM} {f : Nat → Int64} {o t : Nat} {i : Int32} {cu su : Nat} (hi : laI n i t) (hcu : cu + 1 ≤ 601024) (hsu : su + 6 ≤ 7293034) (hcu1 : cu + 1 + 1 ≤ 601024) (hsu1 : su + 6 + 6 ≤ 7293034) (hI : I M M2) (kk : ∀ (M' : fmM) (f' : Nat → Int64) (M2' : fmM), I M' M2' → zEv p l e room_1 s m #[.ref b] below meth c G (fun q => s.heap.size ≤ q) 8 (lw_Z below #[.ref b] s) 1940 [some (.ref b), some (.ref (g 0)), some (.ref (g2 0)), some (.ref o), some (.int i), none, none, none] [] (fmL Tx (g, G.2) M' ++ ((o, .inl (G.2.2.1 1, 1, .inr (.inl f'))) :: fmL Tm (g2, G.2) M2')) (cu + 1) (su + 6)) : zEv p l e room_1 s m #[.ref b] below meth c G (fun q => s.heap.size ≤ q) 8 (lw_Z below #[.ref b] s) 1312 [some (.ref b), some (.ref (g 0)), some (.ref (g2 0)), some (.ref o), some (.int i), none, none, none] [] (fmL Tx (g, G.2) M ++ ((o, .inl (G.2.2.1 1, 1, .inr (.inl f))) :: fmL Tm (g2, G.2) M2)) cu su := by
  have h0 := hS M M2 (xs (t + 1)) (xs (t + 2)) (xs (t + 3)) hI
  refine z_aloadn C.1 (pc := 1312) (n := 1) 1 rfl rfl (fm_dec dtLa_25 23 rfl) ?_
  refine la_arg C (pc := 1313) (v := 1) (t + 1) rfl rfl (hi 1 (by decide)) (by decide) (fm_dec dtLa_25 24 rfl) (fm_dec dtLa_25 25 rfl) (fm_dec dtLa_25 26 rfl) (fm_dec dtLa_25 27 rfl) (fm_dec dtLa_25 28 rfl) ?_
  refine la_arg C (pc := 1319) (v := 2) (t + 2) rfl rfl (hi 2 (by decide)) (by decide) (fm_dec dtLa_25 29 rfl) (fm_dec dtLa_26 0 rfl) (fm_dec dtLa_26 1 rfl) (fm_dec dtLa_26 2 rfl) (fm_dec dtLa_26 3 rfl) ?_
  refine la_arg C (pc := 1325) (v := 3) (t + 3) rfl rfl (hi 3 (by decide)) (by decide) (fm_dec dtLa_26 4 rfl) (fm_dec dtLa_26 5 rfl) (fm_dec dtLa_26 6 rfl) (fm_dec dtLa_26 7 rfl) (fm_dec dtLa_26 8 rfl) ?_
  refine z_aloadn C.1 (pc := 1331) (n := 3) 3 rfl rfl (fm_dec dtLa_26 9 rfl) ?_
  have hw : pvGood Tx 250 qX10_lines [.ref 0, .int (xs (t + 1)), .int (xs (t + 2)), .int (xs (t + 3))] M (wI f (fun (r : Int32) (u : fmM × (Nat → Int64)) => pvGood Tm 250 qX11_lines [.ref 0, .int (xs (t + 1)), .int (xs (t + 2)), .int (xs (t + 3))] M2 (fun r2 M2' => tI r2 ∧ I u.1 M2')) (fun E M' => (E = fmNSE ∧ (fun (r : Int32) (u : fmM × (Nat → Int64)) => pvGood Tm 250 qX11_lines [.ref 0, .int (xs (t + 1)), .int (xs (t + 2)), .int (xs (t + 3))] M2 (fun r2 M2' => tI r2 ∧ I u.1 M2')) 1 (M', f)) ∨ (E = fmIAE ∧ (fun (r : Int32) (u : fmM × (Nat → Int64)) => pvGood Tm 250 qX11_lines [.ref 0, .int (xs (t + 1)), .int (xs (t + 2)), .int (xs (t + 3))] M2 (fun r2 M2' => tI r2 ∧ I u.1 M2')) 2 (M', f)))) := h0.imp (fun r9 M9 h9 => by
    obtain ⟨h8, h2⟩ := h9
    rcases h8 with ⟨v, rfl⟩ | ⟨-, rfl⟩ | ⟨-, rfl⟩
    · exact h2
    · exact Or.inr ⟨rfl, h2⟩
    · exact Or.inl ⟨rfl, h2⟩)
  refine z_callW C.1 (y' := qL_lines) (hh := [(0, 12, 15, 31), (0, 12, 19, 13)]) (W0 := WX G g o (fmL Tm (g2, G.2) M2) (M, f)) (WW := WX G g o (fmL Tm (g2, G.2) M2)) (Q := fun (r : Int32) (u : fmM × (Nat → Int64)) => pvGood Tm 250 qX11_lines [.ref 0, .int (xs (t + 1)), .int (xs (t + 2)), .int (xs (t + 3))] M2 (fun r2 M2' => tI r2 ∧ I u.1 M2')) (As := [.ref (g 0), .int (xs (t + 1)), .int (xs (t + 2)), .int (xs (t + 3)), .ref o]) (st := []) (pc := 1332) (fm_c5 219 (by eq_refl) rfl) nst_L_lines niL nw_L_lines nd_L_lines rfl rfl (by decide) (show 311 ≤ room_1.frames by decide) (show 8 + (6 + 11) + 18200 ≤ room_1.locals by decide) (rm_c hcu) (rm_s hsu) (fm_dec dtLa_26 10 rfl) (w_lines C.2.2.2.2.2 hw) (fun r u hQ => ?_)
  obtain ⟨M1, f1⟩ := u
  refine z_istore C.1 (pc := 1335) (i := 5) (by decide) rfl (fm_dec dtLa_26 11 rfl) ?_
  dsimp only [List.set_cons_zero, List.set_cons_succ]
  refine z_aloadn C.1 (pc := 1337) (n := 2) 2 rfl rfl (fm_dec dtLa_26 12 rfl) ?_
  refine la_arg C (pc := 1338) (v := 1) (t + 1) rfl rfl (hi 1 (by decide)) (by decide) (fm_dec dtLa_26 13 rfl) (fm_dec dtLa_26 14 rfl) (fm_dec dtLa_26 15 rfl) (fm_dec dtLa_26 16 rfl) (fm_dec dtLa_26 17 rfl) ?_
  refine la_arg C (pc := 1344) (v := 2) (t + 2) rfl rfl (hi 2 (by decide)) (by decide) (fm_dec dtLa_26 18 rfl) (fm_dec dtLa_26 19 rfl) (fm_dec dtLa_26 20 rfl) (fm_dec dtLa_26 21 rfl) (fm_dec dtLa_26 22 rfl) ?_
  refine la_arg C (pc := 1350) (v := 3) (t + 3) rfl rfl (hi 3 (by decide)) (by decide) (fm_dec dtLa_26 23 rfl) (fm_dec dtLa_26 24 rfl) (fm_dec dtLa_26 25 rfl) (fm_dec dtLa_26 26 rfl) (fm_dec dtLa_26 27 rfl) ?_
  have hcw := hcu1
  have hsw := hsu1
  refine z_perm (ws := (fmL Tx (g, G.2) M1 ++ ((o, .inl (G.2.2.1 1, 1, .inr (.inl f1))) :: fmL Tm (g2, G.2) M2))) (wpermW _ _ _) ?_
  refine la_ref C (pc := 1356) (As := [.int (xs (t + 1)), .int (xs (t + 2)), .int (xs (t + 3))]) (st := []) cvL_227 (by decide +kernel) rfl rfl (Nat.le_of_ble_eq_true rfl) (by decide) hcw hsw (fm_dec dtLa_26 28 rfl) rfl hQ (fun r2 M3 h3 => ?_)
  obtain ⟨⟨v2, rfl⟩, hI3⟩ := h3
  refine z_then1 ?_
  refine z_istore C.1 (pc := 1359) (i := 6) (by decide) rfl (fm_dec dtLa_26 29 rfl) ?_
  dsimp only [List.set_cons_zero, List.set_cons_succ]
  refine z_goto C.1 (pc := 1361) 1940 (by decide) (fm_dec dtLa_27 0 rfl) ?_
  exact z_perm (wpermB _ _ _) (la_fgt (kk M1 f1 M3 hI3))
set_option maxRecDepth 20000 in
theorem la_c29 {p : Program} {l : Launch} {e : Env} {s : State} {m : MethodId} {below : List Frame} {meth : Method} {c : Code} {G : fmG} {b n : Nat} {xs : Nat → Int32} {I : fmM → fmM → Prop} (hS : laS_apart I) (C : laC p l s m meth c G b n xs) {g g2 : Nat → Nat} {M M2 : fmM} {f : Nat → Int64} {o t : Nat} {i : Int32} {cu su : Nat} (hi : laI n i t) (hcu : cu + 1 ≤ 601024) (hsu : su + 6 ≤ 7293034) (hcu1 : cu + 1 + 1 ≤ 601024) (hsu1 : su + 6 + 6 ≤ 7293034) (hI : I M M2) (kk : ∀ (M' : fmM) (f' : Nat → Int64) (M2' : fmM), I M' M2' → zEv p l e room_1 s m #[.ref b] below meth c G (fun q => s.heap.size ≤ q) 8 (lw_Z below #[.ref b] s) 1940 [some (.ref b), some (.ref (g 0)), some (.ref (g2 0)), some (.ref o), some (.int i), none, none, none] [] (fmL Tx (g, G.2) M' ++ ((o, .inl (G.2.2.1 1, 1, .inr (.inl f'))) :: fmL Tm (g2, G.2) M2')) (cu + 1) (su + 6)) : zEv p l e room_1 s m #[.ref b] below meth c G (fun q => s.heap.size ≤ q) 8 (lw_Z below #[.ref b] s) 1364 [some (.ref b), some (.ref (g 0)), some (.ref (g2 0)), some (.ref o), some (.int i), none, none, none] [] (fmL Tx (g, G.2) M ++ ((o, .inl (G.2.2.1 1, 1, .inr (.inl f))) :: fmL Tm (g2, G.2) M2)) cu su := by
  have h0 := hS M M2 (xs (t + 1)) (xs (t + 2)) hI
  refine z_aloadn C.1 (pc := 1364) (n := 1) 1 rfl rfl (fm_dec dtLa_27 1 rfl) ?_
  refine la_arg C (pc := 1365) (v := 1) (t + 1) rfl rfl (hi 1 (by decide)) (by decide) (fm_dec dtLa_27 2 rfl) (fm_dec dtLa_27 3 rfl) (fm_dec dtLa_27 4 rfl) (fm_dec dtLa_27 5 rfl) (fm_dec dtLa_27 6 rfl) ?_
  refine la_arg C (pc := 1371) (v := 2) (t + 2) rfl rfl (hi 2 (by decide)) (by decide) (fm_dec dtLa_27 7 rfl) (fm_dec dtLa_27 8 rfl) (fm_dec dtLa_27 9 rfl) (fm_dec dtLa_27 10 rfl) (fm_dec dtLa_27 11 rfl) ?_
  refine z_aloadn C.1 (pc := 1377) (n := 3) 3 rfl rfl (fm_dec dtLa_27 12 rfl) ?_
  have hw : pvGood Tx 250 qX10_apart [.ref 0, .int (xs (t + 1)), .int (xs (t + 2))] M (wI f (fun (r : Int32) (u : fmM × (Nat → Int64)) => pvGood Tm 250 qX11_apart [.ref 0, .int (xs (t + 1)), .int (xs (t + 2))] M2 (fun r2 M2' => tI r2 ∧ I u.1 M2')) (fun E M' => (E = fmIAE ∧ (fun (r : Int32) (u : fmM × (Nat → Int64)) => pvGood Tm 250 qX11_apart [.ref 0, .int (xs (t + 1)), .int (xs (t + 2))] M2 (fun r2 M2' => tI r2 ∧ I u.1 M2')) 1 (M', f)))) := h0.imp (fun r9 M9 h9 => by
    obtain ⟨h8, h2⟩ := h9
    rcases h8 with ⟨v, rfl⟩ | ⟨h6, rfl⟩ | ⟨h6, rfl⟩
    · exact h2
    · exact ⟨rfl, h2⟩
    · exact absurd h6 (by decide))
  refine z_callW C.1 (y' := qL_apart) (hh := [(0, 10, 13, 13)]) (W0 := WX G g o (fmL Tm (g2, G.2) M2) (M, f)) (WW := WX G g o (fmL Tm (g2, G.2) M2)) (Q := fun (r : Int32) (u : fmM × (Nat → Int64)) => pvGood Tm 250 qX11_apart [.ref 0, .int (xs (t + 1)), .int (xs (t + 2))] M2 (fun r2 M2' => tI r2 ∧ I u.1 M2')) (As := [.ref (g 0), .int (xs (t + 1)), .int (xs (t + 2)), .ref o]) (st := []) (pc := 1378) (fm_c5 226 (by eq_refl) rfl) nst_L_apart niL nw_L_apart nd_L_apart rfl rfl (by decide) (show 311 ≤ room_1.frames by decide) (show 8 + (5 + 11) + 18200 ≤ room_1.locals by decide) (rm_c hcu) (rm_s hsu) (fm_dec dtLa_27 13 rfl) (w_apart C.2.2.2.2.2 hw) (fun r u hQ => ?_)
  obtain ⟨M1, f1⟩ := u
  refine z_istore C.1 (pc := 1381) (i := 5) (by decide) rfl (fm_dec dtLa_27 14 rfl) ?_
  dsimp only [List.set_cons_zero, List.set_cons_succ]
  refine z_aloadn C.1 (pc := 1383) (n := 2) 2 rfl rfl (fm_dec dtLa_27 15 rfl) ?_
  refine la_arg C (pc := 1384) (v := 1) (t + 1) rfl rfl (hi 1 (by decide)) (by decide) (fm_dec dtLa_27 16 rfl) (fm_dec dtLa_27 17 rfl) (fm_dec dtLa_27 18 rfl) (fm_dec dtLa_27 19 rfl) (fm_dec dtLa_27 20 rfl) ?_
  refine la_arg C (pc := 1390) (v := 2) (t + 2) rfl rfl (hi 2 (by decide)) (by decide) (fm_dec dtLa_27 21 rfl) (fm_dec dtLa_27 22 rfl) (fm_dec dtLa_27 23 rfl) (fm_dec dtLa_27 24 rfl) (fm_dec dtLa_27 25 rfl) ?_
  have hcw := hcu1
  have hsw := hsu1
  refine z_perm (ws := (fmL Tx (g, G.2) M1 ++ ((o, .inl (G.2.2.1 1, 1, .inr (.inl f1))) :: fmL Tm (g2, G.2) M2))) (wpermW _ _ _) ?_
  refine la_ref C (pc := 1396) (As := [.int (xs (t + 1)), .int (xs (t + 2))]) (st := []) cvL_230 (by decide +kernel) rfl rfl (Nat.le_of_ble_eq_true rfl) (by decide) hcw hsw (fm_dec dtLa_27 26 rfl) rfl hQ (fun r2 M3 h3 => ?_)
  obtain ⟨⟨v2, rfl⟩, hI3⟩ := h3
  refine z_then1 ?_
  refine z_istore C.1 (pc := 1399) (i := 6) (by decide) rfl (fm_dec dtLa_27 27 rfl) ?_
  dsimp only [List.set_cons_zero, List.set_cons_succ]
  refine z_goto C.1 (pc := 1401) 1940 (by decide) (fm_dec dtLa_27 28 rfl) ?_
  exact z_perm (wpermB _ _ _) (la_fgt (kk M1 f1 M3 hI3))
set_option maxRecDepth 20000 in
theorem la_c30 {p : Program} {l : Launch} {e : Env} {s : State} {m : MethodId} {below : List Frame} {meth : Method} {c : Code} {G : fmG} {b n : Nat} {xs : Nat → Int32} {I : fmM → fmM → Prop} (hS : laS_twins I) (C : laC p l s m meth c G b n xs) {g g2 : Nat → Nat} {M M2 : fmM} {f : Nat → Int64} {o t : Nat} {i : Int32} {cu su : Nat} (hi : laI n i t) (hcu : cu + 1 ≤ 601024) (hsu : su + 6 ≤ 7293034) (hcu1 : cu + 1 + 1 ≤ 601024) (hsu1 : su + 6 + 6 ≤ 7293034) (hI : I M M2) (kk : ∀ (M' : fmM) (f' : Nat → Int64) (M2' : fmM), I M' M2' → zEv p l e room_1 s m #[.ref b] below meth c G (fun q => s.heap.size ≤ q) 8 (lw_Z below #[.ref b] s) 1940 [some (.ref b), some (.ref (g 0)), some (.ref (g2 0)), some (.ref o), some (.int i), none, none, none] [] (fmL Tx (g, G.2) M' ++ ((o, .inl (G.2.2.1 1, 1, .inr (.inl f'))) :: fmL Tm (g2, G.2) M2')) (cu + 1) (su + 6)) : zEv p l e room_1 s m #[.ref b] below meth c G (fun q => s.heap.size ≤ q) 8 (lw_Z below #[.ref b] s) 1404 [some (.ref b), some (.ref (g 0)), some (.ref (g2 0)), some (.ref o), some (.int i), none, none, none] [] (fmL Tx (g, G.2) M ++ ((o, .inl (G.2.2.1 1, 1, .inr (.inl f))) :: fmL Tm (g2, G.2) M2)) cu su := by
  have h0 := hS M M2 hI
  refine z_aloadn C.1 (pc := 1404) (n := 1) 1 rfl rfl (fm_dec dtLa_27 29 rfl) ?_
  refine z_callX C.1 (T := Tx) (g := g) (M := M) (rest := (o, .inl (G.2.2.1 1, 1, .inr (.inl f))) :: fmL Tm (g2, G.2) M2) (k := 0) (ci := 10) (d' := 250) (pc := 1405) (As := []) (st := []) cvL_231 (by decide) rfl rfl rfl (by decide) (rm_fr (by decide)) (rm_lo (by decide) (by decide)) (rm_c hcu) (rm_s hsu) (fm_dec dtLa_28 0 rfl) ?_
  refine fmGood.imp (pvGood.fm C.2.2.2.2.2 (by decide) (by decide +kernel) h0) (fun o9 M1 h9 => ?_)
  obtain ⟨o', rfl, h8, h2⟩ := h9
  rcases h8 with ⟨v, rfl⟩ | ⟨h8, -⟩ | ⟨h8, -⟩
  · refine z_then1 ?_
    refine z_pop C.1 (pc := 1408) rfl (fm_dec dtLa_28 1 rfl) ?_
    refine z_aloadn C.1 (pc := 1409) (n := 2) 2 rfl rfl (fm_dec dtLa_28 2 rfl) ?_
    have hcw := hcu
    have hsw := hsu
    refine z_perm (ws := (fmL Tx (g, G.2) M1 ++ ((o, .inl (G.2.2.1 1, 1, .inr (.inl f))) :: fmL Tm (g2, G.2) M2))) (wpermW _ _ _) ?_
    refine la_ref C (pc := 1410) (As := []) (st := []) cvL_234 (by decide +kernel) rfl rfl (Nat.le_of_ble_eq_true rfl) (by decide) hcw hsw (fm_dec dtLa_28 3 rfl) rfl h2 (fun r2 M3 h3 => ?_)
    obtain ⟨⟨v2, rfl⟩, hI3⟩ := h3
    refine z_then1 ?_
    refine z_pop C.1 (pc := 1413) rfl (fm_dec dtLa_28 4 rfl) ?_
    refine z_goto C.1 (pc := 1414) 1940 (by decide) (fm_dec dtLa_28 5 rfl) ?_
    refine z_more (Nat.le_succ _) (Nat.le_add_right _ 6) ?_
    exact z_perm (wpermB _ _ _) (la_fgt (kk M1 f M3 hI3))
  · cases h8
  · cases h8
set_option maxRecDepth 20000 in
theorem la_c31 {p : Program} {l : Launch} {e : Env} {s : State} {m : MethodId} {below : List Frame} {meth : Method} {c : Code} {G : fmG} {b n : Nat} {xs : Nat → Int32} {I : fmM → fmM → Prop} (hS : laS_written I) (C : laC p l s m meth c G b n xs) {g g2 : Nat → Nat} {M M2 : fmM} {f : Nat → Int64} {o t : Nat} {i : Int32} {cu su : Nat} (hi : laI n i t) (hcu : cu + 1 ≤ 601024) (hsu : su + 6 ≤ 7293034) (hcu1 : cu + 1 + 1 ≤ 601024) (hsu1 : su + 6 + 6 ≤ 7293034) (hI : I M M2) (kk : ∀ (M' : fmM) (f' : Nat → Int64) (M2' : fmM), I M' M2' → zEv p l e room_1 s m #[.ref b] below meth c G (fun q => s.heap.size ≤ q) 8 (lw_Z below #[.ref b] s) 1940 [some (.ref b), some (.ref (g 0)), some (.ref (g2 0)), some (.ref o), some (.int i), none, none, none] [] (fmL Tx (g, G.2) M' ++ ((o, .inl (G.2.2.1 1, 1, .inr (.inl f'))) :: fmL Tm (g2, G.2) M2')) (cu + 1) (su + 6)) : zEv p l e room_1 s m #[.ref b] below meth c G (fun q => s.heap.size ≤ q) 8 (lw_Z below #[.ref b] s) 1417 [some (.ref b), some (.ref (g 0)), some (.ref (g2 0)), some (.ref o), some (.int i), none, none, none] [] (fmL Tx (g, G.2) M ++ ((o, .inl (G.2.2.1 1, 1, .inr (.inl f))) :: fmL Tm (g2, G.2) M2)) cu su := by
  have h0 := hS M M2 (xs (t + 1)) hI
  refine z_aloadn C.1 (pc := 1417) (n := 1) 1 rfl rfl (fm_dec dtLa_28 6 rfl) ?_
  refine la_arg C (pc := 1418) (v := 1) (t + 1) rfl rfl (hi 1 (by decide)) (by decide) (fm_dec dtLa_28 7 rfl) (fm_dec dtLa_28 8 rfl) (fm_dec dtLa_28 9 rfl) (fm_dec dtLa_28 10 rfl) (fm_dec dtLa_28 11 rfl) ?_
  refine z_aloadn C.1 (pc := 1424) (n := 3) 3 rfl rfl (fm_dec dtLa_28 12 rfl) ?_
  have hw : pvGood Tx 250 qX10_written [.ref 0, .int (xs (t + 1))] M (wJ f (fun (r : Int32) (u : fmM × (Nat → Int64)) => pvGood Tm 250 qX11_written [.ref 0, .int (xs (t + 1))] M2 (fun r2 M2' => tJ r2 ∧ I u.1 M2')) (fun E M' => (E = fmNSE ∧ (fun (r : Int32) (u : fmM × (Nat → Int64)) => pvGood Tm 250 qX11_written [.ref 0, .int (xs (t + 1))] M2 (fun r2 M2' => tJ r2 ∧ I u.1 M2')) 1 (M', f)))) := h0.imp (fun r9 M9 h9 => by
    obtain ⟨h8, h2⟩ := h9
    rcases h8 with ⟨v, rfl⟩ | ⟨h6, rfl⟩ | ⟨h6, rfl⟩
    · exact h2
    · exact absurd h6 (by decide)
    · exact ⟨rfl, h2⟩)
  refine z_callW C.1 (y' := qL_written) (hh := [(0, 8, 11, 31)]) (W0 := WX G g o (fmL Tm (g2, G.2) M2) (M, f)) (WW := WX G g o (fmL Tm (g2, G.2) M2)) (Q := fun (r : Int32) (u : fmM × (Nat → Int64)) => pvGood Tm 250 qX11_written [.ref 0, .int (xs (t + 1))] M2 (fun r2 M2' => tJ r2 ∧ I u.1 M2')) (As := [.ref (g 0), .int (xs (t + 1)), .ref o]) (st := []) (pc := 1425) (fm_c5 237 (by eq_refl) rfl) nst_L_written niL nw_L_written nd_L_written rfl rfl (by decide) (show 311 ≤ room_1.frames by decide) (show 8 + (4 + 11) + 18200 ≤ room_1.locals by decide) (rm_c hcu) (rm_s hsu) (fm_dec dtLa_28 13 rfl) (w_written C.2.2.2.2.2 hw) (fun r u hQ => ?_)
  obtain ⟨M1, f1⟩ := u
  refine z_istore C.1 (pc := 1428) (i := 5) (by decide) rfl (fm_dec dtLa_28 14 rfl) ?_
  dsimp only [List.set_cons_zero, List.set_cons_succ]
  refine z_aloadn C.1 (pc := 1430) (n := 2) 2 rfl rfl (fm_dec dtLa_28 15 rfl) ?_
  refine la_arg C (pc := 1431) (v := 1) (t + 1) rfl rfl (hi 1 (by decide)) (by decide) (fm_dec dtLa_28 16 rfl) (fm_dec dtLa_28 17 rfl) (fm_dec dtLa_28 18 rfl) (fm_dec dtLa_28 19 rfl) (fm_dec dtLa_28 20 rfl) ?_
  have hcw := hcu1
  have hsw := hsu1
  refine z_perm (ws := (fmL Tx (g, G.2) M1 ++ ((o, .inl (G.2.2.1 1, 1, .inr (.inl f1))) :: fmL Tm (g2, G.2) M2))) (wpermW _ _ _) ?_
  refine la_ref C (pc := 1437) (As := [.int (xs (t + 1))]) (st := []) cvL_237 (by decide +kernel) rfl rfl (Nat.le_of_ble_eq_true rfl) (by decide) hcw hsw (fm_dec dtLa_28 21 rfl) rfl hQ (fun r2 M3 h3 => ?_)
  obtain ⟨⟨v2, rfl⟩, hI3⟩ := h3
  refine z_then1 ?_
  refine z_lstore C.1 (pc := 1440) (i := 6) (by decide) rfl (fm_dec dtLa_28 22 rfl) ?_
  dsimp only [List.set_cons_zero, List.set_cons_succ]
  refine z_goto C.1 (pc := 1442) 1940 (by decide) (fm_dec dtLa_28 23 rfl) ?_
  exact z_perm (wpermB _ _ _) (la_fgt (kk M1 f1 M3 hI3))
end
-- P 15d
section
set_option maxRecDepth 20000 in
theorem la_c32 {p : Program} {l : Launch} {e : Env} {s : State} {m : MethodId} {below : List Frame} {meth : Method} {c : Code} {G : fmG} {b n : Nat} {xs : Nat → Int32} {I : fmM → fmM → Prop} (hS : laS_whose I) (C : laC p l s m meth c G b n xs) {g g2 : Nat → Nat} {M M2 : fmM} {f : Nat → Int64} {o t : Nat} {i : Int32} {cu su : Nat} (hi : laI n i t) (hcu : cu + 1 ≤ 601024) (hsu : su + 6 ≤ 7293034) (hcu1 : cu + 1 + 1 ≤ 601024) (hsu1 : su + 6 + 6 ≤ 7293034) (hI : I M M2) (kk : ∀ (M' : fmM) (f' : Nat → Int64) (M2' : fmM), I M' M2' → zEv p l e room_1 s m #[.ref b] below meth c G (fun q => s.heap.size ≤ q) 8 (lw_Z below #[.ref b] s) 1940 [some (.ref b), some (.ref (g 0)), some (.ref (g2 0)), some (.ref o), some (.int i), none, none, none] [] (fmL Tx (g, G.2) M' ++ ((o, .inl (G.2.2.1 1, 1, .inr (.inl f'))) :: fmL Tm (g2, G.2) M2')) (cu + 1) (su + 6)) : zEv p l e room_1 s m #[.ref b] below meth c G (fun q => s.heap.size ≤ q) 8 (lw_Z below #[.ref b] s) 1445 [some (.ref b), some (.ref (g 0)), some (.ref (g2 0)), some (.ref o), some (.int i), none, none, none] [] (fmL Tx (g, G.2) M ++ ((o, .inl (G.2.2.1 1, 1, .inr (.inl f))) :: fmL Tm (g2, G.2) M2)) cu su := by
  have h0 := hS M M2 hI
  refine z_aloadn C.1 (pc := 1445) (n := 1) 1 rfl rfl (fm_dec dtLa_28 24 rfl) ?_
  refine z_callX C.1 (T := Tx) (g := g) (M := M) (rest := (o, .inl (G.2.2.1 1, 1, .inr (.inl f))) :: fmL Tm (g2, G.2) M2) (k := 0) (ci := 10) (d' := 250) (pc := 1446) (As := []) (st := []) cvL_238 (by decide) rfl rfl rfl (by decide) (rm_fr (by decide)) (rm_lo (by decide) (by decide)) (rm_c hcu) (rm_s hsu) (fm_dec dtLa_28 25 rfl) ?_
  refine fmGood.imp (pvGood.fm C.2.2.2.2.2 (by decide) (by decide +kernel) h0) (fun o9 M1 h9 => ?_)
  obtain ⟨o', rfl, h8, h2⟩ := h9
  rcases h8 with ⟨v, rfl⟩ | ⟨h8, -⟩ | ⟨h8, -⟩
  · refine z_then1 ?_
    refine z_pop C.1 (pc := 1449) rfl (fm_dec dtLa_28 26 rfl) ?_
    refine z_aloadn C.1 (pc := 1450) (n := 2) 2 rfl rfl (fm_dec dtLa_28 27 rfl) ?_
    have hcw := hcu
    have hsw := hsu
    refine z_perm (ws := (fmL Tx (g, G.2) M1 ++ ((o, .inl (G.2.2.1 1, 1, .inr (.inl f))) :: fmL Tm (g2, G.2) M2))) (wpermW _ _ _) ?_
    refine la_ref C (pc := 1451) (As := []) (st := []) cvL_241 (by decide +kernel) rfl rfl (Nat.le_of_ble_eq_true rfl) (by decide) hcw hsw (fm_dec dtLa_28 28 rfl) rfl h2 (fun r2 M3 h3 => ?_)
    obtain ⟨⟨v2, rfl⟩, hI3⟩ := h3
    refine z_then1 ?_
    refine z_pop C.1 (pc := 1454) rfl (fm_dec dtLa_28 29 rfl) ?_
    refine z_goto C.1 (pc := 1455) 1940 (by decide) (fm_dec dtLa_29 0 rfl) ?_
    refine z_more (Nat.le_succ _) (Nat.le_add_right _ 6) ?_
    exact z_perm (wpermB _ _ _) (la_fgt (kk M1 f M3 hI3))
  · cases h8
  · cases h8
set_option maxRecDepth 20000 in
theorem la_c33 {p : Program} {l : Launch} {e : Env} {s : State} {m : MethodId} {below : List Frame} {meth : Method} {c : Code} {G : fmG} {b n : Nat} {xs : Nat → Int32} {I : fmM → fmM → Prop} (hS : laS_ahead I) (C : laC p l s m meth c G b n xs) {g g2 : Nat → Nat} {M M2 : fmM} {f : Nat → Int64} {o t : Nat} {i : Int32} {cu su : Nat} (hi : laI n i t) (hcu : cu + 1 ≤ 601024) (hsu : su + 6 ≤ 7293034) (hcu1 : cu + 1 + 1 ≤ 601024) (hsu1 : su + 6 + 6 ≤ 7293034) (hI : I M M2) (kk : ∀ (M' : fmM) (f' : Nat → Int64) (M2' : fmM), I M' M2' → zEv p l e room_1 s m #[.ref b] below meth c G (fun q => s.heap.size ≤ q) 8 (lw_Z below #[.ref b] s) 1940 [some (.ref b), some (.ref (g 0)), some (.ref (g2 0)), some (.ref o), some (.int i), none, none, none] [] (fmL Tx (g, G.2) M' ++ ((o, .inl (G.2.2.1 1, 1, .inr (.inl f'))) :: fmL Tm (g2, G.2) M2')) (cu + 1) (su + 6)) : zEv p l e room_1 s m #[.ref b] below meth c G (fun q => s.heap.size ≤ q) 8 (lw_Z below #[.ref b] s) 1458 [some (.ref b), some (.ref (g 0)), some (.ref (g2 0)), some (.ref o), some (.int i), none, none, none] [] (fmL Tx (g, G.2) M ++ ((o, .inl (G.2.2.1 1, 1, .inr (.inl f))) :: fmL Tm (g2, G.2) M2)) cu su := by
  have h0 := hS M M2 (xs (t + 1)) (xs (t + 2)) hI
  refine z_aloadn C.1 (pc := 1458) (n := 1) 1 rfl rfl (fm_dec dtLa_29 1 rfl) ?_
  refine la_arg C (pc := 1459) (v := 1) (t + 1) rfl rfl (hi 1 (by decide)) (by decide) (fm_dec dtLa_29 2 rfl) (fm_dec dtLa_29 3 rfl) (fm_dec dtLa_29 4 rfl) (fm_dec dtLa_29 5 rfl) (fm_dec dtLa_29 6 rfl) ?_
  refine la_arg C (pc := 1465) (v := 2) (t + 2) rfl rfl (hi 2 (by decide)) (by decide) (fm_dec dtLa_29 7 rfl) (fm_dec dtLa_29 8 rfl) (fm_dec dtLa_29 9 rfl) (fm_dec dtLa_29 10 rfl) (fm_dec dtLa_29 11 rfl) ?_
  refine z_aloadn C.1 (pc := 1471) (n := 3) 3 rfl rfl (fm_dec dtLa_29 12 rfl) ?_
  have hw : pvGood Tx 250 qX10_ahead [.ref 0, .int (xs (t + 1)), .int (xs (t + 2))] M (wJ f (fun (r : Int32) (u : fmM × (Nat → Int64)) => pvGood Tm 250 qX11_ahead [.ref 0, .int (xs (t + 1)), .int (xs (t + 2))] M2 (fun r2 M2' => tJ r2 ∧ I u.1 M2')) (fun E M' => (E = fmIAE ∧ (fun (r : Int32) (u : fmM × (Nat → Int64)) => pvGood Tm 250 qX11_ahead [.ref 0, .int (xs (t + 1)), .int (xs (t + 2))] M2 (fun r2 M2' => tJ r2 ∧ I u.1 M2')) 1 (M', f)))) := h0.imp (fun r9 M9 h9 => by
    obtain ⟨h8, h2⟩ := h9
    rcases h8 with ⟨v, rfl⟩ | ⟨h6, rfl⟩ | ⟨h6, rfl⟩
    · exact h2
    · exact ⟨rfl, h2⟩
    · exact absurd h6 (by decide))
  refine z_callW C.1 (y' := qL_ahead) (hh := [(0, 9, 12, 13)]) (W0 := WX G g o (fmL Tm (g2, G.2) M2) (M, f)) (WW := WX G g o (fmL Tm (g2, G.2) M2)) (Q := fun (r : Int32) (u : fmM × (Nat → Int64)) => pvGood Tm 250 qX11_ahead [.ref 0, .int (xs (t + 1)), .int (xs (t + 2))] M2 (fun r2 M2' => tJ r2 ∧ I u.1 M2')) (As := [.ref (g 0), .int (xs (t + 1)), .int (xs (t + 2)), .ref o]) (st := []) (pc := 1472) (fm_c6 4 (by eq_refl) rfl) nst_L_ahead niL nw_L_ahead nd_L_ahead rfl rfl (by decide) (show 311 ≤ room_1.frames by decide) (show 8 + (5 + 11) + 18200 ≤ room_1.locals by decide) (rm_c hcu) (rm_s hsu) (fm_dec dtLa_29 13 rfl) (w_ahead C.2.2.2.2.2 hw) (fun r u hQ => ?_)
  obtain ⟨M1, f1⟩ := u
  refine z_istore C.1 (pc := 1475) (i := 5) (by decide) rfl (fm_dec dtLa_29 14 rfl) ?_
  dsimp only [List.set_cons_zero, List.set_cons_succ]
  refine z_aloadn C.1 (pc := 1477) (n := 2) 2 rfl rfl (fm_dec dtLa_29 15 rfl) ?_
  refine la_arg C (pc := 1478) (v := 1) (t + 1) rfl rfl (hi 1 (by decide)) (by decide) (fm_dec dtLa_29 16 rfl) (fm_dec dtLa_29 17 rfl) (fm_dec dtLa_29 18 rfl) (fm_dec dtLa_29 19 rfl) (fm_dec dtLa_29 20 rfl) ?_
  refine la_arg C (pc := 1484) (v := 2) (t + 2) rfl rfl (hi 2 (by decide)) (by decide) (fm_dec dtLa_29 21 rfl) (fm_dec dtLa_29 22 rfl) (fm_dec dtLa_29 23 rfl) (fm_dec dtLa_29 24 rfl) (fm_dec dtLa_29 25 rfl) ?_
  have hcw := hcu1
  have hsw := hsu1
  refine z_perm (ws := (fmL Tx (g, G.2) M1 ++ ((o, .inl (G.2.2.1 1, 1, .inr (.inl f1))) :: fmL Tm (g2, G.2) M2))) (wpermW _ _ _) ?_
  refine la_ref C (pc := 1490) (As := [.int (xs (t + 1)), .int (xs (t + 2))]) (st := []) cvL_244 (by decide +kernel) rfl rfl (Nat.le_of_ble_eq_true rfl) (by decide) hcw hsw (fm_dec dtLa_29 26 rfl) rfl hQ (fun r2 M3 h3 => ?_)
  obtain ⟨⟨v2, rfl⟩, hI3⟩ := h3
  refine z_then1 ?_
  refine z_lstore C.1 (pc := 1493) (i := 6) (by decide) rfl (fm_dec dtLa_29 27 rfl) ?_
  dsimp only [List.set_cons_zero, List.set_cons_succ]
  refine z_goto C.1 (pc := 1495) 1940 (by decide) (fm_dec dtLa_29 28 rfl) ?_
  exact z_perm (wpermB _ _ _) (la_fgt (kk M1 f1 M3 hI3))
set_option maxRecDepth 20000 in
theorem la_c34 {p : Program} {l : Launch} {e : Env} {s : State} {m : MethodId} {below : List Frame} {meth : Method} {c : Code} {G : fmG} {b n : Nat} {xs : Nat → Int32} {I : fmM → fmM → Prop} (hS : laS_lives I) (C : laC p l s m meth c G b n xs) {g g2 : Nat → Nat} {M M2 : fmM} {f : Nat → Int64} {o t : Nat} {i : Int32} {cu su : Nat} (hi : laI n i t) (hcu : cu + 1 ≤ 601024) (hsu : su + 6 ≤ 7293034) (hcu1 : cu + 1 + 1 ≤ 601024) (hsu1 : su + 6 + 6 ≤ 7293034) (hI : I M M2) (kk : ∀ (M' : fmM) (f' : Nat → Int64) (M2' : fmM), I M' M2' → zEv p l e room_1 s m #[.ref b] below meth c G (fun q => s.heap.size ≤ q) 8 (lw_Z below #[.ref b] s) 1940 [some (.ref b), some (.ref (g 0)), some (.ref (g2 0)), some (.ref o), some (.int i), none, none, none] [] (fmL Tx (g, G.2) M' ++ ((o, .inl (G.2.2.1 1, 1, .inr (.inl f'))) :: fmL Tm (g2, G.2) M2')) (cu + 1) (su + 6)) : zEv p l e room_1 s m #[.ref b] below meth c G (fun q => s.heap.size ≤ q) 8 (lw_Z below #[.ref b] s) 1498 [some (.ref b), some (.ref (g 0)), some (.ref (g2 0)), some (.ref o), some (.int i), none, none, none] [] (fmL Tx (g, G.2) M ++ ((o, .inl (G.2.2.1 1, 1, .inr (.inl f))) :: fmL Tm (g2, G.2) M2)) cu su := by
  have h0 := hS M M2 (xs (t + 1)) (xs (t + 2)) (xs (t + 3)) hI
  refine z_aloadn C.1 (pc := 1498) (n := 1) 1 rfl rfl (fm_dec dtLa_29 29 rfl) ?_
  refine la_arg C (pc := 1499) (v := 1) (t + 1) rfl rfl (hi 1 (by decide)) (by decide) (fm_dec dtLa_30 0 rfl) (fm_dec dtLa_30 1 rfl) (fm_dec dtLa_30 2 rfl) (fm_dec dtLa_30 3 rfl) (fm_dec dtLa_30 4 rfl) ?_
  refine la_arg C (pc := 1505) (v := 2) (t + 2) rfl rfl (hi 2 (by decide)) (by decide) (fm_dec dtLa_30 5 rfl) (fm_dec dtLa_30 6 rfl) (fm_dec dtLa_30 7 rfl) (fm_dec dtLa_30 8 rfl) (fm_dec dtLa_30 9 rfl) ?_
  refine la_arg C (pc := 1511) (v := 3) (t + 3) rfl rfl (hi 3 (by decide)) (by decide) (fm_dec dtLa_30 10 rfl) (fm_dec dtLa_30 11 rfl) (fm_dec dtLa_30 12 rfl) (fm_dec dtLa_30 13 rfl) (fm_dec dtLa_30 14 rfl) ?_
  refine z_aloadn C.1 (pc := 1517) (n := 3) 3 rfl rfl (fm_dec dtLa_30 15 rfl) ?_
  have hw : pvGood Tx 250 qX10_lives [.ref 0, .int (xs (t + 1)), .int (xs (t + 2)), .int (xs (t + 3))] M (wJ f (fun (r : Int32) (u : fmM × (Nat → Int64)) => pvGood Tm 250 qX11_lives [.ref 0, .int (xs (t + 1)), .int (xs (t + 2)), .int (xs (t + 3))] M2 (fun r2 M2' => tJ r2 ∧ I u.1 M2')) (fun E M' => (E = fmNSE ∧ (fun (r : Int32) (u : fmM × (Nat → Int64)) => pvGood Tm 250 qX11_lives [.ref 0, .int (xs (t + 1)), .int (xs (t + 2)), .int (xs (t + 3))] M2 (fun r2 M2' => tJ r2 ∧ I u.1 M2')) 1 (M', f)) ∨ (E = fmIAE ∧ (fun (r : Int32) (u : fmM × (Nat → Int64)) => pvGood Tm 250 qX11_lives [.ref 0, .int (xs (t + 1)), .int (xs (t + 2)), .int (xs (t + 3))] M2 (fun r2 M2' => tJ r2 ∧ I u.1 M2')) 2 (M', f)))) := h0.imp (fun r9 M9 h9 => by
    obtain ⟨h8, h2⟩ := h9
    rcases h8 with ⟨v, rfl⟩ | ⟨-, rfl⟩ | ⟨-, rfl⟩
    · exact h2
    · exact Or.inr ⟨rfl, h2⟩
    · exact Or.inl ⟨rfl, h2⟩)
  refine z_callW C.1 (y' := qL_lives) (hh := [(0, 11, 14, 31), (0, 11, 18, 13)]) (W0 := WX G g o (fmL Tm (g2, G.2) M2) (M, f)) (WW := WX G g o (fmL Tm (g2, G.2) M2)) (Q := fun (r : Int32) (u : fmM × (Nat → Int64)) => pvGood Tm 250 qX11_lives [.ref 0, .int (xs (t + 1)), .int (xs (t + 2)), .int (xs (t + 3))] M2 (fun r2 M2' => tJ r2 ∧ I u.1 M2')) (As := [.ref (g 0), .int (xs (t + 1)), .int (xs (t + 2)), .int (xs (t + 3)), .ref o]) (st := []) (pc := 1518) (fm_c6 11 (by eq_refl) rfl) nst_L_lives niL nw_L_lives nd_L_lives rfl rfl (by decide) (show 311 ≤ room_1.frames by decide) (show 8 + (6 + 11) + 18200 ≤ room_1.locals by decide) (rm_c hcu) (rm_s hsu) (fm_dec dtLa_30 16 rfl) (w_lives C.2.2.2.2.2 hw) (fun r u hQ => ?_)
  obtain ⟨M1, f1⟩ := u
  refine z_istore C.1 (pc := 1521) (i := 5) (by decide) rfl (fm_dec dtLa_30 17 rfl) ?_
  dsimp only [List.set_cons_zero, List.set_cons_succ]
  refine z_aloadn C.1 (pc := 1523) (n := 2) 2 rfl rfl (fm_dec dtLa_30 18 rfl) ?_
  refine la_arg C (pc := 1524) (v := 1) (t + 1) rfl rfl (hi 1 (by decide)) (by decide) (fm_dec dtLa_30 19 rfl) (fm_dec dtLa_30 20 rfl) (fm_dec dtLa_30 21 rfl) (fm_dec dtLa_30 22 rfl) (fm_dec dtLa_30 23 rfl) ?_
  refine la_arg C (pc := 1530) (v := 2) (t + 2) rfl rfl (hi 2 (by decide)) (by decide) (fm_dec dtLa_30 24 rfl) (fm_dec dtLa_30 25 rfl) (fm_dec dtLa_30 26 rfl) (fm_dec dtLa_30 27 rfl) (fm_dec dtLa_30 28 rfl) ?_
  refine la_arg C (pc := 1536) (v := 3) (t + 3) rfl rfl (hi 3 (by decide)) (by decide) (fm_dec dtLa_30 29 rfl) (fm_dec dtLa_31 0 rfl) (fm_dec dtLa_31 1 rfl) (fm_dec dtLa_31 2 rfl) (fm_dec dtLa_31 3 rfl) ?_
  have hcw := hcu1
  have hsw := hsu1
  refine z_perm (ws := (fmL Tx (g, G.2) M1 ++ ((o, .inl (G.2.2.1 1, 1, .inr (.inl f1))) :: fmL Tm (g2, G.2) M2))) (wpermW _ _ _) ?_
  refine la_ref C (pc := 1542) (As := [.int (xs (t + 1)), .int (xs (t + 2)), .int (xs (t + 3))]) (st := []) cvL_247 (by decide +kernel) rfl rfl (Nat.le_of_ble_eq_true rfl) (by decide) hcw hsw (fm_dec dtLa_31 4 rfl) rfl hQ (fun r2 M3 h3 => ?_)
  obtain ⟨⟨v2, rfl⟩, hI3⟩ := h3
  refine z_then1 ?_
  refine z_lstore C.1 (pc := 1545) (i := 6) (by decide) rfl (fm_dec dtLa_31 5 rfl) ?_
  dsimp only [List.set_cons_zero, List.set_cons_succ]
  refine z_goto C.1 (pc := 1547) 1940 (by decide) (fm_dec dtLa_31 6 rfl) ?_
  exact z_perm (wpermB _ _ _) (la_fgt (kk M1 f1 M3 hI3))
set_option maxRecDepth 20000 in
theorem la_c35 {p : Program} {l : Launch} {e : Env} {s : State} {m : MethodId} {below : List Frame} {meth : Method} {c : Code} {G : fmG} {b n : Nat} {xs : Nat → Int32} {I : fmM → fmM → Prop} (hS : laS_oldest I) (C : laC p l s m meth c G b n xs) {g g2 : Nat → Nat} {M M2 : fmM} {f : Nat → Int64} {o t : Nat} {i : Int32} {cu su : Nat} (hi : laI n i t) (hcu : cu + 1 ≤ 601024) (hsu : su + 6 ≤ 7293034) (hcu1 : cu + 1 + 1 ≤ 601024) (hsu1 : su + 6 + 6 ≤ 7293034) (hI : I M M2) (kk : ∀ (M' : fmM) (f' : Nat → Int64) (M2' : fmM), I M' M2' → zEv p l e room_1 s m #[.ref b] below meth c G (fun q => s.heap.size ≤ q) 8 (lw_Z below #[.ref b] s) 1940 [some (.ref b), some (.ref (g 0)), some (.ref (g2 0)), some (.ref o), some (.int i), none, none, none] [] (fmL Tx (g, G.2) M' ++ ((o, .inl (G.2.2.1 1, 1, .inr (.inl f'))) :: fmL Tm (g2, G.2) M2')) (cu + 1) (su + 6)) : zEv p l e room_1 s m #[.ref b] below meth c G (fun q => s.heap.size ≤ q) 8 (lw_Z below #[.ref b] s) 1550 [some (.ref b), some (.ref (g 0)), some (.ref (g2 0)), some (.ref o), some (.int i), none, none, none] [] (fmL Tx (g, G.2) M ++ ((o, .inl (G.2.2.1 1, 1, .inr (.inl f))) :: fmL Tm (g2, G.2) M2)) cu su := by
  have h0 := hS M M2 hI
  refine z_aloadn C.1 (pc := 1550) (n := 1) 1 rfl rfl (fm_dec dtLa_31 7 rfl) ?_
  refine z_callX C.1 (T := Tx) (g := g) (M := M) (rest := (o, .inl (G.2.2.1 1, 1, .inr (.inl f))) :: fmL Tm (g2, G.2) M2) (k := 0) (ci := 10) (d' := 250) (pc := 1551) (As := []) (st := []) cvL_248 (by decide) rfl rfl rfl (by decide) (rm_fr (by decide)) (rm_lo (by decide) (by decide)) (rm_c hcu) (rm_s hsu) (fm_dec dtLa_31 8 rfl) ?_
  refine fmGood.imp (pvGood.fm C.2.2.2.2.2 (by decide) (by decide +kernel) h0) (fun o9 M1 h9 => ?_)
  obtain ⟨o', rfl, h8, h2⟩ := h9
  rcases h8 with ⟨v, rfl⟩ | ⟨h8, -⟩ | ⟨h8, -⟩
  · refine z_then1 ?_
    refine z_pop C.1 (pc := 1554) rfl (fm_dec dtLa_31 9 rfl) ?_
    refine z_aloadn C.1 (pc := 1555) (n := 2) 2 rfl rfl (fm_dec dtLa_31 10 rfl) ?_
    have hcw := hcu
    have hsw := hsu
    refine z_perm (ws := (fmL Tx (g, G.2) M1 ++ ((o, .inl (G.2.2.1 1, 1, .inr (.inl f))) :: fmL Tm (g2, G.2) M2))) (wpermW _ _ _) ?_
    refine la_ref C (pc := 1556) (As := []) (st := []) cvL_251 (by decide +kernel) rfl rfl (Nat.le_of_ble_eq_true rfl) (by decide) hcw hsw (fm_dec dtLa_31 11 rfl) rfl h2 (fun r2 M3 h3 => ?_)
    obtain ⟨⟨v2, rfl⟩, hI3⟩ := h3
    refine z_then1 ?_
    refine z_pop C.1 (pc := 1559) rfl (fm_dec dtLa_31 12 rfl) ?_
    refine z_goto C.1 (pc := 1560) 1940 (by decide) (fm_dec dtLa_31 13 rfl) ?_
    refine z_more (Nat.le_succ _) (Nat.le_add_right _ 6) ?_
    exact z_perm (wpermB _ _ _) (la_fgt (kk M1 f M3 hI3))
  · cases h8
  · cases h8
set_option maxRecDepth 20000 in
theorem la_c36 {p : Program} {l : Launch} {e : Env} {s : State} {m : MethodId} {below : List Frame} {meth : Method} {c : Code} {G : fmG} {b n : Nat} {xs : Nat → Int32} {I : fmM → fmM → Prop} (hS : laS_chain I) (C : laC p l s m meth c G b n xs) {g g2 : Nat → Nat} {M M2 : fmM} {f : Nat → Int64} {o t : Nat} {i : Int32} {cu su : Nat} (hi : laI n i t) (hcu : cu + 1 ≤ 601024) (hsu : su + 6 ≤ 7293034) (hcu1 : cu + 1 + 1 ≤ 601024) (hsu1 : su + 6 + 6 ≤ 7293034) (hI : I M M2) (kk : ∀ (M' : fmM) (f' : Nat → Int64) (M2' : fmM), I M' M2' → zEv p l e room_1 s m #[.ref b] below meth c G (fun q => s.heap.size ≤ q) 8 (lw_Z below #[.ref b] s) 1940 [some (.ref b), some (.ref (g 0)), some (.ref (g2 0)), some (.ref o), some (.int i), none, none, none] [] (fmL Tx (g, G.2) M' ++ ((o, .inl (G.2.2.1 1, 1, .inr (.inl f'))) :: fmL Tm (g2, G.2) M2')) (cu + 1) (su + 6)) : zEv p l e room_1 s m #[.ref b] below meth c G (fun q => s.heap.size ≤ q) 8 (lw_Z below #[.ref b] s) 1563 [some (.ref b), some (.ref (g 0)), some (.ref (g2 0)), some (.ref o), some (.int i), none, none, none] [] (fmL Tx (g, G.2) M ++ ((o, .inl (G.2.2.1 1, 1, .inr (.inl f))) :: fmL Tm (g2, G.2) M2)) cu su := by
  have h0 := hS M M2 (xs (t + 1)) (xs (t + 2)) hI
  refine z_aloadn C.1 (pc := 1563) (n := 1) 1 rfl rfl (fm_dec dtLa_31 14 rfl) ?_
  refine la_arg C (pc := 1564) (v := 1) (t + 1) rfl rfl (hi 1 (by decide)) (by decide) (fm_dec dtLa_31 15 rfl) (fm_dec dtLa_31 16 rfl) (fm_dec dtLa_31 17 rfl) (fm_dec dtLa_31 18 rfl) (fm_dec dtLa_31 19 rfl) ?_
  refine la_arg C (pc := 1570) (v := 2) (t + 2) rfl rfl (hi 2 (by decide)) (by decide) (fm_dec dtLa_31 20 rfl) (fm_dec dtLa_31 21 rfl) (fm_dec dtLa_31 22 rfl) (fm_dec dtLa_31 23 rfl) (fm_dec dtLa_31 24 rfl) ?_
  refine z_aloadn C.1 (pc := 1576) (n := 3) 3 rfl rfl (fm_dec dtLa_31 25 rfl) ?_
  have hw : pvGood Tx 250 qX10_chain [.ref 0, .int (xs (t + 1)), .int (xs (t + 2))] M (wI f (fun (r : Int32) (u : fmM × (Nat → Int64)) => pvGood Tm 250 qX11_chain [.ref 0, .int (xs (t + 1)), .int (xs (t + 2))] M2 (fun r2 M2' => tI r2 ∧ I u.1 M2')) (fun E M' => (E = fmNSE ∧ (fun (r : Int32) (u : fmM × (Nat → Int64)) => pvGood Tm 250 qX11_chain [.ref 0, .int (xs (t + 1)), .int (xs (t + 2))] M2 (fun r2 M2' => tI r2 ∧ I u.1 M2')) 1 (M', f)) ∨ (E = fmIAE ∧ (fun (r : Int32) (u : fmM × (Nat → Int64)) => pvGood Tm 250 qX11_chain [.ref 0, .int (xs (t + 1)), .int (xs (t + 2))] M2 (fun r2 M2' => tI r2 ∧ I u.1 M2')) 2 (M', f)))) := h0.imp (fun r9 M9 h9 => by
    obtain ⟨h8, h2⟩ := h9
    rcases h8 with ⟨v, rfl⟩ | ⟨-, rfl⟩ | ⟨-, rfl⟩
    · exact h2
    · exact Or.inr ⟨rfl, h2⟩
    · exact Or.inl ⟨rfl, h2⟩)
  refine z_callW C.1 (y' := qL_chain) (hh := [(0, 10, 13, 31), (0, 10, 17, 13)]) (W0 := WX G g o (fmL Tm (g2, G.2) M2) (M, f)) (WW := WX G g o (fmL Tm (g2, G.2) M2)) (Q := fun (r : Int32) (u : fmM × (Nat → Int64)) => pvGood Tm 250 qX11_chain [.ref 0, .int (xs (t + 1)), .int (xs (t + 2))] M2 (fun r2 M2' => tI r2 ∧ I u.1 M2')) (As := [.ref (g 0), .int (xs (t + 1)), .int (xs (t + 2)), .ref o]) (st := []) (pc := 1577) (fm_c6 18 (by eq_refl) rfl) nst_L_chain niL nw_L_chain nd_L_chain rfl rfl (by decide) (show 311 ≤ room_1.frames by decide) (show 8 + (5 + 11) + 18200 ≤ room_1.locals by decide) (rm_c hcu) (rm_s hsu) (fm_dec dtLa_31 26 rfl) (w_chain C.2.2.2.2.2 hw) (fun r u hQ => ?_)
  obtain ⟨M1, f1⟩ := u
  refine z_istore C.1 (pc := 1580) (i := 5) (by decide) rfl (fm_dec dtLa_31 27 rfl) ?_
  dsimp only [List.set_cons_zero, List.set_cons_succ]
  refine z_aloadn C.1 (pc := 1582) (n := 2) 2 rfl rfl (fm_dec dtLa_31 28 rfl) ?_
  refine la_arg C (pc := 1583) (v := 1) (t + 1) rfl rfl (hi 1 (by decide)) (by decide) (fm_dec dtLa_31 29 rfl) (fm_dec dtLa_32 0 rfl) (fm_dec dtLa_32 1 rfl) (fm_dec dtLa_32 2 rfl) (fm_dec dtLa_32 3 rfl) ?_
  refine la_arg C (pc := 1589) (v := 2) (t + 2) rfl rfl (hi 2 (by decide)) (by decide) (fm_dec dtLa_32 4 rfl) (fm_dec dtLa_32 5 rfl) (fm_dec dtLa_32 6 rfl) (fm_dec dtLa_32 7 rfl) (fm_dec dtLa_32 8 rfl) ?_
  have hcw := hcu1
  have hsw := hsu1
  refine z_perm (ws := (fmL Tx (g, G.2) M1 ++ ((o, .inl (G.2.2.1 1, 1, .inr (.inl f1))) :: fmL Tm (g2, G.2) M2))) (wpermW _ _ _) ?_
  refine la_ref C (pc := 1595) (As := [.int (xs (t + 1)), .int (xs (t + 2))]) (st := []) cvL_254 (by decide +kernel) rfl rfl (Nat.le_of_ble_eq_true rfl) (by decide) hcw hsw (fm_dec dtLa_32 9 rfl) rfl hQ (fun r2 M3 h3 => ?_)
  obtain ⟨⟨v2, rfl⟩, hI3⟩ := h3
  refine z_then1 ?_
  refine z_istore C.1 (pc := 1598) (i := 6) (by decide) rfl (fm_dec dtLa_32 10 rfl) ?_
  dsimp only [List.set_cons_zero, List.set_cons_succ]
  refine z_goto C.1 (pc := 1600) 1940 (by decide) (fm_dec dtLa_32 11 rfl) ?_
  exact z_perm (wpermB _ _ _) (la_fgt (kk M1 f1 M3 hI3))
set_option maxRecDepth 20000 in
theorem la_c37 {p : Program} {l : Launch} {e : Env} {s : State} {m : MethodId} {below : List Frame} {meth : Method} {c : Code} {G : fmG} {b n : Nat} {xs : Nat → Int32} {I : fmM → fmM → Prop} (hS : laS_due I) (C : laC p l s m meth c G b n xs) {g g2 : Nat → Nat} {M M2 : fmM} {f : Nat → Int64} {o t : Nat} {i : Int32} {cu su : Nat} (hi : laI n i t) (hcu : cu + 1 ≤ 601024) (hsu : su + 6 ≤ 7293034) (hcu1 : cu + 1 + 1 ≤ 601024) (hsu1 : su + 6 + 6 ≤ 7293034) (hI : I M M2) (kk : ∀ (M' : fmM) (f' : Nat → Int64) (M2' : fmM), I M' M2' → zEv p l e room_1 s m #[.ref b] below meth c G (fun q => s.heap.size ≤ q) 8 (lw_Z below #[.ref b] s) 1940 [some (.ref b), some (.ref (g 0)), some (.ref (g2 0)), some (.ref o), some (.int i), none, none, none] [] (fmL Tx (g, G.2) M' ++ ((o, .inl (G.2.2.1 1, 1, .inr (.inl f'))) :: fmL Tm (g2, G.2) M2')) (cu + 1) (su + 6)) : zEv p l e room_1 s m #[.ref b] below meth c G (fun q => s.heap.size ≤ q) 8 (lw_Z below #[.ref b] s) 1603 [some (.ref b), some (.ref (g 0)), some (.ref (g2 0)), some (.ref o), some (.int i), none, none, none] [] (fmL Tx (g, G.2) M ++ ((o, .inl (G.2.2.1 1, 1, .inr (.inl f))) :: fmL Tm (g2, G.2) M2)) cu su := by
  have h0 := hS M M2 (xs (t + 1)) (xs (t + 2)) hI
  refine z_aloadn C.1 (pc := 1603) (n := 1) 1 rfl rfl (fm_dec dtLa_32 12 rfl) ?_
  refine la_arg C (pc := 1604) (v := 1) (t + 1) rfl rfl (hi 1 (by decide)) (by decide) (fm_dec dtLa_32 13 rfl) (fm_dec dtLa_32 14 rfl) (fm_dec dtLa_32 15 rfl) (fm_dec dtLa_32 16 rfl) (fm_dec dtLa_32 17 rfl) ?_
  refine la_arg C (pc := 1610) (v := 2) (t + 2) rfl rfl (hi 2 (by decide)) (by decide) (fm_dec dtLa_32 18 rfl) (fm_dec dtLa_32 19 rfl) (fm_dec dtLa_32 20 rfl) (fm_dec dtLa_32 21 rfl) (fm_dec dtLa_32 22 rfl) ?_
  refine z_aloadn C.1 (pc := 1616) (n := 3) 3 rfl rfl (fm_dec dtLa_32 23 rfl) ?_
  have hw : pvGood Tx 250 qX10_due [.ref 0, .int (xs (t + 1)), .int (xs (t + 2))] M (wI f (fun (r : Int32) (u : fmM × (Nat → Int64)) => pvGood Tm 250 qX11_due [.ref 0, .int (xs (t + 1)), .int (xs (t + 2))] M2 (fun r2 M2' => tI r2 ∧ I u.1 M2')) (fun E M' => (E = fmNSE ∧ (fun (r : Int32) (u : fmM × (Nat → Int64)) => pvGood Tm 250 qX11_due [.ref 0, .int (xs (t + 1)), .int (xs (t + 2))] M2 (fun r2 M2' => tI r2 ∧ I u.1 M2')) 1 (M', f)) ∨ (E = fmIAE ∧ (fun (r : Int32) (u : fmM × (Nat → Int64)) => pvGood Tm 250 qX11_due [.ref 0, .int (xs (t + 1)), .int (xs (t + 2))] M2 (fun r2 M2' => tI r2 ∧ I u.1 M2')) 2 (M', f)))) := h0.imp (fun r9 M9 h9 => by
    obtain ⟨h8, h2⟩ := h9
    rcases h8 with ⟨v, rfl⟩ | ⟨-, rfl⟩ | ⟨-, rfl⟩
    · exact h2
    · exact Or.inr ⟨rfl, h2⟩
    · exact Or.inl ⟨rfl, h2⟩)
  refine z_callW C.1 (y' := qL_due) (hh := [(0, 10, 13, 31), (0, 10, 17, 13)]) (W0 := WX G g o (fmL Tm (g2, G.2) M2) (M, f)) (WW := WX G g o (fmL Tm (g2, G.2) M2)) (Q := fun (r : Int32) (u : fmM × (Nat → Int64)) => pvGood Tm 250 qX11_due [.ref 0, .int (xs (t + 1)), .int (xs (t + 2))] M2 (fun r2 M2' => tI r2 ∧ I u.1 M2')) (As := [.ref (g 0), .int (xs (t + 1)), .int (xs (t + 2)), .ref o]) (st := []) (pc := 1617) (fm_c6 25 (by eq_refl) rfl) nst_L_due niL nw_L_due nd_L_due rfl rfl (by decide) (show 311 ≤ room_1.frames by decide) (show 8 + (5 + 11) + 18200 ≤ room_1.locals by decide) (rm_c hcu) (rm_s hsu) (fm_dec dtLa_32 24 rfl) (w_due C.2.2.2.2.2 hw) (fun r u hQ => ?_)
  obtain ⟨M1, f1⟩ := u
  refine z_istore C.1 (pc := 1620) (i := 5) (by decide) rfl (fm_dec dtLa_32 25 rfl) ?_
  dsimp only [List.set_cons_zero, List.set_cons_succ]
  refine z_aloadn C.1 (pc := 1622) (n := 2) 2 rfl rfl (fm_dec dtLa_32 26 rfl) ?_
  refine la_arg C (pc := 1623) (v := 1) (t + 1) rfl rfl (hi 1 (by decide)) (by decide) (fm_dec dtLa_32 27 rfl) (fm_dec dtLa_32 28 rfl) (fm_dec dtLa_32 29 rfl) (fm_dec dtLa_33 0 rfl) (fm_dec dtLa_33 1 rfl) ?_
  refine la_arg C (pc := 1629) (v := 2) (t + 2) rfl rfl (hi 2 (by decide)) (by decide) (fm_dec dtLa_33 2 rfl) (fm_dec dtLa_33 3 rfl) (fm_dec dtLa_33 4 rfl) (fm_dec dtLa_33 5 rfl) (fm_dec dtLa_33 6 rfl) ?_
  have hcw := hcu1
  have hsw := hsu1
  refine z_perm (ws := (fmL Tx (g, G.2) M1 ++ ((o, .inl (G.2.2.1 1, 1, .inr (.inl f1))) :: fmL Tm (g2, G.2) M2))) (wpermW _ _ _) ?_
  refine la_ref C (pc := 1635) (As := [.int (xs (t + 1)), .int (xs (t + 2))]) (st := []) cvL_257 (by decide +kernel) rfl rfl (Nat.le_of_ble_eq_true rfl) (by decide) hcw hsw (fm_dec dtLa_33 7 rfl) rfl hQ (fun r2 M3 h3 => ?_)
  obtain ⟨⟨v2, rfl⟩, hI3⟩ := h3
  refine z_then1 ?_
  refine z_istore C.1 (pc := 1638) (i := 6) (by decide) rfl (fm_dec dtLa_33 8 rfl) ?_
  dsimp only [List.set_cons_zero, List.set_cons_succ]
  refine z_goto C.1 (pc := 1640) 1940 (by decide) (fm_dec dtLa_33 9 rfl) ?_
  exact z_perm (wpermB _ _ _) (la_fgt (kk M1 f1 M3 hI3))
set_option maxRecDepth 20000 in
theorem la_c38 {p : Program} {l : Launch} {e : Env} {s : State} {m : MethodId} {below : List Frame} {meth : Method} {c : Code} {G : fmG} {b n : Nat} {xs : Nat → Int32} {I : fmM → fmM → Prop} (hS : laS_news I) (C : laC p l s m meth c G b n xs) {g g2 : Nat → Nat} {M M2 : fmM} {f : Nat → Int64} {o t : Nat} {i : Int32} {cu su : Nat} (hi : laI n i t) (hcu : cu + 1 ≤ 601024) (hsu : su + 6 ≤ 7293034) (hcu1 : cu + 1 + 1 ≤ 601024) (hsu1 : su + 6 + 6 ≤ 7293034) (hI : I M M2) (kk : ∀ (M' : fmM) (f' : Nat → Int64) (M2' : fmM), I M' M2' → zEv p l e room_1 s m #[.ref b] below meth c G (fun q => s.heap.size ≤ q) 8 (lw_Z below #[.ref b] s) 1940 [some (.ref b), some (.ref (g 0)), some (.ref (g2 0)), some (.ref o), some (.int i), none, none, none] [] (fmL Tx (g, G.2) M' ++ ((o, .inl (G.2.2.1 1, 1, .inr (.inl f'))) :: fmL Tm (g2, G.2) M2')) (cu + 1) (su + 6)) : zEv p l e room_1 s m #[.ref b] below meth c G (fun q => s.heap.size ≤ q) 8 (lw_Z below #[.ref b] s) 1643 [some (.ref b), some (.ref (g 0)), some (.ref (g2 0)), some (.ref o), some (.int i), none, none, none] [] (fmL Tx (g, G.2) M ++ ((o, .inl (G.2.2.1 1, 1, .inr (.inl f))) :: fmL Tm (g2, G.2) M2)) cu su := by
  have h0 := hS M M2 (xs (t + 1)) hI
  refine z_aloadn C.1 (pc := 1643) (n := 1) 1 rfl rfl (fm_dec dtLa_33 10 rfl) ?_
  refine la_arg C (pc := 1644) (v := 1) (t + 1) rfl rfl (hi 1 (by decide)) (by decide) (fm_dec dtLa_33 11 rfl) (fm_dec dtLa_33 12 rfl) (fm_dec dtLa_33 13 rfl) (fm_dec dtLa_33 14 rfl) (fm_dec dtLa_33 15 rfl) ?_
  refine z_aloadn C.1 (pc := 1650) (n := 3) 3 rfl rfl (fm_dec dtLa_33 16 rfl) ?_
  have hw : pvGood Tx 250 qX10_news [.ref 0, .int (xs (t + 1))] M (wI f (fun (r : Int32) (u : fmM × (Nat → Int64)) => pvGood Tm 250 qX11_news [.ref 0, .int (xs (t + 1))] M2 (fun r2 M2' => tI r2 ∧ I u.1 M2')) (fun E M' => (E = fmNSE ∧ (fun (r : Int32) (u : fmM × (Nat → Int64)) => pvGood Tm 250 qX11_news [.ref 0, .int (xs (t + 1))] M2 (fun r2 M2' => tI r2 ∧ I u.1 M2')) 1 (M', f)))) := h0.imp (fun r9 M9 h9 => by
    obtain ⟨h8, h2⟩ := h9
    rcases h8 with ⟨v, rfl⟩ | ⟨h6, rfl⟩ | ⟨h6, rfl⟩
    · exact h2
    · exact absurd h6 (by decide)
    · exact ⟨rfl, h2⟩)
  refine z_callW C.1 (y' := qL_news) (hh := [(0, 9, 12, 31)]) (W0 := WX G g o (fmL Tm (g2, G.2) M2) (M, f)) (WW := WX G g o (fmL Tm (g2, G.2) M2)) (Q := fun (r : Int32) (u : fmM × (Nat → Int64)) => pvGood Tm 250 qX11_news [.ref 0, .int (xs (t + 1))] M2 (fun r2 M2' => tI r2 ∧ I u.1 M2')) (As := [.ref (g 0), .int (xs (t + 1)), .ref o]) (st := []) (pc := 1651) (fm_c6 32 (by eq_refl) rfl) nst_L_news niL nw_L_news nd_L_news rfl rfl (by decide) (show 311 ≤ room_1.frames by decide) (show 8 + (4 + 11) + 18200 ≤ room_1.locals by decide) (rm_c hcu) (rm_s hsu) (fm_dec dtLa_33 17 rfl) (w_news C.2.2.2.2.2 hw) (fun r u hQ => ?_)
  obtain ⟨M1, f1⟩ := u
  refine z_istore C.1 (pc := 1654) (i := 5) (by decide) rfl (fm_dec dtLa_33 18 rfl) ?_
  dsimp only [List.set_cons_zero, List.set_cons_succ]
  refine z_aloadn C.1 (pc := 1656) (n := 2) 2 rfl rfl (fm_dec dtLa_33 19 rfl) ?_
  refine la_arg C (pc := 1657) (v := 1) (t + 1) rfl rfl (hi 1 (by decide)) (by decide) (fm_dec dtLa_33 20 rfl) (fm_dec dtLa_33 21 rfl) (fm_dec dtLa_33 22 rfl) (fm_dec dtLa_33 23 rfl) (fm_dec dtLa_33 24 rfl) ?_
  have hcw := hcu1
  have hsw := hsu1
  refine z_perm (ws := (fmL Tx (g, G.2) M1 ++ ((o, .inl (G.2.2.1 1, 1, .inr (.inl f1))) :: fmL Tm (g2, G.2) M2))) (wpermW _ _ _) ?_
  refine la_ref C (pc := 1663) (As := [.int (xs (t + 1))]) (st := []) cvL_260 (by decide +kernel) rfl rfl (Nat.le_of_ble_eq_true rfl) (by decide) hcw hsw (fm_dec dtLa_33 25 rfl) rfl hQ (fun r2 M3 h3 => ?_)
  obtain ⟨⟨v2, rfl⟩, hI3⟩ := h3
  refine z_then1 ?_
  refine z_istore C.1 (pc := 1666) (i := 6) (by decide) rfl (fm_dec dtLa_33 26 rfl) ?_
  dsimp only [List.set_cons_zero, List.set_cons_succ]
  refine z_goto C.1 (pc := 1668) 1940 (by decide) (fm_dec dtLa_33 27 rfl) ?_
  exact z_perm (wpermB _ _ _) (la_fgt (kk M1 f1 M3 hI3))
set_option maxRecDepth 20000 in
theorem la_c39 {p : Program} {l : Launch} {e : Env} {s : State} {m : MethodId} {below : List Frame} {meth : Method} {c : Code} {G : fmG} {b n : Nat} {xs : Nat → Int32} {I : fmM → fmM → Prop} (hS : laS_expects I) (C : laC p l s m meth c G b n xs) {g g2 : Nat → Nat} {M M2 : fmM} {f : Nat → Int64} {o t : Nat} {i : Int32} {cu su : Nat} (hi : laI n i t) (hcu : cu + 1 ≤ 601024) (hsu : su + 6 ≤ 7293034) (hcu1 : cu + 1 + 1 ≤ 601024) (hsu1 : su + 6 + 6 ≤ 7293034) (hI : I M M2) (kk : ∀ (M' : fmM) (f' : Nat → Int64) (M2' : fmM), I M' M2' → zEv p l e room_1 s m #[.ref b] below meth c G (fun q => s.heap.size ≤ q) 8 (lw_Z below #[.ref b] s) 1940 [some (.ref b), some (.ref (g 0)), some (.ref (g2 0)), some (.ref o), some (.int i), none, none, none] [] (fmL Tx (g, G.2) M' ++ ((o, .inl (G.2.2.1 1, 1, .inr (.inl f'))) :: fmL Tm (g2, G.2) M2')) (cu + 1) (su + 6)) : zEv p l e room_1 s m #[.ref b] below meth c G (fun q => s.heap.size ≤ q) 8 (lw_Z below #[.ref b] s) 1671 [some (.ref b), some (.ref (g 0)), some (.ref (g2 0)), some (.ref o), some (.int i), none, none, none] [] (fmL Tx (g, G.2) M ++ ((o, .inl (G.2.2.1 1, 1, .inr (.inl f))) :: fmL Tm (g2, G.2) M2)) cu su := by
  have h0 := hS M M2 (xs (t + 1)) (xs (t + 2)) (xs (t + 3)) hI
  refine z_aloadn C.1 (pc := 1671) (n := 1) 1 rfl rfl (fm_dec dtLa_33 28 rfl) ?_
  refine la_arg C (pc := 1672) (v := 1) (t + 1) rfl rfl (hi 1 (by decide)) (by decide) (fm_dec dtLa_33 29 rfl) (fm_dec dtLa_34 0 rfl) (fm_dec dtLa_34 1 rfl) (fm_dec dtLa_34 2 rfl) (fm_dec dtLa_34 3 rfl) ?_
  refine la_arg C (pc := 1678) (v := 2) (t + 2) rfl rfl (hi 2 (by decide)) (by decide) (fm_dec dtLa_34 4 rfl) (fm_dec dtLa_34 5 rfl) (fm_dec dtLa_34 6 rfl) (fm_dec dtLa_34 7 rfl) (fm_dec dtLa_34 8 rfl) ?_
  refine la_arg C (pc := 1684) (v := 3) (t + 3) rfl rfl (hi 3 (by decide)) (by decide) (fm_dec dtLa_34 9 rfl) (fm_dec dtLa_34 10 rfl) (fm_dec dtLa_34 11 rfl) (fm_dec dtLa_34 12 rfl) (fm_dec dtLa_34 13 rfl) ?_
  refine z_aloadn C.1 (pc := 1690) (n := 3) 3 rfl rfl (fm_dec dtLa_34 14 rfl) ?_
  have hw : pvGood Tx 250 qX10_expects [.ref 0, .int (xs (t + 1)), .int (xs (t + 2)), .int (xs (t + 3))] M (wJ f (fun (r : Int32) (u : fmM × (Nat → Int64)) => pvGood Tm 250 qX11_expects [.ref 0, .int (xs (t + 1)), .int (xs (t + 2)), .int (xs (t + 3))] M2 (fun r2 M2' => tJ r2 ∧ I u.1 M2')) (fun E M' => (E = fmNSE ∧ (fun (r : Int32) (u : fmM × (Nat → Int64)) => pvGood Tm 250 qX11_expects [.ref 0, .int (xs (t + 1)), .int (xs (t + 2)), .int (xs (t + 3))] M2 (fun r2 M2' => tJ r2 ∧ I u.1 M2')) 1 (M', f)) ∨ (E = fmIAE ∧ (fun (r : Int32) (u : fmM × (Nat → Int64)) => pvGood Tm 250 qX11_expects [.ref 0, .int (xs (t + 1)), .int (xs (t + 2)), .int (xs (t + 3))] M2 (fun r2 M2' => tJ r2 ∧ I u.1 M2')) 2 (M', f)))) := h0.imp (fun r9 M9 h9 => by
    obtain ⟨h8, h2⟩ := h9
    rcases h8 with ⟨v, rfl⟩ | ⟨-, rfl⟩ | ⟨-, rfl⟩
    · exact h2
    · exact Or.inr ⟨rfl, h2⟩
    · exact Or.inl ⟨rfl, h2⟩)
  refine z_callW C.1 (y' := qL_expects) (hh := [(0, 11, 14, 31), (0, 11, 18, 13)]) (W0 := WX G g o (fmL Tm (g2, G.2) M2) (M, f)) (WW := WX G g o (fmL Tm (g2, G.2) M2)) (Q := fun (r : Int32) (u : fmM × (Nat → Int64)) => pvGood Tm 250 qX11_expects [.ref 0, .int (xs (t + 1)), .int (xs (t + 2)), .int (xs (t + 3))] M2 (fun r2 M2' => tJ r2 ∧ I u.1 M2')) (As := [.ref (g 0), .int (xs (t + 1)), .int (xs (t + 2)), .int (xs (t + 3)), .ref o]) (st := []) (pc := 1691) (fm_c6 43 (by eq_refl) rfl) nst_L_expects niL nw_L_expects nd_L_expects rfl rfl (by decide) (show 311 ≤ room_1.frames by decide) (show 8 + (6 + 11) + 18200 ≤ room_1.locals by decide) (rm_c hcu) (rm_s hsu) (fm_dec dtLa_34 15 rfl) (w_expects C.2.2.2.2.2 hw) (fun r u hQ => ?_)
  obtain ⟨M1, f1⟩ := u
  refine z_istore C.1 (pc := 1694) (i := 5) (by decide) rfl (fm_dec dtLa_34 16 rfl) ?_
  dsimp only [List.set_cons_zero, List.set_cons_succ]
  refine z_aloadn C.1 (pc := 1696) (n := 2) 2 rfl rfl (fm_dec dtLa_34 17 rfl) ?_
  refine la_arg C (pc := 1697) (v := 1) (t + 1) rfl rfl (hi 1 (by decide)) (by decide) (fm_dec dtLa_34 18 rfl) (fm_dec dtLa_34 19 rfl) (fm_dec dtLa_34 20 rfl) (fm_dec dtLa_34 21 rfl) (fm_dec dtLa_34 22 rfl) ?_
  refine la_arg C (pc := 1703) (v := 2) (t + 2) rfl rfl (hi 2 (by decide)) (by decide) (fm_dec dtLa_34 23 rfl) (fm_dec dtLa_34 24 rfl) (fm_dec dtLa_34 25 rfl) (fm_dec dtLa_34 26 rfl) (fm_dec dtLa_34 27 rfl) ?_
  refine la_arg C (pc := 1709) (v := 3) (t + 3) rfl rfl (hi 3 (by decide)) (by decide) (fm_dec dtLa_34 28 rfl) (fm_dec dtLa_34 29 rfl) (fm_dec dtLa_35 0 rfl) (fm_dec dtLa_35 1 rfl) (fm_dec dtLa_35 2 rfl) ?_
  have hcw := hcu1
  have hsw := hsu1
  refine z_perm (ws := (fmL Tx (g, G.2) M1 ++ ((o, .inl (G.2.2.1 1, 1, .inr (.inl f1))) :: fmL Tm (g2, G.2) M2))) (wpermW _ _ _) ?_
  refine la_ref C (pc := 1715) (As := [.int (xs (t + 1)), .int (xs (t + 2)), .int (xs (t + 3))]) (st := []) cvL_263 (by decide +kernel) rfl rfl (Nat.le_of_ble_eq_true rfl) (by decide) hcw hsw (fm_dec dtLa_35 3 rfl) rfl hQ (fun r2 M3 h3 => ?_)
  obtain ⟨⟨v2, rfl⟩, hI3⟩ := h3
  refine z_then1 ?_
  refine z_lstore C.1 (pc := 1718) (i := 6) (by decide) rfl (fm_dec dtLa_35 4 rfl) ?_
  dsimp only [List.set_cons_zero, List.set_cons_succ]
  refine z_goto C.1 (pc := 1720) 1940 (by decide) (fm_dec dtLa_35 5 rfl) ?_
  exact z_perm (wpermB _ _ _) (la_fgt (kk M1 f1 M3 hI3))
set_option maxRecDepth 20000 in
theorem la_c40 {p : Program} {l : Launch} {e : Env} {s : State} {m : MethodId} {below : List Frame} {meth : Method} {c : Code} {G : fmG} {b n : Nat} {xs : Nat → Int32} {I : fmM → fmM → Prop} (hS : laS_worst I) (C : laC p l s m meth c G b n xs) {g g2 : Nat → Nat} {M M2 : fmM} {f : Nat → Int64} {o t : Nat} {i : Int32} {cu su : Nat} (hi : laI n i t) (hcu : cu + 1 ≤ 601024) (hsu : su + 6 ≤ 7293034) (hcu1 : cu + 1 + 1 ≤ 601024) (hsu1 : su + 6 + 6 ≤ 7293034) (hI : I M M2) (kk : ∀ (M' : fmM) (f' : Nat → Int64) (M2' : fmM), I M' M2' → zEv p l e room_1 s m #[.ref b] below meth c G (fun q => s.heap.size ≤ q) 8 (lw_Z below #[.ref b] s) 1940 [some (.ref b), some (.ref (g 0)), some (.ref (g2 0)), some (.ref o), some (.int i), none, none, none] [] (fmL Tx (g, G.2) M' ++ ((o, .inl (G.2.2.1 1, 1, .inr (.inl f'))) :: fmL Tm (g2, G.2) M2')) (cu + 1) (su + 6)) : zEv p l e room_1 s m #[.ref b] below meth c G (fun q => s.heap.size ≤ q) 8 (lw_Z below #[.ref b] s) 1723 [some (.ref b), some (.ref (g 0)), some (.ref (g2 0)), some (.ref o), some (.int i), none, none, none] [] (fmL Tx (g, G.2) M ++ ((o, .inl (G.2.2.1 1, 1, .inr (.inl f))) :: fmL Tm (g2, G.2) M2)) cu su := by
  have h0 := hS M M2 hI
  refine z_aloadn C.1 (pc := 1723) (n := 1) 1 rfl rfl (fm_dec dtLa_35 6 rfl) ?_
  refine z_callX C.1 (T := Tx) (g := g) (M := M) (rest := (o, .inl (G.2.2.1 1, 1, .inr (.inl f))) :: fmL Tm (g2, G.2) M2) (k := 0) (ci := 10) (d' := 250) (pc := 1724) (As := []) (st := []) cvL_264 (by decide) rfl rfl rfl (by decide) (rm_fr (by decide)) (rm_lo (by decide) (by decide)) (rm_c hcu) (rm_s hsu) (fm_dec dtLa_35 7 rfl) ?_
  refine fmGood.imp (pvGood.fm C.2.2.2.2.2 (by decide) (by decide +kernel) h0) (fun o9 M1 h9 => ?_)
  obtain ⟨o', rfl, h8, h2⟩ := h9
  rcases h8 with ⟨v, rfl⟩ | ⟨h8, -⟩ | ⟨h8, -⟩
  · refine z_then1 ?_
    refine z_pop C.1 (pc := 1727) rfl (fm_dec dtLa_35 8 rfl) ?_
    refine z_aloadn C.1 (pc := 1728) (n := 2) 2 rfl rfl (fm_dec dtLa_35 9 rfl) ?_
    have hcw := hcu
    have hsw := hsu
    refine z_perm (ws := (fmL Tx (g, G.2) M1 ++ ((o, .inl (G.2.2.1 1, 1, .inr (.inl f))) :: fmL Tm (g2, G.2) M2))) (wpermW _ _ _) ?_
    refine la_ref C (pc := 1729) (As := []) (st := []) cvL_267 (by decide +kernel) rfl rfl (Nat.le_of_ble_eq_true rfl) (by decide) hcw hsw (fm_dec dtLa_35 10 rfl) rfl h2 (fun r2 M3 h3 => ?_)
    obtain ⟨⟨v2, rfl⟩, hI3⟩ := h3
    refine z_then1 ?_
    refine z_pop C.1 (pc := 1732) rfl (fm_dec dtLa_35 11 rfl) ?_
    refine z_goto C.1 (pc := 1733) 1940 (by decide) (fm_dec dtLa_35 12 rfl) ?_
    refine z_more (Nat.le_succ _) (Nat.le_add_right _ 6) ?_
    exact z_perm (wpermB _ _ _) (la_fgt (kk M1 f M3 hI3))
  · cases h8
  · cases h8
set_option maxRecDepth 20000 in
theorem la_c41 {p : Program} {l : Launch} {e : Env} {s : State} {m : MethodId} {below : List Frame} {meth : Method} {c : Code} {G : fmG} {b n : Nat} {xs : Nat → Int32} {I : fmM → fmM → Prop} (hS : laS_years I) (C : laC p l s m meth c G b n xs) {g g2 : Nat → Nat} {M M2 : fmM} {f : Nat → Int64} {o t : Nat} {i : Int32} {cu su : Nat} (hi : laI n i t) (hcu : cu + 1 ≤ 601024) (hsu : su + 6 ≤ 7293034) (hcu1 : cu + 1 + 1 ≤ 601024) (hsu1 : su + 6 + 6 ≤ 7293034) (hI : I M M2) (kk : ∀ (M' : fmM) (f' : Nat → Int64) (M2' : fmM), I M' M2' → zEv p l e room_1 s m #[.ref b] below meth c G (fun q => s.heap.size ≤ q) 8 (lw_Z below #[.ref b] s) 1940 [some (.ref b), some (.ref (g 0)), some (.ref (g2 0)), some (.ref o), some (.int i), none, none, none] [] (fmL Tx (g, G.2) M' ++ ((o, .inl (G.2.2.1 1, 1, .inr (.inl f'))) :: fmL Tm (g2, G.2) M2')) (cu + 1) (su + 6)) : zEv p l e room_1 s m #[.ref b] below meth c G (fun q => s.heap.size ≤ q) 8 (lw_Z below #[.ref b] s) 1736 [some (.ref b), some (.ref (g 0)), some (.ref (g2 0)), some (.ref o), some (.int i), none, none, none] [] (fmL Tx (g, G.2) M ++ ((o, .inl (G.2.2.1 1, 1, .inr (.inl f))) :: fmL Tm (g2, G.2) M2)) cu su := by
  have h0 := hS M M2 (xs (t + 1)) (xs (t + 2)) (xs (t + 3)) hI
  refine z_aloadn C.1 (pc := 1736) (n := 1) 1 rfl rfl (fm_dec dtLa_35 13 rfl) ?_
  refine la_arg C (pc := 1737) (v := 1) (t + 1) rfl rfl (hi 1 (by decide)) (by decide) (fm_dec dtLa_35 14 rfl) (fm_dec dtLa_35 15 rfl) (fm_dec dtLa_35 16 rfl) (fm_dec dtLa_35 17 rfl) (fm_dec dtLa_35 18 rfl) ?_
  refine la_arg C (pc := 1743) (v := 2) (t + 2) rfl rfl (hi 2 (by decide)) (by decide) (fm_dec dtLa_35 19 rfl) (fm_dec dtLa_35 20 rfl) (fm_dec dtLa_35 21 rfl) (fm_dec dtLa_35 22 rfl) (fm_dec dtLa_35 23 rfl) ?_
  refine la_arg C (pc := 1749) (v := 3) (t + 3) rfl rfl (hi 3 (by decide)) (by decide) (fm_dec dtLa_35 24 rfl) (fm_dec dtLa_35 25 rfl) (fm_dec dtLa_35 26 rfl) (fm_dec dtLa_35 27 rfl) (fm_dec dtLa_35 28 rfl) ?_
  refine z_aloadn C.1 (pc := 1755) (n := 3) 3 rfl rfl (fm_dec dtLa_35 29 rfl) ?_
  have hw : pvGood Tx 250 qX10_years [.ref 0, .int (xs (t + 1)), .int (xs (t + 2)), .int (xs (t + 3))] M (wI f (fun (r : Int32) (u : fmM × (Nat → Int64)) => pvGood Tm 250 qX11_years [.ref 0, .int (xs (t + 1)), .int (xs (t + 2)), .int (xs (t + 3))] M2 (fun r2 M2' => tI r2 ∧ I u.1 M2')) (fun E M' => (E = fmIAE ∧ (fun (r : Int32) (u : fmM × (Nat → Int64)) => pvGood Tm 250 qX11_years [.ref 0, .int (xs (t + 1)), .int (xs (t + 2)), .int (xs (t + 3))] M2 (fun r2 M2' => tI r2 ∧ I u.1 M2')) 1 (M', f)))) := h0.imp (fun r9 M9 h9 => by
    obtain ⟨h8, h2⟩ := h9
    rcases h8 with ⟨v, rfl⟩ | ⟨h6, rfl⟩ | ⟨h6, rfl⟩
    · exact h2
    · exact ⟨rfl, h2⟩
    · exact absurd h6 (by decide))
  refine z_callW C.1 (y' := qL_years) (hh := [(0, 12, 15, 13)]) (W0 := WX G g o (fmL Tm (g2, G.2) M2) (M, f)) (WW := WX G g o (fmL Tm (g2, G.2) M2)) (Q := fun (r : Int32) (u : fmM × (Nat → Int64)) => pvGood Tm 250 qX11_years [.ref 0, .int (xs (t + 1)), .int (xs (t + 2)), .int (xs (t + 3))] M2 (fun r2 M2' => tI r2 ∧ I u.1 M2')) (As := [.ref (g 0), .int (xs (t + 1)), .int (xs (t + 2)), .int (xs (t + 3)), .ref o]) (st := []) (pc := 1756) (fm_c6 51 (by eq_refl) rfl) nst_L_years niL nw_L_years nd_L_years rfl rfl (by decide) (show 311 ≤ room_1.frames by decide) (show 8 + (6 + 11) + 18200 ≤ room_1.locals by decide) (rm_c hcu) (rm_s hsu) (fm_dec dtLa_36 0 rfl) (w_years C.2.2.2.2.2 hw) (fun r u hQ => ?_)
  obtain ⟨M1, f1⟩ := u
  refine z_istore C.1 (pc := 1759) (i := 5) (by decide) rfl (fm_dec dtLa_36 1 rfl) ?_
  dsimp only [List.set_cons_zero, List.set_cons_succ]
  refine z_aloadn C.1 (pc := 1761) (n := 2) 2 rfl rfl (fm_dec dtLa_36 2 rfl) ?_
  refine la_arg C (pc := 1762) (v := 1) (t + 1) rfl rfl (hi 1 (by decide)) (by decide) (fm_dec dtLa_36 3 rfl) (fm_dec dtLa_36 4 rfl) (fm_dec dtLa_36 5 rfl) (fm_dec dtLa_36 6 rfl) (fm_dec dtLa_36 7 rfl) ?_
  refine la_arg C (pc := 1768) (v := 2) (t + 2) rfl rfl (hi 2 (by decide)) (by decide) (fm_dec dtLa_36 8 rfl) (fm_dec dtLa_36 9 rfl) (fm_dec dtLa_36 10 rfl) (fm_dec dtLa_36 11 rfl) (fm_dec dtLa_36 12 rfl) ?_
  refine la_arg C (pc := 1774) (v := 3) (t + 3) rfl rfl (hi 3 (by decide)) (by decide) (fm_dec dtLa_36 13 rfl) (fm_dec dtLa_36 14 rfl) (fm_dec dtLa_36 15 rfl) (fm_dec dtLa_36 16 rfl) (fm_dec dtLa_36 17 rfl) ?_
  have hcw := hcu1
  have hsw := hsu1
  refine z_perm (ws := (fmL Tx (g, G.2) M1 ++ ((o, .inl (G.2.2.1 1, 1, .inr (.inl f1))) :: fmL Tm (g2, G.2) M2))) (wpermW _ _ _) ?_
  refine la_ref C (pc := 1780) (As := [.int (xs (t + 1)), .int (xs (t + 2)), .int (xs (t + 3))]) (st := []) cvL_270 (by decide +kernel) rfl rfl (Nat.le_of_ble_eq_true rfl) (by decide) hcw hsw (fm_dec dtLa_36 18 rfl) rfl hQ (fun r2 M3 h3 => ?_)
  obtain ⟨⟨v2, rfl⟩, hI3⟩ := h3
  refine z_then1 ?_
  refine z_istore C.1 (pc := 1783) (i := 6) (by decide) rfl (fm_dec dtLa_36 19 rfl) ?_
  dsimp only [List.set_cons_zero, List.set_cons_succ]
  refine z_goto C.1 (pc := 1785) 1940 (by decide) (fm_dec dtLa_36 20 rfl) ?_
  exact z_perm (wpermB _ _ _) (la_fgt (kk M1 f1 M3 hI3))
set_option maxRecDepth 20000 in
theorem la_c42 {p : Program} {l : Launch} {e : Env} {s : State} {m : MethodId} {below : List Frame} {meth : Method} {c : Code} {G : fmG} {b n : Nat} {xs : Nat → Int32} {I : fmM → fmM → Prop} (hS : laS_span I) (C : laC p l s m meth c G b n xs) {g g2 : Nat → Nat} {M M2 : fmM} {f : Nat → Int64} {o t : Nat} {i : Int32} {cu su : Nat} (hi : laI n i t) (hcu : cu + 1 ≤ 601024) (hsu : su + 6 ≤ 7293034) (hcu1 : cu + 1 + 1 ≤ 601024) (hsu1 : su + 6 + 6 ≤ 7293034) (hI : I M M2) (kk : ∀ (M' : fmM) (f' : Nat → Int64) (M2' : fmM), I M' M2' → zEv p l e room_1 s m #[.ref b] below meth c G (fun q => s.heap.size ≤ q) 8 (lw_Z below #[.ref b] s) 1940 [some (.ref b), some (.ref (g 0)), some (.ref (g2 0)), some (.ref o), some (.int i), none, none, none] [] (fmL Tx (g, G.2) M' ++ ((o, .inl (G.2.2.1 1, 1, .inr (.inl f'))) :: fmL Tm (g2, G.2) M2')) (cu + 1) (su + 6)) : zEv p l e room_1 s m #[.ref b] below meth c G (fun q => s.heap.size ≤ q) 8 (lw_Z below #[.ref b] s) 1788 [some (.ref b), some (.ref (g 0)), some (.ref (g2 0)), some (.ref o), some (.int i), none, none, none] [] (fmL Tx (g, G.2) M ++ ((o, .inl (G.2.2.1 1, 1, .inr (.inl f))) :: fmL Tm (g2, G.2) M2)) cu su := by
  have h0 := hS M M2 (xs (t + 1)) (xs (t + 2)) (xs (t + 3)) (xs (t + 4)) (xs (t + 5)) hI
  refine z_aloadn C.1 (pc := 1788) (n := 1) 1 rfl rfl (fm_dec dtLa_36 21 rfl) ?_
  refine la_arg C (pc := 1789) (v := 1) (t + 1) rfl rfl (hi 1 (by decide)) (by decide) (fm_dec dtLa_36 22 rfl) (fm_dec dtLa_36 23 rfl) (fm_dec dtLa_36 24 rfl) (fm_dec dtLa_36 25 rfl) (fm_dec dtLa_36 26 rfl) ?_
  refine la_arg C (pc := 1795) (v := 2) (t + 2) rfl rfl (hi 2 (by decide)) (by decide) (fm_dec dtLa_36 27 rfl) (fm_dec dtLa_36 28 rfl) (fm_dec dtLa_36 29 rfl) (fm_dec dtLa_37 0 rfl) (fm_dec dtLa_37 1 rfl) ?_
  refine la_arg C (pc := 1801) (v := 3) (t + 3) rfl rfl (hi 3 (by decide)) (by decide) (fm_dec dtLa_37 2 rfl) (fm_dec dtLa_37 3 rfl) (fm_dec dtLa_37 4 rfl) (fm_dec dtLa_37 5 rfl) (fm_dec dtLa_37 6 rfl) ?_
  refine la_arg C (pc := 1807) (v := 4) (t + 4) rfl rfl (hi 4 (by decide)) (by decide) (fm_dec dtLa_37 7 rfl) (fm_dec dtLa_37 8 rfl) (fm_dec dtLa_37 9 rfl) (fm_dec dtLa_37 10 rfl) (fm_dec dtLa_37 11 rfl) ?_
  refine la_arg C (pc := 1813) (v := 5) (t + 5) rfl rfl (hi 5 (by decide)) (by decide) (fm_dec dtLa_37 12 rfl) (fm_dec dtLa_37 13 rfl) (fm_dec dtLa_37 14 rfl) (fm_dec dtLa_37 15 rfl) (fm_dec dtLa_37 16 rfl) ?_
  refine z_aloadn C.1 (pc := 1819) (n := 3) 3 rfl rfl (fm_dec dtLa_37 17 rfl) ?_
  have hw : pvGood Tx 250 qX10_span [.ref 0, .int (xs (t + 1)), .int (xs (t + 2)), .int (xs (t + 3)), .int (xs (t + 4)), .int (xs (t + 5))] M (wI f (fun (r : Int32) (u : fmM × (Nat → Int64)) => pvGood Tm 250 qX11_span [.ref 0, .int (xs (t + 1)), .int (xs (t + 2)), .int (xs (t + 3)), .int (xs (t + 4)), .int (xs (t + 5))] M2 (fun r2 M2' => tI r2 ∧ I u.1 M2')) (fun E M' => (E = fmIAE ∧ (fun (r : Int32) (u : fmM × (Nat → Int64)) => pvGood Tm 250 qX11_span [.ref 0, .int (xs (t + 1)), .int (xs (t + 2)), .int (xs (t + 3)), .int (xs (t + 4)), .int (xs (t + 5))] M2 (fun r2 M2' => tI r2 ∧ I u.1 M2')) 1 (M', f)))) := h0.imp (fun r9 M9 h9 => by
    obtain ⟨h8, h2⟩ := h9
    rcases h8 with ⟨v, rfl⟩ | ⟨h6, rfl⟩ | ⟨h6, rfl⟩
    · exact h2
    · exact ⟨rfl, h2⟩
    · exact absurd h6 (by decide))
  refine z_callW C.1 (y' := qL_span) (hh := [(0, 16, 19, 13)]) (W0 := WX G g o (fmL Tm (g2, G.2) M2) (M, f)) (WW := WX G g o (fmL Tm (g2, G.2) M2)) (Q := fun (r : Int32) (u : fmM × (Nat → Int64)) => pvGood Tm 250 qX11_span [.ref 0, .int (xs (t + 1)), .int (xs (t + 2)), .int (xs (t + 3)), .int (xs (t + 4)), .int (xs (t + 5))] M2 (fun r2 M2' => tI r2 ∧ I u.1 M2')) (As := [.ref (g 0), .int (xs (t + 1)), .int (xs (t + 2)), .int (xs (t + 3)), .int (xs (t + 4)), .int (xs (t + 5)), .ref o]) (st := []) (pc := 1820) (fm_c6 82 (by eq_refl) rfl) nst_L_span niL nw_L_span nd_L_span rfl rfl (by decide) (show 311 ≤ room_1.frames by decide) (show 8 + (8 + 11) + 18200 ≤ room_1.locals by decide) (rm_c hcu) (rm_s hsu) (fm_dec dtLa_37 18 rfl) (w_span C.2.2.2.2.2 hw) (fun r u hQ => ?_)
  obtain ⟨M1, f1⟩ := u
  refine z_istore C.1 (pc := 1823) (i := 5) (by decide) rfl (fm_dec dtLa_37 19 rfl) ?_
  dsimp only [List.set_cons_zero, List.set_cons_succ]
  refine z_aloadn C.1 (pc := 1825) (n := 2) 2 rfl rfl (fm_dec dtLa_37 20 rfl) ?_
  refine la_arg C (pc := 1826) (v := 1) (t + 1) rfl rfl (hi 1 (by decide)) (by decide) (fm_dec dtLa_37 21 rfl) (fm_dec dtLa_37 22 rfl) (fm_dec dtLa_37 23 rfl) (fm_dec dtLa_37 24 rfl) (fm_dec dtLa_37 25 rfl) ?_
  refine la_arg C (pc := 1832) (v := 2) (t + 2) rfl rfl (hi 2 (by decide)) (by decide) (fm_dec dtLa_37 26 rfl) (fm_dec dtLa_37 27 rfl) (fm_dec dtLa_37 28 rfl) (fm_dec dtLa_37 29 rfl) (fm_dec dtLa_38 0 rfl) ?_
  refine la_arg C (pc := 1838) (v := 3) (t + 3) rfl rfl (hi 3 (by decide)) (by decide) (fm_dec dtLa_38 1 rfl) (fm_dec dtLa_38 2 rfl) (fm_dec dtLa_38 3 rfl) (fm_dec dtLa_38 4 rfl) (fm_dec dtLa_38 5 rfl) ?_
  refine la_arg C (pc := 1844) (v := 4) (t + 4) rfl rfl (hi 4 (by decide)) (by decide) (fm_dec dtLa_38 6 rfl) (fm_dec dtLa_38 7 rfl) (fm_dec dtLa_38 8 rfl) (fm_dec dtLa_38 9 rfl) (fm_dec dtLa_38 10 rfl) ?_
  refine la_arg C (pc := 1850) (v := 5) (t + 5) rfl rfl (hi 5 (by decide)) (by decide) (fm_dec dtLa_38 11 rfl) (fm_dec dtLa_38 12 rfl) (fm_dec dtLa_38 13 rfl) (fm_dec dtLa_38 14 rfl) (fm_dec dtLa_38 15 rfl) ?_
  have hcw := hcu1
  have hsw := hsu1
  refine z_perm (ws := (fmL Tx (g, G.2) M1 ++ ((o, .inl (G.2.2.1 1, 1, .inr (.inl f1))) :: fmL Tm (g2, G.2) M2))) (wpermW _ _ _) ?_
  refine la_ref C (pc := 1856) (As := [.int (xs (t + 1)), .int (xs (t + 2)), .int (xs (t + 3)), .int (xs (t + 4)), .int (xs (t + 5))]) (st := []) cvL_273 (by decide +kernel) rfl rfl (Nat.le_of_ble_eq_true rfl) (by decide) hcw hsw (fm_dec dtLa_38 16 rfl) rfl hQ (fun r2 M3 h3 => ?_)
  obtain ⟨⟨v2, rfl⟩, hI3⟩ := h3
  refine z_then1 ?_
  refine z_istore C.1 (pc := 1859) (i := 6) (by decide) rfl (fm_dec dtLa_38 17 rfl) ?_
  dsimp only [List.set_cons_zero, List.set_cons_succ]
  refine z_goto C.1 (pc := 1861) 1940 (by decide) (fm_dec dtLa_38 18 rfl) ?_
  exact z_perm (wpermB _ _ _) (la_fgt (kk M1 f1 M3 hI3))
set_option maxRecDepth 20000 in
theorem la_c43 {p : Program} {l : Launch} {e : Env} {s : State} {m : MethodId} {below : List Frame} {meth : Method} {c : Code} {G : fmG} {b n : Nat} {xs : Nat → Int32} {I : fmM → fmM → Prop} (hS : laS_image I) (C : laC p l s m meth c G b n xs) {g g2 : Nat → Nat} {M M2 : fmM} {f : Nat → Int64} {o t : Nat} {i : Int32} {cu su : Nat} (hi : laI n i t) (hcu : cu + 1 ≤ 601024) (hsu : su + 6 ≤ 7293034) (hcu1 : cu + 1 + 1 ≤ 601024) (hsu1 : su + 6 + 6 ≤ 7293034) (hI : I M M2) (kk : ∀ (M' : fmM) (f' : Nat → Int64) (M2' : fmM), I M' M2' → zEv p l e room_1 s m #[.ref b] below meth c G (fun q => s.heap.size ≤ q) 8 (lw_Z below #[.ref b] s) 1940 [some (.ref b), some (.ref (g 0)), some (.ref (g2 0)), some (.ref o), some (.int i), none, none, none] [] (fmL Tx (g, G.2) M' ++ ((o, .inl (G.2.2.1 1, 1, .inr (.inl f'))) :: fmL Tm (g2, G.2) M2')) (cu + 1) (su + 6)) : zEv p l e room_1 s m #[.ref b] below meth c G (fun q => s.heap.size ≤ q) 8 (lw_Z below #[.ref b] s) 1864 [some (.ref b), some (.ref (g 0)), some (.ref (g2 0)), some (.ref o), some (.int i), none, none, none] [] (fmL Tx (g, G.2) M ++ ((o, .inl (G.2.2.1 1, 1, .inr (.inl f))) :: fmL Tm (g2, G.2) M2)) cu su := by
  have h0 := hS M M2 hI
  refine z_aloadn C.1 (pc := 1864) (n := 1) 1 rfl rfl (fm_dec dtLa_38 19 rfl) ?_
  refine z_callX C.1 (T := Tx) (g := g) (M := M) (rest := (o, .inl (G.2.2.1 1, 1, .inr (.inl f))) :: fmL Tm (g2, G.2) M2) (k := 0) (ci := 10) (d' := 250) (pc := 1865) (As := []) (st := []) cvL_274 (by decide) rfl rfl rfl (by decide) (rm_fr (by decide)) (rm_lo (by decide) (by decide)) (rm_c hcu) (rm_s hsu) (fm_dec dtLa_38 20 rfl) ?_
  refine fmGood.imp (pvGood.fm C.2.2.2.2.2 (by decide) (by decide +kernel) h0) (fun o9 M1 h9 => ?_)
  obtain ⟨o', rfl, h8, h2⟩ := h9
  rcases h8 with ⟨v, rfl⟩ | ⟨h8, -⟩ | ⟨h8, -⟩
  · refine z_then1 ?_
    refine z_pop C.1 (pc := 1868) rfl (fm_dec dtLa_38 21 rfl) ?_
    refine z_aloadn C.1 (pc := 1869) (n := 2) 2 rfl rfl (fm_dec dtLa_38 22 rfl) ?_
    have hcw := hcu
    have hsw := hsu
    refine z_perm (ws := (fmL Tx (g, G.2) M1 ++ ((o, .inl (G.2.2.1 1, 1, .inr (.inl f))) :: fmL Tm (g2, G.2) M2))) (wpermW _ _ _) ?_
    refine la_ref C (pc := 1870) (As := []) (st := []) cvL_277 (by decide +kernel) rfl rfl (Nat.le_of_ble_eq_true rfl) (by decide) hcw hsw (fm_dec dtLa_38 23 rfl) rfl h2 (fun r2 M3 h3 => ?_)
    obtain ⟨⟨v2, rfl⟩, hI3⟩ := h3
    refine z_then1 ?_
    refine z_pop C.1 (pc := 1873) rfl (fm_dec dtLa_38 24 rfl) ?_
    refine z_goto C.1 (pc := 1874) 1940 (by decide) (fm_dec dtLa_38 25 rfl) ?_
    refine z_more (Nat.le_succ _) (Nat.le_add_right _ 6) ?_
    exact z_perm (wpermB _ _ _) (la_fgt (kk M1 f M3 hI3))
  · cases h8
  · cases h8
set_option maxRecDepth 20000 in
theorem la_c44 {p : Program} {l : Launch} {e : Env} {s : State} {m : MethodId} {below : List Frame} {meth : Method} {c : Code} {G : fmG} {b n : Nat} {xs : Nat → Int32} {I : fmM → fmM → Prop} (hS : laS_restore I) (C : laC p l s m meth c G b n xs) {g g2 : Nat → Nat} {M M2 : fmM} {f : Nat → Int64} {o t : Nat} {i : Int32} {cu su : Nat} (hi : laI n i t) (hcu : cu + 1 ≤ 601024) (hsu : su + 6 ≤ 7293034) (hcu1 : cu + 1 + 1 ≤ 601024) (hsu1 : su + 6 + 6 ≤ 7293034) (hI : I M M2) (kk : ∀ (M' : fmM) (f' : Nat → Int64) (M2' : fmM), I M' M2' → zEv p l e room_1 s m #[.ref b] below meth c G (fun q => s.heap.size ≤ q) 8 (lw_Z below #[.ref b] s) 1940 [some (.ref b), some (.ref (g 0)), some (.ref (g2 0)), some (.ref o), some (.int i), none, none, none] [] (fmL Tx (g, G.2) M' ++ ((o, .inl (G.2.2.1 1, 1, .inr (.inl f'))) :: fmL Tm (g2, G.2) M2')) (cu + 1) (su + 6)) : zEv p l e room_1 s m #[.ref b] below meth c G (fun q => s.heap.size ≤ q) 8 (lw_Z below #[.ref b] s) 1877 [some (.ref b), some (.ref (g 0)), some (.ref (g2 0)), some (.ref o), some (.int i), none, none, none] [] (fmL Tx (g, G.2) M ++ ((o, .inl (G.2.2.1 1, 1, .inr (.inl f))) :: fmL Tm (g2, G.2) M2)) cu su := by
  have h0 := hS M M2 hI
  refine z_aloadn C.1 (pc := 1877) (n := 1) 1 rfl rfl (fm_dec dtLa_38 26 rfl) ?_
  refine z_callX C.1 (T := Tx) (g := g) (M := M) (rest := (o, .inl (G.2.2.1 1, 1, .inr (.inl f))) :: fmL Tm (g2, G.2) M2) (k := 0) (ci := 10) (d' := 250) (pc := 1878) (As := []) (st := []) cvL_278 (by decide) rfl rfl rfl (by decide) (rm_fr (by decide)) (rm_lo (by decide) (by decide)) (rm_c hcu) (rm_s hsu) (fm_dec dtLa_38 27 rfl) ?_
  refine fmGood.imp (pvGood.fm C.2.2.2.2.2 (by decide) (by decide +kernel) h0) (fun o9 M1 h9 => ?_)
  obtain ⟨o', rfl, h8, h2⟩ := h9
  rcases h8 with ⟨v, rfl⟩ | ⟨h8, -⟩ | ⟨h8, -⟩
  · refine z_then1 ?_
    refine z_aloadn C.1 (pc := 1881) (n := 2) 2 rfl rfl (fm_dec dtLa_38 28 rfl) ?_
    have hcw := hcu
    have hsw := hsu
    refine z_perm (ws := (fmL Tx (g, G.2) M1 ++ ((o, .inl (G.2.2.1 1, 1, .inr (.inl f))) :: fmL Tm (g2, G.2) M2))) (wpermW _ _ _) ?_
    refine la_ref C (pc := 1882) (As := []) (st := [.int v]) cvL_281 (by decide +kernel) rfl rfl (Nat.le_of_ble_eq_true rfl) (by decide) hcw hsw (fm_dec dtLa_38 29 rfl) rfl h2 (fun r2 M3 h3 => ?_)
    obtain ⟨⟨v2, rfl⟩, e2, hI3⟩ := h3
    refine z_then1 ?_
    have e3 : v2 = v := by cases e2; rfl
    subst e3
    refine z_icmp_eq C.1 (pc := 1885) 1940 (by decide) (fm_dec dtLa_39 0 rfl) (fun _ => ?_) (fun h => absurd rfl h)
    refine z_more (Nat.le_succ _) (Nat.le_add_right _ 6) ?_
    exact z_perm (wpermB _ _ _) (la_fgt (kk M1 f M3 hI3))
  · cases h8
  · cases h8
set_option maxRecDepth 20000 in
theorem la_c45 {p : Program} {l : Launch} {e : Env} {s : State} {m : MethodId} {below : List Frame} {meth : Method} {c : Code} {G : fmG} {b n : Nat} {xs : Nat → Int32} {I : fmM → fmM → Prop} (hS : laS_status I) (C : laC p l s m meth c G b n xs) {g g2 : Nat → Nat} {M M2 : fmM} {f : Nat → Int64} {o t : Nat} {i : Int32} {cu su : Nat} (hi : laI n i t) (hcu : cu + 1 ≤ 601024) (hsu : su + 6 ≤ 7293034) (hcu1 : cu + 1 + 1 ≤ 601024) (hsu1 : su + 6 + 6 ≤ 7293034) (hI : I M M2) (kk : ∀ (M' : fmM) (f' : Nat → Int64) (M2' : fmM), I M' M2' → zEv p l e room_1 s m #[.ref b] below meth c G (fun q => s.heap.size ≤ q) 8 (lw_Z below #[.ref b] s) 1940 [some (.ref b), some (.ref (g 0)), some (.ref (g2 0)), some (.ref o), some (.int i), none, none, none] [] (fmL Tx (g, G.2) M' ++ ((o, .inl (G.2.2.1 1, 1, .inr (.inl f'))) :: fmL Tm (g2, G.2) M2')) (cu + 1) (su + 6)) : zEv p l e room_1 s m #[.ref b] below meth c G (fun q => s.heap.size ≤ q) 8 (lw_Z below #[.ref b] s) 1890 [some (.ref b), some (.ref (g 0)), some (.ref (g2 0)), some (.ref o), some (.int i), none, none, none] [] (fmL Tx (g, G.2) M ++ ((o, .inl (G.2.2.1 1, 1, .inr (.inl f))) :: fmL Tm (g2, G.2) M2)) cu su := by
  have h0 := hS M M2 (xs (t + 1)) hI
  refine z_aloadn C.1 (pc := 1890) (n := 1) 1 rfl rfl (fm_dec dtLa_39 3 rfl) ?_
  refine la_arg C (pc := 1891) (v := 1) (t + 1) rfl rfl (hi 1 (by decide)) (by decide) (fm_dec dtLa_39 4 rfl) (fm_dec dtLa_39 5 rfl) (fm_dec dtLa_39 6 rfl) (fm_dec dtLa_39 7 rfl) (fm_dec dtLa_39 8 rfl) ?_
  refine z_callX C.1 (T := Tx) (g := g) (M := M) (rest := (o, .inl (G.2.2.1 1, 1, .inr (.inl f))) :: fmL Tm (g2, G.2) M2) (k := 0) (ci := 10) (d' := 250) (pc := 1897) (As := [.int (xs (t + 1))]) (st := []) cvL_282 (by decide) rfl rfl rfl (by decide) (rm_fr (by decide)) (rm_lo (by decide) (by decide)) (rm_c hcu) (rm_s hsu) (fm_dec dtLa_39 9 rfl) ?_
  refine fmGood.imp (pvGood.fm C.2.2.2.2.2 (by decide) (by decide +kernel) h0) (fun o9 M1 h9 => ?_)
  obtain ⟨o', rfl, h8, h2⟩ := h9
  rcases h8 with ⟨v, rfl⟩ | ⟨h8, -⟩ | ⟨h8, -⟩
  · refine z_then1 ?_
    refine z_pop C.1 (pc := 1900) rfl (fm_dec dtLa_39 10 rfl) ?_
    refine z_aloadn C.1 (pc := 1901) (n := 2) 2 rfl rfl (fm_dec dtLa_39 11 rfl) ?_
    refine la_arg C (pc := 1902) (v := 1) (t + 1) rfl rfl (hi 1 (by decide)) (by decide) (fm_dec dtLa_39 12 rfl) (fm_dec dtLa_39 13 rfl) (fm_dec dtLa_39 14 rfl) (fm_dec dtLa_39 15 rfl) (fm_dec dtLa_39 16 rfl) ?_
    have hcw := hcu
    have hsw := hsu
    refine z_perm (ws := (fmL Tx (g, G.2) M1 ++ ((o, .inl (G.2.2.1 1, 1, .inr (.inl f))) :: fmL Tm (g2, G.2) M2))) (wpermW _ _ _) ?_
    refine la_ref C (pc := 1908) (As := [.int (xs (t + 1))]) (st := []) cvL_285 (by decide +kernel) rfl rfl (Nat.le_of_ble_eq_true rfl) (by decide) hcw hsw (fm_dec dtLa_39 17 rfl) rfl h2 (fun r2 M3 h3 => ?_)
    obtain ⟨⟨v2, rfl⟩, hI3⟩ := h3
    refine z_then1 ?_
    refine z_pop C.1 (pc := 1911) rfl (fm_dec dtLa_39 18 rfl) ?_
    refine z_goto C.1 (pc := 1912) 1940 (by decide) (fm_dec dtLa_39 19 rfl) ?_
    refine z_more (Nat.le_succ _) (Nat.le_add_right _ 6) ?_
    exact z_perm (wpermB _ _ _) (la_fgt (kk M1 f M3 hI3))
  · cases h8
  · cases h8
set_option maxRecDepth 20000 in
theorem la_c46 {p : Program} {l : Launch} {e : Env} {s : State} {m : MethodId} {below : List Frame} {meth : Method} {c : Code} {G : fmG} {b n : Nat} {xs : Nat → Int32} {I : fmM → fmM → Prop} (hS : laS_count I) (C : laC p l s m meth c G b n xs) {g g2 : Nat → Nat} {M M2 : fmM} {f : Nat → Int64} {o t : Nat} {i : Int32} {cu su : Nat} (hi : laI n i t) (hcu : cu + 1 ≤ 601024) (hsu : su + 6 ≤ 7293034) (hcu1 : cu + 1 + 1 ≤ 601024) (hsu1 : su + 6 + 6 ≤ 7293034) (hI : I M M2) (kk : ∀ (M' : fmM) (f' : Nat → Int64) (M2' : fmM), I M' M2' → zEv p l e room_1 s m #[.ref b] below meth c G (fun q => s.heap.size ≤ q) 8 (lw_Z below #[.ref b] s) 1940 [some (.ref b), some (.ref (g 0)), some (.ref (g2 0)), some (.ref o), some (.int i), none, none, none] [] (fmL Tx (g, G.2) M' ++ ((o, .inl (G.2.2.1 1, 1, .inr (.inl f'))) :: fmL Tm (g2, G.2) M2')) (cu + 1) (su + 6)) : zEv p l e room_1 s m #[.ref b] below meth c G (fun q => s.heap.size ≤ q) 8 (lw_Z below #[.ref b] s) 1915 [some (.ref b), some (.ref (g 0)), some (.ref (g2 0)), some (.ref o), some (.int i), none, none, none] [] (fmL Tx (g, G.2) M ++ ((o, .inl (G.2.2.1 1, 1, .inr (.inl f))) :: fmL Tm (g2, G.2) M2)) cu su := by
  have h0 := hS M M2 (xs (t + 1)) hI
  refine z_aloadn C.1 (pc := 1915) (n := 1) 1 rfl rfl (fm_dec dtLa_39 20 rfl) ?_
  refine la_arg C (pc := 1916) (v := 1) (t + 1) rfl rfl (hi 1 (by decide)) (by decide) (fm_dec dtLa_39 21 rfl) (fm_dec dtLa_39 22 rfl) (fm_dec dtLa_39 23 rfl) (fm_dec dtLa_39 24 rfl) (fm_dec dtLa_39 25 rfl) ?_
  refine z_callX C.1 (T := Tx) (g := g) (M := M) (rest := (o, .inl (G.2.2.1 1, 1, .inr (.inl f))) :: fmL Tm (g2, G.2) M2) (k := 0) (ci := 10) (d' := 250) (pc := 1922) (As := [.int (xs (t + 1))]) (st := []) cvL_286 (by decide) rfl rfl rfl (by decide) (rm_fr (by decide)) (rm_lo (by decide) (by decide)) (rm_c hcu) (rm_s hsu) (fm_dec dtLa_39 26 rfl) ?_
  refine fmGood.imp (pvGood.fm C.2.2.2.2.2 (by decide) (by decide +kernel) h0) (fun o9 M1 h9 => ?_)
  obtain ⟨o', rfl, h8, h2⟩ := h9
  rcases h8 with ⟨v, rfl⟩ | ⟨h8, -⟩ | ⟨h8, -⟩
  · refine z_then1 ?_
    refine z_pop C.1 (pc := 1925) rfl (fm_dec dtLa_39 27 rfl) ?_
    refine z_aloadn C.1 (pc := 1926) (n := 2) 2 rfl rfl (fm_dec dtLa_39 28 rfl) ?_
    refine la_arg C (pc := 1927) (v := 1) (t + 1) rfl rfl (hi 1 (by decide)) (by decide) (fm_dec dtLa_39 29 rfl) (fm_dec dtLa_40 0 rfl) (fm_dec dtLa_40 1 rfl) (fm_dec dtLa_40 2 rfl) (fm_dec dtLa_40 3 rfl) ?_
    have hcw := hcu
    have hsw := hsu
    refine z_perm (ws := (fmL Tx (g, G.2) M1 ++ ((o, .inl (G.2.2.1 1, 1, .inr (.inl f))) :: fmL Tm (g2, G.2) M2))) (wpermW _ _ _) ?_
    refine la_ref C (pc := 1933) (As := [.int (xs (t + 1))]) (st := []) cvL_289 (by decide +kernel) rfl rfl (Nat.le_of_ble_eq_true rfl) (by decide) hcw hsw (fm_dec dtLa_40 4 rfl) rfl h2 (fun r2 M3 h3 => ?_)
    obtain ⟨⟨v2, rfl⟩, hI3⟩ := h3
    refine z_then1 ?_
    refine z_pop C.1 (pc := 1936) rfl (fm_dec dtLa_40 5 rfl) ?_
    refine z_goto C.1 (pc := 1937) 1940 (by decide) (fm_dec dtLa_40 6 rfl) ?_
    refine z_more (Nat.le_succ _) (Nat.le_add_right _ 6) ?_
    exact z_perm (wpermB _ _ _) (la_fgt (kk M1 f M3 hI3))
  · cases h8
  · cases h8
end
-- P 16
section
-- THE START: what the tables and the premises give
def tmS (i : Nat) : Term := match i with
  | 0 => .string "LifeDrawer" 371
  | 1 => .string "LifeDrawer" 378
  | 2 => .string "LifeDrawer$Told" 91
  | 3 => .string "LifeDrawer$Law" 76
  | _ => .string "LifeDrawer$Work" 54
theorem tb_at {b : Nat} {s : State} (hts : ∀ w ∈ lw_tbl, w.before #[Value.ref b] s = true) (i : Nat) {w : Cond} (h : tables_1[i]? = some w) : w.before #[Value.ref b] s = true := hts w (List.mem_append_right _ (List.mem_of_getElem? h))
set_option maxRecDepth 100000 in
theorem nr_ex : ∀ i, i < 5 → Cond.exactly (tmS i) "java/lang/String" ∈ flatC narrow_1 := by decide +kernel
set_option maxRecDepth 100000 in
theorem nr_co : ∀ i, i < 5 → Cond.eq (.field (tmS i) "java/lang/String" "coder" "B") (.int 0) ∈ flatC narrow_1 := by decide +kernel
set_option maxRecDepth 100000 in
theorem nr_ar : ∀ i, i < 5 → Cond.arrayOf (.field (tmS i) "java/lang/String" "value" "[B") .byte ∈ flatC narrow_1 := by decide +kernel
set_option maxRecDepth 100000 in
theorem nr_le : ∀ i, i < 5 → Cond.eq (.length (.field (tmS i) "java/lang/String" "value" "[B")) (.int (Int32.ofNat (fmLen.getD i 0))) ∈ flatC narrow_1 := by decide +kernel
set_option maxRecDepth 100000 in
theorem nr_el : ∀ i, i < 5 → ∀ j, j < fmLen.getD i 0 → Cond.eq (.elem (.field (tmS i) "java/lang/String" "value" "[B") (.int (Int32.ofNat j))) (.int ((fmByt.getD i []).getD j 0)) ∈ flatC narrow_1 := by
  first
  | exact fun i hi j hj => List.mem_of_getElem? ((show ∀ i, i < 5 → ∀ j, j < fmLen.getD i 0 → (flatC narrow_1)[[216, 69, 94, 138, 182].getD i 0 + j]? = some (Cond.eq (.elem (.field (tmS i) "java/lang/String" "value" "[B") (.int (Int32.ofNat j))) (.int ((fmByt.getD i []).getD j 0))) from by decide +kernel) i hi j hj)
  | decide +kernel
set_option maxRecDepth 100000 in
theorem nr_ne : ∀ i, i < 5 → ∀ j, j < 5 → i ≠ j → Cond.not (Cond.eq (tmS i) (tmS j)) ∈ flatC narrow_1 ∨ Cond.not (Cond.eq (tmS j) (tmS i)) ∈ flatC narrow_1 := by decide +kernel
theorem nr_us : Cond.isRef (.static "java/lang/Throwable" "UNASSIGNED_STACK" "[Ljava/lang/StackTraceElement;") ∈ flatC narrow_1 := by decide +kernel
theorem nr_ss : Cond.isRef (.static "java/lang/Throwable" "SUPPRESSED_SENTINEL" "Ljava/util/List;") ∈ flatC narrow_1 := by decide +kernel
theorem nr_cs : Cond.eq (.static "java/lang/String" "COMPACT_STRINGS" "Z") (.int 1) ∈ flatC narrow_1 := by decide +kernel
theorem nr_si : Cond.isRef (.static "jdk/internal/util/Preconditions" "SIOOBE_FORMATTER" "Ljava/util/function/BiFunction;") ∈ flatC narrow_1 := by decide +kernel
theorem nr_nc : Cond.not (.castable "java/lang/IllegalArgumentException" "java/util/NoSuchElementException") ∈ flatC narrow_1 := by decide +kernel
noncomputable def st_c0 {s : State} {args : Array Value} (hw : ∀ w ∈ fmWs, w.before args s = true) : ClassId := Classical.choose (u_known (C := RX0) (T := TX0) (N := 3) (n := 3) hw fw_0 (hw _ (fm_c1 219 (by eq_refl) rfl)))
theorem st_cls {s : State} {args : Array Value} (hw : ∀ w ∈ fmWs, w.before args s = true) : ∀ k : Nat, ∃ q : ClassId × (Nat → Nat), ∀ r : vw_C, vwCl[k]? = some r → u_Kn s r.1 r.2.1 r.2.2 q.1 q.2 := by
  intro k
  match k with
  | 0 =>
    obtain ⟨c, i, h⟩ := u_known (C := RX0) (T := TX0) (N := 3) (n := 3) hw fw_0 (hw _ (fm_c1 219 (by eq_refl) rfl))
    exact ⟨(c, i), fun r hr => by cases hr; exact h⟩
  | 1 =>
    obtain ⟨c, i, h⟩ := u_known (C := RX1) (T := TX1) (N := 5) (n := 5) hw fw_1 (hw _ (fm_c1 145 (by eq_refl) rfl))
    exact ⟨(c, i), fun r hr => by cases hr; exact h⟩
  | 2 =>
    obtain ⟨c, i, h⟩ := u_known (C := RX2) (T := TX2) (N := 3) (n := 3) hw fw_2 (hw _ (fm_c1 171 (by eq_refl) rfl))
    exact ⟨(c, i), fun r hr => by cases hr; exact h⟩
  | 3 =>
    obtain ⟨c, i, h⟩ := u_known (C := RX3) (T := TX3) (N := 7) (n := 7) hw fw_3 (hw _ (fm_c1 238 (by eq_refl) rfl))
    exact ⟨(c, i), fun r hr => by cases hr; exact h⟩
  | 4 =>
    obtain ⟨c, i, h⟩ := u_known (C := RX4) (T := TX4) (N := 5) (n := 5) hw fw_4 (hw _ (fm_c2 26 (by eq_refl) rfl))
    exact ⟨(c, i), fun r hr => by cases hr; exact h⟩
  | 5 =>
    obtain ⟨c, i, h⟩ := u_known (C := RX5) (T := TX5) (N := 3) (n := 3) hw fw_5 (hw _ (fm_c2 99 (by eq_refl) rfl))
    exact ⟨(c, i), fun r hr => by cases hr; exact h⟩
  | 6 =>
    obtain ⟨c, i, h⟩ := u_known (C := RX6) (T := TX6) (N := 7) (n := 7) hw fw_6 (hw _ (fm_c2 32 (by eq_refl) rfl))
    exact ⟨(c, i), fun r hr => by cases hr; exact h⟩
  | 7 =>
    obtain ⟨c, i, h⟩ := u_known (C := RX7) (T := TX7) (N := 6) (n := 6) hw fw_7 (hw _ (fm_c1 35 (by eq_refl) rfl))
    exact ⟨(c, i), fun r hr => by cases hr; exact h⟩
  | 8 =>
    obtain ⟨c, i, h⟩ := u_known (C := RX8) (T := TX8) (N := 15) (n := 15) hw fw_8 (hw _ (fm_c1 66 (by eq_refl) rfl))
    exact ⟨(c, i), fun r hr => by cases hr; exact h⟩
  | 9 =>
    obtain ⟨c, i, h⟩ := u_known (C := RX9) (T := TX9) (N := 7) (n := 7) hw fw_9 (hw _ (fm_c1 188 (by eq_refl) rfl))
    exact ⟨(c, i), fun r hr => by cases hr; exact h⟩
  | 10 =>
    obtain ⟨c, i, h⟩ := u_known (C := RX10) (T := TX10) (N := 17) (n := 17) hw fw_10 (hw _ (fm_c1 27 (by eq_refl) rfl))
    exact ⟨(c, i), fun r hr => by cases hr; exact h⟩
  | 11 =>
    obtain ⟨c, i, h⟩ := u_known (C := RX11) (T := TX11) (N := 49) (n := 49) hw fw_11 (hw _ (fm_c6 90 (by eq_refl) rfl))
    exact ⟨(c, i), fun r hr => by cases hr; exact h⟩
  | k + 12 => exact ⟨(Classical.choice ⟨(st_c0 hw)⟩, fun _ => 0), fun r hr => by simp [vwCl] at hr⟩
theorem st_arr {s : State} {args : Array Value} (hw : ∀ w ∈ fmWs, w.before args s = true) {ty : FieldType} (h : Cond.arrayClass ty ∈ fmWs) (hr : ∀ cA, s.vm.findClass ("[" ++ ty.toString) = some cA → va_RA s cA ty) : ∃ cA : ClassId, ArrOfT s cA ty ∧ va_RA s cA ty := by
  obtain ⟨cA, k, comp, h1, h2, h3⟩ := Cond.arrayClass_spec (hw _ h)
  exact ⟨cA, fun n z => ⟨fun k h => (by cases h), k, h2, comp, h3⟩, hr cA h1⟩
theorem st_ao {s : State} {C : String} (h : va_AO C s) : ∃ cA : ClassId, ArrOfT s cA (.object C) ∧ va_RA s cA (.object C) := by
  obtain ⟨comp, cA, k, h1, -, h2, h3, h4⟩ := Cond.arrayOver_spec (va_AO.use (A := #[]) h)
  exact ⟨cA, fun n z => ⟨fun k h => (by cases h), k, h2, comp, h3⟩, k, comp, h2, h3, h1, h4⟩
theorem st_aoa {s : State} (h : va_AOA .int s) : ∃ cA : ClassId, ArrOfT s cA (.array .int) ∧ va_RA s cA (.array .int) := by
  obtain ⟨comp, cA, k, h1, h2, h3, h4⟩ := Cond.arrayOver_specA (va_AOA.use (A := #[]) h)
  exact ⟨cA, fun n z => ⟨fun k h => (by cases h), k, h2, comp, h3⟩, h4⟩
theorem st_env {b : Nat} {s : State} (hts : ∀ w ∈ lw_tbl, w.before #[Value.ref b] s = true) (hgv : (Jvm.Cond.and given_1 narrow_1).before #[Value.ref b] s = true) : ∃ G : fmG, lwEnv G (fun q => s.heap.size ≤ q) s := by
  have hw : ∀ w ∈ fmWs, w.before #[Value.ref b] s = true := fun w h => hts w (List.mem_filter.mp h).1
  have hn : ∀ w ∈ flatC narrow_1, w.before #[Value.ref b] s = true := fun w h => flat_of_before _ hgv w (by
    show w ∈ flatC given_1 ++ flatC narrow_1
    exact List.mem_append_right _ h)
  have hA0 : ∀ a : Nat, a < s.heap.size → ¬ (fun q : Nat => s.heap.size ≤ q) a := fun a h => Nat.not_le.mpr h
  have hsh : va_AO "LifeDrawer$Shelf" s := va_AO.of (tb_at hts 359 (by decide +kernel))
  have hst : va_AO "LifeDrawer$State" s := va_AO.of (tb_at hts 346 (by decide +kernel))
  have hai : va_AOA .int s := (tb_at hts 1296 (w := Cond.arrayOver (.array .int)) (by decide +kernel))
  obtain ⟨D, hD⟩ := Classical.axiomOfChoice (st_cls hw)
  obtain ⟨c0, r0⟩ := st_arr hw lw_ai (fun _ h => h)
  obtain ⟨c1, r1⟩ := st_arr hw lw_al (fun _ h => h)
  obtain ⟨c2, r2⟩ := st_arr hw lw_ab (fun _ h => h)
  obtain ⟨c3, r3⟩ := st_ao hsh
  obtain ⟨c4, r4⟩ := st_ao hst
  obtain ⟨c5, r5⟩ := st_aoa hai
  obtain ⟨adK, adV, hS, hev⟩ := vk_Sof (args := #[Value.ref b]) (s := s) (N := 5) (tm := tmS) (len := fmLen) (byt := fmByt) (A := fun q : Nat => s.heap.size ≤ q) (by decide) (fun i h => hn _ (nr_ex i h)) (fun i h => hn _ (nr_co i h)) (fun i h => hn _ (nr_ar i h)) (fun i h => hn _ (nr_le i h)) (fun i h j hj => hn _ (nr_el i h j hj)) (fun i j hi hj e => (nr_ne i hi j hj e).imp (hn _) (hn _)) hA0
  obtain ⟨v, hv1, hv2⟩ := Cond.isRef_spec (hn _ nr_si)
  have hsi : ∃ n : Nat, v = (match n with | 0 => Value.null | t + 1 => .ref t) := by
    cases v with
    | null => exact ⟨0, rfl⟩
    | ref t => exact ⟨t + 1, rfl⟩
    | _ => simp [Value.isRef] at hv2
  obtain ⟨n9, hn9⟩ := hsi
  have ek : ∀ i, i < 5 → (fun k => if k = 99 then n9 else adK k) i = adK i := fun i h => if_neg (by omega)
  refine ⟨(fun _ => 0, (fun k => (D k).1, fun k => (D k).2), fun t => if t = 0 then c0 else if t = 1 then c1 else if t = 2 then c2 else if t = 3 then c3 else if t = 4 then c4 else c5, fun k => if k = 99 then n9 else adK k, adV), ⟨⟨fun k r hr => hD k r hr, fun k q hq => ?_⟩, ?_, ?_, ⟨fmCa.of (tb_at hts 607 (by decide +kernel)), fmCa.of (tb_at hts 944 (by decide +kernel)), va_Nc.of (hn _ nr_nc), fmDe.of (tb_at hts 609 (by decide +kernel)), fmDe.of (tb_at hts 611 (by decide +kernel)), fmDe.of (tb_at hts 613 (by decide +kernel))⟩, ?_, ?_, ?_, ?_, ?_, ?_, ?_, ?_⟩, hsh, hst, hai⟩
  · match k, hq with
    | 0, hq => cases hq; exact r0
    | 1, hq => cases hq; exact r1
    | 2, hq => cases hq; exact r2
    | 3, hq => cases hq; exact r3
    | 4, hq => cases hq; exact r4
    | 5, hq => cases hq; exact r5
    | k + 6, hq => simp [fmTys] at hq
  · exact vx_Zqof (tb_at hts 632 (by decide +kernel)) (tb_at hts 15 (by decide +kernel)) (hn _ nr_us) hA0
  · exact vx_Zqof (tb_at hts 634 (by decide +kernel)) (tb_at hts 15 (by decide +kernel)) (hn _ nr_ss) hA0
  · refine ⟨fun i hi => ?_, fun i j hi hj e => hS.2 i j hi hj ?_⟩
    · have h := hS.1 i hi
      rw [← ek i hi] at h
      exact h
    · rw [← ek i hi, ← ek j hj]; exact e
  · exact vk_R.of (tb_at hts 951 (by decide +kernel)) (hev 0 (by decide))
  · exact vk_R.of (tb_at hts 645 (by decide +kernel)) (hev 1 (by decide))
  · exact vk_R.of (tb_at hts 692 (by decide +kernel)) (hev 2 (by decide))
  · exact vk_R.of (tb_at hts 831 (by decide +kernel)) (hev 3 (by decide))
  · exact vk_R.of (tb_at hts 859 (by decide +kernel)) (hev 4 (by decide))
  · exact va_Zof (tb_at hts 711 (by decide +kernel)) (tb_at hts 19 (by decide +kernel)) (va_eqt (hn _ nr_cs)) hA0
  · refine va_Zof (tb_at hts 727 (by decide +kernel)) (tb_at hts 21 (by decide +kernel)) (hv1.trans ?_) hA0
    rw [hn9]; rfl
end
-- P 17
section
section ZNew
variable {p : Program} {l : Launch} {e : Env} {R : Room} {s : State} {m : MethodId} {args : Array Value} {below : List Frame} {meth : Method} {c : Code} {own : String} {cc : ByteArray} {nL : Nat} {G : fmG} {A : Nat → Prop} {Z : State → Prop} {pc : Nat} {L : List (Option Value)} {st : List Value} {ws : va_W} {cu su : Nat}
theorem z_new (hF : zFix p s m args c own cc nL G A) {ci idx N : Nat} {r : vw_C} {fs : List Value} (hcl : fmCl ci r) (hN : r.2.2 = N) (hk : Cond.classLink own idx r.1 ∈ fmWs) (hin : Cond.instantiable r.1 r.2.2 ∈ fmWs) (hini : Cond.initialized r.1 ∈ fmWs) (hfs : ∀ j, j < N → defaultValue (fmTy ci j) = vp_V fs j) (hc : cu + 1 ≤ R.cells) (hs : su + N ≤ R.slots) (hdg : decode cc pc = .ok (.new idx, 3))
    (kk : ∀ q : Nat, zEv p l e R s m args below meth c G A nL Z (pc + 3) L (.ref q :: st) (ws ++ [(q, .inr (ci, fs))]) (cu + 1) (su + N)) : zEv p l e R s m args below meth c G A nL Z pc L st ws cu su := by
  subst hN
  intro H locs ls hP hS hL
  obtain ⟨hx, hb, hml, hown, hts, hE, hA⟩ := id hF
  refine va_new (C := r.1) (T := r.2.1) (N := r.2.2) hx hb hts hcl.2.1 (fmTy ci) hcl.2.2.1 hown (hts _ hk) (hts _ hin) (hts _ hini) hE.1.1 hP.1 hP.2 hS hA hcl.1 hfs hc hs hdg (fun q H1 hP1 hD1 hS1 => ?_)
  exact kk q H1 locs ls ⟨hP1, hD1⟩ hS1 hL
theorem z_init (hF : zFix p s m args c own cc nL G A) {d' mc' ms' idx n a : Nat} {y' : fmY} {As st0 : List Value} (hc : fmCb own idx y' n) (hm : Cond.instanceMethod y'.1 ∈ fmWs) (hni : y'.1.name = "<init>") (hret : y'.2.2.2 = none) (hn : As.length = n) (hst0 : st0 = As.reverse ++ .ref a :: st) (hcat : (st.map fun v => v.category).sum ≤ 8) (hfr : d' + 10 + 1 ≤ R.frames) (hlo : 8 + (y'.2.2.1 + 11) + (60 * d' + 200) ≤ R.locals) (h1 : cu + mc' ≤ R.cells) (h2 : su + ms' ≤ R.slots) (hdg : decode cc pc = .ok (.invokespecial idx, 3))
    (hg : lwGood l G d' mc' ms' y' (.ref a :: As) ws (fun ws' => zEv p l e R s m args below meth c G A nL Z (pc + 3) L st ws' (cu + mc') (su + ms'))) : zEv p l e R s m args below meth c G A nL Z pc L st0 ws cu su := by
  subst hst0
  intro H locs ls hP hS hL
  obtain ⟨hx, hb, hml, hown, hts, hE, hA⟩ := id hF
  have hcb : CallB R s args own idx y'.1 y'.2.1 y'.2.2.1 none (fmWy y') (lwRm d' mc' ms') mc' ms' n := by
    rw [← hret]
    refine callB_of (Ts := fmWs) n hts ?_ rfl rfl rfl (hts _ hc.2.1) (hts _ hc.1) hc.2.2.2.1 ⟨hfr, hlo⟩
    intro w hw
    rcases List.mem_cons.mp hw with e | h
    · rw [e]; exact ⟨hc.2.2.1, good_of_word (fmWs_good hc.2.2.1)⟩
    · exact ⟨h, good_of_word (fmWs_good h)⟩
  refine va_callv (va_runI (As := As) (rest := st) ⟨hx, hb, hml, hown, hts⟩ (hg A) ⟨hcb, hni, hts _ hm⟩ ⟨lwPc.blind, fun U hU hW => ⟨rfl, hE.warm hS hU hW, fun q h => hA q (Nat.le_trans hS.1 (by rw [← hU]; exact h)), by rw [hU]; exact hP⟩⟩ rfl hn hL.1 rfl (lv_room hcat) hdg ⟨h1, h2⟩) hS (fun _ _ h => h) (fun _ h => h) (fun ws' t H1 locs1 ht hvm hq hB hz hk hS1 => ?_)
  rw [ht] at hB
  exact hq H1 locs1 ls hB hS1 hL
theorem z_newJ (hF : zFix p s m args c own cc nL G A) {N : Nat} {n : Int32} (hn : ¬ n < 0) (hN : n.toNatClampNeg = N) (hb9 : N * 8 ≤ 536870912) (hc : cu + 1 ≤ R.cells) (hs : su + N ≤ R.slots) (hdg : decode cc pc = .ok (.newarray .long, 2))
    (kk : ∀ q : Nat, zEv p l e R s m args below meth c G A nL Z (pc + 2) L (.ref q :: st) (ws ++ [(q, .inl (G.2.2.1 1, N, .inr (.inl (fun _ => 0))))]) (cu + 1) (su + N)) : zEv p l e R s m args below meth c G A nL Z pc L (.int n :: st) ws cu su := by
  intro H locs ls hP hS hL
  obtain ⟨hx, hb, hml, hown, hts, hE, hA⟩ := id hF
  refine va_newa (atype := .long) (a0 := (N, .inr (.inl (fun _ => 0)))) hx hb (hts _ lw_al) rfl hE.1.1 hP.1 hP.2 hS hA (fun cA => by rw [vp_cell_l]; rfl) hn hN hb9 hc hs hdg (fun q cA H1 hK1 hP1 hD1 hS1 => ?_)
  have e1 : s.vm.findClass ("[" ++ FieldType.long.toString) = some cA := (hK1.2 6 (cA, .long) rfl).2
  have e2 : s.vm.findClass ("[" ++ FieldType.long.toString) = some (G.2.2.1 1) := (hE.1.1.2 1 _ rfl).2
  have e3 : cA = G.2.2.1 1 := Option.some.inj (e1.symm.trans e2)
  subst e3
  exact kk q H1 locs ls ⟨hP1, hD1⟩ hS1 hL
end ZNew
theorem and63 (x : Int32) : ∃ k, k < 64 ∧ x &&& 63 = nI k := by
  have h : vp_in (x &&& 63) 64 := by
    rw [vp_in_iff]
    have e : (x &&& 63).toBitVec.toNat = x.toBitVec.toNat &&& 63 := by
      rw [Int32.toBitVec_and, BitVec.toNat_and]; rfl
    have e2 : (x &&& 63).toBitVec.toNat ≤ 63 := by rw [e]; exact Nat.and_le_right
    have e3 : (x &&& 63).toInt = ((x &&& 63).toBitVec.toNat : Int) := by
      show (x &&& 63).toBitVec.toInt = _
      rw [BitVec.toInt_eq_toNat_of_lt (by omega)]
    rw [e3]
    omega
  obtain ⟨k, h1, h2⟩ := vp_in_of h (by decide)
  exact ⟨k, h1, h2⟩
def laAll (I : fmM → fmM → Prop) : Prop := laS_feed I ∧ laS_drawer I ∧ laS_law I ∧ laS_work I ∧ laS_page I ∧ laS_fault I ∧ laS_undo I ∧ laS_told I ∧ laS_life I ∧ laS_facts I ∧ laS_wrong I ∧ laS_would I ∧ laS_loss I ∧ laS_cost I ∧ laS_risk I ∧ laS_saves I ∧ laS_first I ∧ laS_lacking I ∧ laS_signed I ∧ laS_stale I ∧ laS_best I ∧ laS_bestIn I ∧ laS_often I ∧ laS_yearly I ∧ laS_brings I ∧ laS_says I ∧ laS_line I ∧ laS_room I ∧ laS_lines I ∧ laS_apart I ∧ laS_twins I ∧ laS_written I ∧ laS_whose I ∧ laS_ahead I ∧ laS_lives I ∧ laS_oldest I ∧ laS_chain I ∧ laS_due I ∧ laS_news I ∧ laS_expects I ∧ laS_worst I ∧ laS_years I ∧ laS_span I ∧ laS_image I ∧ laS_restore I ∧ laS_status I ∧ laS_count I
theorem sw_out : ∀ k, k < 64 → 47 ≤ k → fmTsw 40 1900 0 46 #[204, 277, 305, 333, 361, 389, 402, 415, 443, 483, 511, 539, 615, 643, 683, 711, 751, 764, 777, 790, 818, 858, 898, 938, 1002, 1092, 1168, 1232, 1272, 1324, 1364, 1377, 1405, 1418, 1458, 1510, 1523, 1563, 1603, 1631, 1683, 1696, 1748, 1824, 1837, 1850, 1875] (nI k) = 1940 := by decide
theorem la_at {n t : Nat} (hn : n ≤ 3584) (h : 7 * t + 7 ≤ n) : laI n (nI (7 * t)) (7 * t) := by
  intro k hk
  have e : nI (7 * t) + Int32.ofNat k = nI (7 * t + k) := by
    show Int32.ofNat (7 * t) + Int32.ofNat k = Int32.ofNat (7 * t + k)
    rw [Int32.ofNat_add]
  have e2 : (nI (7 * t + k)).toInt = ((7 * t + k : Nat) : Int) := nI_toInt (by omega)
  rw [e]
  exact ⟨vp_in_iff.mpr ⟨by omega, by omega⟩, i32_cl e2⟩
theorem la_7 (n : Nat) (h : n ≤ 3584) : (Int32.ofNat n - 7).toInt = (n : Int) - 7 := by
  have e1 : (Int32.ofNat n).toInt = (n : Int) := nI_toInt (by omega)
  have e7 : (7 : Int32).toInt = 7 := by decide
  rw [sc_sub (by omega) (by omega)]
  omega
theorem la_i7 (t : Nat) : nI (7 * t) + 7 = nI (7 * (t + 1)) := by
  show Int32.ofNat (7 * t) + Int32.ofNat 7 = Int32.ofNat (7 * (t + 1))
  rw [← Int32.ofNat_add, show 7 * t + 7 = 7 * (t + 1) by omega]
theorem la_inc {p : Program} {l : Launch} {e : Env} {s : State} {m : MethodId} {below : List Frame} {meth : Method} {c : Code} {G : fmG} {b n : Nat} {xs : Nat → Int32} (C : laC p l s m meth c G b n xs) {g g2 : Nat → Nat} {ws : va_W} {o t cu su : Nat} (k : zEv p l e room_1 s m #[.ref b] below meth c G (fun q => s.heap.size ≤ q) 8 (lw_Z below #[.ref b] s) 23 [some (.ref b), some (.ref (g 0)), some (.ref (g2 0)), some (.ref o), some (.int (nI (7 * (t + 1)))), none, none, none] [] ws cu su) : zEv p l e room_1 s m #[.ref b] below meth c G (fun q => s.heap.size ≤ q) 8 (lw_Z below #[.ref b] s) 1940 [some (.ref b), some (.ref (g 0)), some (.ref (g2 0)), some (.ref o), some (.int (nI (7 * t))), none, none, none] [] ws cu su := by
  refine z_iincc C.1 (pc := 1940) 4 7 (by decide) rfl (by decide) rfl (fm_dec dtLa_40 7 rfl) ?_
  dsimp only [List.set_cons_zero, List.set_cons_succ]
  rw [la_i7]
  exact z_goto C.1 (pc := 1943) 23 (by decide) (fm_dec dtLa_40 8 rfl) k
set_option maxRecDepth 20000 in
theorem la_loop {p : Program} {l : Launch} {e : Env} {s : State} {m : MethodId} {below : List Frame} {meth : Method} {c : Code} {G : fmG} {b n : Nat} {xs : Nat → Int32} {I : fmM → fmM → Prop} (hA : laAll I) (C : laC p l s m meth c G b n xs) (hn : n ≤ 3584) {g g2 : Nat → Nat} {o : Nat} : ∀ (q t : Nat) (M M2 : fmM) (f : Nat → Int64), t + q = 513 → I M M2 → zEv p l e room_1 s m #[.ref b] below meth c G (fun q => s.heap.size ≤ q) 8 (lw_Z below #[.ref b] s) 23 [some (.ref b), some (.ref (g 0)), some (.ref (g2 0)), some (.ref o), some (.int (nI (7 * t))), none, none, none] [] (fmL Tx (g, G.2) M ++ ((o, .inl (G.2.2.1 1, 1, .inr (.inl f))) :: fmL Tm (g2, G.2) M2)) (1000 + t) (30000 + 6 * t) := by
  obtain ⟨h0, h1, h2, h3, h4, h5, h6, h7, h8, h9, h10, h11, h12, h13, h14, h15, h16, h17, h18, h19, h20, h21, h22, h23, h24, h25, h26, h27, h28, h29, h30, h31, h32, h33, h34, h35, h36, h37, h38, h39, h40, h41, h42, h43, h44, h45, h46⟩ := hA
  intro q
  induction q with
  | zero =>
    intro t M M2 f ht hI
    have e7 := la_7 n hn
    have et : t ≤ 513 := by omega
    have ei : (nI (7 * t)).toInt = ((7 * t : Nat) : Int) := nI_toInt (by omega)
    refine z_iload C.1 (pc := 23) (i := 4) rfl (fm_dec dtLa_0 13 rfl) ?_
    refine z_aloadn C.1 (pc := 25) (n := 0) 0 rfl rfl (fm_dec dtLa_0 14 rfl) ?_
    refine la_len C (pc := 26) (fm_dec dtLa_0 15 rfl) ?_
    refine z_bipush C.1 (pc := 27) (v := 7) (by decide) (fm_dec dtLa_0 16 rfl) ?_
    refine z_isub C.1 (pc := 29) (fm_dec dtLa_0 17 rfl) ?_
    refine z_icmp_gt C.1 (pc := 30) 1946 (by decide) (fm_dec dtLa_0 18 rfl) (fun _ => ?_) (fun h => absurd (by rw [sc_lt]; omega) h)
    exact la_true C (by omega) (by omega)
  | succ q ih =>
    intro t M M2 f ht hI
    have e7 := la_7 n hn
    have et : t ≤ 513 := by omega
    have ei : (nI (7 * t)).toInt = ((7 * t : Nat) : Int) := nI_toInt (by omega)
    refine z_iload C.1 (pc := 23) (i := 4) rfl (fm_dec dtLa_0 13 rfl) ?_
    refine z_aloadn C.1 (pc := 25) (n := 0) 0 rfl rfl (fm_dec dtLa_0 14 rfl) ?_
    refine la_len C (pc := 26) (fm_dec dtLa_0 15 rfl) ?_
    refine z_bipush C.1 (pc := 27) (v := 7) (by decide) (fm_dec dtLa_0 16 rfl) ?_
    refine z_isub C.1 (pc := 29) (fm_dec dtLa_0 17 rfl) ?_
    refine z_icmp_gt C.1 (pc := 30) 1946 (by decide) (fm_dec dtLa_0 18 rfl) (fun _ => ?_) (fun h => ?_)
    · exact la_true C (by omega) (by omega)
    · rw [sc_lt] at h
      have h77 : 7 * t + 7 ≤ n := by omega
      have hi := la_at hn h77
      have hk : ∀ (M' : fmM) (f' : Nat → Int64) (M2' : fmM), I M' M2' → zEv p l e room_1 s m #[.ref b] below meth c G (fun q => s.heap.size ≤ q) 8 (lw_Z below #[.ref b] s) 1940 [some (.ref b), some (.ref (g 0)), some (.ref (g2 0)), some (.ref o), some (.int (nI (7 * t))), none, none, none] [] (fmL Tx (g, G.2) M' ++ ((o, .inl (G.2.2.1 1, 1, .inr (.inl f'))) :: fmL Tm (g2, G.2) M2')) (1000 + t + 1) (30000 + 6 * t + 6) := fun M' f' M2' h9 => la_inc C (ih (t + 1) M' M2' f' (by omega) h9)
      refine z_aloadn C.1 (pc := 33) (n := 0) 0 rfl rfl (fm_dec dtLa_0 19 rfl) ?_
      refine z_iload C.1 (pc := 34) (i := 4) rfl (fm_dec dtLa_0 20 rfl) ?_
      refine la_sld C (pc := 36) (vp_in_iff.mpr ⟨by omega, by omega⟩) (fm_dec dtLa_0 21 rfl) ?_
      refine z_bipush C.1 (pc := 37) (v := 63) (by decide) (fm_dec dtLa_0 22 rfl) ?_
      refine z_iand C.1 (pc := 39) (fm_dec dtLa_0 23 rfl) ?_
      obtain ⟨k, hk64, e⟩ := and63 (xs (nI (7 * t)).toNatClampNeg)
      rw [e]
      rcases (show k = 0 ∨ k = 1 ∨ k = 2 ∨ k = 3 ∨ k = 4 ∨ k = 5 ∨ k = 6 ∨ k = 7 ∨ k = 8 ∨ k = 9 ∨ k = 10 ∨ k = 11 ∨ k = 12 ∨ k = 13 ∨ k = 14 ∨ k = 15 ∨ k = 16 ∨ k = 17 ∨ k = 18 ∨ k = 19 ∨ k = 20 ∨ k = 21 ∨ k = 22 ∨ k = 23 ∨ k = 24 ∨ k = 25 ∨ k = 26 ∨ k = 27 ∨ k = 28 ∨ k = 29 ∨ k = 30 ∨ k = 31 ∨ k = 32 ∨ k = 33 ∨ k = 34 ∨ k = 35 ∨ k = 36 ∨ k = 37 ∨ k = 38 ∨ k = 39 ∨ k = 40 ∨ k = 41 ∨ k = 42 ∨ k = 43 ∨ k = 44 ∨ k = 45 ∨ k = 46 ∨ 47 ≤ k by omega) with rfl | rfl | rfl | rfl | rfl | rfl | rfl | rfl | rfl | rfl | rfl | rfl | rfl | rfl | rfl | rfl | rfl | rfl | rfl | rfl | rfl | rfl | rfl | rfl | rfl | rfl | rfl | rfl | rfl | rfl | rfl | rfl | rfl | rfl | rfl | rfl | rfl | rfl | rfl | rfl | rfl | rfl | rfl | rfl | rfl | rfl | rfl | h9
      · exact z_table C.1 (pc := 40) 244 (by decide) (by decide) (fm_dec dtLa_0 24 rfl) (la_c0 h0 C hi (by omega) (by omega) (by omega) (by omega) hI hk)
      · exact z_table C.1 (pc := 40) 317 (by decide) (by decide) (fm_dec dtLa_0 24 rfl) (la_c1 h1 C hi (by omega) (by omega) (by omega) (by omega) hI hk)
      · exact z_table C.1 (pc := 40) 345 (by decide) (by decide) (fm_dec dtLa_0 24 rfl) (la_c2 h2 C hi (by omega) (by omega) (by omega) (by omega) hI hk)
      · exact z_table C.1 (pc := 40) 373 (by decide) (by decide) (fm_dec dtLa_0 24 rfl) (la_c3 h3 C hi (by omega) (by omega) (by omega) (by omega) hI hk)
      · exact z_table C.1 (pc := 40) 401 (by decide) (by decide) (fm_dec dtLa_0 24 rfl) (la_c4 h4 C hi (by omega) (by omega) (by omega) (by omega) hI hk)
      · exact z_table C.1 (pc := 40) 429 (by decide) (by decide) (fm_dec dtLa_0 24 rfl) (la_c5 h5 C hi (by omega) (by omega) (by omega) (by omega) hI hk)
      · exact z_table C.1 (pc := 40) 442 (by decide) (by decide) (fm_dec dtLa_0 24 rfl) (la_c6 h6 C hi (by omega) (by omega) (by omega) (by omega) hI hk)
      · exact z_table C.1 (pc := 40) 455 (by decide) (by decide) (fm_dec dtLa_0 24 rfl) (la_c7 h7 C hi (by omega) (by omega) (by omega) (by omega) hI hk)
      · exact z_table C.1 (pc := 40) 483 (by decide) (by decide) (fm_dec dtLa_0 24 rfl) (la_c8 h8 C hi (by omega) (by omega) (by omega) (by omega) hI hk)
      · exact z_table C.1 (pc := 40) 523 (by decide) (by decide) (fm_dec dtLa_0 24 rfl) (la_c9 h9 C hi (by omega) (by omega) (by omega) (by omega) hI hk)
      · exact z_table C.1 (pc := 40) 551 (by decide) (by decide) (fm_dec dtLa_0 24 rfl) (la_c10 h10 C hi (by omega) (by omega) (by omega) (by omega) hI hk)
      · exact z_table C.1 (pc := 40) 579 (by decide) (by decide) (fm_dec dtLa_0 24 rfl) (la_c11 h11 C hi (by omega) (by omega) (by omega) (by omega) hI hk)
      · exact z_table C.1 (pc := 40) 655 (by decide) (by decide) (fm_dec dtLa_0 24 rfl) (la_c12 h12 C hi (by omega) (by omega) (by omega) (by omega) hI hk)
      · exact z_table C.1 (pc := 40) 683 (by decide) (by decide) (fm_dec dtLa_0 24 rfl) (la_c13 h13 C hi (by omega) (by omega) (by omega) (by omega) hI hk)
      · exact z_table C.1 (pc := 40) 723 (by decide) (by decide) (fm_dec dtLa_0 24 rfl) (la_c14 h14 C hi (by omega) (by omega) (by omega) (by omega) hI hk)
      · exact z_table C.1 (pc := 40) 751 (by decide) (by decide) (fm_dec dtLa_0 24 rfl) (la_c15 h15 C hi (by omega) (by omega) (by omega) (by omega) hI hk)
      · exact z_table C.1 (pc := 40) 791 (by decide) (by decide) (fm_dec dtLa_0 24 rfl) (la_c16 h16 C hi (by omega) (by omega) (by omega) (by omega) hI hk)
      · exact z_table C.1 (pc := 40) 804 (by decide) (by decide) (fm_dec dtLa_0 24 rfl) (la_c17 h17 C hi (by omega) (by omega) (by omega) (by omega) hI hk)
      · exact z_table C.1 (pc := 40) 817 (by decide) (by decide) (fm_dec dtLa_0 24 rfl) (la_c18 h18 C hi (by omega) (by omega) (by omega) (by omega) hI hk)
      · exact z_table C.1 (pc := 40) 830 (by decide) (by decide) (fm_dec dtLa_0 24 rfl) (la_c19 h19 C hi (by omega) (by omega) (by omega) (by omega) hI hk)
      · exact z_table C.1 (pc := 40) 858 (by decide) (by decide) (fm_dec dtLa_0 24 rfl) (la_c20 h20 C hi (by omega) (by omega) (by omega) (by omega) hI hk)
      · exact z_table C.1 (pc := 40) 898 (by decide) (by decide) (fm_dec dtLa_0 24 rfl) (la_c21 h21 C hi (by omega) (by omega) (by omega) (by omega) hI hk)
      · exact z_table C.1 (pc := 40) 938 (by decide) (by decide) (fm_dec dtLa_0 24 rfl) (la_c22 h22 C hi (by omega) (by omega) (by omega) (by omega) hI hk)
      · exact z_table C.1 (pc := 40) 978 (by decide) (by decide) (fm_dec dtLa_0 24 rfl) (la_c23 h23 C hi (by omega) (by omega) (by omega) (by omega) hI hk)
      · exact z_table C.1 (pc := 40) 1042 (by decide) (by decide) (fm_dec dtLa_0 24 rfl) (la_c24 h24 C hi (by omega) (by omega) (by omega) (by omega) hI hk)
      · exact z_table C.1 (pc := 40) 1132 (by decide) (by decide) (fm_dec dtLa_0 24 rfl) (la_c25 h25 C hi (by omega) (by omega) (by omega) (by omega) hI hk)
      · exact z_table C.1 (pc := 40) 1208 (by decide) (by decide) (fm_dec dtLa_0 24 rfl) (la_c26 h26 C hi (by omega) (by omega) (by omega) (by omega) hI hk)
      · exact z_table C.1 (pc := 40) 1272 (by decide) (by decide) (fm_dec dtLa_0 24 rfl) (la_c27 h27 C hi (by omega) (by omega) (by omega) (by omega) hI hk)
      · exact z_table C.1 (pc := 40) 1312 (by decide) (by decide) (fm_dec dtLa_0 24 rfl) (la_c28 h28 C hi (by omega) (by omega) (by omega) (by omega) hI hk)
      · exact z_table C.1 (pc := 40) 1364 (by decide) (by decide) (fm_dec dtLa_0 24 rfl) (la_c29 h29 C hi (by omega) (by omega) (by omega) (by omega) hI hk)
      · exact z_table C.1 (pc := 40) 1404 (by decide) (by decide) (fm_dec dtLa_0 24 rfl) (la_c30 h30 C hi (by omega) (by omega) (by omega) (by omega) hI hk)
      · exact z_table C.1 (pc := 40) 1417 (by decide) (by decide) (fm_dec dtLa_0 24 rfl) (la_c31 h31 C hi (by omega) (by omega) (by omega) (by omega) hI hk)
      · exact z_table C.1 (pc := 40) 1445 (by decide) (by decide) (fm_dec dtLa_0 24 rfl) (la_c32 h32 C hi (by omega) (by omega) (by omega) (by omega) hI hk)
      · exact z_table C.1 (pc := 40) 1458 (by decide) (by decide) (fm_dec dtLa_0 24 rfl) (la_c33 h33 C hi (by omega) (by omega) (by omega) (by omega) hI hk)
      · exact z_table C.1 (pc := 40) 1498 (by decide) (by decide) (fm_dec dtLa_0 24 rfl) (la_c34 h34 C hi (by omega) (by omega) (by omega) (by omega) hI hk)
      · exact z_table C.1 (pc := 40) 1550 (by decide) (by decide) (fm_dec dtLa_0 24 rfl) (la_c35 h35 C hi (by omega) (by omega) (by omega) (by omega) hI hk)
      · exact z_table C.1 (pc := 40) 1563 (by decide) (by decide) (fm_dec dtLa_0 24 rfl) (la_c36 h36 C hi (by omega) (by omega) (by omega) (by omega) hI hk)
      · exact z_table C.1 (pc := 40) 1603 (by decide) (by decide) (fm_dec dtLa_0 24 rfl) (la_c37 h37 C hi (by omega) (by omega) (by omega) (by omega) hI hk)
      · exact z_table C.1 (pc := 40) 1643 (by decide) (by decide) (fm_dec dtLa_0 24 rfl) (la_c38 h38 C hi (by omega) (by omega) (by omega) (by omega) hI hk)
      · exact z_table C.1 (pc := 40) 1671 (by decide) (by decide) (fm_dec dtLa_0 24 rfl) (la_c39 h39 C hi (by omega) (by omega) (by omega) (by omega) hI hk)
      · exact z_table C.1 (pc := 40) 1723 (by decide) (by decide) (fm_dec dtLa_0 24 rfl) (la_c40 h40 C hi (by omega) (by omega) (by omega) (by omega) hI hk)
      · exact z_table C.1 (pc := 40) 1736 (by decide) (by decide) (fm_dec dtLa_0 24 rfl) (la_c41 h41 C hi (by omega) (by omega) (by omega) (by omega) hI hk)
      · exact z_table C.1 (pc := 40) 1788 (by decide) (by decide) (fm_dec dtLa_0 24 rfl) (la_c42 h42 C hi (by omega) (by omega) (by omega) (by omega) hI hk)
      · exact z_table C.1 (pc := 40) 1864 (by decide) (by decide) (fm_dec dtLa_0 24 rfl) (la_c43 h43 C hi (by omega) (by omega) (by omega) (by omega) hI hk)
      · exact z_table C.1 (pc := 40) 1877 (by decide) (by decide) (fm_dec dtLa_0 24 rfl) (la_c44 h44 C hi (by omega) (by omega) (by omega) (by omega) hI hk)
      · exact z_table C.1 (pc := 40) 1890 (by decide) (by decide) (fm_dec dtLa_0 24 rfl) (la_c45 h45 C hi (by omega) (by omega) (by omega) (by omega) hI hk)
      · exact z_table C.1 (pc := 40) 1915 (by decide) (by decide) (fm_dec dtLa_0 24 rfl) (la_c46 h46 C hi (by omega) (by omega) (by omega) (by omega) hI hk)
      · refine z_table C.1 (pc := 40) 1940 (by decide) (sw_out k hk64 h9) (fm_dec dtLa_0 24 rfl) ?_
        exact z_more (Nat.le_succ _) (Nat.le_add_right _ 6) (hk M f M2 hI)
end
-- P 18a
section
-- THE STEPS, safe
set_option maxRecDepth 20000 in
theorem xt_work2 {M : fmM} {Q : fmR → fmM → Prop} {nn : Int32} (hI : scInv Tx invX M) (hq : ∀ (r : fmR) (M' : fmM), rkI true false r → scInv Tx invX M' → Q r M') : pvGood Tx 213 qX10_work [.ref 0, .int nn] M Q := by
  refine pvGood_of (Nat.le_of_ble_eq_true rfl) ?_
  show pvEv Tx 213 qX10_work 0 [some (.ref 0), some (.int nn)] [] M Q
  refine pv_aloadn (pc := 0) (n := 0) 0 rfl rfl (fm_dec dtX10_work 0 rfl) ?_
  refine pv_iloadn (pc := 1) (n := 1) 1 rfl rfl (fm_dec dtX10_work 1 rfl) ?_
  refine pv_sipush (pc := 2) (v := 150) (by decide) (fm_dec dtX10_work 2 rfl) ?_
  refine pv_invV2 (k := 0) (d' := 1) (pc := 5) pcv_X10_108 (by decide) rfl (Nat.le_of_ble_eq_true rfl) (by omega) (fm_dec dtX10_work 3 rfl) ?_
  refine s_open (scq_t nn) (scq_t 150) hI (fun M5 hI5 f5 => ?_) (fun M5 hI5 f5 => ?_)
  · refine pv_then0 ?_
    refine pv_aloadn (pc := 8) (n := 0) 0 rfl rfl (fm_dec dtX10_work 4 rfl) ?_
    refine pv_getR (k := 0) (j := 9) (ci := 10) (pc := 9) 46 rfl (by decide) pfl_X10_75 (by decide) rfl (by decide) (fm_dec dtX10_work 5 rfl) ?_
    refine pv_getI (k := 46) (j := 2) (ci := 5) (pc := 12) pfl_X10_126 (by decide) rfl (by decide) (fm_dec dtX10_work 6 rfl) ?_
    refine pv_bipush (pc := 15) (v := 16) (by decide) (fm_dec dtX10_work 7 rfl) ?_
    refine pv_icmp_lt (pc := 17) 23 (by decide) (fm_dec dtX10_work 8 rfl) (fun hc17 => ?_) (fun hc17 => ?_)
    · refine pv_aloadn (pc := 23) (n := 0) 0 rfl rfl (fm_dec dtX10_work 11 rfl) ?_
      refine pv_getR (k := 0) (j := 5) (ci := 10) (pc := 24) 28 rfl (by decide) pfl_X10_43 (by decide) rfl (by decide) (fm_dec dtX10_work 12 rfl) ?_
      refine pv_aloadn (pc := 27) (n := 0) 0 rfl rfl (fm_dec dtX10_work 13 rfl) ?_
      refine pv_getR (k := 0) (j := 0) (ci := 10) (pc := 28) 1 rfl (by decide) pfl_X10_12 (by decide) rfl (by decide) (fm_dec dtX10_work 14 rfl) ?_
      refine pv_aloadn (pc := 31) (n := 0) 0 rfl rfl (fm_dec dtX10_work 15 rfl) ?_
      refine pv_getR (k := 0) (j := 1) (ci := 10) (pc := 32) 3 rfl (by decide) pfl_X10_19 (by decide) rfl (by decide) (fm_dec dtX10_work 16 rfl) ?_
      refine pv_getI (k := 3) (j := 9) (ci := 8) (pc := 35) pfl_X10_138 (by decide) rfl (by decide) (fm_dec dtX10_work 17 rfl) ?_
      refine pv_invV2 (k := 28) (d' := 27) (pc := 38) pcv_X10_142 (by decide) rfl (Nat.le_of_ble_eq_true rfl) (by omega) (fm_dec dtX10_work 18 rfl) ?_
      refine c_xread hI5 (hI5.1 3 9 (by decide)) (fun M38 z hI38 f38 h4 hz hz2 hS => ?_) (fun M38 hI38 f38 => ?_)  
      · refine pv_then1 ?_
        refine pv_if_ne (pc := 41) 55 (by decide) (fm_dec dtX10_work 19 rfl) (fun _ => ?_) (fun hc41 => by exfalso; revert hc41; decide)
        refine pv_aloadn (pc := 55) (n := 0) 0 rfl rfl (fm_dec dtX10_work 26 rfl) ?_
        refine pv_getR (k := 0) (j := 9) (ci := 10) (pc := 56) 46 rfl (by decide) pfl_X10_75 (by decide) rfl (by decide) (fm_dec dtX10_work 27 rfl) ?_
        refine pv_invV0 (k := 46) (d' := 1) (pc := 59) pcv_X10_145 (by decide) rfl (Nat.le_of_ble_eq_true rfl) (by omega) (fm_dec dtX10_work 28 rfl) ?_
        refine s_keepx hI38 (fun M59 hI59 f59 => ?_)
        refine pv_then0 ?_
        have hQ9 : xQ M59 z 0 := ⟨hz2, fun i a b => (hS i a b).up (Nat.le_refl _) (fun k hk => (f59 k i (kpW_k (by omega))).1), hI59, (by rw [(f59 28 4 (kpW_k (by decide))).1]; exact h4), by decide⟩
        refine pv_aloadn (pc := 62) (n := 0) 0 rfl rfl (fm_dec dtX10_work 29 rfl) ?_
        refine pv_getR (k := 0) (j := 5) (ci := 10) (pc := 63) 28 rfl (by decide) pfl_X10_43 (by decide) rfl (by decide) (fm_dec dtX10_work 30 rfl) ?_
        refine pv_aloadn (pc := 66) (n := 0) 0 rfl rfl (fm_dec dtX10_work 31 rfl) ?_
        refine pv_getR (k := 0) (j := 6) (ci := 10) (pc := 67) 32 rfl (by decide) pfl_X10_52 (by decide) rfl (by decide) (fm_dec dtX10_work 32 rfl) ?_
        refine pv_aloadn (pc := 70) (n := 0) 0 rfl rfl (fm_dec dtX10_work 33 rfl) ?_
        refine pv_getR (k := 0) (j := 9) (ci := 10) (pc := 71) 46 rfl (by decide) pfl_X10_75 (by decide) rfl (by decide) (fm_dec dtX10_work 34 rfl) ?_
        refine pv_getR (k := 46) (j := 0) (ci := 5) (pc := 74) 47 rfl (by decide) pfl_X10_90 (by decide) rfl (by decide) (fm_dec dtX10_work 35 rfl) ?_
        refine pv_iconst (pc := 77) (v := 0) (by decide) (fm_dec dtX10_work 36 rfl) ?_
        refine pv_aloadn (pc := 78) (n := 0) 0 rfl rfl (fm_dec dtX10_work 37 rfl) ?_
        refine pv_getR (k := 0) (j := 5) (ci := 10) (pc := 79) 28 rfl (by decide) pfl_X10_43 (by decide) rfl (by decide) (fm_dec dtX10_work 38 rfl) ?_
        refine pv_getI (k := 28) (j := 3) (ci := 9) (pc := 82) pfl_X10_148 (by decide) rfl (by decide) (fm_dec dtX10_work 39 rfl) ?_
        refine pv_iconst (pc := 85) (v := 0) (by decide) (fm_dec dtX10_work 40 rfl) ?_
        refine pv_invV5 (k := 28) (d' := (12 + 200)) (pc := 86) pcv_X10_151 (by decide) rfl (Nat.le_of_ble_eq_true rfl) (by omega) (fm_dec dtX10_work 41 rfl) ?_
        refine xp_G (xp_P 200) M59 _ z 0 0 z _ 0 0 hQ9 (by omega) (by decide) (by rw [(f59 28 3 (kpW_k (by decide))).1]; exact hz) (Nat.le_refl _) (fun M86 g86 hI86 f86 hg86 _ _ => ?_) 
        refine pv_then0 ?_
        refine pv_aloadn (pc := 89) (n := 0) 0 rfl rfl (fm_dec dtX10_work 42 rfl) ?_
        refine pv_aloadn (pc := 90) (n := 0) 0 rfl rfl (fm_dec dtX10_work 43 rfl) ?_
        refine pv_getR (k := 0) (j := 5) (ci := 10) (pc := 91) 28 rfl (by decide) pfl_X10_43 (by decide) rfl (by decide) (fm_dec dtX10_work 44 rfl) ?_
        refine pv_getI (k := 28) (j := 6) (ci := 9) (pc := 94) pfl_X10_155 (by decide) rfl (by decide) (fm_dec dtX10_work 45 rfl) ?_
        refine pv_putI (k := 0) (j := 14) (ci := 10) (pc := 97) pfl_X10_132 (by decide) rfl (by decide) (fm_dec dtX10_work 46 rfl) ?_
        refine pv_aloadn (pc := 100) (n := 0) 0 rfl rfl (fm_dec dtX10_work 47 rfl) ?_
        refine pv_getR (k := 0) (j := 7) (ci := 10) (pc := 101) 34 rfl (by decide) pfl_X10_61 (by decide) rfl (by decide) (fm_dec dtX10_work 48 rfl) ?_
        refine pv_invV0 (k := 34) (d' := 0) (pc := 104) pcv_X10_135 (by decide) rfl (Nat.le_of_ble_eq_true rfl) (by omega) (fm_dec dtX10_work 49 rfl) ?_
        refine s_forget (xInv.put hI86 (scq_t _)) (fun M104 hI104 f104 => ?_)
        refine pv_then0 ?_
        refine pv_aloadn (pc := 107) (n := 0) 0 rfl rfl (fm_dec dtX10_work 50 rfl) ?_
        refine pv_getR (k := 0) (j := 5) (ci := 10) (pc := 108) 28 rfl (by decide) pfl_X10_43 (by decide) rfl (by decide) (fm_dec dtX10_work 51 rfl) ?_
        refine pv_getI (k := 28) (j := 5) (ci := 9) (pc := 111) pfl_X10_158 (by decide) rfl (by decide) (fm_dec dtX10_work 52 rfl) ?_
        exact pv_ireturn (pc := 114) rfl (fm_dec dtX10_work 53 rfl) (hq _ _ (Or.inl ⟨_, rfl⟩) hI104)
      · refine pv_then1 ?_
        refine pv_if_ne (pc := 41) 55 (by decide) (fm_dec dtX10_work 19 rfl) (fun hc41 => by exfalso; revert hc41; decide) (fun _ => ?_)
        refine pv_aloadn (pc := 44) (n := 0) 0 rfl rfl (fm_dec dtX10_work 20 rfl) ?_
        refine pv_getR (k := 0) (j := 0) (ci := 10) (pc := 45) 1 rfl (by decide) pfl_X10_12 (by decide) rfl (by decide) (fm_dec dtX10_work 21 rfl) ?_
        refine pv_getI (k := 1) (j := 4) (ci := 7) (pc := 48) pfl_X10_116 (by decide) rfl (by decide) (fm_dec dtX10_work 22 rfl) ?_
        refine pv_bipush (pc := 51) (v := 10) (by decide) (fm_dec dtX10_work 23 rfl) ?_
        refine pv_isub (pc := 53) (fm_dec dtX10_work 24 rfl) ?_
        exact pv_ireturn (pc := 54) rfl (fm_dec dtX10_work 25 rfl) (hq _ _ (Or.inl ⟨_, rfl⟩) hI38)
    · refine pv_bipush (pc := 20) (v := (-20)) (by decide) (fm_dec dtX10_work 9 rfl) ?_
      exact pv_ireturn (pc := 22) rfl (fm_dec dtX10_work 10 rfl) (hq _ _ (Or.inl ⟨_, rfl⟩) hI5)
  · refine pv_thenX ?_
    exact hq _ _ (Or.inr (Or.inl ⟨rfl, rfl⟩)) hI5
theorem wsx_feed {M : fmM} {Q : fmR → fmM → Prop} {x1 : Int32} (bx1 : (-2147483648) ≤ x1.toInt ∧ x1.toInt ≤ 2147483647) {x2 : Int32} (bx2 : (-2147483648) ≤ x2.toInt ∧ x2.toInt ≤ 2147483647) {x3 : Int32} (bx3 : (-2147483648) ≤ x3.toInt ∧ x3.toInt ≤ 2147483647) {x4 : Int32} (bx4 : (-2147483648) ≤ x4.toInt ∧ x4.toInt ≤ 2147483647) {x5 : Int32} (bx5 : (-2147483648) ≤ x5.toInt ∧ x5.toInt ≤ 2147483647) (hI : scInv Tx invX M) (q0 : ∀ (n : Int32) (M' : fmM), ((-1) ≤ n.toInt ∧ n.toInt ≤ 600) → scInv Tx invX M' → scFr [(1, 1, 1), (2, 0, 600)] M M' → Q (.inl (some (.int n))) M') : pvGood Tx 1 qX10_feed [.ref 0, .int x1, .int x2, .int x3, .int x4, .int x5] M Q := (hh_X10_feed_0 M [x1.toInt, x2.toInt, x3.toInt, x4.toInt, x5.toInt] [.ref 0, .int x1, .int x2, .int x3, .int x4, .int x5] (scEk.c1 bx1 (scEk.c1 bx2 (scEk.c1 bx3 (scEk.c1 bx4 (scEk.c1 bx5 scEk.n0))))) ⟨⟨0, by simp, rfl⟩, ⟨x1, rfl, scEv.at rfl⟩, ⟨x2, rfl, scEv.at rfl⟩, ⟨x3, rfl, scEv.at rfl⟩, ⟨x4, rfl, scEv.at rfl⟩, ⟨x5, rfl, scEv.at rfl⟩, trivial⟩ (fun f hf => by cases hf) hI).imp (fun r M' h => by
  obtain ⟨⟨o, ho, hr, hf9, hm⟩, h1, h2⟩ := h
  rcases List.mem_cons.mp ho with rfl | ho
  · obtain ⟨n, rfl, c1, c2⟩ := hr; exact q0 n M' ⟨c1, c2⟩ h1 h2
  · cases ho)
theorem sx_feed {M : fmM} {a0 a1 a2 a3 a4 : Int32} (hI : scInv Tx invX M) : pvGood Tx 250 qX10_feed [.ref 0, .int a0, .int a1, .int a2, .int a3, .int a4] M (fun r M' => rkI false false r ∧ scInv Tx invX M') := (wsx_feed (scq_t a0) (scq_t a1) (scq_t a2) (scq_t a3) (scq_t a4) hI (fun n M' _ h1 _ => ⟨Or.inl ⟨n, rfl⟩, h1⟩)).up (by decide)
theorem wsx_drawer {M : fmM} {Q : fmR → fmM → Prop} {x1 : Int32} (bx1 : (-2147483648) ≤ x1.toInt ∧ x1.toInt ≤ 2147483647) (hI : scInv Tx invX M) (q0 : ∀ (n : Int32) (M' : fmM), ((-10) ≤ n.toInt ∧ n.toInt ≤ 8) → scInv Tx invX M' → scFr [(0, 13, 2), (0, 16, 1), (1, 1, 5), (3, 9, 6), (4, 0, 8), (5, 0, 8), (6, 0, 8), (7, 0, 8), (8, 0, 8), (9, 0, 8), (10, 0, 24), (11, 0, 24), (12, 0, 24), (13, 9, 6), (14, 0, 8), (15, 0, 8), (16, 0, 8), (17, 0, 8), (18, 0, 8), (19, 0, 8), (20, 0, 24), (21, 0, 24), (22, 0, 24), (23, 3, 1), (24, 0, 3), (27, 0, 3), (34, 5, 1), (46, 2, 1), (47, 1, 6), (48, 0, 8)] M M' → Q (.inl (some (.int n))) M') (q1 : ∀ M' : fmM, scInv Tx invX M' → scFr [(0, 13, 2), (0, 16, 1), (1, 1, 5), (3, 9, 6), (4, 0, 8), (5, 0, 8), (6, 0, 8), (7, 0, 8), (8, 0, 8), (9, 0, 8), (10, 0, 24), (11, 0, 24), (12, 0, 24), (13, 9, 6), (14, 0, 8), (15, 0, 8), (16, 0, 8), (17, 0, 8), (18, 0, 8), (19, 0, 8), (20, 0, 24), (21, 0, 24), (22, 0, 24), (23, 3, 1), (24, 0, 3), (27, 0, 3), (34, 5, 1), (46, 2, 1), (47, 1, 6), (48, 0, 8)] M M' → Q (.inr fmIAE) M') : pvGood Tx 8 qX10_drawer [.ref 0, .int x1] M Q := (hh_X10_drawer_0 M [x1.toInt] [.ref 0, .int x1] (scEk.c1 bx1 scEk.n0) ⟨⟨0, by simp, rfl⟩, ⟨x1, rfl, scEv.at rfl⟩, trivial⟩ (fun f hf => by cases hf) hI).imp (fun r M' h => by
  obtain ⟨⟨o, ho, hr, hf9, hm⟩, h1, h2⟩ := h
  rcases List.mem_cons.mp ho with rfl | ho
  · obtain ⟨n, rfl, c1, c2⟩ := hr; exact q0 n M' ⟨c1, c2⟩ h1 h2
  rcases List.mem_cons.mp ho with rfl | ho
  · have hr : r = .inr fmIAE := hr; subst hr; exact q1 M' h1 h2
  · cases ho)
theorem sx_drawer {M : fmM} {a0 : Int32} (hI : scInv Tx invX M) : pvGood Tx 250 qX10_drawer [.ref 0, .int a0] M (fun r M' => rkI true false r ∧ scInv Tx invX M') := (wsx_drawer (scq_t a0) hI (fun n M' _ h1 _ => ⟨Or.inl ⟨n, rfl⟩, h1⟩) (fun M' h1 _ => ⟨Or.inr (Or.inl ⟨rfl, rfl⟩), h1⟩)).up (by decide)
theorem wsx_law {M : fmM} {Q : fmR → fmM → Prop} {x1 : Int32} (bx1 : (-2147483648) ≤ x1.toInt ∧ x1.toInt ≤ 2147483647) (hI : scInv Tx invX M) (q0 : ∀ (n : Int32) (M' : fmM), ((-10) ≤ n.toInt ∧ n.toInt ≤ 1) → scInv Tx invX M' → scFr [(0, 16, 1), (1, 1, 5), (23, 3, 2), (24, 0, 150), (25, 0, 150), (34, 5, 1)] M M' → Q (.inl (some (.int n))) M') (q1 : ∀ M' : fmM, scInv Tx invX M' → scFr [(0, 16, 1), (1, 1, 5), (23, 3, 2), (24, 0, 150), (25, 0, 150), (34, 5, 1)] M M' → Q (.inr fmIAE) M') : pvGood Tx 34 qX10_law [.ref 0, .int x1] M Q := (hh_X10_law_0 M [x1.toInt] [.ref 0, .int x1] (scEk.c1 bx1 scEk.n0) ⟨⟨0, by simp, rfl⟩, ⟨x1, rfl, scEv.at rfl⟩, trivial⟩ (fun f hf => by cases hf) hI).imp (fun r M' h => by
  obtain ⟨⟨o, ho, hr, hf9, hm⟩, h1, h2⟩ := h
  rcases List.mem_cons.mp ho with rfl | ho
  · obtain ⟨n, rfl, c1, c2⟩ := hr; exact q0 n M' ⟨c1, c2⟩ h1 h2
  rcases List.mem_cons.mp ho with rfl | ho
  · have hr : r = .inr fmIAE := hr; subst hr; exact q1 M' h1 h2
  · cases ho)
theorem sx_law {M : fmM} {a0 : Int32} (hI : scInv Tx invX M) : pvGood Tx 250 qX10_law [.ref 0, .int a0] M (fun r M' => rkI true false r ∧ scInv Tx invX M') := (wsx_law (scq_t a0) hI (fun n M' _ h1 _ => ⟨Or.inl ⟨n, rfl⟩, h1⟩) (fun M' h1 _ => ⟨Or.inr (Or.inl ⟨rfl, rfl⟩), h1⟩)).up (by decide)
theorem sx_work {M : fmM} {a0 : Int32} (hI : scInv Tx invX M) : pvGood Tx 250 qX10_work [.ref 0, .int a0] M (fun r M' => rkI true false r ∧ scInv Tx invX M') := (xt_work2 hI (fun r M' h1 h2 => ⟨h1, h2⟩)).up (by decide)
theorem wsx_page {M : fmM} {Q : fmR → fmM → Prop} {x1 : Int32} (bx1 : (-2147483648) ≤ x1.toInt ∧ x1.toInt ≤ 2147483647) (hI : scInv Tx invX M) (q0 : ∀ (n : Int32) (M' : fmM), ((-2147483648) ≤ n.toInt ∧ n.toInt ≤ 2147483647) → scInv Tx invX M' → scFr [(0, 16, 1), (1, 1, 5), (27, 0, 3)] M M' → Q (.inl (some (.int n))) M') (q1 : ∀ M' : fmM, scInv Tx invX M' → scFr [(0, 16, 1), (1, 1, 5), (27, 0, 3)] M M' → Q (.inr fmIAE) M') : pvGood Tx 4 qX10_page [.ref 0, .int x1] M Q := (hh_X10_page_0 M [x1.toInt] [.ref 0, .int x1] (scEk.c1 bx1 scEk.n0) ⟨⟨0, by simp, rfl⟩, ⟨x1, rfl, scEv.at rfl⟩, trivial⟩ (fun f hf => by cases hf) hI).imp (fun r M' h => by
  obtain ⟨⟨o, ho, hr, hf9, hm⟩, h1, h2⟩ := h
  rcases List.mem_cons.mp ho with rfl | ho
  · obtain ⟨n, rfl, c1, c2⟩ := hr; exact q0 n M' ⟨c1, c2⟩ h1 h2
  rcases List.mem_cons.mp ho with rfl | ho
  · have hr : r = .inr fmIAE := hr; subst hr; exact q1 M' h1 h2
  · cases ho)
theorem sx_page {M : fmM} {a0 : Int32} (hI : scInv Tx invX M) : pvGood Tx 250 qX10_page [.ref 0, .int a0] M (fun r M' => rkI true false r ∧ scInv Tx invX M') := (wsx_page (scq_t a0) hI (fun n M' _ h1 _ => ⟨Or.inl ⟨n, rfl⟩, h1⟩) (fun M' h1 _ => ⟨Or.inr (Or.inl ⟨rfl, rfl⟩), h1⟩)).up (by decide)
theorem wsx_fault {M : fmM} {Q : fmR → fmM → Prop}  (hI : scInv Tx invX M) (q0 : ∀ (n : Int32) (M' : fmM), ((-1) ≤ n.toInt ∧ n.toInt ≤ 600) → scInv Tx invX M' → scFr [] M M' → Q (.inl (some (.int n))) M') : pvGood Tx 0 qX10_fault [.ref 0] M Q := (hh_X10_fault_0 M [] [.ref 0] scEk.n0 ⟨⟨0, by simp, rfl⟩, trivial⟩ (fun f hf => by cases hf) hI).imp (fun r M' h => by
  obtain ⟨⟨o, ho, hr, hf9, hm⟩, h1, h2⟩ := h
  rcases List.mem_cons.mp ho with rfl | ho
  · obtain ⟨n, rfl, c1, c2⟩ := hr; exact q0 n M' ⟨c1, c2⟩ h1 h2
  · cases ho)
theorem sx_fault {M : fmM} (hI : scInv Tx invX M) : pvGood Tx 250 qX10_fault [.ref 0] M (fun r M' => rkI false false r ∧ scInv Tx invX M') := (wsx_fault  hI (fun n M' _ h1 _ => ⟨Or.inl ⟨n, rfl⟩, h1⟩)).up (by decide)
theorem wsx_undo {M : fmM} {Q : fmR → fmM → Prop}  (hI : scInv Tx invX M) (q0 : ∀ (n : Int32) (M' : fmM), ((-1) ≤ n.toInt ∧ n.toInt ≤ 16) → scInv Tx invX M' → scFr [(0, 14, 1), (34, 5, 1), (46, 2, 1), (47, 1, 6), (48, 0, 8)] M M' → Q (.inl (some (.int n))) M') : pvGood Tx 2 qX10_undo [.ref 0] M Q := (hh_X10_undo_0 M [] [.ref 0] scEk.n0 ⟨⟨0, by simp, rfl⟩, trivial⟩ (fun f hf => by cases hf) hI).imp (fun r M' h => by
  obtain ⟨⟨o, ho, hr, hf9, hm⟩, h1, h2⟩ := h
  rcases List.mem_cons.mp ho with rfl | ho
  · obtain ⟨n, rfl, c1, c2⟩ := hr; exact q0 n M' ⟨c1, c2⟩ h1 h2
  · cases ho)
theorem sx_undo {M : fmM} (hI : scInv Tx invX M) : pvGood Tx 250 qX10_undo [.ref 0] M (fun r M' => rkI false false r ∧ scInv Tx invX M') := (wsx_undo  hI (fun n M' _ h1 _ => ⟨Or.inl ⟨n, rfl⟩, h1⟩)).up (by decide)
theorem wsx_told {M : fmM} {Q : fmR → fmM → Prop} {x1 : Int32} (bx1 : (-2147483648) ≤ x1.toInt ∧ x1.toInt ≤ 2147483647) (hI : scInv Tx invX M) (q0 : ∀ (n : Int32) (M' : fmM), ((-2147483648) ≤ n.toInt ∧ n.toInt ≤ 2147483647) → scInv Tx invX M' → scFr [(0, 16, 1)] M M' → Q (.inl (some (.int n))) M') (q1 : ∀ M' : fmM, scInv Tx invX M' → scFr [(0, 16, 1)] M M' → Q (.inr fmIAE) M') : pvGood Tx 1 qX10_told [.ref 0, .int x1] M Q := (hh_X10_told_0 M [x1.toInt] [.ref 0, .int x1] (scEk.c1 bx1 scEk.n0) ⟨⟨0, by simp, rfl⟩, ⟨x1, rfl, scEv.at rfl⟩, trivial⟩ (fun f hf => by cases hf) hI).imp (fun r M' h => by
  obtain ⟨⟨o, ho, hr, hf9, hm⟩, h1, h2⟩ := h
  rcases List.mem_cons.mp ho with rfl | ho
  · obtain ⟨n, rfl, c1, c2⟩ := hr; exact q0 n M' ⟨c1, c2⟩ h1 h2
  rcases List.mem_cons.mp ho with rfl | ho
  · have hr : r = .inr fmIAE := hr; subst hr; exact q1 M' h1 h2
  · cases ho)
theorem sx_told {M : fmM} {a0 : Int32} (hI : scInv Tx invX M) : pvGood Tx 250 qX10_told [.ref 0, .int a0] M (fun r M' => rkI true false r ∧ scInv Tx invX M') := (wsx_told (scq_t a0) hI (fun n M' _ h1 _ => ⟨Or.inl ⟨n, rfl⟩, h1⟩) (fun M' h1 _ => ⟨Or.inr (Or.inl ⟨rfl, rfl⟩), h1⟩)).up (by decide)
theorem wsx_life {M : fmM} {Q : fmR → fmM → Prop} {x1 : Int32} (bx1 : (-2147483648) ≤ x1.toInt ∧ x1.toInt ≤ 2147483647) {x2 : Int32} (bx2 : (-2147483648) ≤ x2.toInt ∧ x2.toInt ≤ 2147483647) (hI : scInv Tx invX M) (q0 : ∀ (n : Int32) (M' : fmM), ((-2147483648) ≤ n.toInt ∧ n.toInt ≤ 2147483647) → scInv Tx invX M' → scFr [(0, 15, 2)] M M' → Q (.inl (some (.int n))) M') (q1 : ∀ M' : fmM, scInv Tx invX M' → scFr [(0, 15, 2)] M M' → Q (.inr fmIAE) M') (q2 : ∀ M' : fmM, scInv Tx invX M' → scFr [(0, 15, 2)] M M' → Q (.inr fmNSE) M') : pvGood Tx 2 qX10_life [.ref 0, .int x1, .int x2] M Q := (hh_X10_life_0 M [x1.toInt, x2.toInt] [.ref 0, .int x1, .int x2] (scEk.c1 bx1 (scEk.c1 bx2 scEk.n0)) ⟨⟨0, by simp, rfl⟩, ⟨x1, rfl, scEv.at rfl⟩, ⟨x2, rfl, scEv.at rfl⟩, trivial⟩ (fun f hf => by cases hf) hI).imp (fun r M' h => by
  obtain ⟨⟨o, ho, hr, hf9, hm⟩, h1, h2⟩ := h
  rcases List.mem_cons.mp ho with rfl | ho
  · obtain ⟨n, rfl, c1, c2⟩ := hr; exact q0 n M' ⟨c1, c2⟩ h1 h2
  rcases List.mem_cons.mp ho with rfl | ho
  · have hr : r = .inr fmIAE := hr; subst hr; exact q1 M' h1 h2
  rcases List.mem_cons.mp ho with rfl | ho
  · have hr : r = .inr fmNSE := hr; subst hr; exact q2 M' h1 h2
  · cases ho)
theorem sx_life {M : fmM} {a0 a1 : Int32} (hI : scInv Tx invX M) : pvGood Tx 250 qX10_life [.ref 0, .int a0, .int a1] M (fun r M' => rkI true true r ∧ scInv Tx invX M') := (wsx_life (scq_t a0) (scq_t a1) hI (fun n M' _ h1 _ => ⟨Or.inl ⟨n, rfl⟩, h1⟩) (fun M' h1 _ => ⟨Or.inr (Or.inl ⟨rfl, rfl⟩), h1⟩) (fun M' h1 _ => ⟨Or.inr (Or.inr ⟨rfl, rfl⟩), h1⟩)).up (by decide)
theorem wsx_facts {M : fmM} {Q : fmR → fmM → Prop} {x1 : Int32} (bx1 : (-2147483648) ≤ x1.toInt ∧ x1.toInt ≤ 2147483647) (hI : scInv Tx invX M) (q0 : ∀ (n : Int32) (M' : fmM), ((-2147483648) ≤ n.toInt ∧ n.toInt ≤ 2147483647) → scInv Tx invX M' → scFr [(0, 15, 1)] M M' → Q (.inl (some (.int n))) M') (q1 : ∀ M' : fmM, scInv Tx invX M' → scFr [(0, 15, 1)] M M' → Q (.inr fmNSE) M') : pvGood Tx 1 qX10_facts [.ref 0, .int x1] M Q := (hh_X10_facts_0 M [x1.toInt] [.ref 0, .int x1] (scEk.c1 bx1 scEk.n0) ⟨⟨0, by simp, rfl⟩, ⟨x1, rfl, scEv.at rfl⟩, trivial⟩ (fun f hf => by cases hf) hI).imp (fun r M' h => by
  obtain ⟨⟨o, ho, hr, hf9, hm⟩, h1, h2⟩ := h
  rcases List.mem_cons.mp ho with rfl | ho
  · obtain ⟨n, rfl, c1, c2⟩ := hr; exact q0 n M' ⟨c1, c2⟩ h1 h2
  rcases List.mem_cons.mp ho with rfl | ho
  · have hr : r = .inr fmNSE := hr; subst hr; exact q1 M' h1 h2
  · cases ho)
theorem sx_facts {M : fmM} {a0 : Int32} (hI : scInv Tx invX M) : pvGood Tx 250 qX10_facts [.ref 0, .int a0] M (fun r M' => rkI false true r ∧ scInv Tx invX M') := (wsx_facts (scq_t a0) hI (fun n M' _ h1 _ => ⟨Or.inl ⟨n, rfl⟩, h1⟩) (fun M' h1 _ => ⟨Or.inr (Or.inr ⟨rfl, rfl⟩), h1⟩)).up (by decide)
theorem wsx_wrong {M : fmM} {Q : fmR → fmM → Prop} {x1 : Int32} (bx1 : (-2147483648) ≤ x1.toInt ∧ x1.toInt ≤ 2147483647) (hI : scInv Tx invX M) (q0 : ∀ (n : Int32) (M' : fmM), ((-1) ≤ n.toInt ∧ n.toInt ≤ 64) → scInv Tx invX M' → scFr [(0, 15, 1), (26, 0, 24)] M M' → Q (.inl (some (.int n))) M') (q1 : ∀ M' : fmM, scInv Tx invX M' → scFr [(0, 15, 1), (26, 0, 24)] M M' → Q (.inr fmNSE) M') : pvGood Tx 3 qX10_wrong [.ref 0, .int x1] M Q := (hh_X10_wrong_0 M [x1.toInt] [.ref 0, .int x1] (scEk.c1 bx1 scEk.n0) ⟨⟨0, by simp, rfl⟩, ⟨x1, rfl, scEv.at rfl⟩, trivial⟩ (fun f hf => by cases hf) hI).imp (fun r M' h => by
  obtain ⟨⟨o, ho, hr, hf9, hm⟩, h1, h2⟩ := h
  rcases List.mem_cons.mp ho with rfl | ho
  · obtain ⟨n, rfl, c1, c2⟩ := hr; exact q0 n M' ⟨c1, c2⟩ h1 h2
  rcases List.mem_cons.mp ho with rfl | ho
  · have hr : r = .inr fmNSE := hr; subst hr; exact q1 M' h1 h2
  · cases ho)
theorem sx_wrong {M : fmM} {a0 : Int32} (hI : scInv Tx invX M) : pvGood Tx 250 qX10_wrong [.ref 0, .int a0] M (fun r M' => rkI false true r ∧ scInv Tx invX M') := (wsx_wrong (scq_t a0) hI (fun n M' _ h1 _ => ⟨Or.inl ⟨n, rfl⟩, h1⟩) (fun M' h1 _ => ⟨Or.inr (Or.inr ⟨rfl, rfl⟩), h1⟩)).up (by decide)
theorem wsx_would {M : fmM} {Q : fmR → fmM → Prop} {x1 : Int32} (bx1 : (-2147483648) ≤ x1.toInt ∧ x1.toInt ≤ 2147483647) {x2 : Int32} (bx2 : (-2147483648) ≤ x2.toInt ∧ x2.toInt ≤ 2147483647) {x3 : Int32} (bx3 : (-2147483648) ≤ x3.toInt ∧ x3.toInt ≤ 2147483647) {x4 : Int32} (bx4 : (-2147483648) ≤ x4.toInt ∧ x4.toInt ≤ 2147483647) {x5 : Int32} (bx5 : (-2147483648) ≤ x5.toInt ∧ x5.toInt ≤ 2147483647) (hI : scInv Tx invX M) (q0 : ∀ (n : Int32) (M' : fmM), (0 ≤ n.toInt ∧ n.toInt ≤ 64) → scInv Tx invX M' → scFr [(0, 16, 1), (26, 0, 24)] M M' → Q (.inl (some (.int n))) M') (q1 : ∀ M' : fmM, scInv Tx invX M' → scFr [(0, 16, 1), (26, 0, 24)] M M' → Q (.inr fmIAE) M') : pvGood Tx 2 qX10_would [.ref 0, .int x1, .int x2, .int x3, .int x4, .int x5] M Q := (hh_X10_would_0 M [x1.toInt, x2.toInt, x3.toInt, x4.toInt, x5.toInt] [.ref 0, .int x1, .int x2, .int x3, .int x4, .int x5] (scEk.c1 bx1 (scEk.c1 bx2 (scEk.c1 bx3 (scEk.c1 bx4 (scEk.c1 bx5 scEk.n0))))) ⟨⟨0, by simp, rfl⟩, ⟨x1, rfl, scEv.at rfl⟩, ⟨x2, rfl, scEv.at rfl⟩, ⟨x3, rfl, scEv.at rfl⟩, ⟨x4, rfl, scEv.at rfl⟩, ⟨x5, rfl, scEv.at rfl⟩, trivial⟩ (fun f hf => by cases hf) hI).imp (fun r M' h => by
  obtain ⟨⟨o, ho, hr, hf9, hm⟩, h1, h2⟩ := h
  rcases List.mem_cons.mp ho with rfl | ho
  · obtain ⟨n, rfl, c1, c2⟩ := hr; exact q0 n M' ⟨c1, c2⟩ h1 h2
  rcases List.mem_cons.mp ho with rfl | ho
  · have hr : r = .inr fmIAE := hr; subst hr; exact q1 M' h1 h2
  · cases ho)
theorem sx_would {M : fmM} {a0 a1 a2 a3 a4 : Int32} (hI : scInv Tx invX M) : pvGood Tx 250 qX10_would [.ref 0, .int a0, .int a1, .int a2, .int a3, .int a4] M (fun r M' => rkI true false r ∧ scInv Tx invX M') := (wsx_would (scq_t a0) (scq_t a1) (scq_t a2) (scq_t a3) (scq_t a4) hI (fun n M' _ h1 _ => ⟨Or.inl ⟨n, rfl⟩, h1⟩) (fun M' h1 _ => ⟨Or.inr (Or.inl ⟨rfl, rfl⟩), h1⟩)).up (by decide)
theorem wsx_loss {M : fmM} {Q : fmR → fmM → Prop} {x1 : Int32} (bx1 : (-2147483648) ≤ x1.toInt ∧ x1.toInt ≤ 2147483647) (hI : scInv Tx invX M) (q0 : ∀ (n : Int64) (M' : fmM), ((-9223372036854775808) ≤ n.toInt ∧ n.toInt ≤ 9223372036854775807) → scInv Tx invX M' → scFr [(0, 16, 1)] M M' → Q (.inl (some (.long n))) M') (q1 : ∀ M' : fmM, scInv Tx invX M' → scFr [(0, 16, 1)] M M' → Q (.inr fmIAE) M') : pvGood Tx 2 qX10_loss [.ref 0, .int x1] M Q := (hh_X10_loss_0 M [x1.toInt] [.ref 0, .int x1] (scEk.c1 bx1 scEk.n0) ⟨⟨0, by simp, rfl⟩, ⟨x1, rfl, scEv.at rfl⟩, trivial⟩ (fun f hf => by cases hf) hI).imp (fun r M' h => by
  obtain ⟨⟨o, ho, hr, hf9, hm⟩, h1, h2⟩ := h
  rcases List.mem_cons.mp ho with rfl | ho
  · obtain ⟨n, rfl, c1, c2⟩ := hr; exact q0 n M' ⟨c1, c2⟩ h1 h2
  rcases List.mem_cons.mp ho with rfl | ho
  · have hr : r = .inr fmIAE := hr; subst hr; exact q1 M' h1 h2
  · cases ho)
theorem sx_loss {M : fmM} {a0 : Int32} (hI : scInv Tx invX M) : pvGood Tx 250 qX10_loss [.ref 0, .int a0] M (fun r M' => rkJ true false r ∧ scInv Tx invX M') := (wsx_loss (scq_t a0) hI (fun n M' _ h1 _ => ⟨Or.inl ⟨n, rfl⟩, h1⟩) (fun M' h1 _ => ⟨Or.inr (Or.inl ⟨rfl, rfl⟩), h1⟩)).up (by decide)
theorem wsx_cost {M : fmM} {Q : fmR → fmM → Prop} {x1 : Int32} (bx1 : (-2147483648) ≤ x1.toInt ∧ x1.toInt ≤ 2147483647) {x2 : Int32} (bx2 : (-2147483648) ≤ x2.toInt ∧ x2.toInt ≤ 2147483647) (hI : scInv Tx invX M) (q0 : ∀ (n : Int64) (M' : fmM), ((-9223372036854775808) ≤ n.toInt ∧ n.toInt ≤ 9223372036854775807) → scInv Tx invX M' → scFr [(0, 15, 2), (26, 0, 24)] M M' → Q (.inl (some (.long n))) M') (q1 : ∀ M' : fmM, scInv Tx invX M' → scFr [(0, 15, 2), (26, 0, 24)] M M' → Q (.inr fmIAE) M') (q2 : ∀ M' : fmM, scInv Tx invX M' → scFr [(0, 15, 2), (26, 0, 24)] M M' → Q (.inr fmNSE) M') : pvGood Tx 4 qX10_cost [.ref 0, .int x1, .int x2] M Q := (hh_X10_cost_0 M [x1.toInt, x2.toInt] [.ref 0, .int x1, .int x2] (scEk.c1 bx1 (scEk.c1 bx2 scEk.n0)) ⟨⟨0, by simp, rfl⟩, ⟨x1, rfl, scEv.at rfl⟩, ⟨x2, rfl, scEv.at rfl⟩, trivial⟩ (fun f hf => by cases hf) hI).imp (fun r M' h => by
  obtain ⟨⟨o, ho, hr, hf9, hm⟩, h1, h2⟩ := h
  rcases List.mem_cons.mp ho with rfl | ho
  · obtain ⟨n, rfl, c1, c2⟩ := hr; exact q0 n M' ⟨c1, c2⟩ h1 h2
  rcases List.mem_cons.mp ho with rfl | ho
  · have hr : r = .inr fmIAE := hr; subst hr; exact q1 M' h1 h2
  rcases List.mem_cons.mp ho with rfl | ho
  · have hr : r = .inr fmNSE := hr; subst hr; exact q2 M' h1 h2
  · cases ho)
theorem sx_cost {M : fmM} {a0 a1 : Int32} (hI : scInv Tx invX M) : pvGood Tx 250 qX10_cost [.ref 0, .int a0, .int a1] M (fun r M' => rkJ true true r ∧ scInv Tx invX M') := (wsx_cost (scq_t a0) (scq_t a1) hI (fun n M' _ h1 _ => ⟨Or.inl ⟨n, rfl⟩, h1⟩) (fun M' h1 _ => ⟨Or.inr (Or.inl ⟨rfl, rfl⟩), h1⟩) (fun M' h1 _ => ⟨Or.inr (Or.inr ⟨rfl, rfl⟩), h1⟩)).up (by decide)
theorem wsx_risk {M : fmM} {Q : fmR → fmM → Prop} {x1 : Int32} (bx1 : (-2147483648) ≤ x1.toInt ∧ x1.toInt ≤ 2147483647) (hI : scInv Tx invX M) (q0 : ∀ (n : Int64) (M' : fmM), ((-9223372036854775808) ≤ n.toInt ∧ n.toInt ≤ 9223372036854775807) → scInv Tx invX M' → scFr [(0, 16, 1), (26, 0, 24)] M M' → Q (.inl (some (.long n))) M') (q1 : ∀ M' : fmM, scInv Tx invX M' → scFr [(0, 16, 1), (26, 0, 24)] M M' → Q (.inr fmIAE) M') : pvGood Tx 5 qX10_risk [.ref 0, .int x1] M Q := (hh_X10_risk_0 M [x1.toInt] [.ref 0, .int x1] (scEk.c1 bx1 scEk.n0) ⟨⟨0, by simp, rfl⟩, ⟨x1, rfl, scEv.at rfl⟩, trivial⟩ (fun f hf => by cases hf) hI).imp (fun r M' h => by
  obtain ⟨⟨o, ho, hr, hf9, hm⟩, h1, h2⟩ := h
  rcases List.mem_cons.mp ho with rfl | ho
  · obtain ⟨n, rfl, c1, c2⟩ := hr; exact q0 n M' ⟨c1, c2⟩ h1 h2
  rcases List.mem_cons.mp ho with rfl | ho
  · have hr : r = .inr fmIAE := hr; subst hr; exact q1 M' h1 h2
  · cases ho)
theorem sx_risk {M : fmM} {a0 : Int32} (hI : scInv Tx invX M) : pvGood Tx 250 qX10_risk [.ref 0, .int a0] M (fun r M' => rkJ true false r ∧ scInv Tx invX M') := (wsx_risk (scq_t a0) hI (fun n M' _ h1 _ => ⟨Or.inl ⟨n, rfl⟩, h1⟩) (fun M' h1 _ => ⟨Or.inr (Or.inl ⟨rfl, rfl⟩), h1⟩)).up (by decide)
theorem wsx_saves {M : fmM} {Q : fmR → fmM → Prop} {x1 : Int32} (bx1 : (-2147483648) ≤ x1.toInt ∧ x1.toInt ≤ 2147483647) {x2 : Int32} (bx2 : (-2147483648) ≤ x2.toInt ∧ x2.toInt ≤ 2147483647) (hI : scInv Tx invX M) (q0 : ∀ (n : Int64) (M' : fmM), ((-9223372036854775808) ≤ n.toInt ∧ n.toInt ≤ 9223372036854775807) → scInv Tx invX M' → scFr [(0, 15, 2), (26, 0, 24)] M M' → Q (.inl (some (.long n))) M') (q1 : ∀ M' : fmM, scInv Tx invX M' → scFr [(0, 15, 2), (26, 0, 24)] M M' → Q (.inr fmIAE) M') (q2 : ∀ M' : fmM, scInv Tx invX M' → scFr [(0, 15, 2), (26, 0, 24)] M M' → Q (.inr fmNSE) M') : pvGood Tx 5 qX10_saves [.ref 0, .int x1, .int x2] M Q := (hh_X10_saves_0 M [x1.toInt, x2.toInt] [.ref 0, .int x1, .int x2] (scEk.c1 bx1 (scEk.c1 bx2 scEk.n0)) ⟨⟨0, by simp, rfl⟩, ⟨x1, rfl, scEv.at rfl⟩, ⟨x2, rfl, scEv.at rfl⟩, trivial⟩ (fun f hf => by cases hf) hI).imp (fun r M' h => by
  obtain ⟨⟨o, ho, hr, hf9, hm⟩, h1, h2⟩ := h
  rcases List.mem_cons.mp ho with rfl | ho
  · obtain ⟨n, rfl, c1, c2⟩ := hr; exact q0 n M' ⟨c1, c2⟩ h1 h2
  rcases List.mem_cons.mp ho with rfl | ho
  · have hr : r = .inr fmIAE := hr; subst hr; exact q1 M' h1 h2
  rcases List.mem_cons.mp ho with rfl | ho
  · have hr : r = .inr fmNSE := hr; subst hr; exact q2 M' h1 h2
  · cases ho)
theorem sx_saves {M : fmM} {a0 a1 : Int32} (hI : scInv Tx invX M) : pvGood Tx 250 qX10_saves [.ref 0, .int a0, .int a1] M (fun r M' => rkJ true true r ∧ scInv Tx invX M') := (wsx_saves (scq_t a0) (scq_t a1) hI (fun n M' _ h1 _ => ⟨Or.inl ⟨n, rfl⟩, h1⟩) (fun M' h1 _ => ⟨Or.inr (Or.inl ⟨rfl, rfl⟩), h1⟩) (fun M' h1 _ => ⟨Or.inr (Or.inr ⟨rfl, rfl⟩), h1⟩)).up (by decide)
theorem wsx_first {M : fmM} {Q : fmR → fmM → Prop}  (hI : scInv Tx invX M) (q0 : ∀ (n : Int32) (M' : fmM), ((-1) ≤ n.toInt ∧ n.toInt ≤ 7) → scInv Tx invX M' → scFr [(26, 0, 24), (33, 0, 8)] M M' → Q (.inl (some (.int n))) M') : pvGood Tx 6 qX10_first [.ref 0] M Q := (hh_X10_first_0 M [] [.ref 0] scEk.n0 ⟨⟨0, by simp, rfl⟩, trivial⟩ (fun f hf => by cases hf) hI).imp (fun r M' h => by
  obtain ⟨⟨o, ho, hr, hf9, hm⟩, h1, h2⟩ := h
  rcases List.mem_cons.mp ho with rfl | ho
  · obtain ⟨n, rfl, c1, c2⟩ := hr; exact q0 n M' ⟨c1, c2⟩ h1 h2
  · cases ho)
theorem sx_first {M : fmM} (hI : scInv Tx invX M) : pvGood Tx 250 qX10_first [.ref 0] M (fun r M' => rkI false false r ∧ scInv Tx invX M') := (wsx_first  hI (fun n M' _ h1 _ => ⟨Or.inl ⟨n, rfl⟩, h1⟩)).up (by decide)
theorem wsx_lacking {M : fmM} {Q : fmR → fmM → Prop}  (hI : scInv Tx invX M) (q0 : ∀ (n : Int32) (M' : fmM), ((-2147483648) ≤ n.toInt ∧ n.toInt ≤ 2147483647) → scInv Tx invX M' → scFr [] M M' → Q (.inl (some (.int n))) M') : pvGood Tx 1 qX10_lacking [.ref 0] M Q := (hh_X10_lacking_0 M [] [.ref 0] scEk.n0 ⟨⟨0, by simp, rfl⟩, trivial⟩ (fun f hf => by cases hf) hI).imp (fun r M' h => by
  obtain ⟨⟨o, ho, hr, hf9, hm⟩, h1, h2⟩ := h
  rcases List.mem_cons.mp ho with rfl | ho
  · obtain ⟨n, rfl, c1, c2⟩ := hr; exact q0 n M' ⟨c1, c2⟩ h1 h2
  · cases ho)
theorem sx_lacking {M : fmM} (hI : scInv Tx invX M) : pvGood Tx 250 qX10_lacking [.ref 0] M (fun r M' => rkI false false r ∧ scInv Tx invX M') := (wsx_lacking  hI (fun n M' _ h1 _ => ⟨Or.inl ⟨n, rfl⟩, h1⟩)).up (by decide)
theorem wsx_signed {M : fmM} {Q : fmR → fmM → Prop}  (hI : scInv Tx invX M) (q0 : ∀ (n : Int32) (M' : fmM), ((-2147483648) ≤ n.toInt ∧ n.toInt ≤ 2147483647) → scInv Tx invX M' → scFr [] M M' → Q (.inl (some (.int n))) M') : pvGood Tx 2 qX10_signed [.ref 0] M Q := (hh_X10_signed_0 M [] [.ref 0] scEk.n0 ⟨⟨0, by simp, rfl⟩, trivial⟩ (fun f hf => by cases hf) hI).imp (fun r M' h => by
  obtain ⟨⟨o, ho, hr, hf9, hm⟩, h1, h2⟩ := h
  rcases List.mem_cons.mp ho with rfl | ho
  · obtain ⟨n, rfl, c1, c2⟩ := hr; exact q0 n M' ⟨c1, c2⟩ h1 h2
  · cases ho)
theorem sx_signed {M : fmM} (hI : scInv Tx invX M) : pvGood Tx 250 qX10_signed [.ref 0] M (fun r M' => rkI false false r ∧ scInv Tx invX M') := (wsx_signed  hI (fun n M' _ h1 _ => ⟨Or.inl ⟨n, rfl⟩, h1⟩)).up (by decide)
theorem wsx_stale {M : fmM} {Q : fmR → fmM → Prop} {x1 : Int32} (bx1 : (-2147483648) ≤ x1.toInt ∧ x1.toInt ≤ 2147483647) (hI : scInv Tx invX M) (q0 : ∀ (n : Int32) (M' : fmM), ((-2147483648) ≤ n.toInt ∧ n.toInt ≤ 2147483647) → scInv Tx invX M' → scFr [(0, 16, 1), (26, 0, 24)] M M' → Q (.inl (some (.int n))) M') (q1 : ∀ M' : fmM, scInv Tx invX M' → scFr [(0, 16, 1), (26, 0, 24)] M M' → Q (.inr fmIAE) M') : pvGood Tx 4 qX10_stale [.ref 0, .int x1] M Q := (hh_X10_stale_0 M [x1.toInt] [.ref 0, .int x1] (scEk.c1 bx1 scEk.n0) ⟨⟨0, by simp, rfl⟩, ⟨x1, rfl, scEv.at rfl⟩, trivial⟩ (fun f hf => by cases hf) hI).imp (fun r M' h => by
  obtain ⟨⟨o, ho, hr, hf9, hm⟩, h1, h2⟩ := h
  rcases List.mem_cons.mp ho with rfl | ho
  · obtain ⟨n, rfl, c1, c2⟩ := hr; exact q0 n M' ⟨c1, c2⟩ h1 h2
  rcases List.mem_cons.mp ho with rfl | ho
  · have hr : r = .inr fmIAE := hr; subst hr; exact q1 M' h1 h2
  · cases ho)
theorem sx_stale {M : fmM} {a0 : Int32} (hI : scInv Tx invX M) : pvGood Tx 250 qX10_stale [.ref 0, .int a0] M (fun r M' => rkI true false r ∧ scInv Tx invX M') := (wsx_stale (scq_t a0) hI (fun n M' _ h1 _ => ⟨Or.inl ⟨n, rfl⟩, h1⟩) (fun M' h1 _ => ⟨Or.inr (Or.inl ⟨rfl, rfl⟩), h1⟩)).up (by decide)
theorem wsx_best {M : fmM} {Q : fmR → fmM → Prop} {x1 : Int32} (bx1 : (-2147483648) ≤ x1.toInt ∧ x1.toInt ≤ 2147483647) {x2 : Int32} (bx2 : (-2147483648) ≤ x2.toInt ∧ x2.toInt ≤ 2147483647) (hI : scInv Tx invX M) (q0 : ∀ (n : Int64) (M' : fmM), ((-9223372036854775808) ≤ n.toInt ∧ n.toInt ≤ 9223372036854775807) → scInv Tx invX M' → scFr [(0, 16, 1), (26, 0, 24), (34, 5, 2), (35, 0, 2197), (36, 0, 8), (37, 0, 24), (38, 0, 3)] M M' → Q (.inl (some (.long n))) M') (q1 : ∀ M' : fmM, scInv Tx invX M' → scFr [(0, 16, 1), (26, 0, 24), (34, 5, 2), (35, 0, 2197), (36, 0, 8), (37, 0, 24), (38, 0, 3)] M M' → Q (.inr fmIAE) M') : pvGood Tx 7 qX10_best [.ref 0, .int x1, .int x2] M Q := (hh_X10_best_0 M [x1.toInt, x2.toInt] [.ref 0, .int x1, .int x2] (scEk.c1 bx1 (scEk.c1 bx2 scEk.n0)) ⟨⟨0, by simp, rfl⟩, ⟨x1, rfl, scEv.at rfl⟩, ⟨x2, rfl, scEv.at rfl⟩, trivial⟩ (fun f hf => by cases hf) hI).imp (fun r M' h => by
  obtain ⟨⟨o, ho, hr, hf9, hm⟩, h1, h2⟩ := h
  rcases List.mem_cons.mp ho with rfl | ho
  · obtain ⟨n, rfl, c1, c2⟩ := hr; exact q0 n M' ⟨c1, c2⟩ h1 h2
  rcases List.mem_cons.mp ho with rfl | ho
  · have hr : r = .inr fmIAE := hr; subst hr; exact q1 M' h1 h2
  · cases ho)
theorem sx_best {M : fmM} {a0 a1 : Int32} (hI : scInv Tx invX M) : pvGood Tx 250 qX10_best [.ref 0, .int a0, .int a1] M (fun r M' => rkJ true false r ∧ scInv Tx invX M') := (wsx_best (scq_t a0) (scq_t a1) hI (fun n M' _ h1 _ => ⟨Or.inl ⟨n, rfl⟩, h1⟩) (fun M' h1 _ => ⟨Or.inr (Or.inl ⟨rfl, rfl⟩), h1⟩)).up (by decide)
theorem wsx_bestIn {M : fmM} {Q : fmR → fmM → Prop} {x1 : Int32} (bx1 : (-2147483648) ≤ x1.toInt ∧ x1.toInt ≤ 2147483647) {x2 : Int32} (bx2 : (-2147483648) ≤ x2.toInt ∧ x2.toInt ≤ 2147483647) (hI : scInv Tx invX M) (q0 : ∀ (n : Int32) (M' : fmM), (0 ≤ n.toInt ∧ n.toInt ≤ 255) → scInv Tx invX M' → scFr [(0, 16, 1), (26, 0, 24), (34, 5, 2), (35, 0, 2197), (36, 0, 8), (37, 0, 24), (38, 0, 3)] M M' → Q (.inl (some (.int n))) M') (q1 : ∀ M' : fmM, scInv Tx invX M' → scFr [(0, 16, 1), (26, 0, 24), (34, 5, 2), (35, 0, 2197), (36, 0, 8), (37, 0, 24), (38, 0, 3)] M M' → Q (.inr fmIAE) M') : pvGood Tx 7 qX10_bestIn [.ref 0, .int x1, .int x2] M Q := (hh_X10_bestIn_0 M [x1.toInt, x2.toInt] [.ref 0, .int x1, .int x2] (scEk.c1 bx1 (scEk.c1 bx2 scEk.n0)) ⟨⟨0, by simp, rfl⟩, ⟨x1, rfl, scEv.at rfl⟩, ⟨x2, rfl, scEv.at rfl⟩, trivial⟩ (fun f hf => by cases hf) hI).imp (fun r M' h => by
  obtain ⟨⟨o, ho, hr, hf9, hm⟩, h1, h2⟩ := h
  rcases List.mem_cons.mp ho with rfl | ho
  · obtain ⟨n, rfl, c1, c2⟩ := hr; exact q0 n M' ⟨c1, c2⟩ h1 h2
  rcases List.mem_cons.mp ho with rfl | ho
  · have hr : r = .inr fmIAE := hr; subst hr; exact q1 M' h1 h2
  · cases ho)
theorem sx_bestIn {M : fmM} {a0 a1 : Int32} (hI : scInv Tx invX M) : pvGood Tx 250 qX10_bestIn [.ref 0, .int a0, .int a1] M (fun r M' => rkI true false r ∧ scInv Tx invX M') := (wsx_bestIn (scq_t a0) (scq_t a1) hI (fun n M' _ h1 _ => ⟨Or.inl ⟨n, rfl⟩, h1⟩) (fun M' h1 _ => ⟨Or.inr (Or.inl ⟨rfl, rfl⟩), h1⟩)).up (by decide)
theorem wsx_often {M : fmM} {Q : fmR → fmM → Prop} {x1 : Int32} (bx1 : (-2147483648) ≤ x1.toInt ∧ x1.toInt ≤ 2147483647) {x2 : Int32} (bx2 : (-2147483648) ≤ x2.toInt ∧ x2.toInt ≤ 2147483647) (hI : scInv Tx invX M) (q0 : ∀ (n : Int32) (M' : fmM), (0 ≤ n.toInt ∧ n.toInt ≤ 2147483647) → scInv Tx invX M' → scFr [(0, 15, 2), (26, 0, 24)] M M' → Q (.inl (some (.int n))) M') (q1 : ∀ M' : fmM, scInv Tx invX M' → scFr [(0, 15, 2), (26, 0, 24)] M M' → Q (.inr fmIAE) M') (q2 : ∀ M' : fmM, scInv Tx invX M' → scFr [(0, 15, 2), (26, 0, 24)] M M' → Q (.inr fmNSE) M') : pvGood Tx 3 qX10_often [.ref 0, .int x1, .int x2] M Q := (hh_X10_often_0 M [x1.toInt, x2.toInt] [.ref 0, .int x1, .int x2] (scEk.c1 bx1 (scEk.c1 bx2 scEk.n0)) ⟨⟨0, by simp, rfl⟩, ⟨x1, rfl, scEv.at rfl⟩, ⟨x2, rfl, scEv.at rfl⟩, trivial⟩ (fun f hf => by cases hf) hI).imp (fun r M' h => by
  obtain ⟨⟨o, ho, hr, hf9, hm⟩, h1, h2⟩ := h
  rcases List.mem_cons.mp ho with rfl | ho
  · obtain ⟨n, rfl, c1, c2⟩ := hr; exact q0 n M' ⟨c1, c2⟩ h1 h2
  rcases List.mem_cons.mp ho with rfl | ho
  · have hr : r = .inr fmIAE := hr; subst hr; exact q1 M' h1 h2
  rcases List.mem_cons.mp ho with rfl | ho
  · have hr : r = .inr fmNSE := hr; subst hr; exact q2 M' h1 h2
  · cases ho)
theorem sx_often {M : fmM} {a0 a1 : Int32} (hI : scInv Tx invX M) : pvGood Tx 250 qX10_often [.ref 0, .int a0, .int a1] M (fun r M' => rkI true true r ∧ scInv Tx invX M') := (wsx_often (scq_t a0) (scq_t a1) hI (fun n M' _ h1 _ => ⟨Or.inl ⟨n, rfl⟩, h1⟩) (fun M' h1 _ => ⟨Or.inr (Or.inl ⟨rfl, rfl⟩), h1⟩) (fun M' h1 _ => ⟨Or.inr (Or.inr ⟨rfl, rfl⟩), h1⟩)).up (by decide)
theorem wsx_yearly {M : fmM} {Q : fmR → fmM → Prop} {x1 : Int32} (bx1 : (-2147483648) ≤ x1.toInt ∧ x1.toInt ≤ 2147483647) {x2 : Int32} (bx2 : (-2147483648) ≤ x2.toInt ∧ x2.toInt ≤ 2147483647) {x3 : Int32} (bx3 : (-2147483648) ≤ x3.toInt ∧ x3.toInt ≤ 2147483647) {x4 : Int32} (bx4 : (-2147483648) ≤ x4.toInt ∧ x4.toInt ≤ 2147483647) (hI : scInv Tx invX M) (q0 : ∀ (n : Int64) (M' : fmM), ((-9223372036854775808) ≤ n.toInt ∧ n.toInt ≤ 9223372036854775807) → scInv Tx invX M' → scFr [(0, 15, 2), (26, 0, 24)] M M' → Q (.inl (some (.long n))) M') (q1 : ∀ M' : fmM, scInv Tx invX M' → scFr [(0, 15, 2), (26, 0, 24)] M M' → Q (.inr fmIAE) M') (q2 : ∀ M' : fmM, scInv Tx invX M' → scFr [(0, 15, 2), (26, 0, 24)] M M' → Q (.inr fmNSE) M') : pvGood Tx 3 qX10_yearly [.ref 0, .int x1, .int x2, .int x3, .int x4] M Q := (hh_X10_yearly_0 M [x1.toInt, x2.toInt, x3.toInt, x4.toInt] [.ref 0, .int x1, .int x2, .int x3, .int x4] (scEk.c1 bx1 (scEk.c1 bx2 (scEk.c1 bx3 (scEk.c1 bx4 scEk.n0)))) ⟨⟨0, by simp, rfl⟩, ⟨x1, rfl, scEv.at rfl⟩, ⟨x2, rfl, scEv.at rfl⟩, ⟨x3, rfl, scEv.at rfl⟩, ⟨x4, rfl, scEv.at rfl⟩, trivial⟩ (fun f hf => by cases hf) hI).imp (fun r M' h => by
  obtain ⟨⟨o, ho, hr, hf9, hm⟩, h1, h2⟩ := h
  rcases List.mem_cons.mp ho with rfl | ho
  · obtain ⟨n, rfl, c1, c2⟩ := hr; exact q0 n M' ⟨c1, c2⟩ h1 h2
  rcases List.mem_cons.mp ho with rfl | ho
  · have hr : r = .inr fmIAE := hr; subst hr; exact q1 M' h1 h2
  rcases List.mem_cons.mp ho with rfl | ho
  · have hr : r = .inr fmNSE := hr; subst hr; exact q2 M' h1 h2
  · cases ho)
theorem sx_yearly {M : fmM} {a0 a1 a2 a3 : Int32} (hI : scInv Tx invX M) : pvGood Tx 250 qX10_yearly [.ref 0, .int a0, .int a1, .int a2, .int a3] M (fun r M' => rkJ true true r ∧ scInv Tx invX M') := (wsx_yearly (scq_t a0) (scq_t a1) (scq_t a2) (scq_t a3) hI (fun n M' _ h1 _ => ⟨Or.inl ⟨n, rfl⟩, h1⟩) (fun M' h1 _ => ⟨Or.inr (Or.inl ⟨rfl, rfl⟩), h1⟩) (fun M' h1 _ => ⟨Or.inr (Or.inr ⟨rfl, rfl⟩), h1⟩)).up (by decide)
theorem wsx_brings {M : fmM} {Q : fmR → fmM → Prop} {x1 : Int32} (bx1 : (-2147483648) ≤ x1.toInt ∧ x1.toInt ≤ 2147483647) {x2 : Int32} (bx2 : (-2147483648) ≤ x2.toInt ∧ x2.toInt ≤ 2147483647) {x3 : Int32} (bx3 : (-2147483648) ≤ x3.toInt ∧ x3.toInt ≤ 2147483647) {x4 : Int32} (bx4 : (-2147483648) ≤ x4.toInt ∧ x4.toInt ≤ 2147483647) {x5 : Int32} (bx5 : (-2147483648) ≤ x5.toInt ∧ x5.toInt ≤ 2147483647) {x6 : Int32} (bx6 : (-2147483648) ≤ x6.toInt ∧ x6.toInt ≤ 2147483647) (hI : scInv Tx invX M) (q0 : ∀ (n : Int32) (M' : fmM), ((-2147483648) ≤ n.toInt ∧ n.toInt ≤ 2147483647) → scInv Tx invX M' → scFr [(0, 16, 1)] M M' → Q (.inl (some (.int n))) M') (q1 : ∀ M' : fmM, scInv Tx invX M' → scFr [(0, 16, 1)] M M' → Q (.inr fmIAE) M') : pvGood Tx 2 qX10_brings [.ref 0, .int x1, .int x2, .int x3, .int x4, .int x5, .int x6] M Q := (hh_X10_brings_0 M [x1.toInt, x2.toInt, x3.toInt, x4.toInt, x5.toInt, x6.toInt] [.ref 0, .int x1, .int x2, .int x3, .int x4, .int x5, .int x6] (scEk.c1 bx1 (scEk.c1 bx2 (scEk.c1 bx3 (scEk.c1 bx4 (scEk.c1 bx5 (scEk.c1 bx6 scEk.n0)))))) ⟨⟨0, by simp, rfl⟩, ⟨x1, rfl, scEv.at rfl⟩, ⟨x2, rfl, scEv.at rfl⟩, ⟨x3, rfl, scEv.at rfl⟩, ⟨x4, rfl, scEv.at rfl⟩, ⟨x5, rfl, scEv.at rfl⟩, ⟨x6, rfl, scEv.at rfl⟩, trivial⟩ (fun f hf => by cases hf) hI).imp (fun r M' h => by
  obtain ⟨⟨o, ho, hr, hf9, hm⟩, h1, h2⟩ := h
  rcases List.mem_cons.mp ho with rfl | ho
  · obtain ⟨n, rfl, c1, c2⟩ := hr; exact q0 n M' ⟨c1, c2⟩ h1 h2
  rcases List.mem_cons.mp ho with rfl | ho
  · have hr : r = .inr fmIAE := hr; subst hr; exact q1 M' h1 h2
  · cases ho)
theorem sx_brings {M : fmM} {a0 a1 a2 a3 a4 a5 : Int32} (hI : scInv Tx invX M) : pvGood Tx 250 qX10_brings [.ref 0, .int a0, .int a1, .int a2, .int a3, .int a4, .int a5] M (fun r M' => rkI true false r ∧ scInv Tx invX M') := (wsx_brings (scq_t a0) (scq_t a1) (scq_t a2) (scq_t a3) (scq_t a4) (scq_t a5) hI (fun n M' _ h1 _ => ⟨Or.inl ⟨n, rfl⟩, h1⟩) (fun M' h1 _ => ⟨Or.inr (Or.inl ⟨rfl, rfl⟩), h1⟩)).up (by decide)
theorem wsx_says {M : fmM} {Q : fmR → fmM → Prop} {x1 : Int32} (bx1 : (-2147483648) ≤ x1.toInt ∧ x1.toInt ≤ 2147483647) {x2 : Int32} (bx2 : (-2147483648) ≤ x2.toInt ∧ x2.toInt ≤ 2147483647) {x3 : Int32} (bx3 : (-2147483648) ≤ x3.toInt ∧ x3.toInt ≤ 2147483647) {x4 : Int32} (bx4 : (-2147483648) ≤ x4.toInt ∧ x4.toInt ≤ 2147483647) {x5 : Int32} (bx5 : (-2147483648) ≤ x5.toInt ∧ x5.toInt ≤ 2147483647) (hI : scInv Tx invX M) (q0 : ∀ (n : Int32) (M' : fmM), (0 ≤ n.toInt ∧ n.toInt ≤ 2) → scInv Tx invX M' → scFr [(0, 16, 1)] M M' → Q (.inl (some (.int n))) M') (q1 : ∀ M' : fmM, scInv Tx invX M' → scFr [(0, 16, 1)] M M' → Q (.inr fmIAE) M') : pvGood Tx 2 qX10_says [.ref 0, .int x1, .int x2, .int x3, .int x4, .int x5] M Q := (hh_X10_says_0 M [x1.toInt, x2.toInt, x3.toInt, x4.toInt, x5.toInt] [.ref 0, .int x1, .int x2, .int x3, .int x4, .int x5] (scEk.c1 bx1 (scEk.c1 bx2 (scEk.c1 bx3 (scEk.c1 bx4 (scEk.c1 bx5 scEk.n0))))) ⟨⟨0, by simp, rfl⟩, ⟨x1, rfl, scEv.at rfl⟩, ⟨x2, rfl, scEv.at rfl⟩, ⟨x3, rfl, scEv.at rfl⟩, ⟨x4, rfl, scEv.at rfl⟩, ⟨x5, rfl, scEv.at rfl⟩, trivial⟩ (fun f hf => by cases hf) hI).imp (fun r M' h => by
  obtain ⟨⟨o, ho, hr, hf9, hm⟩, h1, h2⟩ := h
  rcases List.mem_cons.mp ho with rfl | ho
  · obtain ⟨n, rfl, c1, c2⟩ := hr; exact q0 n M' ⟨c1, c2⟩ h1 h2
  rcases List.mem_cons.mp ho with rfl | ho
  · have hr : r = .inr fmIAE := hr; subst hr; exact q1 M' h1 h2
  · cases ho)
theorem sx_says {M : fmM} {a0 a1 a2 a3 a4 : Int32} (hI : scInv Tx invX M) : pvGood Tx 250 qX10_says [.ref 0, .int a0, .int a1, .int a2, .int a3, .int a4] M (fun r M' => rkI true false r ∧ scInv Tx invX M') := (wsx_says (scq_t a0) (scq_t a1) (scq_t a2) (scq_t a3) (scq_t a4) hI (fun n M' _ h1 _ => ⟨Or.inl ⟨n, rfl⟩, h1⟩) (fun M' h1 _ => ⟨Or.inr (Or.inl ⟨rfl, rfl⟩), h1⟩)).up (by decide)
theorem wsx_line {M : fmM} {Q : fmR → fmM → Prop} {x1 : Int32} (bx1 : (-2147483648) ≤ x1.toInt ∧ x1.toInt ≤ 2147483647) {x2 : Int32} (bx2 : (-2147483648) ≤ x2.toInt ∧ x2.toInt ≤ 2147483647) {x3 : Int32} (bx3 : (-2147483648) ≤ x3.toInt ∧ x3.toInt ≤ 2147483647) {x4 : Int32} (bx4 : (-2147483648) ≤ x4.toInt ∧ x4.toInt ≤ 2147483647) (hI : scInv Tx invX M) (q0 : ∀ (n : Int32) (M' : fmM), ((-1) ≤ n.toInt ∧ n.toInt ≤ 16) → scInv Tx invX M' → scFr [(0, 16, 1)] M M' → Q (.inl (some (.int n))) M') (q1 : ∀ M' : fmM, scInv Tx invX M' → scFr [(0, 16, 1)] M M' → Q (.inr fmIAE) M') : pvGood Tx 2 qX10_line [.ref 0, .int x1, .int x2, .int x3, .int x4] M Q := (hh_X10_line_0 M [x1.toInt, x2.toInt, x3.toInt, x4.toInt] [.ref 0, .int x1, .int x2, .int x3, .int x4] (scEk.c1 bx1 (scEk.c1 bx2 (scEk.c1 bx3 (scEk.c1 bx4 scEk.n0)))) ⟨⟨0, by simp, rfl⟩, ⟨x1, rfl, scEv.at rfl⟩, ⟨x2, rfl, scEv.at rfl⟩, ⟨x3, rfl, scEv.at rfl⟩, ⟨x4, rfl, scEv.at rfl⟩, trivial⟩ (fun f hf => by cases hf) hI).imp (fun r M' h => by
  obtain ⟨⟨o, ho, hr, hf9, hm⟩, h1, h2⟩ := h
  rcases List.mem_cons.mp ho with rfl | ho
  · obtain ⟨n, rfl, c1, c2⟩ := hr; exact q0 n M' ⟨c1, c2⟩ h1 h2
  rcases List.mem_cons.mp ho with rfl | ho
  · have hr : r = .inr fmIAE := hr; subst hr; exact q1 M' h1 h2
  · cases ho)
theorem sx_line {M : fmM} {a0 a1 a2 a3 : Int32} (hI : scInv Tx invX M) : pvGood Tx 250 qX10_line [.ref 0, .int a0, .int a1, .int a2, .int a3] M (fun r M' => rkI true false r ∧ scInv Tx invX M') := (wsx_line (scq_t a0) (scq_t a1) (scq_t a2) (scq_t a3) hI (fun n M' _ h1 _ => ⟨Or.inl ⟨n, rfl⟩, h1⟩) (fun M' h1 _ => ⟨Or.inr (Or.inl ⟨rfl, rfl⟩), h1⟩)).up (by decide)
theorem wsx_room {M : fmM} {Q : fmR → fmM → Prop} {x1 : Int32} (bx1 : (-2147483648) ≤ x1.toInt ∧ x1.toInt ≤ 2147483647) {x2 : Int32} (bx2 : (-2147483648) ≤ x2.toInt ∧ x2.toInt ≤ 2147483647) (hI : scInv Tx invX M) (q0 : ∀ (n : Int32) (M' : fmM), ((-2147483648) ≤ n.toInt ∧ n.toInt ≤ 2147483647) → scInv Tx invX M' → scFr [(0, 16, 1), (45, 0, 201)] M M' → Q (.inl (some (.int n))) M') (q1 : ∀ M' : fmM, scInv Tx invX M' → scFr [(0, 16, 1), (45, 0, 201)] M M' → Q (.inr fmIAE) M') : pvGood Tx 3 qX10_room [.ref 0, .int x1, .int x2] M Q := (hh_X10_room_0 M [x1.toInt, x2.toInt] [.ref 0, .int x1, .int x2] (scEk.c1 bx1 (scEk.c1 bx2 scEk.n0)) ⟨⟨0, by simp, rfl⟩, ⟨x1, rfl, scEv.at rfl⟩, ⟨x2, rfl, scEv.at rfl⟩, trivial⟩ (fun f hf => by cases hf) hI).imp (fun r M' h => by
  obtain ⟨⟨o, ho, hr, hf9, hm⟩, h1, h2⟩ := h
  rcases List.mem_cons.mp ho with rfl | ho
  · obtain ⟨n, rfl, c1, c2⟩ := hr; exact q0 n M' ⟨c1, c2⟩ h1 h2
  rcases List.mem_cons.mp ho with rfl | ho
  · have hr : r = .inr fmIAE := hr; subst hr; exact q1 M' h1 h2
  · cases ho)
theorem sx_room {M : fmM} {a0 a1 : Int32} (hI : scInv Tx invX M) : pvGood Tx 250 qX10_room [.ref 0, .int a0, .int a1] M (fun r M' => rkI true false r ∧ scInv Tx invX M') := (wsx_room (scq_t a0) (scq_t a1) hI (fun n M' _ h1 _ => ⟨Or.inl ⟨n, rfl⟩, h1⟩) (fun M' h1 _ => ⟨Or.inr (Or.inl ⟨rfl, rfl⟩), h1⟩)).up (by decide)
theorem wsx_lines {M : fmM} {Q : fmR → fmM → Prop} {x1 : Int32} (bx1 : (-2147483648) ≤ x1.toInt ∧ x1.toInt ≤ 2147483647) {x2 : Int32} (bx2 : (-2147483648) ≤ x2.toInt ∧ x2.toInt ≤ 2147483647) {x3 : Int32} (bx3 : (-2147483648) ≤ x3.toInt ∧ x3.toInt ≤ 2147483647) (hI : scInv Tx invX M) (q0 : ∀ (n : Int32) (M' : fmM), (0 ≤ n.toInt ∧ n.toInt ≤ 99) → scInv Tx invX M' → scFr [(0, 15, 2), (45, 0, 201)] M M' → Q (.inl (some (.int n))) M') (q1 : ∀ M' : fmM, scInv Tx invX M' → scFr [(0, 15, 2), (45, 0, 201)] M M' → Q (.inr fmIAE) M') (q2 : ∀ M' : fmM, scInv Tx invX M' → scFr [(0, 15, 2), (45, 0, 201)] M M' → Q (.inr fmNSE) M') : pvGood Tx 3 qX10_lines [.ref 0, .int x1, .int x2, .int x3] M Q := (hh_X10_lines_0 M [x1.toInt, x2.toInt, x3.toInt] [.ref 0, .int x1, .int x2, .int x3] (scEk.c1 bx1 (scEk.c1 bx2 (scEk.c1 bx3 scEk.n0))) ⟨⟨0, by simp, rfl⟩, ⟨x1, rfl, scEv.at rfl⟩, ⟨x2, rfl, scEv.at rfl⟩, ⟨x3, rfl, scEv.at rfl⟩, trivial⟩ (fun f hf => by cases hf) hI).imp (fun r M' h => by
  obtain ⟨⟨o, ho, hr, hf9, hm⟩, h1, h2⟩ := h
  rcases List.mem_cons.mp ho with rfl | ho
  · obtain ⟨n, rfl, c1, c2⟩ := hr; exact q0 n M' ⟨c1, c2⟩ h1 h2
  rcases List.mem_cons.mp ho with rfl | ho
  · have hr : r = .inr fmIAE := hr; subst hr; exact q1 M' h1 h2
  rcases List.mem_cons.mp ho with rfl | ho
  · have hr : r = .inr fmNSE := hr; subst hr; exact q2 M' h1 h2
  · cases ho)
theorem sx_lines {M : fmM} {a0 a1 a2 : Int32} (hI : scInv Tx invX M) : pvGood Tx 250 qX10_lines [.ref 0, .int a0, .int a1, .int a2] M (fun r M' => rkI true true r ∧ scInv Tx invX M') := (wsx_lines (scq_t a0) (scq_t a1) (scq_t a2) hI (fun n M' _ h1 _ => ⟨Or.inl ⟨n, rfl⟩, h1⟩) (fun M' h1 _ => ⟨Or.inr (Or.inl ⟨rfl, rfl⟩), h1⟩) (fun M' h1 _ => ⟨Or.inr (Or.inr ⟨rfl, rfl⟩), h1⟩)).up (by decide)
theorem wsx_apart {M : fmM} {Q : fmR → fmM → Prop} {x1 : Int32} (bx1 : (-2147483648) ≤ x1.toInt ∧ x1.toInt ≤ 2147483647) {x2 : Int32} (bx2 : (-2147483648) ≤ x2.toInt ∧ x2.toInt ≤ 2147483647) (hI : scInv Tx invX M) (q0 : ∀ (n : Int32) (M' : fmM), ((-1) ≤ n.toInt ∧ n.toInt ≤ 2147483647) → scInv Tx invX M' → scFr [(0, 16, 1), (44, 0, 8)] M M' → Q (.inl (some (.int n))) M') (q1 : ∀ M' : fmM, scInv Tx invX M' → scFr [(0, 16, 1), (44, 0, 8)] M M' → Q (.inr fmIAE) M') : pvGood Tx 2 qX10_apart [.ref 0, .int x1, .int x2] M Q := (hh_X10_apart_0 M [x1.toInt, x2.toInt] [.ref 0, .int x1, .int x2] (scEk.c1 bx1 (scEk.c1 bx2 scEk.n0)) ⟨⟨0, by simp, rfl⟩, ⟨x1, rfl, scEv.at rfl⟩, ⟨x2, rfl, scEv.at rfl⟩, trivial⟩ (fun f hf => by cases hf) hI).imp (fun r M' h => by
  obtain ⟨⟨o, ho, hr, hf9, hm⟩, h1, h2⟩ := h
  rcases List.mem_cons.mp ho with rfl | ho
  · obtain ⟨n, rfl, c1, c2⟩ := hr; exact q0 n M' ⟨c1, c2⟩ h1 h2
  rcases List.mem_cons.mp ho with rfl | ho
  · have hr : r = .inr fmIAE := hr; subst hr; exact q1 M' h1 h2
  · cases ho)
theorem sx_apart {M : fmM} {a0 a1 : Int32} (hI : scInv Tx invX M) : pvGood Tx 250 qX10_apart [.ref 0, .int a0, .int a1] M (fun r M' => rkI true false r ∧ scInv Tx invX M') := (wsx_apart (scq_t a0) (scq_t a1) hI (fun n M' _ h1 _ => ⟨Or.inl ⟨n, rfl⟩, h1⟩) (fun M' h1 _ => ⟨Or.inr (Or.inl ⟨rfl, rfl⟩), h1⟩)).up (by decide)
theorem wsx_twins {M : fmM} {Q : fmR → fmM → Prop}  (hI : scInv Tx invX M) (q0 : ∀ (n : Int32) (M' : fmM), ((-1) ≤ n.toInt ∧ n.toInt ≤ 77) → scInv Tx invX M' → scFr [(44, 0, 8)] M M' → Q (.inl (some (.int n))) M') : pvGood Tx 2 qX10_twins [.ref 0] M Q := (hh_X10_twins_0 M [] [.ref 0] scEk.n0 ⟨⟨0, by simp, rfl⟩, trivial⟩ (fun f hf => by cases hf) hI).imp (fun r M' h => by
  obtain ⟨⟨o, ho, hr, hf9, hm⟩, h1, h2⟩ := h
  rcases List.mem_cons.mp ho with rfl | ho
  · obtain ⟨n, rfl, c1, c2⟩ := hr; exact q0 n M' ⟨c1, c2⟩ h1 h2
  · cases ho)
theorem sx_twins {M : fmM} (hI : scInv Tx invX M) : pvGood Tx 250 qX10_twins [.ref 0] M (fun r M' => rkI false false r ∧ scInv Tx invX M') := (wsx_twins  hI (fun n M' _ h1 _ => ⟨Or.inl ⟨n, rfl⟩, h1⟩)).up (by decide)
theorem wsx_written {M : fmM} {Q : fmR → fmM → Prop} {x1 : Int32} (bx1 : (-2147483648) ≤ x1.toInt ∧ x1.toInt ≤ 2147483647) (hI : scInv Tx invX M) (q0 : ∀ (n : Int64) (M' : fmM), ((-9223372036854775808) ≤ n.toInt ∧ n.toInt ≤ 9223372036854775807) → scInv Tx invX M' → scFr [(0, 15, 1)] M M' → Q (.inl (some (.long n))) M') (q1 : ∀ M' : fmM, scInv Tx invX M' → scFr [(0, 15, 1)] M M' → Q (.inr fmNSE) M') : pvGood Tx 2 qX10_written [.ref 0, .int x1] M Q := (hh_X10_written_0 M [x1.toInt] [.ref 0, .int x1] (scEk.c1 bx1 scEk.n0) ⟨⟨0, by simp, rfl⟩, ⟨x1, rfl, scEv.at rfl⟩, trivial⟩ (fun f hf => by cases hf) hI).imp (fun r M' h => by
  obtain ⟨⟨o, ho, hr, hf9, hm⟩, h1, h2⟩ := h
  rcases List.mem_cons.mp ho with rfl | ho
  · obtain ⟨n, rfl, c1, c2⟩ := hr; exact q0 n M' ⟨c1, c2⟩ h1 h2
  rcases List.mem_cons.mp ho with rfl | ho
  · have hr : r = .inr fmNSE := hr; subst hr; exact q1 M' h1 h2
  · cases ho)
theorem sx_written {M : fmM} {a0 : Int32} (hI : scInv Tx invX M) : pvGood Tx 250 qX10_written [.ref 0, .int a0] M (fun r M' => rkJ false true r ∧ scInv Tx invX M') := (wsx_written (scq_t a0) hI (fun n M' _ h1 _ => ⟨Or.inl ⟨n, rfl⟩, h1⟩) (fun M' h1 _ => ⟨Or.inr (Or.inr ⟨rfl, rfl⟩), h1⟩)).up (by decide)
theorem wsx_whose {M : fmM} {Q : fmR → fmM → Prop}  (hI : scInv Tx invX M) (q0 : ∀ (n : Int32) (M' : fmM), ((-2147483648) ≤ n.toInt ∧ n.toInt ≤ 2147483647) → scInv Tx invX M' → scFr [] M M' → Q (.inl (some (.int n))) M') : pvGood Tx 2 qX10_whose [.ref 0] M Q := (hh_X10_whose_0 M [] [.ref 0] scEk.n0 ⟨⟨0, by simp, rfl⟩, trivial⟩ (fun f hf => by cases hf) hI).imp (fun r M' h => by
  obtain ⟨⟨o, ho, hr, hf9, hm⟩, h1, h2⟩ := h
  rcases List.mem_cons.mp ho with rfl | ho
  · obtain ⟨n, rfl, c1, c2⟩ := hr; exact q0 n M' ⟨c1, c2⟩ h1 h2
  · cases ho)
theorem sx_whose {M : fmM} (hI : scInv Tx invX M) : pvGood Tx 250 qX10_whose [.ref 0] M (fun r M' => rkI false false r ∧ scInv Tx invX M') := (wsx_whose  hI (fun n M' _ h1 _ => ⟨Or.inl ⟨n, rfl⟩, h1⟩)).up (by decide)
theorem wsx_ahead {M : fmM} {Q : fmR → fmM → Prop} {x1 : Int32} (bx1 : (-2147483648) ≤ x1.toInt ∧ x1.toInt ≤ 2147483647) {x2 : Int32} (bx2 : (-2147483648) ≤ x2.toInt ∧ x2.toInt ≤ 2147483647) (hI : scInv Tx invX M) (q0 : ∀ (n : Int64) (M' : fmM), ((-9223372036854775808) ≤ n.toInt ∧ n.toInt ≤ 9223372036854775807) → scInv Tx invX M' → scFr [(0, 16, 1), (26, 0, 24)] M M' → Q (.inl (some (.long n))) M') (q1 : ∀ M' : fmM, scInv Tx invX M' → scFr [(0, 16, 1), (26, 0, 24)] M M' → Q (.inr fmIAE) M') : pvGood Tx 5 qX10_ahead [.ref 0, .int x1, .int x2] M Q := (hh_X10_ahead_0 M [x1.toInt, x2.toInt] [.ref 0, .int x1, .int x2] (scEk.c1 bx1 (scEk.c1 bx2 scEk.n0)) ⟨⟨0, by simp, rfl⟩, ⟨x1, rfl, scEv.at rfl⟩, ⟨x2, rfl, scEv.at rfl⟩, trivial⟩ (fun f hf => by cases hf) hI).imp (fun r M' h => by
  obtain ⟨⟨o, ho, hr, hf9, hm⟩, h1, h2⟩ := h
  rcases List.mem_cons.mp ho with rfl | ho
  · obtain ⟨n, rfl, c1, c2⟩ := hr; exact q0 n M' ⟨c1, c2⟩ h1 h2
  rcases List.mem_cons.mp ho with rfl | ho
  · have hr : r = .inr fmIAE := hr; subst hr; exact q1 M' h1 h2
  · cases ho)
theorem sx_ahead {M : fmM} {a0 a1 : Int32} (hI : scInv Tx invX M) : pvGood Tx 250 qX10_ahead [.ref 0, .int a0, .int a1] M (fun r M' => rkJ true false r ∧ scInv Tx invX M') := (wsx_ahead (scq_t a0) (scq_t a1) hI (fun n M' _ h1 _ => ⟨Or.inl ⟨n, rfl⟩, h1⟩) (fun M' h1 _ => ⟨Or.inr (Or.inl ⟨rfl, rfl⟩), h1⟩)).up (by decide)
theorem wsx_lives {M : fmM} {Q : fmR → fmM → Prop} {x1 : Int32} (bx1 : (-2147483648) ≤ x1.toInt ∧ x1.toInt ≤ 2147483647) {x2 : Int32} (bx2 : (-2147483648) ≤ x2.toInt ∧ x2.toInt ≤ 2147483647) {x3 : Int32} (bx3 : (-2147483648) ≤ x3.toInt ∧ x3.toInt ≤ 2147483647) (hI : scInv Tx invX M) (q0 : ∀ (n : Int64) (M' : fmM), ((-9223372036854775808) ≤ n.toInt ∧ n.toInt ≤ 9223372036854775807) → scInv Tx invX M' → scFr [(0, 15, 2)] M M' → Q (.inl (some (.long n))) M') (q1 : ∀ M' : fmM, scInv Tx invX M' → scFr [(0, 15, 2)] M M' → Q (.inr fmIAE) M') (q2 : ∀ M' : fmM, scInv Tx invX M' → scFr [(0, 15, 2)] M M' → Q (.inr fmNSE) M') : pvGood Tx 2 qX10_lives [.ref 0, .int x1, .int x2, .int x3] M Q := (hh_X10_lives_0 M [x1.toInt, x2.toInt, x3.toInt] [.ref 0, .int x1, .int x2, .int x3] (scEk.c1 bx1 (scEk.c1 bx2 (scEk.c1 bx3 scEk.n0))) ⟨⟨0, by simp, rfl⟩, ⟨x1, rfl, scEv.at rfl⟩, ⟨x2, rfl, scEv.at rfl⟩, ⟨x3, rfl, scEv.at rfl⟩, trivial⟩ (fun f hf => by cases hf) hI).imp (fun r M' h => by
  obtain ⟨⟨o, ho, hr, hf9, hm⟩, h1, h2⟩ := h
  rcases List.mem_cons.mp ho with rfl | ho
  · obtain ⟨n, rfl, c1, c2⟩ := hr; exact q0 n M' ⟨c1, c2⟩ h1 h2
  rcases List.mem_cons.mp ho with rfl | ho
  · have hr : r = .inr fmIAE := hr; subst hr; exact q1 M' h1 h2
  rcases List.mem_cons.mp ho with rfl | ho
  · have hr : r = .inr fmNSE := hr; subst hr; exact q2 M' h1 h2
  · cases ho)
theorem sx_lives {M : fmM} {a0 a1 a2 : Int32} (hI : scInv Tx invX M) : pvGood Tx 250 qX10_lives [.ref 0, .int a0, .int a1, .int a2] M (fun r M' => rkJ true true r ∧ scInv Tx invX M') := (wsx_lives (scq_t a0) (scq_t a1) (scq_t a2) hI (fun n M' _ h1 _ => ⟨Or.inl ⟨n, rfl⟩, h1⟩) (fun M' h1 _ => ⟨Or.inr (Or.inl ⟨rfl, rfl⟩), h1⟩) (fun M' h1 _ => ⟨Or.inr (Or.inr ⟨rfl, rfl⟩), h1⟩)).up (by decide)
theorem wsx_oldest {M : fmM} {Q : fmR → fmM → Prop}  (hI : scInv Tx invX M) (q0 : ∀ (n : Int32) (M' : fmM), ((-1) ≤ n.toInt ∧ n.toInt ≤ 7) → scInv Tx invX M' → scFr [] M M' → Q (.inl (some (.int n))) M') : pvGood Tx 0 qX10_oldest [.ref 0] M Q := (hh_X10_oldest_0 M [] [.ref 0] scEk.n0 ⟨⟨0, by simp, rfl⟩, trivial⟩ (fun f hf => by cases hf) hI).imp (fun r M' h => by
  obtain ⟨⟨o, ho, hr, hf9, hm⟩, h1, h2⟩ := h
  rcases List.mem_cons.mp ho with rfl | ho
  · obtain ⟨n, rfl, c1, c2⟩ := hr; exact q0 n M' ⟨c1, c2⟩ h1 h2
  · cases ho)
theorem sx_oldest {M : fmM} (hI : scInv Tx invX M) : pvGood Tx 250 qX10_oldest [.ref 0] M (fun r M' => rkI false false r ∧ scInv Tx invX M') := (wsx_oldest  hI (fun n M' _ h1 _ => ⟨Or.inl ⟨n, rfl⟩, h1⟩)).up (by decide)
theorem wsx_chain {M : fmM} {Q : fmR → fmM → Prop} {x1 : Int32} (bx1 : (-2147483648) ≤ x1.toInt ∧ x1.toInt ≤ 2147483647) {x2 : Int32} (bx2 : (-2147483648) ≤ x2.toInt ∧ x2.toInt ≤ 2147483647) (hI : scInv Tx invX M) (q0 : ∀ (n : Int32) (M' : fmM), (0 ≤ n.toInt ∧ n.toInt ≤ 63) → scInv Tx invX M' → scFr [(0, 15, 2)] M M' → Q (.inl (some (.int n))) M') (q1 : ∀ M' : fmM, scInv Tx invX M' → scFr [(0, 15, 2)] M M' → Q (.inr fmIAE) M') (q2 : ∀ M' : fmM, scInv Tx invX M' → scFr [(0, 15, 2)] M M' → Q (.inr fmNSE) M') : pvGood Tx 1 qX10_chain [.ref 0, .int x1, .int x2] M Q := (hh_X10_chain_0 M [x1.toInt, x2.toInt] [.ref 0, .int x1, .int x2] (scEk.c1 bx1 (scEk.c1 bx2 scEk.n0)) ⟨⟨0, by simp, rfl⟩, ⟨x1, rfl, scEv.at rfl⟩, ⟨x2, rfl, scEv.at rfl⟩, trivial⟩ (fun f hf => by cases hf) hI).imp (fun r M' h => by
  obtain ⟨⟨o, ho, hr, hf9, hm⟩, h1, h2⟩ := h
  rcases List.mem_cons.mp ho with rfl | ho
  · obtain ⟨n, rfl, c1, c2⟩ := hr; exact q0 n M' ⟨c1, c2⟩ h1 h2
  rcases List.mem_cons.mp ho with rfl | ho
  · have hr : r = .inr fmIAE := hr; subst hr; exact q1 M' h1 h2
  rcases List.mem_cons.mp ho with rfl | ho
  · have hr : r = .inr fmNSE := hr; subst hr; exact q2 M' h1 h2
  · cases ho)
theorem sx_chain {M : fmM} {a0 a1 : Int32} (hI : scInv Tx invX M) : pvGood Tx 250 qX10_chain [.ref 0, .int a0, .int a1] M (fun r M' => rkI true true r ∧ scInv Tx invX M') := (wsx_chain (scq_t a0) (scq_t a1) hI (fun n M' _ h1 _ => ⟨Or.inl ⟨n, rfl⟩, h1⟩) (fun M' h1 _ => ⟨Or.inr (Or.inl ⟨rfl, rfl⟩), h1⟩) (fun M' h1 _ => ⟨Or.inr (Or.inr ⟨rfl, rfl⟩), h1⟩)).up (by decide)
theorem wsx_due {M : fmM} {Q : fmR → fmM → Prop} {x1 : Int32} (bx1 : (-2147483648) ≤ x1.toInt ∧ x1.toInt ≤ 2147483647) {x2 : Int32} (bx2 : (-2147483648) ≤ x2.toInt ∧ x2.toInt ≤ 2147483647) (hI : scInv Tx invX M) (q0 : ∀ (n : Int32) (M' : fmM), ((-1) ≤ n.toInt ∧ n.toInt ≤ 60) → scInv Tx invX M' → scFr [(0, 15, 2), (26, 0, 24)] M M' → Q (.inl (some (.int n))) M') (q1 : ∀ M' : fmM, scInv Tx invX M' → scFr [(0, 15, 2), (26, 0, 24)] M M' → Q (.inr fmIAE) M') (q2 : ∀ M' : fmM, scInv Tx invX M' → scFr [(0, 15, 2), (26, 0, 24)] M M' → Q (.inr fmNSE) M') : pvGood Tx 3 qX10_due [.ref 0, .int x1, .int x2] M Q := (hh_X10_due_0 M [x1.toInt, x2.toInt] [.ref 0, .int x1, .int x2] (scEk.c1 bx1 (scEk.c1 bx2 scEk.n0)) ⟨⟨0, by simp, rfl⟩, ⟨x1, rfl, scEv.at rfl⟩, ⟨x2, rfl, scEv.at rfl⟩, trivial⟩ (fun f hf => by cases hf) hI).imp (fun r M' h => by
  obtain ⟨⟨o, ho, hr, hf9, hm⟩, h1, h2⟩ := h
  rcases List.mem_cons.mp ho with rfl | ho
  · obtain ⟨n, rfl, c1, c2⟩ := hr; exact q0 n M' ⟨c1, c2⟩ h1 h2
  rcases List.mem_cons.mp ho with rfl | ho
  · have hr : r = .inr fmIAE := hr; subst hr; exact q1 M' h1 h2
  rcases List.mem_cons.mp ho with rfl | ho
  · have hr : r = .inr fmNSE := hr; subst hr; exact q2 M' h1 h2
  · cases ho)
theorem sx_due {M : fmM} {a0 a1 : Int32} (hI : scInv Tx invX M) : pvGood Tx 250 qX10_due [.ref 0, .int a0, .int a1] M (fun r M' => rkI true true r ∧ scInv Tx invX M') := (wsx_due (scq_t a0) (scq_t a1) hI (fun n M' _ h1 _ => ⟨Or.inl ⟨n, rfl⟩, h1⟩) (fun M' h1 _ => ⟨Or.inr (Or.inl ⟨rfl, rfl⟩), h1⟩) (fun M' h1 _ => ⟨Or.inr (Or.inr ⟨rfl, rfl⟩), h1⟩)).up (by decide)
theorem wsx_news {M : fmM} {Q : fmR → fmM → Prop} {x1 : Int32} (bx1 : (-2147483648) ≤ x1.toInt ∧ x1.toInt ≤ 2147483647) (hI : scInv Tx invX M) (q0 : ∀ (n : Int32) (M' : fmM), ((-1) ≤ n.toInt ∧ n.toInt ≤ 60) → scInv Tx invX M' → scFr [(0, 15, 1)] M M' → Q (.inl (some (.int n))) M') (q1 : ∀ M' : fmM, scInv Tx invX M' → scFr [(0, 15, 1)] M M' → Q (.inr fmNSE) M') : pvGood Tx 1 qX10_news [.ref 0, .int x1] M Q := (hh_X10_news_0 M [x1.toInt] [.ref 0, .int x1] (scEk.c1 bx1 scEk.n0) ⟨⟨0, by simp, rfl⟩, ⟨x1, rfl, scEv.at rfl⟩, trivial⟩ (fun f hf => by cases hf) hI).imp (fun r M' h => by
  obtain ⟨⟨o, ho, hr, hf9, hm⟩, h1, h2⟩ := h
  rcases List.mem_cons.mp ho with rfl | ho
  · obtain ⟨n, rfl, c1, c2⟩ := hr; exact q0 n M' ⟨c1, c2⟩ h1 h2
  rcases List.mem_cons.mp ho with rfl | ho
  · have hr : r = .inr fmNSE := hr; subst hr; exact q1 M' h1 h2
  · cases ho)
theorem sx_news {M : fmM} {a0 : Int32} (hI : scInv Tx invX M) : pvGood Tx 250 qX10_news [.ref 0, .int a0] M (fun r M' => rkI false true r ∧ scInv Tx invX M') := (wsx_news (scq_t a0) hI (fun n M' _ h1 _ => ⟨Or.inl ⟨n, rfl⟩, h1⟩) (fun M' h1 _ => ⟨Or.inr (Or.inr ⟨rfl, rfl⟩), h1⟩)).up (by decide)
theorem wsx_expects {M : fmM} {Q : fmR → fmM → Prop} {x1 : Int32} (bx1 : (-2147483648) ≤ x1.toInt ∧ x1.toInt ≤ 2147483647) {x2 : Int32} (bx2 : (-2147483648) ≤ x2.toInt ∧ x2.toInt ≤ 2147483647) {x3 : Int32} (bx3 : (-2147483648) ≤ x3.toInt ∧ x3.toInt ≤ 2147483647) (hI : scInv Tx invX M) (q0 : ∀ (n : Int64) (M' : fmM), ((-9223372036854775808) ≤ n.toInt ∧ n.toInt ≤ 9223372036854775807) → scInv Tx invX M' → scFr [(0, 15, 2), (26, 0, 24)] M M' → Q (.inl (some (.long n))) M') (q1 : ∀ M' : fmM, scInv Tx invX M' → scFr [(0, 15, 2), (26, 0, 24)] M M' → Q (.inr fmIAE) M') (q2 : ∀ M' : fmM, scInv Tx invX M' → scFr [(0, 15, 2), (26, 0, 24)] M M' → Q (.inr fmNSE) M') : pvGood Tx 5 qX10_expects [.ref 0, .int x1, .int x2, .int x3] M Q := (hh_X10_expects_0 M [x1.toInt, x2.toInt, x3.toInt] [.ref 0, .int x1, .int x2, .int x3] (scEk.c1 bx1 (scEk.c1 bx2 (scEk.c1 bx3 scEk.n0))) ⟨⟨0, by simp, rfl⟩, ⟨x1, rfl, scEv.at rfl⟩, ⟨x2, rfl, scEv.at rfl⟩, ⟨x3, rfl, scEv.at rfl⟩, trivial⟩ (fun f hf => by cases hf) hI).imp (fun r M' h => by
  obtain ⟨⟨o, ho, hr, hf9, hm⟩, h1, h2⟩ := h
  rcases List.mem_cons.mp ho with rfl | ho
  · obtain ⟨n, rfl, c1, c2⟩ := hr; exact q0 n M' ⟨c1, c2⟩ h1 h2
  rcases List.mem_cons.mp ho with rfl | ho
  · have hr : r = .inr fmIAE := hr; subst hr; exact q1 M' h1 h2
  rcases List.mem_cons.mp ho with rfl | ho
  · have hr : r = .inr fmNSE := hr; subst hr; exact q2 M' h1 h2
  · cases ho)
theorem sx_expects {M : fmM} {a0 a1 a2 : Int32} (hI : scInv Tx invX M) : pvGood Tx 250 qX10_expects [.ref 0, .int a0, .int a1, .int a2] M (fun r M' => rkJ true true r ∧ scInv Tx invX M') := (wsx_expects (scq_t a0) (scq_t a1) (scq_t a2) hI (fun n M' _ h1 _ => ⟨Or.inl ⟨n, rfl⟩, h1⟩) (fun M' h1 _ => ⟨Or.inr (Or.inl ⟨rfl, rfl⟩), h1⟩) (fun M' h1 _ => ⟨Or.inr (Or.inr ⟨rfl, rfl⟩), h1⟩)).up (by decide)
theorem wsx_worst {M : fmM} {Q : fmR → fmM → Prop}  (hI : scInv Tx invX M) (q0 : ∀ (n : Int32) (M' : fmM), (0 ≤ n.toInt ∧ n.toInt ≤ 2147483647) → scInv Tx invX M' → scFr [(26, 0, 24)] M M' → Q (.inl (some (.int n))) M') : pvGood Tx 5 qX10_worst [.ref 0] M Q := (hh_X10_worst_0 M [] [.ref 0] scEk.n0 ⟨⟨0, by simp, rfl⟩, trivial⟩ (fun f hf => by cases hf) hI).imp (fun r M' h => by
  obtain ⟨⟨o, ho, hr, hf9, hm⟩, h1, h2⟩ := h
  rcases List.mem_cons.mp ho with rfl | ho
  · obtain ⟨n, rfl, c1, c2⟩ := hr; exact q0 n M' ⟨c1, c2⟩ h1 h2
  · cases ho)
theorem sx_worst {M : fmM} (hI : scInv Tx invX M) : pvGood Tx 250 qX10_worst [.ref 0] M (fun r M' => rkI false false r ∧ scInv Tx invX M') := (wsx_worst  hI (fun n M' _ h1 _ => ⟨Or.inl ⟨n, rfl⟩, h1⟩)).up (by decide)
theorem wsx_years {M : fmM} {Q : fmR → fmM → Prop} {x1 : Int32} (bx1 : (-2147483648) ≤ x1.toInt ∧ x1.toInt ≤ 2147483647) {x2 : Int32} (bx2 : (-2147483648) ≤ x2.toInt ∧ x2.toInt ≤ 2147483647) {x3 : Int32} (bx3 : (-2147483648) ≤ x3.toInt ∧ x3.toInt ≤ 2147483647) (hI : scInv Tx invX M) (q0 : ∀ (n : Int32) (M' : fmM), ((-2147483648) ≤ n.toInt ∧ n.toInt ≤ 2147483647) → scInv Tx invX M' → scFr [(0, 16, 1), (26, 0, 24), (39, 1, 1), (39, 4, 1), (40, 0, 8), (41, 1, 6), (42, 0, 8)] M M' → Q (.inl (some (.int n))) M') (q1 : ∀ M' : fmM, scInv Tx invX M' → scFr [(0, 16, 1), (26, 0, 24), (39, 1, 1), (39, 4, 1), (40, 0, 8), (41, 1, 6), (42, 0, 8)] M M' → Q (.inr fmIAE) M') : pvGood Tx 7 qX10_years [.ref 0, .int x1, .int x2, .int x3] M Q := (hh_X10_years_0 M [x1.toInt, x2.toInt, x3.toInt] [.ref 0, .int x1, .int x2, .int x3] (scEk.c1 bx1 (scEk.c1 bx2 (scEk.c1 bx3 scEk.n0))) ⟨⟨0, by simp, rfl⟩, ⟨x1, rfl, scEv.at rfl⟩, ⟨x2, rfl, scEv.at rfl⟩, ⟨x3, rfl, scEv.at rfl⟩, trivial⟩ (fun f hf => by cases hf) hI).imp (fun r M' h => by
  obtain ⟨⟨o, ho, hr, hf9, hm⟩, h1, h2⟩ := h
  rcases List.mem_cons.mp ho with rfl | ho
  · obtain ⟨n, rfl, c1, c2⟩ := hr; exact q0 n M' ⟨c1, c2⟩ h1 h2
  rcases List.mem_cons.mp ho with rfl | ho
  · have hr : r = .inr fmIAE := hr; subst hr; exact q1 M' h1 h2
  · cases ho)
theorem sx_years {M : fmM} {a0 a1 a2 : Int32} (hI : scInv Tx invX M) : pvGood Tx 250 qX10_years [.ref 0, .int a0, .int a1, .int a2] M (fun r M' => rkI true false r ∧ scInv Tx invX M') := (wsx_years (scq_t a0) (scq_t a1) (scq_t a2) hI (fun n M' _ h1 _ => ⟨Or.inl ⟨n, rfl⟩, h1⟩) (fun M' h1 _ => ⟨Or.inr (Or.inl ⟨rfl, rfl⟩), h1⟩)).up (by decide)
theorem wsx_span {M : fmM} {Q : fmR → fmM → Prop} {x1 : Int32} (bx1 : (-2147483648) ≤ x1.toInt ∧ x1.toInt ≤ 2147483647) {x2 : Int32} (bx2 : (-2147483648) ≤ x2.toInt ∧ x2.toInt ≤ 2147483647) {x3 : Int32} (bx3 : (-2147483648) ≤ x3.toInt ∧ x3.toInt ≤ 2147483647) {x4 : Int32} (bx4 : (-2147483648) ≤ x4.toInt ∧ x4.toInt ≤ 2147483647) {x5 : Int32} (bx5 : (-2147483648) ≤ x5.toInt ∧ x5.toInt ≤ 2147483647) (hI : scInv Tx invX M) (q0 : ∀ (n : Int32) (M' : fmM), ((-2147483648) ≤ n.toInt ∧ n.toInt ≤ 2147483647) → scInv Tx invX M' → scFr [(0, 16, 1), (26, 0, 24), (39, 1, 1), (39, 4, 1), (40, 0, 8), (41, 1, 6), (42, 0, 8)] M M' → Q (.inl (some (.int n))) M') (q1 : ∀ M' : fmM, scInv Tx invX M' → scFr [(0, 16, 1), (26, 0, 24), (39, 1, 1), (39, 4, 1), (40, 0, 8), (41, 1, 6), (42, 0, 8)] M M' → Q (.inr fmIAE) M') : pvGood Tx 7 qX10_span [.ref 0, .int x1, .int x2, .int x3, .int x4, .int x5] M Q := (hh_X10_span_0 M [x1.toInt, x2.toInt, x3.toInt, x4.toInt, x5.toInt] [.ref 0, .int x1, .int x2, .int x3, .int x4, .int x5] (scEk.c1 bx1 (scEk.c1 bx2 (scEk.c1 bx3 (scEk.c1 bx4 (scEk.c1 bx5 scEk.n0))))) ⟨⟨0, by simp, rfl⟩, ⟨x1, rfl, scEv.at rfl⟩, ⟨x2, rfl, scEv.at rfl⟩, ⟨x3, rfl, scEv.at rfl⟩, ⟨x4, rfl, scEv.at rfl⟩, ⟨x5, rfl, scEv.at rfl⟩, trivial⟩ (fun f hf => by cases hf) hI).imp (fun r M' h => by
  obtain ⟨⟨o, ho, hr, hf9, hm⟩, h1, h2⟩ := h
  rcases List.mem_cons.mp ho with rfl | ho
  · obtain ⟨n, rfl, c1, c2⟩ := hr; exact q0 n M' ⟨c1, c2⟩ h1 h2
  rcases List.mem_cons.mp ho with rfl | ho
  · have hr : r = .inr fmIAE := hr; subst hr; exact q1 M' h1 h2
  · cases ho)
theorem sx_span {M : fmM} {a0 a1 a2 a3 a4 : Int32} (hI : scInv Tx invX M) : pvGood Tx 250 qX10_span [.ref 0, .int a0, .int a1, .int a2, .int a3, .int a4] M (fun r M' => rkI true false r ∧ scInv Tx invX M') := (wsx_span (scq_t a0) (scq_t a1) (scq_t a2) (scq_t a3) (scq_t a4) hI (fun n M' _ h1 _ => ⟨Or.inl ⟨n, rfl⟩, h1⟩) (fun M' h1 _ => ⟨Or.inr (Or.inl ⟨rfl, rfl⟩), h1⟩)).up (by decide)
theorem wsx_image {M : fmM} {Q : fmR → fmM → Prop}  (hI : scInv Tx invX M) (q0 : ∀ (n : Int32) (M' : fmM), ((-1) ≤ n.toInt ∧ n.toInt ≤ 3) → scInv Tx invX M' → scFr [(0, 13, 1), (82, 2, 1), (83, 1, 6), (84, 0, 8), (86, 1, 6), (87, 1, 6), (88, 1, 6), (89, 1, 6), (90, 1, 6), (91, 1, 6), (92, 1, 6), (93, 1, 6), (94, 1, 6), (95, 1, 6), (96, 1, 6), (97, 1, 6), (98, 1, 6), (99, 1, 6), (100, 1, 6), (101, 1, 6), (102, 0, 8), (103, 0, 8), (104, 0, 8), (105, 0, 8), (106, 0, 8), (107, 0, 8), (108, 0, 8), (109, 0, 8), (110, 0, 8), (111, 0, 8), (112, 0, 8), (113, 0, 8), (114, 0, 8), (115, 0, 8), (116, 0, 8), (117, 0, 8), (118, 2, 1), (119, 1, 6), (120, 0, 8), (122, 1, 6), (123, 1, 6), (124, 1, 6), (125, 1, 6), (126, 1, 6), (127, 1, 6), (128, 1, 6), (129, 1, 6), (130, 1, 6), (131, 1, 6), (132, 1, 6), (133, 1, 6), (134, 1, 6), (135, 1, 6), (136, 1, 6), (137, 1, 6), (138, 0, 8), (139, 0, 8), (140, 0, 8), (141, 0, 8), (142, 0, 8), (143, 0, 8), (144, 0, 8), (145, 0, 8), (146, 0, 8), (147, 0, 8), (148, 0, 8), (149, 0, 8), (150, 0, 8), (151, 0, 8), (152, 0, 8), (153, 0, 8), (154, 2, 1), (155, 1, 6), (156, 0, 8), (158, 1, 6), (159, 1, 6), (160, 1, 6), (161, 1, 6), (162, 1, 6), (163, 1, 6), (164, 1, 6), (165, 1, 6), (166, 1, 6), (167, 1, 6), (168, 1, 6), (169, 1, 6), (170, 1, 6), (171, 1, 6), (172, 1, 6), (173, 1, 6), (174, 0, 8), (175, 0, 8), (176, 0, 8), (177, 0, 8), (178, 0, 8), (179, 0, 8), (180, 0, 8), (181, 0, 8), (182, 0, 8), (183, 0, 8), (184, 0, 8), (185, 0, 8), (186, 0, 8), (187, 0, 8), (188, 0, 8), (189, 0, 8)] M M' → Q (.inl (some (.int n))) M') : pvGood Tx 2 qX10_image [.ref 0] M Q := (hh_X10_image_0 M [] [.ref 0] scEk.n0 ⟨⟨0, by simp, rfl⟩, trivial⟩ (fun f hf => by cases hf) hI).imp (fun r M' h => by
  obtain ⟨⟨o, ho, hr, hf9, hm⟩, h1, h2⟩ := h
  rcases List.mem_cons.mp ho with rfl | ho
  · obtain ⟨n, rfl, c1, c2⟩ := hr; exact q0 n M' ⟨c1, c2⟩ h1 h2
  · cases ho)
theorem sx_image {M : fmM} (hI : scInv Tx invX M) : pvGood Tx 250 qX10_image [.ref 0] M (fun r M' => rkI false false r ∧ scInv Tx invX M') := (wsx_image  hI (fun n M' _ h1 _ => ⟨Or.inl ⟨n, rfl⟩, h1⟩)).up (by decide)
theorem wsx_restore {M : fmM} {Q : fmR → fmM → Prop}  (hI : scInv Tx invX M) (q0 : ∀ (n : Int32) (M' : fmM), ((-1) ≤ n.toInt ∧ n.toInt ≤ 2) → scInv Tx invX M' → scFr [(0, 13, 2), (34, 5, 1), (46, 2, 1), (47, 1, 6), (48, 0, 8), (50, 1, 6), (51, 1, 6), (52, 1, 6), (53, 1, 6), (54, 1, 6), (55, 1, 6), (56, 1, 6), (57, 1, 6), (58, 1, 6), (59, 1, 6), (60, 1, 6), (61, 1, 6), (62, 1, 6), (63, 1, 6), (64, 1, 6), (65, 1, 6), (66, 0, 8), (67, 0, 8), (68, 0, 8), (69, 0, 8), (70, 0, 8), (71, 0, 8), (72, 0, 8), (73, 0, 8), (74, 0, 8), (75, 0, 8), (76, 0, 8), (77, 0, 8), (78, 0, 8), (79, 0, 8), (80, 0, 8), (81, 0, 8)] M M' → Q (.inl (some (.int n))) M') : pvGood Tx 2 qX10_restore [.ref 0] M Q := (hh_X10_restore_0 M [] [.ref 0] scEk.n0 ⟨⟨0, by simp, rfl⟩, trivial⟩ (fun f hf => by cases hf) hI).imp (fun r M' h => by
  obtain ⟨⟨o, ho, hr, hf9, hm⟩, h1, h2⟩ := h
  rcases List.mem_cons.mp ho with rfl | ho
  · obtain ⟨n, rfl, c1, c2⟩ := hr; exact q0 n M' ⟨c1, c2⟩ h1 h2
  · cases ho)
theorem sx_restore {M : fmM} (hI : scInv Tx invX M) : pvGood Tx 250 qX10_restore [.ref 0] M (fun r M' => rkI false false r ∧ scInv Tx invX M') := (wsx_restore  hI (fun n M' _ h1 _ => ⟨Or.inl ⟨n, rfl⟩, h1⟩)).up (by decide)
theorem wsx_status {M : fmM} {Q : fmR → fmM → Prop} {x1 : Int32} (bx1 : (-2147483648) ≤ x1.toInt ∧ x1.toInt ≤ 2147483647) (hI : scInv Tx invX M) (q0 : ∀ (n : Int32) (M' : fmM), ((-2147483648) ≤ n.toInt ∧ n.toInt ≤ 2147483647) → scInv Tx invX M' → scFr [] M M' → Q (.inl (some (.int n))) M') : pvGood Tx 0 qX10_status [.ref 0, .int x1] M Q := (hh_X10_status_0 M [x1.toInt] [.ref 0, .int x1] (scEk.c1 bx1 scEk.n0) ⟨⟨0, by simp, rfl⟩, ⟨x1, rfl, scEv.at rfl⟩, trivial⟩ (fun f hf => by cases hf) hI).imp (fun r M' h => by
  obtain ⟨⟨o, ho, hr, hf9, hm⟩, h1, h2⟩ := h
  rcases List.mem_cons.mp ho with rfl | ho
  · obtain ⟨n, rfl, c1, c2⟩ := hr; exact q0 n M' ⟨c1, c2⟩ h1 h2
  · cases ho)
theorem sx_status {M : fmM} {a0 : Int32} (hI : scInv Tx invX M) : pvGood Tx 250 qX10_status [.ref 0, .int a0] M (fun r M' => rkI false false r ∧ scInv Tx invX M') := (wsx_status (scq_t a0) hI (fun n M' _ h1 _ => ⟨Or.inl ⟨n, rfl⟩, h1⟩)).up (by decide)
theorem wsx_count {M : fmM} {Q : fmR → fmM → Prop} {x1 : Int32} (bx1 : (-2147483648) ≤ x1.toInt ∧ x1.toInt ≤ 2147483647) (hI : scInv Tx invX M) (q0 : ∀ (n : Int32) (M' : fmM), ((-1) ≤ n.toInt ∧ n.toInt ≤ 600) → scInv Tx invX M' → scFr [] M M' → Q (.inl (some (.int n))) M') : pvGood Tx 0 qX10_count [.ref 0, .int x1] M Q := (hh_X10_count_0 M [x1.toInt] [.ref 0, .int x1] (scEk.c1 bx1 scEk.n0) ⟨⟨0, by simp, rfl⟩, ⟨x1, rfl, scEv.at rfl⟩, trivial⟩ (fun f hf => by cases hf) hI).imp (fun r M' h => by
  obtain ⟨⟨o, ho, hr, hf9, hm⟩, h1, h2⟩ := h
  rcases List.mem_cons.mp ho with rfl | ho
  · obtain ⟨n, rfl, c1, c2⟩ := hr; exact q0 n M' ⟨c1, c2⟩ h1 h2
  · cases ho)
theorem sx_count {M : fmM} {a0 : Int32} (hI : scInv Tx invX M) : pvGood Tx 250 qX10_count [.ref 0, .int a0] M (fun r M' => rkI false false r ∧ scInv Tx invX M') := (wsx_count (scq_t a0) hI (fun n M' _ h1 _ => ⟨Or.inl ⟨n, rfl⟩, h1⟩)).up (by decide)
end
-- P 18b
section
theorem wsm_feed {M : fmM} {Q : fmR → fmM → Prop} {x1 : Int32} (bx1 : (-2147483648) ≤ x1.toInt ∧ x1.toInt ≤ 2147483647) {x2 : Int32} (bx2 : (-2147483648) ≤ x2.toInt ∧ x2.toInt ≤ 2147483647) {x3 : Int32} (bx3 : (-2147483648) ≤ x3.toInt ∧ x3.toInt ≤ 2147483647) {x4 : Int32} (bx4 : (-2147483648) ≤ x4.toInt ∧ x4.toInt ≤ 2147483647) {x5 : Int32} (bx5 : (-2147483648) ≤ x5.toInt ∧ x5.toInt ≤ 2147483647) (hI : scInv Tm invM M) (q0 : ∀ (n : Int32) (M' : fmM), ((-1) ≤ n.toInt ∧ n.toInt ≤ 600) → scInv Tm invM M' → scFr [(0, 0, 2), (1, 0, 600)] M M' → Q (.inl (some (.int n))) M') : pvGood Tm 0 qX11_feed [.ref 0, .int x1, .int x2, .int x3, .int x4, .int x5] M Q := (hh_X11_feed_0 M [x1.toInt, x2.toInt, x3.toInt, x4.toInt, x5.toInt] [.ref 0, .int x1, .int x2, .int x3, .int x4, .int x5] (scEk.c1 bx1 (scEk.c1 bx2 (scEk.c1 bx3 (scEk.c1 bx4 (scEk.c1 bx5 scEk.n0))))) ⟨⟨0, by simp, rfl⟩, ⟨x1, rfl, scEv.at rfl⟩, ⟨x2, rfl, scEv.at rfl⟩, ⟨x3, rfl, scEv.at rfl⟩, ⟨x4, rfl, scEv.at rfl⟩, ⟨x5, rfl, scEv.at rfl⟩, trivial⟩ (fun f hf => by cases hf) hI).imp (fun r M' h => by
  obtain ⟨⟨o, ho, hr, hf9, hm⟩, h1, h2⟩ := h
  rcases List.mem_cons.mp ho with rfl | ho
  · obtain ⟨n, rfl, c1, c2⟩ := hr; exact q0 n M' ⟨c1, c2⟩ h1 h2
  · cases ho)
theorem sm_feed {M : fmM} {a0 a1 a2 a3 a4 : Int32} (hI : scInv Tm invM M) : pvGood Tm 250 qX11_feed [.ref 0, .int a0, .int a1, .int a2, .int a3, .int a4] M (fun r M' => tI r ∧ scInv Tm invM M') := (wsm_feed (scq_t a0) (scq_t a1) (scq_t a2) (scq_t a3) (scq_t a4) hI (fun n M' _ h1 _ => ⟨⟨n, rfl⟩, h1⟩)).up (by decide)
theorem sm_drawer {M : fmM} {a0 : Int32} (hI : scInv Tm invM M) : pvGood Tm 250 qX11_drawer [.ref 0, .int a0] M (fun r M' => tI r ∧ scInv Tm invM M') := (t_drawer hI (fun r M' h1 h2 => ⟨h1, h2⟩)).up (by decide)
theorem sm_law {M : fmM} {a0 : Int32} (hI : scInv Tm invM M) : pvGood Tm 250 qX11_law [.ref 0, .int a0] M (fun r M' => tI r ∧ scInv Tm invM M') := (t_law hI (fun r M' h1 h2 => ⟨h1, h2⟩)).up (by decide)
theorem sm_work {M : fmM} {a0 : Int32} (hI : scInv Tm invM M) : pvGood Tm 250 qX11_work [.ref 0, .int a0] M (fun r M' => tI r ∧ scInv Tm invM M') := (t_work hI (fun r M' h1 h2 => ⟨h1, h2⟩)).up (by decide)
theorem sm_page {M : fmM} {a0 : Int32} (hI : scInv Tm invM M) : pvGood Tm 250 qX11_page [.ref 0, .int a0] M (fun r M' => tI r ∧ scInv Tm invM M') := (t_page hI (fun r M' h1 h2 => ⟨h1, h2⟩)).up (by decide)
theorem wsm_fault {M : fmM} {Q : fmR → fmM → Prop}  (hI : scInv Tm invM M) (q0 : ∀ (n : Int32) (M' : fmM), ((-1) ≤ n.toInt ∧ n.toInt ≤ 600) → scInv Tm invM M' → scFr [(0, 0, 1)] M M' → Q (.inl (some (.int n))) M') : pvGood Tm 0 qX11_fault [.ref 0] M Q := (hh_X11_fault_0 M [] [.ref 0] scEk.n0 ⟨⟨0, by simp, rfl⟩, trivial⟩ (fun f hf => by cases hf) hI).imp (fun r M' h => by
  obtain ⟨⟨o, ho, hr, hf9, hm⟩, h1, h2⟩ := h
  rcases List.mem_cons.mp ho with rfl | ho
  · obtain ⟨n, rfl, c1, c2⟩ := hr; exact q0 n M' ⟨c1, c2⟩ h1 h2
  · cases ho)
theorem sm_fault {M : fmM} (hI : scInv Tm invM M) : pvGood Tm 250 qX11_fault [.ref 0] M (fun r M' => tI r ∧ scInv Tm invM M') := (wsm_fault  hI (fun n M' _ h1 _ => ⟨⟨n, rfl⟩, h1⟩)).up (by decide)
theorem wsm_undo {M : fmM} {Q : fmR → fmM → Prop}  (hI : scInv Tm invM M) (q0 : ∀ (n : Int32) (M' : fmM), ((-1) ≤ n.toInt ∧ n.toInt ≤ 15) → scInv Tm invM M' → scFr [(0, 0, 1), (0, 32, 2), (7, 0, 14)] M M' → Q (.inl (some (.int n))) M') : pvGood Tm 1 qX11_undo [.ref 0] M Q := (hh_X11_undo_0 M [] [.ref 0] scEk.n0 ⟨⟨0, by simp, rfl⟩, trivial⟩ (fun f hf => by cases hf) hI).imp (fun r M' h => by
  obtain ⟨⟨o, ho, hr, hf9, hm⟩, h1, h2⟩ := h
  rcases List.mem_cons.mp ho with rfl | ho
  · obtain ⟨n, rfl, c1, c2⟩ := hr; exact q0 n M' ⟨c1, c2⟩ h1 h2
  · cases ho)
theorem sm_undo {M : fmM} (hI : scInv Tm invM M) : pvGood Tm 250 qX11_undo [.ref 0] M (fun r M' => tI r ∧ scInv Tm invM M') := (wsm_undo  hI (fun n M' _ h1 _ => ⟨⟨n, rfl⟩, h1⟩)).up (by decide)
theorem wsm_told {M : fmM} {Q : fmR → fmM → Prop} {x1 : Int32} (bx1 : (-2147483648) ≤ x1.toInt ∧ x1.toInt ≤ 2147483647) (hI : scInv Tm invM M) (q0 : ∀ (n : Int32) (M' : fmM), ((-2147483648) ≤ n.toInt ∧ n.toInt ≤ 2147483647) → scInv Tm invM M' → scFr [(0, 0, 1), (2, 1, 1)] M M' → Q (.inl (some (.int n))) M') : pvGood Tm 2 qX11_told [.ref 0, .int x1] M Q := (hh_X11_told_0 M [x1.toInt] [.ref 0, .int x1] (scEk.c1 bx1 scEk.n0) ⟨⟨0, by simp, rfl⟩, ⟨x1, rfl, scEv.at rfl⟩, trivial⟩ (fun f hf => by cases hf) hI).imp (fun r M' h => by
  obtain ⟨⟨o, ho, hr, hf9, hm⟩, h1, h2⟩ := h
  rcases List.mem_cons.mp ho with rfl | ho
  · obtain ⟨n, rfl, c1, c2⟩ := hr; exact q0 n M' ⟨c1, c2⟩ h1 h2
  · cases ho)
theorem sm_told {M : fmM} {a0 : Int32} (hI : scInv Tm invM M) : pvGood Tm 250 qX11_told [.ref 0, .int a0] M (fun r M' => tI r ∧ scInv Tm invM M') := (wsm_told (scq_t a0) hI (fun n M' _ h1 _ => ⟨⟨n, rfl⟩, h1⟩)).up (by decide)
theorem wsm_life {M : fmM} {Q : fmR → fmM → Prop} {x1 : Int32} (bx1 : (-2147483648) ≤ x1.toInt ∧ x1.toInt ≤ 2147483647) {x2 : Int32} (bx2 : (-2147483648) ≤ x2.toInt ∧ x2.toInt ≤ 2147483647) (hI : scInv Tm invM M) (q0 : ∀ (n : Int32) (M' : fmM), ((-200) ≤ n.toInt ∧ n.toInt ≤ 1200) → scInv Tm invM M' → scFr [(0, 0, 1), (2, 0, 2)] M M' → Q (.inl (some (.int n))) M') : pvGood Tm 2 qX11_life [.ref 0, .int x1, .int x2] M Q := (hh_X11_life_0 M [x1.toInt, x2.toInt] [.ref 0, .int x1, .int x2] (scEk.c1 bx1 (scEk.c1 bx2 scEk.n0)) ⟨⟨0, by simp, rfl⟩, ⟨x1, rfl, scEv.at rfl⟩, ⟨x2, rfl, scEv.at rfl⟩, trivial⟩ (fun f hf => by cases hf) hI).imp (fun r M' h => by
  obtain ⟨⟨o, ho, hr, hf9, hm⟩, h1, h2⟩ := h
  rcases List.mem_cons.mp ho with rfl | ho
  · obtain ⟨n, rfl, c1, c2⟩ := hr; exact q0 n M' ⟨c1, c2⟩ h1 h2
  · cases ho)
theorem sm_life {M : fmM} {a0 a1 : Int32} (hI : scInv Tm invM M) : pvGood Tm 250 qX11_life [.ref 0, .int a0, .int a1] M (fun r M' => tI r ∧ scInv Tm invM M') := (wsm_life (scq_t a0) (scq_t a1) hI (fun n M' _ h1 _ => ⟨⟨n, rfl⟩, h1⟩)).up (by decide)
theorem wsm_facts {M : fmM} {Q : fmR → fmM → Prop} {x1 : Int32} (bx1 : (-2147483648) ≤ x1.toInt ∧ x1.toInt ≤ 2147483647) (hI : scInv Tm invM M) (q0 : ∀ (n : Int32) (M' : fmM), ((-2147483648) ≤ n.toInt ∧ n.toInt ≤ 2147483647) → scInv Tm invM M' → scFr [(0, 0, 1), (2, 0, 1)] M M' → Q (.inl (some (.int n))) M') : pvGood Tm 2 qX11_facts [.ref 0, .int x1] M Q := (hh_X11_facts_0 M [x1.toInt] [.ref 0, .int x1] (scEk.c1 bx1 scEk.n0) ⟨⟨0, by simp, rfl⟩, ⟨x1, rfl, scEv.at rfl⟩, trivial⟩ (fun f hf => by cases hf) hI).imp (fun r M' h => by
  obtain ⟨⟨o, ho, hr, hf9, hm⟩, h1, h2⟩ := h
  rcases List.mem_cons.mp ho with rfl | ho
  · obtain ⟨n, rfl, c1, c2⟩ := hr; exact q0 n M' ⟨c1, c2⟩ h1 h2
  · cases ho)
theorem sm_facts {M : fmM} {a0 : Int32} (hI : scInv Tm invM M) : pvGood Tm 250 qX11_facts [.ref 0, .int a0] M (fun r M' => tI r ∧ scInv Tm invM M') := (wsm_facts (scq_t a0) hI (fun n M' _ h1 _ => ⟨⟨n, rfl⟩, h1⟩)).up (by decide)
theorem wsm_wrong {M : fmM} {Q : fmR → fmM → Prop} {x1 : Int32} (bx1 : (-2147483648) ≤ x1.toInt ∧ x1.toInt ≤ 2147483647) (hI : scInv Tm invM M) (q0 : ∀ (n : Int32) (M' : fmM), ((-1) ≤ n.toInt ∧ n.toInt ≤ 64) → scInv Tm invM M' → scFr [(0, 0, 1), (2, 0, 1), (5, 0, 160), (6, 0, 5)] M M' → Q (.inl (some (.int n))) M') : pvGood Tm 7 qX11_wrong [.ref 0, .int x1] M Q := (hh_X11_wrong_0 M [x1.toInt] [.ref 0, .int x1] (scEk.c1 bx1 scEk.n0) ⟨⟨0, by simp, rfl⟩, ⟨x1, rfl, scEv.at rfl⟩, trivial⟩ (fun f hf => by cases hf) hI).imp (fun r M' h => by
  obtain ⟨⟨o, ho, hr, hf9, hm⟩, h1, h2⟩ := h
  rcases List.mem_cons.mp ho with rfl | ho
  · obtain ⟨n, rfl, c1, c2⟩ := hr; exact q0 n M' ⟨c1, c2⟩ h1 h2
  · cases ho)
theorem sm_wrong {M : fmM} {a0 : Int32} (hI : scInv Tm invM M) : pvGood Tm 250 qX11_wrong [.ref 0, .int a0] M (fun r M' => tI r ∧ scInv Tm invM M') := (wsm_wrong (scq_t a0) hI (fun n M' _ h1 _ => ⟨⟨n, rfl⟩, h1⟩)).up (by decide)
theorem wsm_would {M : fmM} {Q : fmR → fmM → Prop} {x1 : Int32} (bx1 : (-2147483648) ≤ x1.toInt ∧ x1.toInt ≤ 2147483647) {x2 : Int32} (bx2 : (-2147483648) ≤ x2.toInt ∧ x2.toInt ≤ 2147483647) {x3 : Int32} (bx3 : (-2147483648) ≤ x3.toInt ∧ x3.toInt ≤ 2147483647) {x4 : Int32} (bx4 : (-2147483648) ≤ x4.toInt ∧ x4.toInt ≤ 2147483647) {x5 : Int32} (bx5 : (-2147483648) ≤ x5.toInt ∧ x5.toInt ≤ 2147483647) (hI : scInv Tm invM M) (q0 : ∀ (n : Int32) (M' : fmM), (0 ≤ n.toInt ∧ n.toInt ≤ 64) → scInv Tm invM M' → scFr [(0, 0, 1), (2, 1, 1), (5, 0, 160), (6, 0, 5)] M M' → Q (.inl (some (.int n))) M') : pvGood Tm 5 qX11_would [.ref 0, .int x1, .int x2, .int x3, .int x4, .int x5] M Q := (hh_X11_would_0 M [x1.toInt, x2.toInt, x3.toInt, x4.toInt, x5.toInt] [.ref 0, .int x1, .int x2, .int x3, .int x4, .int x5] (scEk.c1 bx1 (scEk.c1 bx2 (scEk.c1 bx3 (scEk.c1 bx4 (scEk.c1 bx5 scEk.n0))))) ⟨⟨0, by simp, rfl⟩, ⟨x1, rfl, scEv.at rfl⟩, ⟨x2, rfl, scEv.at rfl⟩, ⟨x3, rfl, scEv.at rfl⟩, ⟨x4, rfl, scEv.at rfl⟩, ⟨x5, rfl, scEv.at rfl⟩, trivial⟩ (fun f hf => by cases hf) hI).imp (fun r M' h => by
  obtain ⟨⟨o, ho, hr, hf9, hm⟩, h1, h2⟩ := h
  rcases List.mem_cons.mp ho with rfl | ho
  · obtain ⟨n, rfl, c1, c2⟩ := hr; exact q0 n M' ⟨c1, c2⟩ h1 h2
  · cases ho)
theorem sm_would {M : fmM} {a0 a1 a2 a3 a4 : Int32} (hI : scInv Tm invM M) : pvGood Tm 250 qX11_would [.ref 0, .int a0, .int a1, .int a2, .int a3, .int a4] M (fun r M' => tI r ∧ scInv Tm invM M') := (wsm_would (scq_t a0) (scq_t a1) (scq_t a2) (scq_t a3) (scq_t a4) hI (fun n M' _ h1 _ => ⟨⟨n, rfl⟩, h1⟩)).up (by decide)
theorem wsm_loss {M : fmM} {Q : fmR → fmM → Prop} {x1 : Int32} (bx1 : (-2147483648) ≤ x1.toInt ∧ x1.toInt ≤ 2147483647) (hI : scInv Tm invM M) (q0 : ∀ (n : Int64) (M' : fmM), ((-9223372036854775808) ≤ n.toInt ∧ n.toInt ≤ 9223372036854775807) → scInv Tm invM M' → scFr [(0, 0, 1), (2, 1, 1)] M M' → Q (.inl (some (.long n))) M') : pvGood Tm 2 qX11_loss [.ref 0, .int x1] M Q := (hh_X11_loss_0 M [x1.toInt] [.ref 0, .int x1] (scEk.c1 bx1 scEk.n0) ⟨⟨0, by simp, rfl⟩, ⟨x1, rfl, scEv.at rfl⟩, trivial⟩ (fun f hf => by cases hf) hI).imp (fun r M' h => by
  obtain ⟨⟨o, ho, hr, hf9, hm⟩, h1, h2⟩ := h
  rcases List.mem_cons.mp ho with rfl | ho
  · obtain ⟨n, rfl, c1, c2⟩ := hr; exact q0 n M' ⟨c1, c2⟩ h1 h2
  · cases ho)
theorem sm_loss {M : fmM} {a0 : Int32} (hI : scInv Tm invM M) : pvGood Tm 250 qX11_loss [.ref 0, .int a0] M (fun r M' => tJ r ∧ scInv Tm invM M') := (wsm_loss (scq_t a0) hI (fun n M' _ h1 _ => ⟨⟨n, rfl⟩, h1⟩)).up (by decide)
theorem wsm_cost {M : fmM} {Q : fmR → fmM → Prop} {x1 : Int32} (bx1 : (-2147483648) ≤ x1.toInt ∧ x1.toInt ≤ 2147483647) {x2 : Int32} (bx2 : (-2147483648) ≤ x2.toInt ∧ x2.toInt ≤ 2147483647) (hI : scInv Tm invM M) (q0 : ∀ (n : Int64) (M' : fmM), ((-9223372036854775808) ≤ n.toInt ∧ n.toInt ≤ 9223372036854775807) → scInv Tm invM M' → scFr [(0, 0, 1), (2, 0, 2), (5, 0, 160), (6, 0, 5)] M M' → Q (.inl (some (.long n))) M') : pvGood Tm 8 qX11_cost [.ref 0, .int x1, .int x2] M Q := (hh_X11_cost_0 M [x1.toInt, x2.toInt] [.ref 0, .int x1, .int x2] (scEk.c1 bx1 (scEk.c1 bx2 scEk.n0)) ⟨⟨0, by simp, rfl⟩, ⟨x1, rfl, scEv.at rfl⟩, ⟨x2, rfl, scEv.at rfl⟩, trivial⟩ (fun f hf => by cases hf) hI).imp (fun r M' h => by
  obtain ⟨⟨o, ho, hr, hf9, hm⟩, h1, h2⟩ := h
  rcases List.mem_cons.mp ho with rfl | ho
  · obtain ⟨n, rfl, c1, c2⟩ := hr; exact q0 n M' ⟨c1, c2⟩ h1 h2
  · cases ho)
theorem sm_cost {M : fmM} {a0 a1 : Int32} (hI : scInv Tm invM M) : pvGood Tm 250 qX11_cost [.ref 0, .int a0, .int a1] M (fun r M' => tJ r ∧ scInv Tm invM M') := (wsm_cost (scq_t a0) (scq_t a1) hI (fun n M' _ h1 _ => ⟨⟨n, rfl⟩, h1⟩)).up (by decide)
theorem wsm_risk {M : fmM} {Q : fmR → fmM → Prop} {x1 : Int32} (bx1 : (-2147483648) ≤ x1.toInt ∧ x1.toInt ≤ 2147483647) (hI : scInv Tm invM M) (q0 : ∀ (n : Int64) (M' : fmM), ((-9223372036854775808) ≤ n.toInt ∧ n.toInt ≤ 9223372036854775807) → scInv Tm invM M' → scFr [(0, 0, 1), (2, 1, 1), (5, 0, 160), (6, 0, 5)] M M' → Q (.inl (some (.long n))) M') : pvGood Tm 9 qX11_risk [.ref 0, .int x1] M Q := (hh_X11_risk_0 M [x1.toInt] [.ref 0, .int x1] (scEk.c1 bx1 scEk.n0) ⟨⟨0, by simp, rfl⟩, ⟨x1, rfl, scEv.at rfl⟩, trivial⟩ (fun f hf => by cases hf) hI).imp (fun r M' h => by
  obtain ⟨⟨o, ho, hr, hf9, hm⟩, h1, h2⟩ := h
  rcases List.mem_cons.mp ho with rfl | ho
  · obtain ⟨n, rfl, c1, c2⟩ := hr; exact q0 n M' ⟨c1, c2⟩ h1 h2
  · cases ho)
theorem sm_risk {M : fmM} {a0 : Int32} (hI : scInv Tm invM M) : pvGood Tm 250 qX11_risk [.ref 0, .int a0] M (fun r M' => tJ r ∧ scInv Tm invM M') := (wsm_risk (scq_t a0) hI (fun n M' _ h1 _ => ⟨⟨n, rfl⟩, h1⟩)).up (by decide)
theorem sm_saves {M : fmM} {a0 a1 : Int32} (hI : scInv Tm invM M) : pvGood Tm 250 qX11_saves [.ref 0, .int a0, .int a1] M (fun r M' => tJ r ∧ scInv Tm invM M') := (t_saves hI (fun r M' h1 h2 => ⟨h1, h2⟩)).up (by decide)
theorem wsm_first {M : fmM} {Q : fmR → fmM → Prop}  (hI : scInv Tm invM M) (q0 : ∀ (n : Int32) (M' : fmM), ((-1) ≤ n.toInt ∧ n.toInt ≤ 7) → scInv Tm invM M' → scFr [(0, 0, 1), (5, 0, 160), (6, 0, 5)] M M' → Q (.inl (some (.int n))) M') : pvGood Tm 10 qX11_first [.ref 0] M Q := (hh_X11_first_0 M [] [.ref 0] scEk.n0 ⟨⟨0, by simp, rfl⟩, trivial⟩ (fun f hf => by cases hf) hI).imp (fun r M' h => by
  obtain ⟨⟨o, ho, hr, hf9, hm⟩, h1, h2⟩ := h
  rcases List.mem_cons.mp ho with rfl | ho
  · obtain ⟨n, rfl, c1, c2⟩ := hr; exact q0 n M' ⟨c1, c2⟩ h1 h2
  · cases ho)
theorem sm_first {M : fmM} (hI : scInv Tm invM M) : pvGood Tm 250 qX11_first [.ref 0] M (fun r M' => tI r ∧ scInv Tm invM M') := (wsm_first  hI (fun n M' _ h1 _ => ⟨⟨n, rfl⟩, h1⟩)).up (by decide)
theorem wsm_lacking {M : fmM} {Q : fmR → fmM → Prop}  (hI : scInv Tm invM M) (q0 : ∀ (n : Int32) (M' : fmM), ((-2147483648) ≤ n.toInt ∧ n.toInt ≤ 2147483647) → scInv Tm invM M' → scFr [(0, 0, 1)] M M' → Q (.inl (some (.int n))) M') : pvGood Tm 1 qX11_lacking [.ref 0] M Q := (hh_X11_lacking_0 M [] [.ref 0] scEk.n0 ⟨⟨0, by simp, rfl⟩, trivial⟩ (fun f hf => by cases hf) hI).imp (fun r M' h => by
  obtain ⟨⟨o, ho, hr, hf9, hm⟩, h1, h2⟩ := h
  rcases List.mem_cons.mp ho with rfl | ho
  · obtain ⟨n, rfl, c1, c2⟩ := hr; exact q0 n M' ⟨c1, c2⟩ h1 h2
  · cases ho)
theorem sm_lacking {M : fmM} (hI : scInv Tm invM M) : pvGood Tm 250 qX11_lacking [.ref 0] M (fun r M' => tI r ∧ scInv Tm invM M') := (wsm_lacking  hI (fun n M' _ h1 _ => ⟨⟨n, rfl⟩, h1⟩)).up (by decide)
theorem wsm_signed {M : fmM} {Q : fmR → fmM → Prop}  (hI : scInv Tm invM M) (q0 : ∀ (n : Int32) (M' : fmM), ((-2147483648) ≤ n.toInt ∧ n.toInt ≤ 2147483647) → scInv Tm invM M' → scFr [(0, 0, 1)] M M' → Q (.inl (some (.int n))) M') : pvGood Tm 2 qX11_signed [.ref 0] M Q := (hh_X11_signed_0 M [] [.ref 0] scEk.n0 ⟨⟨0, by simp, rfl⟩, trivial⟩ (fun f hf => by cases hf) hI).imp (fun r M' h => by
  obtain ⟨⟨o, ho, hr, hf9, hm⟩, h1, h2⟩ := h
  rcases List.mem_cons.mp ho with rfl | ho
  · obtain ⟨n, rfl, c1, c2⟩ := hr; exact q0 n M' ⟨c1, c2⟩ h1 h2
  · cases ho)
theorem sm_signed {M : fmM} (hI : scInv Tm invM M) : pvGood Tm 250 qX11_signed [.ref 0] M (fun r M' => tI r ∧ scInv Tm invM M') := (wsm_signed  hI (fun n M' _ h1 _ => ⟨⟨n, rfl⟩, h1⟩)).up (by decide)
theorem wsm_stale {M : fmM} {Q : fmR → fmM → Prop} {x1 : Int32} (bx1 : (-2147483648) ≤ x1.toInt ∧ x1.toInt ≤ 2147483647) (hI : scInv Tm invM M) (q0 : ∀ (n : Int32) (M' : fmM), ((-2147483648) ≤ n.toInt ∧ n.toInt ≤ 2147483647) → scInv Tm invM M' → scFr [(0, 0, 1), (2, 1, 1), (5, 0, 160), (6, 0, 5)] M M' → Q (.inl (some (.int n))) M') : pvGood Tm 7 qX11_stale [.ref 0, .int x1] M Q := (hh_X11_stale_0 M [x1.toInt] [.ref 0, .int x1] (scEk.c1 bx1 scEk.n0) ⟨⟨0, by simp, rfl⟩, ⟨x1, rfl, scEv.at rfl⟩, trivial⟩ (fun f hf => by cases hf) hI).imp (fun r M' h => by
  obtain ⟨⟨o, ho, hr, hf9, hm⟩, h1, h2⟩ := h
  rcases List.mem_cons.mp ho with rfl | ho
  · obtain ⟨n, rfl, c1, c2⟩ := hr; exact q0 n M' ⟨c1, c2⟩ h1 h2
  · cases ho)
theorem sm_stale {M : fmM} {a0 : Int32} (hI : scInv Tm invM M) : pvGood Tm 250 qX11_stale [.ref 0, .int a0] M (fun r M' => tI r ∧ scInv Tm invM M') := (wsm_stale (scq_t a0) hI (fun n M' _ h1 _ => ⟨⟨n, rfl⟩, h1⟩)).up (by decide)
theorem wsm_best {M : fmM} {Q : fmR → fmM → Prop} {x1 : Int32} (bx1 : (-2147483648) ≤ x1.toInt ∧ x1.toInt ≤ 2147483647) {x2 : Int32} (bx2 : (-2147483648) ≤ x2.toInt ∧ x2.toInt ≤ 2147483647) (hI : scInv Tm invM M) (q0 : ∀ (n : Int64) (M' : fmM), ((-9223372036854775808) ≤ n.toInt ∧ n.toInt ≤ 9223372036854775807) → scInv Tm invM M' → scFr [(0, 0, 1), (0, 43, 1), (2, 1, 1), (5, 0, 160), (6, 0, 5), (9, 0, 2197), (10, 0, 2197), (11, 0, 2197), (12, 0, 2197), (13, 0, 3)] M M' → Q (.inl (some (.long n))) M') : pvGood Tm 9 qX11_best [.ref 0, .int x1, .int x2] M Q := (hh_X11_best_0 M [x1.toInt, x2.toInt] [.ref 0, .int x1, .int x2] (scEk.c1 bx1 (scEk.c1 bx2 scEk.n0)) ⟨⟨0, by simp, rfl⟩, ⟨x1, rfl, scEv.at rfl⟩, ⟨x2, rfl, scEv.at rfl⟩, trivial⟩ (fun f hf => by cases hf) hI).imp (fun r M' h => by
  obtain ⟨⟨o, ho, hr, hf9, hm⟩, h1, h2⟩ := h
  rcases List.mem_cons.mp ho with rfl | ho
  · obtain ⟨n, rfl, c1, c2⟩ := hr; exact q0 n M' ⟨c1, c2⟩ h1 h2
  · cases ho)
theorem sm_best {M : fmM} {a0 a1 : Int32} (hI : scInv Tm invM M) : pvGood Tm 250 qX11_best [.ref 0, .int a0, .int a1] M (fun r M' => tJ r ∧ scInv Tm invM M') := (wsm_best (scq_t a0) (scq_t a1) hI (fun n M' _ h1 _ => ⟨⟨n, rfl⟩, h1⟩)).up (by decide)
theorem wsm_bestIn {M : fmM} {Q : fmR → fmM → Prop} {x1 : Int32} (bx1 : (-2147483648) ≤ x1.toInt ∧ x1.toInt ≤ 2147483647) {x2 : Int32} (bx2 : (-2147483648) ≤ x2.toInt ∧ x2.toInt ≤ 2147483647) (hI : scInv Tm invM M) (q0 : ∀ (n : Int32) (M' : fmM), ((-2147483648) ≤ n.toInt ∧ n.toInt ≤ 2147483647) → scInv Tm invM M' → scFr [(0, 0, 1), (0, 43, 1), (2, 1, 1), (5, 0, 160), (6, 0, 5), (9, 0, 2197), (10, 0, 2197), (11, 0, 2197), (12, 0, 2197), (13, 0, 3)] M M' → Q (.inl (some (.int n))) M') : pvGood Tm 9 qX11_bestIn [.ref 0, .int x1, .int x2] M Q := (hh_X11_bestIn_0 M [x1.toInt, x2.toInt] [.ref 0, .int x1, .int x2] (scEk.c1 bx1 (scEk.c1 bx2 scEk.n0)) ⟨⟨0, by simp, rfl⟩, ⟨x1, rfl, scEv.at rfl⟩, ⟨x2, rfl, scEv.at rfl⟩, trivial⟩ (fun f hf => by cases hf) hI).imp (fun r M' h => by
  obtain ⟨⟨o, ho, hr, hf9, hm⟩, h1, h2⟩ := h
  rcases List.mem_cons.mp ho with rfl | ho
  · obtain ⟨n, rfl, c1, c2⟩ := hr; exact q0 n M' ⟨c1, c2⟩ h1 h2
  · cases ho)
theorem sm_bestIn {M : fmM} {a0 a1 : Int32} (hI : scInv Tm invM M) : pvGood Tm 250 qX11_bestIn [.ref 0, .int a0, .int a1] M (fun r M' => tI r ∧ scInv Tm invM M') := (wsm_bestIn (scq_t a0) (scq_t a1) hI (fun n M' _ h1 _ => ⟨⟨n, rfl⟩, h1⟩)).up (by decide)
theorem wsm_often {M : fmM} {Q : fmR → fmM → Prop} {x1 : Int32} (bx1 : (-2147483648) ≤ x1.toInt ∧ x1.toInt ≤ 2147483647) {x2 : Int32} (bx2 : (-2147483648) ≤ x2.toInt ∧ x2.toInt ≤ 2147483647) (hI : scInv Tm invM M) (q0 : ∀ (n : Int32) (M' : fmM), (0 ≤ n.toInt ∧ n.toInt ≤ 2147483647) → scInv Tm invM M' → scFr [(0, 0, 1), (2, 0, 2), (5, 0, 160), (6, 0, 5)] M M' → Q (.inl (some (.int n))) M') : pvGood Tm 6 qX11_often [.ref 0, .int x1, .int x2] M Q := (hh_X11_often_0 M [x1.toInt, x2.toInt] [.ref 0, .int x1, .int x2] (scEk.c1 bx1 (scEk.c1 bx2 scEk.n0)) ⟨⟨0, by simp, rfl⟩, ⟨x1, rfl, scEv.at rfl⟩, ⟨x2, rfl, scEv.at rfl⟩, trivial⟩ (fun f hf => by cases hf) hI).imp (fun r M' h => by
  obtain ⟨⟨o, ho, hr, hf9, hm⟩, h1, h2⟩ := h
  rcases List.mem_cons.mp ho with rfl | ho
  · obtain ⟨n, rfl, c1, c2⟩ := hr; exact q0 n M' ⟨c1, c2⟩ h1 h2
  · cases ho)
theorem sm_often {M : fmM} {a0 a1 : Int32} (hI : scInv Tm invM M) : pvGood Tm 250 qX11_often [.ref 0, .int a0, .int a1] M (fun r M' => tI r ∧ scInv Tm invM M') := (wsm_often (scq_t a0) (scq_t a1) hI (fun n M' _ h1 _ => ⟨⟨n, rfl⟩, h1⟩)).up (by decide)
theorem wsm_yearly {M : fmM} {Q : fmR → fmM → Prop} {x1 : Int32} (bx1 : (-2147483648) ≤ x1.toInt ∧ x1.toInt ≤ 2147483647) {x2 : Int32} (bx2 : (-2147483648) ≤ x2.toInt ∧ x2.toInt ≤ 2147483647) {x3 : Int32} (bx3 : (-2147483648) ≤ x3.toInt ∧ x3.toInt ≤ 2147483647) {x4 : Int32} (bx4 : (-2147483648) ≤ x4.toInt ∧ x4.toInt ≤ 2147483647) (hI : scInv Tm invM M) (q0 : ∀ (n : Int64) (M' : fmM), ((-9223372036854775808) ≤ n.toInt ∧ n.toInt ≤ 9223372036854775807) → scInv Tm invM M' → scFr [(0, 0, 1), (2, 0, 2), (5, 0, 160), (6, 0, 5)] M M' → Q (.inl (some (.long n))) M') : pvGood Tm 6 qX11_yearly [.ref 0, .int x1, .int x2, .int x3, .int x4] M Q := (hh_X11_yearly_0 M [x1.toInt, x2.toInt, x3.toInt, x4.toInt] [.ref 0, .int x1, .int x2, .int x3, .int x4] (scEk.c1 bx1 (scEk.c1 bx2 (scEk.c1 bx3 (scEk.c1 bx4 scEk.n0)))) ⟨⟨0, by simp, rfl⟩, ⟨x1, rfl, scEv.at rfl⟩, ⟨x2, rfl, scEv.at rfl⟩, ⟨x3, rfl, scEv.at rfl⟩, ⟨x4, rfl, scEv.at rfl⟩, trivial⟩ (fun f hf => by cases hf) hI).imp (fun r M' h => by
  obtain ⟨⟨o, ho, hr, hf9, hm⟩, h1, h2⟩ := h
  rcases List.mem_cons.mp ho with rfl | ho
  · obtain ⟨n, rfl, c1, c2⟩ := hr; exact q0 n M' ⟨c1, c2⟩ h1 h2
  · cases ho)
theorem sm_yearly {M : fmM} {a0 a1 a2 a3 : Int32} (hI : scInv Tm invM M) : pvGood Tm 250 qX11_yearly [.ref 0, .int a0, .int a1, .int a2, .int a3] M (fun r M' => tJ r ∧ scInv Tm invM M') := (wsm_yearly (scq_t a0) (scq_t a1) (scq_t a2) (scq_t a3) hI (fun n M' _ h1 _ => ⟨⟨n, rfl⟩, h1⟩)).up (by decide)
theorem wsm_brings {M : fmM} {Q : fmR → fmM → Prop} {x1 : Int32} (bx1 : (-2147483648) ≤ x1.toInt ∧ x1.toInt ≤ 2147483647) {x2 : Int32} (bx2 : (-2147483648) ≤ x2.toInt ∧ x2.toInt ≤ 2147483647) {x3 : Int32} (bx3 : (-2147483648) ≤ x3.toInt ∧ x3.toInt ≤ 2147483647) {x4 : Int32} (bx4 : (-2147483648) ≤ x4.toInt ∧ x4.toInt ≤ 2147483647) {x5 : Int32} (bx5 : (-2147483648) ≤ x5.toInt ∧ x5.toInt ≤ 2147483647) {x6 : Int32} (bx6 : (-2147483648) ≤ x6.toInt ∧ x6.toInt ≤ 2147483647) (hI : scInv Tm invM M) (q0 : ∀ (n : Int32) (M' : fmM), ((-2147483648) ≤ n.toInt ∧ n.toInt ≤ 2147483647) → scInv Tm invM M' → scFr [(0, 0, 1), (2, 1, 1)] M M' → Q (.inl (some (.int n))) M') : pvGood Tm 2 qX11_brings [.ref 0, .int x1, .int x2, .int x3, .int x4, .int x5, .int x6] M Q := (hh_X11_brings_0 M [x1.toInt, x2.toInt, x3.toInt, x4.toInt, x5.toInt, x6.toInt] [.ref 0, .int x1, .int x2, .int x3, .int x4, .int x5, .int x6] (scEk.c1 bx1 (scEk.c1 bx2 (scEk.c1 bx3 (scEk.c1 bx4 (scEk.c1 bx5 (scEk.c1 bx6 scEk.n0)))))) ⟨⟨0, by simp, rfl⟩, ⟨x1, rfl, scEv.at rfl⟩, ⟨x2, rfl, scEv.at rfl⟩, ⟨x3, rfl, scEv.at rfl⟩, ⟨x4, rfl, scEv.at rfl⟩, ⟨x5, rfl, scEv.at rfl⟩, ⟨x6, rfl, scEv.at rfl⟩, trivial⟩ (fun f hf => by cases hf) hI).imp (fun r M' h => by
  obtain ⟨⟨o, ho, hr, hf9, hm⟩, h1, h2⟩ := h
  rcases List.mem_cons.mp ho with rfl | ho
  · obtain ⟨n, rfl, c1, c2⟩ := hr; exact q0 n M' ⟨c1, c2⟩ h1 h2
  · cases ho)
theorem sm_brings {M : fmM} {a0 a1 a2 a3 a4 a5 : Int32} (hI : scInv Tm invM M) : pvGood Tm 250 qX11_brings [.ref 0, .int a0, .int a1, .int a2, .int a3, .int a4, .int a5] M (fun r M' => tI r ∧ scInv Tm invM M') := (wsm_brings (scq_t a0) (scq_t a1) (scq_t a2) (scq_t a3) (scq_t a4) (scq_t a5) hI (fun n M' _ h1 _ => ⟨⟨n, rfl⟩, h1⟩)).up (by decide)
theorem wsm_says {M : fmM} {Q : fmR → fmM → Prop} {x1 : Int32} (bx1 : (-2147483648) ≤ x1.toInt ∧ x1.toInt ≤ 2147483647) {x2 : Int32} (bx2 : (-2147483648) ≤ x2.toInt ∧ x2.toInt ≤ 2147483647) {x3 : Int32} (bx3 : (-2147483648) ≤ x3.toInt ∧ x3.toInt ≤ 2147483647) {x4 : Int32} (bx4 : (-2147483648) ≤ x4.toInt ∧ x4.toInt ≤ 2147483647) {x5 : Int32} (bx5 : (-2147483648) ≤ x5.toInt ∧ x5.toInt ≤ 2147483647) (hI : scInv Tm invM M) (q0 : ∀ (n : Int32) (M' : fmM), (0 ≤ n.toInt ∧ n.toInt ≤ 2) → scInv Tm invM M' → scFr [(0, 0, 1), (2, 1, 1)] M M' → Q (.inl (some (.int n))) M') : pvGood Tm 2 qX11_says [.ref 0, .int x1, .int x2, .int x3, .int x4, .int x5] M Q := (hh_X11_says_0 M [x1.toInt, x2.toInt, x3.toInt, x4.toInt, x5.toInt] [.ref 0, .int x1, .int x2, .int x3, .int x4, .int x5] (scEk.c1 bx1 (scEk.c1 bx2 (scEk.c1 bx3 (scEk.c1 bx4 (scEk.c1 bx5 scEk.n0))))) ⟨⟨0, by simp, rfl⟩, ⟨x1, rfl, scEv.at rfl⟩, ⟨x2, rfl, scEv.at rfl⟩, ⟨x3, rfl, scEv.at rfl⟩, ⟨x4, rfl, scEv.at rfl⟩, ⟨x5, rfl, scEv.at rfl⟩, trivial⟩ (fun f hf => by cases hf) hI).imp (fun r M' h => by
  obtain ⟨⟨o, ho, hr, hf9, hm⟩, h1, h2⟩ := h
  rcases List.mem_cons.mp ho with rfl | ho
  · obtain ⟨n, rfl, c1, c2⟩ := hr; exact q0 n M' ⟨c1, c2⟩ h1 h2
  · cases ho)
theorem sm_says {M : fmM} {a0 a1 a2 a3 a4 : Int32} (hI : scInv Tm invM M) : pvGood Tm 250 qX11_says [.ref 0, .int a0, .int a1, .int a2, .int a3, .int a4] M (fun r M' => tI r ∧ scInv Tm invM M') := (wsm_says (scq_t a0) (scq_t a1) (scq_t a2) (scq_t a3) (scq_t a4) hI (fun n M' _ h1 _ => ⟨⟨n, rfl⟩, h1⟩)).up (by decide)
theorem wsm_line {M : fmM} {Q : fmR → fmM → Prop} {x1 : Int32} (bx1 : (-2147483648) ≤ x1.toInt ∧ x1.toInt ≤ 2147483647) {x2 : Int32} (bx2 : (-2147483648) ≤ x2.toInt ∧ x2.toInt ≤ 2147483647) {x3 : Int32} (bx3 : (-2147483648) ≤ x3.toInt ∧ x3.toInt ≤ 2147483647) {x4 : Int32} (bx4 : (-2147483648) ≤ x4.toInt ∧ x4.toInt ≤ 2147483647) (hI : scInv Tm invM M) (q0 : ∀ (n : Int32) (M' : fmM), ((-1) ≤ n.toInt ∧ n.toInt ≤ 16) → scInv Tm invM M' → scFr [(0, 0, 1), (2, 1, 1)] M M' → Q (.inl (some (.int n))) M') : pvGood Tm 2 qX11_line [.ref 0, .int x1, .int x2, .int x3, .int x4] M Q := (hh_X11_line_0 M [x1.toInt, x2.toInt, x3.toInt, x4.toInt] [.ref 0, .int x1, .int x2, .int x3, .int x4] (scEk.c1 bx1 (scEk.c1 bx2 (scEk.c1 bx3 (scEk.c1 bx4 scEk.n0)))) ⟨⟨0, by simp, rfl⟩, ⟨x1, rfl, scEv.at rfl⟩, ⟨x2, rfl, scEv.at rfl⟩, ⟨x3, rfl, scEv.at rfl⟩, ⟨x4, rfl, scEv.at rfl⟩, trivial⟩ (fun f hf => by cases hf) hI).imp (fun r M' h => by
  obtain ⟨⟨o, ho, hr, hf9, hm⟩, h1, h2⟩ := h
  rcases List.mem_cons.mp ho with rfl | ho
  · obtain ⟨n, rfl, c1, c2⟩ := hr; exact q0 n M' ⟨c1, c2⟩ h1 h2
  · cases ho)
theorem sm_line {M : fmM} {a0 a1 a2 a3 : Int32} (hI : scInv Tm invM M) : pvGood Tm 250 qX11_line [.ref 0, .int a0, .int a1, .int a2, .int a3] M (fun r M' => tI r ∧ scInv Tm invM M') := (wsm_line (scq_t a0) (scq_t a1) (scq_t a2) (scq_t a3) hI (fun n M' _ h1 _ => ⟨⟨n, rfl⟩, h1⟩)).up (by decide)
theorem wsm_room {M : fmM} {Q : fmR → fmM → Prop} {x1 : Int32} (bx1 : (-2147483648) ≤ x1.toInt ∧ x1.toInt ≤ 2147483647) {x2 : Int32} (bx2 : (-2147483648) ≤ x2.toInt ∧ x2.toInt ≤ 2147483647) (hI : scInv Tm invM M) (q0 : ∀ (n : Int32) (M' : fmM), ((-2147483648) ≤ n.toInt ∧ n.toInt ≤ 2147483647) → scInv Tm invM M' → scFr [(0, 0, 1), (0, 46, 1), (2, 1, 1), (14, 0, 8), (15, 0, 8)] M M' → Q (.inl (some (.int n))) M') : pvGood Tm 10 qX11_room [.ref 0, .int x1, .int x2] M Q := (hh_X11_room_0 M [x1.toInt, x2.toInt] [.ref 0, .int x1, .int x2] (scEk.c1 bx1 (scEk.c1 bx2 scEk.n0)) ⟨⟨0, by simp, rfl⟩, ⟨x1, rfl, scEv.at rfl⟩, ⟨x2, rfl, scEv.at rfl⟩, trivial⟩ (fun f hf => by cases hf) hI).imp (fun r M' h => by
  obtain ⟨⟨o, ho, hr, hf9, hm⟩, h1, h2⟩ := h
  rcases List.mem_cons.mp ho with rfl | ho
  · obtain ⟨n, rfl, c1, c2⟩ := hr; exact q0 n M' ⟨c1, c2⟩ h1 h2
  · cases ho)
theorem sm_room {M : fmM} {a0 a1 : Int32} (hI : scInv Tm invM M) : pvGood Tm 250 qX11_room [.ref 0, .int a0, .int a1] M (fun r M' => tI r ∧ scInv Tm invM M') := (wsm_room (scq_t a0) (scq_t a1) hI (fun n M' _ h1 _ => ⟨⟨n, rfl⟩, h1⟩)).up (by decide)
theorem wsm_lines {M : fmM} {Q : fmR → fmM → Prop} {x1 : Int32} (bx1 : (-2147483648) ≤ x1.toInt ∧ x1.toInt ≤ 2147483647) {x2 : Int32} (bx2 : (-2147483648) ≤ x2.toInt ∧ x2.toInt ≤ 2147483647) {x3 : Int32} (bx3 : (-2147483648) ≤ x3.toInt ∧ x3.toInt ≤ 2147483647) (hI : scInv Tm invM M) (q0 : ∀ (n : Int32) (M' : fmM), (0 ≤ n.toInt ∧ n.toInt ≤ 99) → scInv Tm invM M' → scFr [(0, 0, 1), (0, 46, 1), (2, 0, 2), (14, 0, 8), (15, 0, 8)] M M' → Q (.inl (some (.int n))) M') : pvGood Tm 10 qX11_lines [.ref 0, .int x1, .int x2, .int x3] M Q := (hh_X11_lines_0 M [x1.toInt, x2.toInt, x3.toInt] [.ref 0, .int x1, .int x2, .int x3] (scEk.c1 bx1 (scEk.c1 bx2 (scEk.c1 bx3 scEk.n0))) ⟨⟨0, by simp, rfl⟩, ⟨x1, rfl, scEv.at rfl⟩, ⟨x2, rfl, scEv.at rfl⟩, ⟨x3, rfl, scEv.at rfl⟩, trivial⟩ (fun f hf => by cases hf) hI).imp (fun r M' h => by
  obtain ⟨⟨o, ho, hr, hf9, hm⟩, h1, h2⟩ := h
  rcases List.mem_cons.mp ho with rfl | ho
  · obtain ⟨n, rfl, c1, c2⟩ := hr; exact q0 n M' ⟨c1, c2⟩ h1 h2
  · cases ho)
theorem sm_lines {M : fmM} {a0 a1 a2 : Int32} (hI : scInv Tm invM M) : pvGood Tm 250 qX11_lines [.ref 0, .int a0, .int a1, .int a2] M (fun r M' => tI r ∧ scInv Tm invM M') := (wsm_lines (scq_t a0) (scq_t a1) (scq_t a2) hI (fun n M' _ h1 _ => ⟨⟨n, rfl⟩, h1⟩)).up (by decide)
theorem wsm_apart {M : fmM} {Q : fmR → fmM → Prop} {x1 : Int32} (bx1 : (-2147483648) ≤ x1.toInt ∧ x1.toInt ≤ 2147483647) {x2 : Int32} (bx2 : (-2147483648) ≤ x2.toInt ∧ x2.toInt ≤ 2147483647) (hI : scInv Tm invM M) (q0 : ∀ (n : Int32) (M' : fmM), ((-2147483648) ≤ n.toInt ∧ n.toInt ≤ 2147483647) → scInv Tm invM M' → scFr [(0, 0, 1), (2, 1, 1)] M M' → Q (.inl (some (.int n))) M') : pvGood Tm 2 qX11_apart [.ref 0, .int x1, .int x2] M Q := (hh_X11_apart_0 M [x1.toInt, x2.toInt] [.ref 0, .int x1, .int x2] (scEk.c1 bx1 (scEk.c1 bx2 scEk.n0)) ⟨⟨0, by simp, rfl⟩, ⟨x1, rfl, scEv.at rfl⟩, ⟨x2, rfl, scEv.at rfl⟩, trivial⟩ (fun f hf => by cases hf) hI).imp (fun r M' h => by
  obtain ⟨⟨o, ho, hr, hf9, hm⟩, h1, h2⟩ := h
  rcases List.mem_cons.mp ho with rfl | ho
  · obtain ⟨n, rfl, c1, c2⟩ := hr; exact q0 n M' ⟨c1, c2⟩ h1 h2
  · cases ho)
theorem sm_apart {M : fmM} {a0 a1 : Int32} (hI : scInv Tm invM M) : pvGood Tm 250 qX11_apart [.ref 0, .int a0, .int a1] M (fun r M' => tI r ∧ scInv Tm invM M') := (wsm_apart (scq_t a0) (scq_t a1) hI (fun n M' _ h1 _ => ⟨⟨n, rfl⟩, h1⟩)).up (by decide)
theorem wsm_twins {M : fmM} {Q : fmR → fmM → Prop}  (hI : scInv Tm invM M) (q0 : ∀ (n : Int32) (M' : fmM), ((-1) ≤ n.toInt ∧ n.toInt ≤ 77) → scInv Tm invM M' → scFr [(0, 0, 1)] M M' → Q (.inl (some (.int n))) M') : pvGood Tm 1 qX11_twins [.ref 0] M Q := (hh_X11_twins_0 M [] [.ref 0] scEk.n0 ⟨⟨0, by simp, rfl⟩, trivial⟩ (fun f hf => by cases hf) hI).imp (fun r M' h => by
  obtain ⟨⟨o, ho, hr, hf9, hm⟩, h1, h2⟩ := h
  rcases List.mem_cons.mp ho with rfl | ho
  · obtain ⟨n, rfl, c1, c2⟩ := hr; exact q0 n M' ⟨c1, c2⟩ h1 h2
  · cases ho)
theorem sm_twins {M : fmM} (hI : scInv Tm invM M) : pvGood Tm 250 qX11_twins [.ref 0] M (fun r M' => tI r ∧ scInv Tm invM M') := (wsm_twins  hI (fun n M' _ h1 _ => ⟨⟨n, rfl⟩, h1⟩)).up (by decide)
theorem wsm_written {M : fmM} {Q : fmR → fmM → Prop} {x1 : Int32} (bx1 : (-2147483648) ≤ x1.toInt ∧ x1.toInt ≤ 2147483647) (hI : scInv Tm invM M) (q0 : ∀ (n : Int64) (M' : fmM), ((-9223372036854775808) ≤ n.toInt ∧ n.toInt ≤ 9223372036854775807) → scInv Tm invM M' → scFr [(0, 0, 1), (2, 0, 1)] M M' → Q (.inl (some (.long n))) M') : pvGood Tm 2 qX11_written [.ref 0, .int x1] M Q := (hh_X11_written_0 M [x1.toInt] [.ref 0, .int x1] (scEk.c1 bx1 scEk.n0) ⟨⟨0, by simp, rfl⟩, ⟨x1, rfl, scEv.at rfl⟩, trivial⟩ (fun f hf => by cases hf) hI).imp (fun r M' h => by
  obtain ⟨⟨o, ho, hr, hf9, hm⟩, h1, h2⟩ := h
  rcases List.mem_cons.mp ho with rfl | ho
  · obtain ⟨n, rfl, c1, c2⟩ := hr; exact q0 n M' ⟨c1, c2⟩ h1 h2
  · cases ho)
theorem sm_written {M : fmM} {a0 : Int32} (hI : scInv Tm invM M) : pvGood Tm 250 qX11_written [.ref 0, .int a0] M (fun r M' => tJ r ∧ scInv Tm invM M') := (wsm_written (scq_t a0) hI (fun n M' _ h1 _ => ⟨⟨n, rfl⟩, h1⟩)).up (by decide)
theorem wsm_whose {M : fmM} {Q : fmR → fmM → Prop}  (hI : scInv Tm invM M) (q0 : ∀ (n : Int32) (M' : fmM), ((-2147483648) ≤ n.toInt ∧ n.toInt ≤ 2147483647) → scInv Tm invM M' → scFr [(0, 0, 1)] M M' → Q (.inl (some (.int n))) M') : pvGood Tm 2 qX11_whose [.ref 0] M Q := (hh_X11_whose_0 M [] [.ref 0] scEk.n0 ⟨⟨0, by simp, rfl⟩, trivial⟩ (fun f hf => by cases hf) hI).imp (fun r M' h => by
  obtain ⟨⟨o, ho, hr, hf9, hm⟩, h1, h2⟩ := h
  rcases List.mem_cons.mp ho with rfl | ho
  · obtain ⟨n, rfl, c1, c2⟩ := hr; exact q0 n M' ⟨c1, c2⟩ h1 h2
  · cases ho)
theorem sm_whose {M : fmM} (hI : scInv Tm invM M) : pvGood Tm 250 qX11_whose [.ref 0] M (fun r M' => tI r ∧ scInv Tm invM M') := (wsm_whose  hI (fun n M' _ h1 _ => ⟨⟨n, rfl⟩, h1⟩)).up (by decide)
theorem wsm_ahead {M : fmM} {Q : fmR → fmM → Prop} {x1 : Int32} (bx1 : (-2147483648) ≤ x1.toInt ∧ x1.toInt ≤ 2147483647) {x2 : Int32} (bx2 : (-2147483648) ≤ x2.toInt ∧ x2.toInt ≤ 2147483647) (hI : scInv Tm invM M) (q0 : ∀ (n : Int64) (M' : fmM), ((-9223372036854775808) ≤ n.toInt ∧ n.toInt ≤ 9223372036854775807) → scInv Tm invM M' → scFr [(0, 0, 1), (2, 1, 1), (5, 0, 160), (6, 0, 5), (8, 0, 14)] M M' → Q (.inl (some (.long n))) M') : pvGood Tm 10 qX11_ahead [.ref 0, .int x1, .int x2] M Q := (hh_X11_ahead_0 M [x1.toInt, x2.toInt] [.ref 0, .int x1, .int x2] (scEk.c1 bx1 (scEk.c1 bx2 scEk.n0)) ⟨⟨0, by simp, rfl⟩, ⟨x1, rfl, scEv.at rfl⟩, ⟨x2, rfl, scEv.at rfl⟩, trivial⟩ (fun f hf => by cases hf) hI).imp (fun r M' h => by
  obtain ⟨⟨o, ho, hr, hf9, hm⟩, h1, h2⟩ := h
  rcases List.mem_cons.mp ho with rfl | ho
  · obtain ⟨n, rfl, c1, c2⟩ := hr; exact q0 n M' ⟨c1, c2⟩ h1 h2
  · cases ho)
theorem sm_ahead {M : fmM} {a0 a1 : Int32} (hI : scInv Tm invM M) : pvGood Tm 250 qX11_ahead [.ref 0, .int a0, .int a1] M (fun r M' => tJ r ∧ scInv Tm invM M') := (wsm_ahead (scq_t a0) (scq_t a1) hI (fun n M' _ h1 _ => ⟨⟨n, rfl⟩, h1⟩)).up (by decide)
theorem wsm_lives {M : fmM} {Q : fmR → fmM → Prop} {x1 : Int32} (bx1 : (-2147483648) ≤ x1.toInt ∧ x1.toInt ≤ 2147483647) {x2 : Int32} (bx2 : (-2147483648) ≤ x2.toInt ∧ x2.toInt ≤ 2147483647) {x3 : Int32} (bx3 : (-2147483648) ≤ x3.toInt ∧ x3.toInt ≤ 2147483647) (hI : scInv Tm invM M) (q0 : ∀ (n : Int64) (M' : fmM), ((-9223372036854775808) ≤ n.toInt ∧ n.toInt ≤ 9223372036854775807) → scInv Tm invM M' → scFr [(0, 0, 1), (2, 0, 2)] M M' → Q (.inl (some (.long n))) M') : pvGood Tm 2 qX11_lives [.ref 0, .int x1, .int x2, .int x3] M Q := (hh_X11_lives_0 M [x1.toInt, x2.toInt, x3.toInt] [.ref 0, .int x1, .int x2, .int x3] (scEk.c1 bx1 (scEk.c1 bx2 (scEk.c1 bx3 scEk.n0))) ⟨⟨0, by simp, rfl⟩, ⟨x1, rfl, scEv.at rfl⟩, ⟨x2, rfl, scEv.at rfl⟩, ⟨x3, rfl, scEv.at rfl⟩, trivial⟩ (fun f hf => by cases hf) hI).imp (fun r M' h => by
  obtain ⟨⟨o, ho, hr, hf9, hm⟩, h1, h2⟩ := h
  rcases List.mem_cons.mp ho with rfl | ho
  · obtain ⟨n, rfl, c1, c2⟩ := hr; exact q0 n M' ⟨c1, c2⟩ h1 h2
  · cases ho)
theorem sm_lives {M : fmM} {a0 a1 a2 : Int32} (hI : scInv Tm invM M) : pvGood Tm 250 qX11_lives [.ref 0, .int a0, .int a1, .int a2] M (fun r M' => tJ r ∧ scInv Tm invM M') := (wsm_lives (scq_t a0) (scq_t a1) (scq_t a2) hI (fun n M' _ h1 _ => ⟨⟨n, rfl⟩, h1⟩)).up (by decide)
theorem wsm_oldest {M : fmM} {Q : fmR → fmM → Prop}  (hI : scInv Tm invM M) (q0 : ∀ (n : Int32) (M' : fmM), ((-1) ≤ n.toInt ∧ n.toInt ≤ 7) → scInv Tm invM M' → scFr [(0, 0, 1)] M M' → Q (.inl (some (.int n))) M') : pvGood Tm 1 qX11_oldest [.ref 0] M Q := (hh_X11_oldest_0 M [] [.ref 0] scEk.n0 ⟨⟨0, by simp, rfl⟩, trivial⟩ (fun f hf => by cases hf) hI).imp (fun r M' h => by
  obtain ⟨⟨o, ho, hr, hf9, hm⟩, h1, h2⟩ := h
  rcases List.mem_cons.mp ho with rfl | ho
  · obtain ⟨n, rfl, c1, c2⟩ := hr; exact q0 n M' ⟨c1, c2⟩ h1 h2
  · cases ho)
theorem sm_oldest {M : fmM} (hI : scInv Tm invM M) : pvGood Tm 250 qX11_oldest [.ref 0] M (fun r M' => tI r ∧ scInv Tm invM M') := (wsm_oldest  hI (fun n M' _ h1 _ => ⟨⟨n, rfl⟩, h1⟩)).up (by decide)
theorem sm_chain {M : fmM} {a0 a1 : Int32} (hI : scInv Tm invM M) : pvGood Tm 250 qX11_chain [.ref 0, .int a0, .int a1] M (fun r M' => tI r ∧ scInv Tm invM M') := (t_chain hI (fun r M' h1 h2 => ⟨h1, h2⟩)).up (by decide)
theorem wsm_due {M : fmM} {Q : fmR → fmM → Prop} {x1 : Int32} (bx1 : (-2147483648) ≤ x1.toInt ∧ x1.toInt ≤ 2147483647) {x2 : Int32} (bx2 : (-2147483648) ≤ x2.toInt ∧ x2.toInt ≤ 2147483647) (hI : scInv Tm invM M) (q0 : ∀ (n : Int32) (M' : fmM), ((-1) ≤ n.toInt ∧ n.toInt ≤ 60) → scInv Tm invM M' → scFr [(0, 0, 1), (2, 0, 2), (5, 0, 160), (6, 0, 5)] M M' → Q (.inl (some (.int n))) M') : pvGood Tm 6 qX11_due [.ref 0, .int x1, .int x2] M Q := (hh_X11_due_0 M [x1.toInt, x2.toInt] [.ref 0, .int x1, .int x2] (scEk.c1 bx1 (scEk.c1 bx2 scEk.n0)) ⟨⟨0, by simp, rfl⟩, ⟨x1, rfl, scEv.at rfl⟩, ⟨x2, rfl, scEv.at rfl⟩, trivial⟩ (fun f hf => by cases hf) hI).imp (fun r M' h => by
  obtain ⟨⟨o, ho, hr, hf9, hm⟩, h1, h2⟩ := h
  rcases List.mem_cons.mp ho with rfl | ho
  · obtain ⟨n, rfl, c1, c2⟩ := hr; exact q0 n M' ⟨c1, c2⟩ h1 h2
  · cases ho)
theorem sm_due {M : fmM} {a0 a1 : Int32} (hI : scInv Tm invM M) : pvGood Tm 250 qX11_due [.ref 0, .int a0, .int a1] M (fun r M' => tI r ∧ scInv Tm invM M') := (wsm_due (scq_t a0) (scq_t a1) hI (fun n M' _ h1 _ => ⟨⟨n, rfl⟩, h1⟩)).up (by decide)
theorem wsm_news {M : fmM} {Q : fmR → fmM → Prop} {x1 : Int32} (bx1 : (-2147483648) ≤ x1.toInt ∧ x1.toInt ≤ 2147483647) (hI : scInv Tm invM M) (q0 : ∀ (n : Int32) (M' : fmM), ((-1) ≤ n.toInt ∧ n.toInt ≤ 60) → scInv Tm invM M' → scFr [(0, 0, 1), (2, 0, 1)] M M' → Q (.inl (some (.int n))) M') : pvGood Tm 2 qX11_news [.ref 0, .int x1] M Q := (hh_X11_news_0 M [x1.toInt] [.ref 0, .int x1] (scEk.c1 bx1 scEk.n0) ⟨⟨0, by simp, rfl⟩, ⟨x1, rfl, scEv.at rfl⟩, trivial⟩ (fun f hf => by cases hf) hI).imp (fun r M' h => by
  obtain ⟨⟨o, ho, hr, hf9, hm⟩, h1, h2⟩ := h
  rcases List.mem_cons.mp ho with rfl | ho
  · obtain ⟨n, rfl, c1, c2⟩ := hr; exact q0 n M' ⟨c1, c2⟩ h1 h2
  · cases ho)
theorem sm_news {M : fmM} {a0 : Int32} (hI : scInv Tm invM M) : pvGood Tm 250 qX11_news [.ref 0, .int a0] M (fun r M' => tI r ∧ scInv Tm invM M') := (wsm_news (scq_t a0) hI (fun n M' _ h1 _ => ⟨⟨n, rfl⟩, h1⟩)).up (by decide)
theorem wsm_expects {M : fmM} {Q : fmR → fmM → Prop} {x1 : Int32} (bx1 : (-2147483648) ≤ x1.toInt ∧ x1.toInt ≤ 2147483647) {x2 : Int32} (bx2 : (-2147483648) ≤ x2.toInt ∧ x2.toInt ≤ 2147483647) {x3 : Int32} (bx3 : (-2147483648) ≤ x3.toInt ∧ x3.toInt ≤ 2147483647) (hI : scInv Tm invM M) (q0 : ∀ (n : Int64) (M' : fmM), ((-9223372036854775808) ≤ n.toInt ∧ n.toInt ≤ 9223372036854775807) → scInv Tm invM M' → scFr [(0, 0, 1), (2, 0, 2), (5, 0, 160), (6, 0, 5)] M M' → Q (.inl (some (.long n))) M') : pvGood Tm 7 qX11_expects [.ref 0, .int x1, .int x2, .int x3] M Q := (hh_X11_expects_0 M [x1.toInt, x2.toInt, x3.toInt] [.ref 0, .int x1, .int x2, .int x3] (scEk.c1 bx1 (scEk.c1 bx2 (scEk.c1 bx3 scEk.n0))) ⟨⟨0, by simp, rfl⟩, ⟨x1, rfl, scEv.at rfl⟩, ⟨x2, rfl, scEv.at rfl⟩, ⟨x3, rfl, scEv.at rfl⟩, trivial⟩ (fun f hf => by cases hf) hI).imp (fun r M' h => by
  obtain ⟨⟨o, ho, hr, hf9, hm⟩, h1, h2⟩ := h
  rcases List.mem_cons.mp ho with rfl | ho
  · obtain ⟨n, rfl, c1, c2⟩ := hr; exact q0 n M' ⟨c1, c2⟩ h1 h2
  · cases ho)
theorem sm_expects {M : fmM} {a0 a1 a2 : Int32} (hI : scInv Tm invM M) : pvGood Tm 250 qX11_expects [.ref 0, .int a0, .int a1, .int a2] M (fun r M' => tJ r ∧ scInv Tm invM M') := (wsm_expects (scq_t a0) (scq_t a1) (scq_t a2) hI (fun n M' _ h1 _ => ⟨⟨n, rfl⟩, h1⟩)).up (by decide)
theorem wsm_worst {M : fmM} {Q : fmR → fmM → Prop}  (hI : scInv Tm invM M) (q0 : ∀ (n : Int32) (M' : fmM), (0 ≤ n.toInt ∧ n.toInt ≤ 2147483647) → scInv Tm invM M' → scFr [(0, 0, 1), (5, 0, 160), (6, 0, 5), (8, 0, 14)] M M' → Q (.inl (some (.int n))) M') : pvGood Tm 10 qX11_worst [.ref 0] M Q := (hh_X11_worst_0 M [] [.ref 0] scEk.n0 ⟨⟨0, by simp, rfl⟩, trivial⟩ (fun f hf => by cases hf) hI).imp (fun r M' h => by
  obtain ⟨⟨o, ho, hr, hf9, hm⟩, h1, h2⟩ := h
  rcases List.mem_cons.mp ho with rfl | ho
  · obtain ⟨n, rfl, c1, c2⟩ := hr; exact q0 n M' ⟨c1, c2⟩ h1 h2
  · cases ho)
theorem sm_worst {M : fmM} (hI : scInv Tm invM M) : pvGood Tm 250 qX11_worst [.ref 0] M (fun r M' => tI r ∧ scInv Tm invM M') := (wsm_worst  hI (fun n M' _ h1 _ => ⟨⟨n, rfl⟩, h1⟩)).up (by decide)
theorem wsm_years {M : fmM} {Q : fmR → fmM → Prop} {x1 : Int32} (bx1 : (-2147483648) ≤ x1.toInt ∧ x1.toInt ≤ 2147483647) {x2 : Int32} (bx2 : (-2147483648) ≤ x2.toInt ∧ x2.toInt ≤ 2147483647) {x3 : Int32} (bx3 : (-2147483648) ≤ x3.toInt ∧ x3.toInt ≤ 2147483647) (hI : scInv Tm invM M) (q0 : ∀ (n : Int32) (M' : fmM), ((-2147483648) ≤ n.toInt ∧ n.toInt ≤ 2147483647) → scInv Tm invM M' → scFr [(0, 0, 1), (0, 47, 2), (2, 1, 1), (5, 0, 160), (6, 0, 5), (8, 0, 14)] M M' → Q (.inl (some (.int n))) M') : pvGood Tm 13 qX11_years [.ref 0, .int x1, .int x2, .int x3] M Q := (hh_X11_years_0 M [x1.toInt, x2.toInt, x3.toInt] [.ref 0, .int x1, .int x2, .int x3] (scEk.c1 bx1 (scEk.c1 bx2 (scEk.c1 bx3 scEk.n0))) ⟨⟨0, by simp, rfl⟩, ⟨x1, rfl, scEv.at rfl⟩, ⟨x2, rfl, scEv.at rfl⟩, ⟨x3, rfl, scEv.at rfl⟩, trivial⟩ (fun f hf => by cases hf) hI).imp (fun r M' h => by
  obtain ⟨⟨o, ho, hr, hf9, hm⟩, h1, h2⟩ := h
  rcases List.mem_cons.mp ho with rfl | ho
  · obtain ⟨n, rfl, c1, c2⟩ := hr; exact q0 n M' ⟨c1, c2⟩ h1 h2
  · cases ho)
theorem sm_years {M : fmM} {a0 a1 a2 : Int32} (hI : scInv Tm invM M) : pvGood Tm 250 qX11_years [.ref 0, .int a0, .int a1, .int a2] M (fun r M' => tI r ∧ scInv Tm invM M') := (wsm_years (scq_t a0) (scq_t a1) (scq_t a2) hI (fun n M' _ h1 _ => ⟨⟨n, rfl⟩, h1⟩)).up (by decide)
theorem wsm_span {M : fmM} {Q : fmR → fmM → Prop} {x1 : Int32} (bx1 : (-2147483648) ≤ x1.toInt ∧ x1.toInt ≤ 2147483647) {x2 : Int32} (bx2 : (-2147483648) ≤ x2.toInt ∧ x2.toInt ≤ 2147483647) {x3 : Int32} (bx3 : (-2147483648) ≤ x3.toInt ∧ x3.toInt ≤ 2147483647) {x4 : Int32} (bx4 : (-2147483648) ≤ x4.toInt ∧ x4.toInt ≤ 2147483647) {x5 : Int32} (bx5 : (-2147483648) ≤ x5.toInt ∧ x5.toInt ≤ 2147483647) (hI : scInv Tm invM M) (q0 : ∀ (n : Int32) (M' : fmM), ((-2147483648) ≤ n.toInt ∧ n.toInt ≤ 2147483647) → scInv Tm invM M' → scFr [(0, 0, 1), (0, 47, 2), (2, 1, 1), (5, 0, 160), (6, 0, 5), (8, 0, 14)] M M' → Q (.inl (some (.int n))) M') : pvGood Tm 13 qX11_span [.ref 0, .int x1, .int x2, .int x3, .int x4, .int x5] M Q := (hh_X11_span_0 M [x1.toInt, x2.toInt, x3.toInt, x4.toInt, x5.toInt] [.ref 0, .int x1, .int x2, .int x3, .int x4, .int x5] (scEk.c1 bx1 (scEk.c1 bx2 (scEk.c1 bx3 (scEk.c1 bx4 (scEk.c1 bx5 scEk.n0))))) ⟨⟨0, by simp, rfl⟩, ⟨x1, rfl, scEv.at rfl⟩, ⟨x2, rfl, scEv.at rfl⟩, ⟨x3, rfl, scEv.at rfl⟩, ⟨x4, rfl, scEv.at rfl⟩, ⟨x5, rfl, scEv.at rfl⟩, trivial⟩ (fun f hf => by cases hf) hI).imp (fun r M' h => by
  obtain ⟨⟨o, ho, hr, hf9, hm⟩, h1, h2⟩ := h
  rcases List.mem_cons.mp ho with rfl | ho
  · obtain ⟨n, rfl, c1, c2⟩ := hr; exact q0 n M' ⟨c1, c2⟩ h1 h2
  · cases ho)
theorem sm_span {M : fmM} {a0 a1 a2 a3 a4 : Int32} (hI : scInv Tm invM M) : pvGood Tm 250 qX11_span [.ref 0, .int a0, .int a1, .int a2, .int a3, .int a4] M (fun r M' => tI r ∧ scInv Tm invM M') := (wsm_span (scq_t a0) (scq_t a1) (scq_t a2) (scq_t a3) (scq_t a4) hI (fun n M' _ h1 _ => ⟨⟨n, rfl⟩, h1⟩)).up (by decide)
theorem wsm_image {M : fmM} {Q : fmR → fmM → Prop}  (hI : scInv Tm invM M) (q0 : ∀ (n : Int32) (M' : fmM), ((-1) ≤ n.toInt ∧ n.toInt ≤ 3) → scInv Tm invM M' → scFr [(0, 0, 1), (0, 32, 1), (0, 34, 2), (7, 0, 14), (503, 0, 14), (504, 0, 14), (505, 0, 14), (506, 0, 14), (507, 0, 14), (508, 0, 14), (509, 0, 14), (510, 0, 14), (511, 0, 14), (512, 0, 14), (513, 0, 14), (514, 0, 14), (515, 0, 14), (516, 0, 14), (517, 0, 14), (518, 0, 14), (519, 0, 239), (520, 0, 239), (521, 0, 239)] M M' → Q (.inl (some (.int n))) M') : pvGood Tm 2 qX11_image [.ref 0] M Q := (hh_X11_image_0 M [] [.ref 0] scEk.n0 ⟨⟨0, by simp, rfl⟩, trivial⟩ (fun f hf => by cases hf) hI).imp (fun r M' h => by
  obtain ⟨⟨o, ho, hr, hf9, hm⟩, h1, h2⟩ := h
  rcases List.mem_cons.mp ho with rfl | ho
  · obtain ⟨n, rfl, c1, c2⟩ := hr; exact q0 n M' ⟨c1, c2⟩ h1 h2
  · cases ho)
theorem sm_image {M : fmM} (hI : scInv Tm invM M) : pvGood Tm 250 qX11_image [.ref 0] M (fun r M' => tI r ∧ scInv Tm invM M') := (wsm_image  hI (fun n M' _ h1 _ => ⟨⟨n, rfl⟩, h1⟩)).up (by decide)
theorem wsm_restore {M : fmM} {Q : fmR → fmM → Prop}  (hI : scInv Tm invM M) (q0 : ∀ (n : Int32) (M' : fmM), ((-1) ≤ n.toInt ∧ n.toInt ≤ 2) → scInv Tm invM M' → scFr [(0, 0, 1), (0, 32, 4), (7, 0, 14), (503, 0, 14), (504, 0, 14), (505, 0, 14), (506, 0, 14), (507, 0, 14), (508, 0, 14), (509, 0, 14), (510, 0, 14), (511, 0, 14), (512, 0, 14), (513, 0, 14), (514, 0, 14), (515, 0, 14), (516, 0, 14), (517, 0, 14), (518, 0, 14)] M M' → Q (.inl (some (.int n))) M') : pvGood Tm 2 qX11_restore [.ref 0] M Q := (hh_X11_restore_0 M [] [.ref 0] scEk.n0 ⟨⟨0, by simp, rfl⟩, trivial⟩ (fun f hf => by cases hf) hI).imp (fun r M' h => by
  obtain ⟨⟨o, ho, hr, hf9, hm⟩, h1, h2⟩ := h
  rcases List.mem_cons.mp ho with rfl | ho
  · obtain ⟨n, rfl, c1, c2⟩ := hr; exact q0 n M' ⟨c1, c2⟩ h1 h2
  · cases ho)
theorem sm_restore {M : fmM} (hI : scInv Tm invM M) : pvGood Tm 250 qX11_restore [.ref 0] M (fun r M' => tI r ∧ scInv Tm invM M') := (wsm_restore  hI (fun n M' _ h1 _ => ⟨⟨n, rfl⟩, h1⟩)).up (by decide)
theorem wsm_status {M : fmM} {Q : fmR → fmM → Prop} {x1 : Int32} (bx1 : (-2147483648) ≤ x1.toInt ∧ x1.toInt ≤ 2147483647) (hI : scInv Tm invM M) (q0 : ∀ (n : Int32) (M' : fmM), ((-2147483648) ≤ n.toInt ∧ n.toInt ≤ 2147483647) → scInv Tm invM M' → scFr [(0, 0, 1)] M M' → Q (.inl (some (.int n))) M') : pvGood Tm 1 qX11_status [.ref 0, .int x1] M Q := (hh_X11_status_0 M [x1.toInt] [.ref 0, .int x1] (scEk.c1 bx1 scEk.n0) ⟨⟨0, by simp, rfl⟩, ⟨x1, rfl, scEv.at rfl⟩, trivial⟩ (fun f hf => by cases hf) hI).imp (fun r M' h => by
  obtain ⟨⟨o, ho, hr, hf9, hm⟩, h1, h2⟩ := h
  rcases List.mem_cons.mp ho with rfl | ho
  · obtain ⟨n, rfl, c1, c2⟩ := hr; exact q0 n M' ⟨c1, c2⟩ h1 h2
  · cases ho)
theorem sm_status {M : fmM} {a0 : Int32} (hI : scInv Tm invM M) : pvGood Tm 250 qX11_status [.ref 0, .int a0] M (fun r M' => tI r ∧ scInv Tm invM M') := (wsm_status (scq_t a0) hI (fun n M' _ h1 _ => ⟨⟨n, rfl⟩, h1⟩)).up (by decide)
theorem wsm_count {M : fmM} {Q : fmR → fmM → Prop} {x1 : Int32} (bx1 : (-2147483648) ≤ x1.toInt ∧ x1.toInt ≤ 2147483647) (hI : scInv Tm invM M) (q0 : ∀ (n : Int32) (M' : fmM), ((-1) ≤ n.toInt ∧ n.toInt ≤ 600) → scInv Tm invM M' → scFr [(0, 0, 1)] M M' → Q (.inl (some (.int n))) M') : pvGood Tm 0 qX11_count [.ref 0, .int x1] M Q := (hh_X11_count_0 M [x1.toInt] [.ref 0, .int x1] (scEk.c1 bx1 scEk.n0) ⟨⟨0, by simp, rfl⟩, ⟨x1, rfl, scEv.at rfl⟩, trivial⟩ (fun f hf => by cases hf) hI).imp (fun r M' h => by
  obtain ⟨⟨o, ho, hr, hf9, hm⟩, h1, h2⟩ := h
  rcases List.mem_cons.mp ho with rfl | ho
  · obtain ⟨n, rfl, c1, c2⟩ := hr; exact q0 n M' ⟨c1, c2⟩ h1 h2
  · cases ho)
theorem sm_count {M : fmM} {a0 : Int32} (hI : scInv Tm invM M) : pvGood Tm 250 qX11_count [.ref 0, .int a0] M (fun r M' => tI r ∧ scInv Tm invM M') := (wsm_count (scq_t a0) hI (fun n M' _ h1 _ => ⟨⟨n, rfl⟩, h1⟩)).up (by decide)
end
-- P 18c
section
theorem m00_0 (k j : Nat) : (m00.1 k j) = 0 := rfl
theorem invX_0 : ∀ k, k < 190 → ∀ e ∈ invX k, e.1 ≤ 0 ∧ 0 ≤ e.2 := by decide +kernel
theorem scAt_in {l : List scI} {P : scI → Prop} (j : Nat) (h : ∀ e ∈ l, P e) (ht : P scTop) : P (scAt l j) := by
  have g : P (l.getD j scTop) := by
    rw [List.getD_eq_getElem?_getD]
    cases hj : l[j]? with
    | none => exact ht
    | some e => exact h e (List.mem_of_getElem? hj)
  match l, h, g with
  | [], h, g => exact g
  | [e], h, g => exact h e List.mem_cons_self
  | e :: e' :: l, h, g => exact g
theorem invX_big (k : Nat) (h : 190 ≤ k) : invX k = [scTop] := by
  unfold invX
  rw [if_neg (by omega), if_neg (by omega)]
theorem invX_z (k j : Nat) : (scAt (invX k) j).1 ≤ 0 ∧ 0 ≤ (scAt (invX k) j).2 := by
  refine scAt_in j (P := fun e => e.1 ≤ 0 ∧ 0 ≤ e.2) (fun e he => ?_) (by decide)
  by_cases h : k < 190
  · exact invX_0 k h e he
  · rw [invX_big k (by omega)] at he
    have e9 : e = scTop := by simpa using he
    rw [e9]
    decide
theorem inv_m00 : scInv Tx invX m00 := ⟨fun k j hj => by rw [m00_0, show (0 : Int32).toInt = 0 by decide]; exact invX_z k j, fun hm => absurd hm (by decide)⟩
theorem inv_mX : scInv Tx invX mX := by
  unfold mX
  exact xInv.put (xInv.put (xInv.put (xInv.put (xInv.put (xInv.put (xInv.put (xInv.put (xInv.put (xInv.put (xInv.put (xInv.put (xInv.put inv_m00 (by decide)) (by decide)) (by decide)) (by decide)) (by decide)) (by decide)) (by decide)) (by decide)) (by decide)) (by decide)) (by decide)) (by decide)) (by decide)
theorem inv_x0 {M : fmM} (h : xInit M) : scInv Tx invX M := by
  obtain ⟨h0, h1, h2, h3, h4, h5, h6⟩ := h
  refine ⟨fun k j hj => ?_, fun hm => absurd hm (by decide)⟩
  by_cases e : k = 47
  · subst e
    have hj : j < 7 := hj
    rcases (show j = 0 ∨ j = 1 ∨ j = 2 ∨ j = 3 ∨ j = 4 ∨ j = 5 ∨ j = 6 by omega) with rfl | rfl | rfl | rfl | rfl | rfl | rfl
    · exact scq_t _
    · exact scq_t _
    · rw [h2]; decide
    · exact scq_t _
    · exact scq_t _
    · exact scq_t _
    · exact scq_t _
  · by_cases e2 : k = 48
    · subst e2
      exact scq_t _
    · rw [h0 k e e2]
      exact inv_mX.1 k j hj
theorem invM_0 : ∀ k, k < 522 → k ≠ 4 → ∀ e ∈ invM k, e.1 ≤ 0 ∧ 0 ≤ e.2 := by decide +kernel
theorem invM_z (k j : Nat) (h4 : k ≠ 4) (h9 : k ≠ 999) : (scAt (invM k) j).1 ≤ 0 ∧ 0 ≤ (scAt (invM k) j).2 := by
  refine scAt_in j (P := fun e => e.1 ≤ 0 ∧ 0 ≤ e.2) (fun e he => ?_) (by decide)
  by_cases h : k < 522
  · exact invM_0 k h h4 e he
  · have e1 : invM k = [scTop] := by
      unfold invM
      rw [if_neg h9]
      repeat rw [if_neg (by omega)]
    rw [e1] at he
    have e9 : e = scTop := by simpa using he
    rw [e9]
    decide
def m9 (M : fmM) : fmM := fmA M 999 (fun _ => 1)
theorem m9_k {M : fmM} {k : Nat} (h : k ≠ 999) : (m9 M).1 k = M.1 k := by simp [m9, fmA, h]
theorem fmL_9 {G : fmG} {M : fmM} : fmL Tm G (m9 M) = fmL Tm G M := by
  unfold fmL
  refine List.map_congr_left (fun k hk => ?_)
  have h : k < 522 := List.mem_range.mp hk
  rw [show fmEnt Tm G (m9 M) k = fmEnt Tm G M k from fmEnt_A k (by omega)]
theorem tnM_k {k : Nat} (h : k ≠ 3) (j : Nat) : (tnM mM).1 k j = if k = 0 ∧ j = 3 then -1 else 0 := by
  unfold tnM mM
  rw [fmI_k _ _ h, fmI_k _ _ h, fmI_k _ _ h, fmI_k _ _ h, fmI_k _ _ h, fmI_k _ _ h, fmI_at]
  split <;> rfl
theorem z_in {k j : Nat} {x : Int32} (h4 : k ≠ 4) (h9 : k ≠ 999) (h : x = 0) : (scAt (invM k) j).1 ≤ x.toInt ∧ x.toInt ≤ (scAt (invM k) j).2 := by
  rw [h, show (0 : Int32).toInt = 0 by decide]
  exact invM_z k j h4 h9
theorem inv_m0 {M : fmM} (h : mInit M) : scInv Tm invM (m9 M) := by
  obtain ⟨⟨a1, a2, a3, a4, a5⟩, ⟨b1, b2, b3⟩, ⟨c1, c2, c3, c4, c5⟩, d1, d2, d3, d4⟩ := h
  refine ⟨fun k j hj => ?_, fun hm => ⟨⟨[], ?_, by decide, Or.inl rfl, fun i c hi => by cases hi⟩, fun i hi hl => ?_⟩⟩
  · by_cases e9 : k = 999
    · subst e9
      show (1 : Int) ≤ ((1 : Int32)).toInt ∧ ((1 : Int32)).toInt ≤ 1
      decide
    · rw [m9_k e9]
      by_cases e0 : k = 0
      · subst e0
        by_cases e1 : j = 17 ∨ j = 31 ∨ j = 32 ∨ j = 33 ∨ j = 34
        · exact z_in (by decide) (by decide) (by rcases e1 with rfl | rfl | rfl | rfl | rfl <;> assumption)
        · by_cases e3 : j = 3
          · subst e3
            rw [d2 3 (by decide) (by decide) (by decide) (by decide) (by decide), tnM_k (by decide)]
            decide
          · exact z_in (by decide) (by decide) (by rw [d2 j (by omega) (by omega) (by omega) (by omega) (by omega), tnM_k (by decide), if_neg (fun h => e3 h.2)])
      · by_cases e4 : k = 4
        · subst e4
          have hj : j < 6 := hj
          rcases (show j = 0 ∨ j = 1 ∨ j = 2 ∨ j = 3 ∨ j = 4 ∨ j = 5 by omega) with rfl | rfl | rfl | rfl | rfl | rfl
          · rw [a1]; decide
          · rw [a2]; decide
          · rw [a3 2 (by decide) (by decide)]; decide
          · rw [a3 3 (by decide) (by decide)]; decide
          · rw [a3 4 (by decide) (by decide)]; decide
          · rw [a3 5 (by decide) (by decide)]; decide
        · by_cases e7 : k = 7
          · subst e7
            have hj : j < 14 := hj
            by_cases e8 : 1 ≤ j ∧ j < 9
            · obtain ⟨i, rfl⟩ : ∃ i, j = 1 + i := ⟨j - 1, by omega⟩
              rw [inv_7 i (by omega), b1 i (by omega), if_neg (fun h => absurd h.1 (Nat.not_lt_zero _))]
              decide
            · by_cases e9 : j = 9
              · subst e9
                rw [b2]
                decide
              · exact z_in (by decide) (by decide) (b3 j (by omega))
          · by_cases e3 : k = 3
            · subst e3
              rw [inv_top (Or.inl rfl) j]
              exact scq_t _
            · refine z_in e4 e9 ?_
              by_cases e35 : (35 ≤ k ∧ k < 43) ∨ (67 ≤ k ∧ k < 91)
              · rw [d3 k j (show (35 + 0 ≤ k ∧ k < 43) ∨ (67 + 0 ≤ k ∧ k < 91) by omega), tnM_k e3, if_neg (fun h => e0 h.1)]
              · rw [d1 k j e0 e4 e7 (by omega) (by omega), tnM_k e3, if_neg (fun h => e0 h.1)]
  · rw [m9_k (by decide), c1]
    decide
  · rw [m9_k (by decide), a1] at hl
    have hl : (i : Int) < 0 := hl
    omega
end
-- P 18d
section
-- RUMOURS, exactly
def inW (x lo hi : Int32) : Prop := lo.toInt ≤ x.toInt ∧ x.toInt ≤ hi.toInt
def rgR (b v x y : Int32) : Prop := inW b 0 16 ∧ inW v 0 999 ∧ inW x 0 999 ∧ inW y 0 999
def mnV (t b v x y w : Int32) : Int32 := if w = 2 then t * (16 - b) * v else 16 * (t * v - (16 - t) * (if w = 0 then x else y))
def b1V (t b v x y : Int32) : Int32 := if mnV t b v x y 0 < mnV t b v x y 1 then 1 else 0
def bwV (t b v x y : Int32) : Int32 := if mnV t b v x y (b1V t b v x y) < mnV t b v x y 2 then 2 else b1V t b v x y
def lnV (b v x y : Int32) : Nat → Nat → Int32
  | 0, _ => -1
  | n + 1, t => if bwV (nI t) b v x y = 0 then nI t else lnV b v x y n (t + 1)
theorem glueI {P : Prop} {v : Int32} {r r2 : fmR} {M : fmM} (h : (P ∧ r = .inl (some (.int v))) ∨ (¬ P ∧ r = .inr fmIAE)) (h2 : (P ∧ r2 = .inl (some (.int v)) ∧ M.1 0 0 = 0) ∨ (¬ P ∧ M.1 0 0 = 1)) : mtI 1 0 r r2 M := by
  rcases h with ⟨p, rfl⟩ | ⟨p, rfl⟩
  · rcases h2 with ⟨_, e, t⟩ | ⟨q, _⟩
    · exact ⟨t, e⟩
    · exact absurd p q
  · rcases h2 with ⟨q, _⟩ | ⟨_, t⟩
    · exact absurd q p
    · exact ⟨fun _ => t, fun h => absurd h (by decide)⟩
set_option maxRecDepth 20000 in
theorem c_needW {M : fmM} {Q : fmR → fmM → Prop} {x lo hi : Int32} (ht : lo.toInt ≤ x.toInt → x.toInt ≤ hi.toInt → Q (.inl none) M) (hf : ¬ (lo.toInt ≤ x.toInt ∧ x.toInt ≤ hi.toInt) → Q (.inr fmIAE) (fmI M 0 16 (M.1 0 16 + 1))) : pvGood Tx 0 qX10_needWithin [.ref 0, .int x, .int lo, .int hi] M Q := by
  refine pvGood_of (Nat.le_of_ble_eq_true rfl) ?_
  show pvEv Tx 0 qX10_needWithin 0 [some (.ref 0), some (.int x), some (.int lo), some (.int hi)] [] M Q
  refine pv_iloadn (pc := 0) (n := 1) 1 rfl rfl (fm_dec dtX10_needWithin 0 rfl) ?_
  refine pv_iloadn (pc := 1) (n := 2) 2 rfl rfl (fm_dec dtX10_needWithin 1 rfl) ?_
  refine pv_icmp_lt (pc := 2) 10 (by decide) (fm_dec dtX10_needWithin 2 rfl) (fun hc2 => ?_) (fun hc2 => ?_)
  · refine pv_aloadn (pc := 10) (n := 0) 0 rfl rfl (fm_dec dtX10_needWithin 6 rfl) ?_
    refine pv_dup (pc := 11) rfl (fm_dec dtX10_needWithin 7 rfl) ?_
    refine pv_getI (k := 0) (j := 16) (ci := 10) (pc := 12) pfl_X10_366 (by decide) rfl (by decide) (fm_dec dtX10_needWithin 8 rfl) ?_
    refine pv_iconst (pc := 15) (v := 1) (by decide) (fm_dec dtX10_needWithin 9 rfl) ?_
    refine pv_iadd (pc := 16) (fm_dec dtX10_needWithin 10 rfl) ?_
    refine pv_putI (k := 0) (j := 16) (ci := 10) (pc := 17) pfl_X10_366 (by decide) rfl (by decide) (fm_dec dtX10_needWithin 11 rfl) ?_
    exact pv_thrI (pc := 20) pvK_10 (fm_dec dtX10_needWithin 12 rfl) (fm_dec dtX10_needWithin 13 rfl) (fm_dec dtX10_needWithin 14 rfl) (fm_dec dtX10_needWithin 15 rfl) (fm_dec dtX10_needWithin 16 rfl) (hf (by intro h9; first | (rw [sc_le] at hc7; omega) | (rw [sc_lt] at hc2; omega)))
  · refine pv_iloadn (pc := 5) (n := 1) 1 rfl rfl (fm_dec dtX10_needWithin 3 rfl) ?_
    refine pv_iloadn (pc := 6) (n := 3) 3 rfl rfl (fm_dec dtX10_needWithin 4 rfl) ?_
    refine pv_icmp_le (pc := 7) 31 (by decide) (fm_dec dtX10_needWithin 5 rfl) (fun hc7 => ?_) (fun hc7 => ?_)
    · exact pv_return (pc := 31) rfl (fm_dec dtX10_needWithin 17 rfl) (ht (by rw [sc_lt] at hc2; omega) (by rw [sc_le] at hc7; omega))
    · refine pv_aloadn (pc := 10) (n := 0) 0 rfl rfl (fm_dec dtX10_needWithin 6 rfl) ?_
      refine pv_dup (pc := 11) rfl (fm_dec dtX10_needWithin 7 rfl) ?_
      refine pv_getI (k := 0) (j := 16) (ci := 10) (pc := 12) pfl_X10_366 (by decide) rfl (by decide) (fm_dec dtX10_needWithin 8 rfl) ?_
      refine pv_iconst (pc := 15) (v := 1) (by decide) (fm_dec dtX10_needWithin 9 rfl) ?_
      refine pv_iadd (pc := 16) (fm_dec dtX10_needWithin 10 rfl) ?_
      refine pv_putI (k := 0) (j := 16) (ci := 10) (pc := 17) pfl_X10_366 (by decide) rfl (by decide) (fm_dec dtX10_needWithin 11 rfl) ?_
      exact pv_thrI (pc := 20) pvK_10 (fm_dec dtX10_needWithin 12 rfl) (fm_dec dtX10_needWithin 13 rfl) (fm_dec dtX10_needWithin 14 rfl) (fm_dec dtX10_needWithin 15 rfl) (fm_dec dtX10_needWithin 16 rfl) (hf (by intro h9; first | (rw [sc_le] at hc7; omega) | (rw [sc_lt] at hc2; omega)))
set_option maxRecDepth 20000 in
theorem c_needR {M : fmM} {Q : fmR → fmM → Prop} {b v x y : Int32} (ht : rgR b v x y → Q (.inl none) M) (hf : ¬ rgR b v x y → Q (.inr fmIAE) (fmI M 0 16 (M.1 0 16 + 1))) : pvGood Tx 1 qX10_needRumour [.ref 0, .int b, .int v, .int x, .int y] M Q := by
  refine pvGood_of (Nat.le_of_ble_eq_true rfl) ?_
  show pvEv Tx 1 qX10_needRumour 0 [some (.ref 0), some (.int b), some (.int v), some (.int x), some (.int y)] [] M Q
  refine pv_aloadn (pc := 0) (n := 0) 0 rfl rfl (fm_dec dtX10_needRumour 0 rfl) ?_
  refine pv_iloadn (pc := 1) (n := 1) 1 rfl rfl (fm_dec dtX10_needRumour 1 rfl) ?_
  refine pv_iconst (pc := 2) (v := 0) (by decide) (fm_dec dtX10_needRumour 2 rfl) ?_
  refine pv_bipush (pc := 3) (v := 16) (by decide) (fm_dec dtX10_needRumour 3 rfl) ?_
  refine pv_invV3 (k := 0) (d' := 0) (pc := 5) pcv_X10_169 (by decide) rfl (Nat.le_of_ble_eq_true rfl) (by decide) (fm_dec dtX10_needRumour 4 rfl) ?_
  refine c_needW (fun h5a h5b => ?_) (fun h5 => ?_)
  · refine pv_then0 ?_
    refine pv_aloadn (pc := 8) (n := 0) 0 rfl rfl (fm_dec dtX10_needRumour 5 rfl) ?_
    refine pv_iloadn (pc := 9) (n := 2) 2 rfl rfl (fm_dec dtX10_needRumour 6 rfl) ?_
    refine pv_iconst (pc := 10) (v := 0) (by decide) (fm_dec dtX10_needRumour 7 rfl) ?_
    refine pv_sipush (pc := 11) (v := 999) (by decide) (fm_dec dtX10_needRumour 8 rfl) ?_
    refine pv_invV3 (k := 0) (d' := 0) (pc := 14) pcv_X10_169 (by decide) rfl (Nat.le_of_ble_eq_true rfl) (by decide) (fm_dec dtX10_needRumour 9 rfl) ?_
    refine c_needW (fun h14a h14b => ?_) (fun h14 => ?_)
    · refine pv_then0 ?_
      refine pv_aloadn (pc := 17) (n := 0) 0 rfl rfl (fm_dec dtX10_needRumour 10 rfl) ?_
      refine pv_iloadn (pc := 18) (n := 3) 3 rfl rfl (fm_dec dtX10_needRumour 11 rfl) ?_
      refine pv_iconst (pc := 19) (v := 0) (by decide) (fm_dec dtX10_needRumour 12 rfl) ?_
      refine pv_sipush (pc := 20) (v := 999) (by decide) (fm_dec dtX10_needRumour 13 rfl) ?_
      refine pv_invV3 (k := 0) (d' := 0) (pc := 23) pcv_X10_169 (by decide) rfl (Nat.le_of_ble_eq_true rfl) (by decide) (fm_dec dtX10_needRumour 14 rfl) ?_
      refine c_needW (fun h23a h23b => ?_) (fun h23 => ?_)
      · refine pv_then0 ?_
        refine pv_aloadn (pc := 26) (n := 0) 0 rfl rfl (fm_dec dtX10_needRumour 15 rfl) ?_
        refine pv_iload (pc := 27) (i := 4) rfl (fm_dec dtX10_needRumour 16 rfl) ?_
        refine pv_iconst (pc := 29) (v := 0) (by decide) (fm_dec dtX10_needRumour 17 rfl) ?_
        refine pv_sipush (pc := 30) (v := 999) (by decide) (fm_dec dtX10_needRumour 18 rfl) ?_
        refine pv_invV3 (k := 0) (d' := 0) (pc := 33) pcv_X10_169 (by decide) rfl (Nat.le_of_ble_eq_true rfl) (by decide) (fm_dec dtX10_needRumour 19 rfl) ?_
        refine c_needW (fun h33a h33b => ?_) (fun h33 => ?_)
        · refine pv_then0 ?_
          exact pv_return (pc := 36) rfl (fm_dec dtX10_needRumour 20 rfl) (ht ⟨⟨h5a, h5b⟩, ⟨h14a, h14b⟩, ⟨h23a, h23b⟩, ⟨h33a, h33b⟩⟩)
        · refine pv_thenX ?_
          exact hf (fun h9 => h33 (by first | exact h9.1 | exact h9.2.1 | exact h9.2.2.1 | exact h9.2.2.2))
      · refine pv_thenX ?_
        exact hf (fun h9 => h23 (by first | exact h9.1 | exact h9.2.1 | exact h9.2.2.1 | exact h9.2.2.2))
    · refine pv_thenX ?_
      exact hf (fun h9 => h14 (by first | exact h9.1 | exact h9.2.1 | exact h9.2.2.1 | exact h9.2.2.2))
  · refine pv_thenX ?_
    exact hf (fun h9 => h5 (by first | exact h9.1 | exact h9.2.1 | exact h9.2.2.1 | exact h9.2.2.2))
set_option maxRecDepth 20000 in
theorem c_mean0 {M : fmM} {Q : fmR → fmM → Prop} {t b v x y : Int32} (hq : Q (.inl (some (.int (mnV t b v x y 0)))) M) : pvGood Tx 0 qX10_meanOf [.int t, .int b, .int v, .int x, .int y, .int 0] M Q := by
  refine pvGood_of (Nat.le_of_ble_eq_true rfl) ?_
  show pvEv Tx 0 qX10_meanOf 0 [some (.int t), some (.int b), some (.int v), some (.int x), some (.int y), some (.int 0)] [] M Q
  refine pv_iload (pc := 0) (i := 5) rfl (fm_dec dtX10_meanOf 0 rfl) ?_
  refine pv_lookup (pc := 2) 28 (by decide) rfl (fm_dec dtX10_meanOf 1 rfl) ?_
  refine pv_bipush (pc := 28) (v := 16) (by decide) (fm_dec dtX10_meanOf 2 rfl) ?_
  refine pv_iloadn (pc := 30) (n := 0) 0 rfl rfl (fm_dec dtX10_meanOf 3 rfl) ?_
  refine pv_iloadn (pc := 31) (n := 2) 2 rfl rfl (fm_dec dtX10_meanOf 4 rfl) ?_
  refine pv_imul (pc := 32) (fm_dec dtX10_meanOf 5 rfl) ?_
  refine pv_bipush (pc := 33) (v := 16) (by decide) (fm_dec dtX10_meanOf 6 rfl) ?_
  refine pv_iloadn (pc := 35) (n := 0) 0 rfl rfl (fm_dec dtX10_meanOf 7 rfl) ?_
  refine pv_isub (pc := 36) (fm_dec dtX10_meanOf 8 rfl) ?_
  refine pv_iloadn (pc := 37) (n := 3) 3 rfl rfl (fm_dec dtX10_meanOf 9 rfl) ?_
  refine pv_imul (pc := 38) (fm_dec dtX10_meanOf 10 rfl) ?_
  refine pv_isub (pc := 39) (fm_dec dtX10_meanOf 11 rfl) ?_
  refine pv_imul (pc := 40) (fm_dec dtX10_meanOf 12 rfl) ?_
  exact pv_ireturn (pc := 41) rfl (fm_dec dtX10_meanOf 13 rfl) (by have h9 := hq; unfold mnV at h9; rw [if_neg (by decide), if_pos rfl] at h9; exact h9)
set_option maxRecDepth 20000 in
theorem c_mean1 {M : fmM} {Q : fmR → fmM → Prop} {t b v x y : Int32} (hq : Q (.inl (some (.int (mnV t b v x y 1)))) M) : pvGood Tx 0 qX10_meanOf [.int t, .int b, .int v, .int x, .int y, .int 1] M Q := by
  refine pvGood_of (Nat.le_of_ble_eq_true rfl) ?_
  show pvEv Tx 0 qX10_meanOf 0 [some (.int t), some (.int b), some (.int v), some (.int x), some (.int y), some (.int 1)] [] M Q
  refine pv_iload (pc := 0) (i := 5) rfl (fm_dec dtX10_meanOf 0 rfl) ?_
  refine pv_lookup (pc := 2) 42 (by decide) rfl (fm_dec dtX10_meanOf 1 rfl) ?_
  refine pv_bipush (pc := 42) (v := 16) (by decide) (fm_dec dtX10_meanOf 14 rfl) ?_
  refine pv_iloadn (pc := 44) (n := 0) 0 rfl rfl (fm_dec dtX10_meanOf 15 rfl) ?_
  refine pv_iloadn (pc := 45) (n := 2) 2 rfl rfl (fm_dec dtX10_meanOf 16 rfl) ?_
  refine pv_imul (pc := 46) (fm_dec dtX10_meanOf 17 rfl) ?_
  refine pv_bipush (pc := 47) (v := 16) (by decide) (fm_dec dtX10_meanOf 18 rfl) ?_
  refine pv_iloadn (pc := 49) (n := 0) 0 rfl rfl (fm_dec dtX10_meanOf 19 rfl) ?_
  refine pv_isub (pc := 50) (fm_dec dtX10_meanOf 20 rfl) ?_
  refine pv_iload (pc := 51) (i := 4) rfl (fm_dec dtX10_meanOf 21 rfl) ?_
  refine pv_imul (pc := 53) (fm_dec dtX10_meanOf 22 rfl) ?_
  refine pv_isub (pc := 54) (fm_dec dtX10_meanOf 23 rfl) ?_
  refine pv_imul (pc := 55) (fm_dec dtX10_meanOf 24 rfl) ?_
  exact pv_ireturn (pc := 56) rfl (fm_dec dtX10_meanOf 25 rfl) (by have h9 := hq; unfold mnV at h9; rw [if_neg (by decide), if_neg (by decide)] at h9; exact h9)
set_option maxRecDepth 20000 in
theorem c_mean2 {M : fmM} {Q : fmR → fmM → Prop} {t b v x y : Int32} (hq : Q (.inl (some (.int (mnV t b v x y 2)))) M) : pvGood Tx 0 qX10_meanOf [.int t, .int b, .int v, .int x, .int y, .int 2] M Q := by
  refine pvGood_of (Nat.le_of_ble_eq_true rfl) ?_
  show pvEv Tx 0 qX10_meanOf 0 [some (.int t), some (.int b), some (.int v), some (.int x), some (.int y), some (.int 2)] [] M Q
  refine pv_iload (pc := 0) (i := 5) rfl (fm_dec dtX10_meanOf 0 rfl) ?_
  refine pv_lookup (pc := 2) 57 (by decide) rfl (fm_dec dtX10_meanOf 1 rfl) ?_
  refine pv_iloadn (pc := 57) (n := 0) 0 rfl rfl (fm_dec dtX10_meanOf 26 rfl) ?_
  refine pv_bipush (pc := 58) (v := 16) (by decide) (fm_dec dtX10_meanOf 27 rfl) ?_
  refine pv_iloadn (pc := 60) (n := 1) 1 rfl rfl (fm_dec dtX10_meanOf 28 rfl) ?_
  refine pv_isub (pc := 61) (fm_dec dtX10_meanOf 29 rfl) ?_
  refine pv_imul (pc := 62) (fm_dec dtX10_meanOf 30 rfl) ?_
  refine pv_iloadn (pc := 63) (n := 2) 2 rfl rfl (fm_dec dtX10_meanOf 31 rfl) ?_
  refine pv_imul (pc := 64) (fm_dec dtX10_meanOf 32 rfl) ?_
  exact pv_ireturn (pc := 65) rfl (fm_dec dtX10_meanOf 33 rfl) (by have h9 := hq; unfold mnV at h9; rw [if_pos rfl] at h9; exact h9)
theorem c_mean {M : fmM} {Q : fmR → fmM → Prop} {t b v x y w : Int32} (hw : inW w 0 2) (hq : Q (.inl (some (.int (mnV t b v x y w)))) M) : pvGood Tx 0 qX10_meanOf [.int t, .int b, .int v, .int x, .int y, .int w] M Q := by
  have e0 : (0 : Int32).toInt = 0 := by decide
  have e2 : (2 : Int32).toInt = 2 := by decide
  obtain ⟨h1, h2⟩ := hw
  rcases (show w.toInt = 0 ∨ w.toInt = 1 ∨ w.toInt = 2 by omega) with h | h | h
  · have e : w = 0 := i32_ext (h.trans (by decide))
    subst e
    exact c_mean0 hq
  · have e : w = 1 := i32_ext (h.trans (by decide))
    subst e
    exact c_mean1 hq
  · have e : w = 2 := i32_ext (h.trans (by decide))
    subst e
    exact c_mean2 hq
set_option maxRecDepth 20000 in
theorem c_xbrings {M : fmM} {Q : fmR → fmM → Prop} {t b v x y w : Int32} (ht : inW t 0 16 ∧ rgR b v x y ∧ inW w 0 2 → Q (.inl (some (.int (mnV t b v x y w)))) M) (hf : ¬ (inW t 0 16 ∧ rgR b v x y ∧ inW w 0 2) → Q (.inr fmIAE) (fmI M 0 16 (M.1 0 16 + 1))) : pvGood Tx 2 qX10_brings [.ref 0, .int t, .int b, .int v, .int x, .int y, .int w] M Q := by
  refine pvGood_of (Nat.le_of_ble_eq_true rfl) ?_
  show pvEv Tx 2 qX10_brings 0 [some (.ref 0), some (.int t), some (.int b), some (.int v), some (.int x), some (.int y), some (.int w)] [] M Q
  refine pv_aloadn (pc := 0) (n := 0) 0 rfl rfl (fm_dec dtX10_brings 0 rfl) ?_
  refine pv_iloadn (pc := 1) (n := 1) 1 rfl rfl (fm_dec dtX10_brings 1 rfl) ?_
  refine pv_iconst (pc := 2) (v := 0) (by decide) (fm_dec dtX10_brings 2 rfl) ?_
  refine pv_bipush (pc := 3) (v := 16) (by decide) (fm_dec dtX10_brings 3 rfl) ?_
  refine pv_invV3 (k := 0) (d' := 0) (pc := 5) pcv_X10_169 (by decide) rfl (Nat.le_of_ble_eq_true rfl) (by decide) (fm_dec dtX10_brings 4 rfl) ?_
  refine c_needW (fun h5a h5b => ?_) (fun h5 => ?_)
  · refine pv_then0 ?_
    refine pv_aloadn (pc := 8) (n := 0) 0 rfl rfl (fm_dec dtX10_brings 5 rfl) ?_
    refine pv_iloadn (pc := 9) (n := 2) 2 rfl rfl (fm_dec dtX10_brings 6 rfl) ?_
    refine pv_iloadn (pc := 10) (n := 3) 3 rfl rfl (fm_dec dtX10_brings 7 rfl) ?_
    refine pv_iload (pc := 11) (i := 4) rfl (fm_dec dtX10_brings 8 rfl) ?_
    refine pv_iload (pc := 13) (i := 5) rfl (fm_dec dtX10_brings 9 rfl) ?_
    refine pv_invV4 (k := 0) (d' := 1) (pc := 15) pcv_X10_308 (by decide) rfl (Nat.le_of_ble_eq_true rfl) (by decide) (fm_dec dtX10_brings 10 rfl) ?_
    refine c_needR (fun h15 => ?_) (fun h15 => ?_)
    · refine pv_then0 ?_
      refine pv_aloadn (pc := 18) (n := 0) 0 rfl rfl (fm_dec dtX10_brings 11 rfl) ?_
      refine pv_iload (pc := 19) (i := 6) rfl (fm_dec dtX10_brings 12 rfl) ?_
      refine pv_iconst (pc := 21) (v := 0) (by decide) (fm_dec dtX10_brings 13 rfl) ?_
      refine pv_iconst (pc := 22) (v := 2) (by decide) (fm_dec dtX10_brings 14 rfl) ?_
      refine pv_invV3 (k := 0) (d' := 0) (pc := 23) pcv_X10_169 (by decide) rfl (Nat.le_of_ble_eq_true rfl) (by decide) (fm_dec dtX10_brings 15 rfl) ?_
      refine c_needW (fun h23a h23b => ?_) (fun h23 => ?_)
      · refine pv_then0 ?_
        refine pv_iloadn (pc := 26) (n := 1) 1 rfl rfl (fm_dec dtX10_brings 16 rfl) ?_
        refine pv_iloadn (pc := 27) (n := 2) 2 rfl rfl (fm_dec dtX10_brings 17 rfl) ?_
        refine pv_iloadn (pc := 28) (n := 3) 3 rfl rfl (fm_dec dtX10_brings 18 rfl) ?_
        refine pv_iload (pc := 29) (i := 4) rfl (fm_dec dtX10_brings 19 rfl) ?_
        refine pv_iload (pc := 31) (i := 5) rfl (fm_dec dtX10_brings 20 rfl) ?_
        refine pv_iload (pc := 33) (i := 6) rfl (fm_dec dtX10_brings 21 rfl) ?_
        refine pv_iS6 (d' := 0) (pc := 35) pcs_X10_312 (Nat.le_of_ble_eq_true rfl) (by decide) (fm_dec dtX10_brings 22 rfl) ?_
        refine c_mean ⟨h23a, h23b⟩ ?_
        refine pv_then1 ?_
        exact pv_ireturn (pc := 38) rfl (fm_dec dtX10_brings 23 rfl) (ht ⟨⟨h5a, h5b⟩, h15, ⟨h23a, h23b⟩⟩)
      · refine pv_thenX ?_
        exact hf (fun h9 => h23 (by first | exact h9.1 | exact h9.2.1 | exact h9.2.2))
    · refine pv_thenX ?_
      exact hf (fun h9 => h15 (by first | exact h9.1 | exact h9.2.1 | exact h9.2.2))
  · refine pv_thenX ?_
    exact hf (fun h9 => h5 (by first | exact h9.1 | exact h9.2.1 | exact h9.2.2))
set_option maxRecDepth 20000 in
theorem bw_0 {Q : fmR → fmM → Prop} {M : fmM} {t b v x y mo : Int32} {v8 : Option Value} (hy : mo < mnV t b v x y 2 → Q (.inl (some (.int 2))) M) (hn : ¬ mo < mnV t b v x y 2 → Q (.inl (some (.int 0))) M) : pvEv Tx 1 qX10_bestWay 18 [some (.int t), some (.int b), some (.int v), some (.int x), some (.int y), some (.int 0), some (.int mo), some (.int 2), v8] [] M Q := by
  refine pv_iload (pc := 18) (i := 7) rfl (fm_dec dtX10_bestWay 12 rfl) ?_
  refine pv_iconst (pc := 20) (v := 2) (by decide) (fm_dec dtX10_bestWay 13 rfl) ?_
  refine pv_icmp_gt (pc := 21) 58 (by decide) (fm_dec dtX10_bestWay 14 rfl) (fun hc21 => by exfalso; revert hc21; decide) (fun _ => ?_)
  refine pv_iloadn (pc := 24) (n := 0) 0 rfl rfl (fm_dec dtX10_bestWay 15 rfl) ?_
  refine pv_iloadn (pc := 25) (n := 1) 1 rfl rfl (fm_dec dtX10_bestWay 16 rfl) ?_
  refine pv_iloadn (pc := 26) (n := 2) 2 rfl rfl (fm_dec dtX10_bestWay 17 rfl) ?_
  refine pv_iloadn (pc := 27) (n := 3) 3 rfl rfl (fm_dec dtX10_bestWay 18 rfl) ?_
  refine pv_iload (pc := 28) (i := 4) rfl (fm_dec dtX10_bestWay 19 rfl) ?_
  refine pv_iload (pc := 30) (i := 7) rfl (fm_dec dtX10_bestWay 20 rfl) ?_
  refine pv_iS6 (d' := 0) (pc := 32) pcs_X10_312 (Nat.le_of_ble_eq_true rfl) (by decide) (fm_dec dtX10_bestWay 21 rfl) ?_
  refine c_mean2 ?_
  refine pv_then1 ?_
  refine pv_istore (pc := 35) (i := 8) (by decide) rfl (fm_dec dtX10_bestWay 22 rfl) ?_
  dsimp only [List.set_cons_zero, List.set_cons_succ]
  refine pv_iload (pc := 37) (i := 8) rfl (fm_dec dtX10_bestWay 23 rfl) ?_
  refine pv_iload (pc := 39) (i := 6) rfl (fm_dec dtX10_bestWay 24 rfl) ?_
  refine pv_icmp_le (pc := 41) 52 (by decide) (fm_dec dtX10_bestWay 25 rfl) (fun hc41 => ?_) (fun hc41 => ?_)
  · refine pv_iincc (pc := 52) 7 1 (by decide) rfl (by decide) rfl (fm_dec dtX10_bestWay 30 rfl) ?_
    dsimp only [List.set_cons_zero, List.set_cons_succ]
    rw [show (2 : Int32) + 1 = 3 by decide]
    refine pv_goto (pc := 55) 18 (by decide) (fm_dec dtX10_bestWay 31 rfl) ?_
    refine pv_iload (pc := 18) (i := 7) rfl (fm_dec dtX10_bestWay 12 rfl) ?_
    refine pv_iconst (pc := 20) (v := 2) (by decide) (fm_dec dtX10_bestWay 13 rfl) ?_
    refine pv_icmp_gt (pc := 21) 58 (by decide) (fm_dec dtX10_bestWay 14 rfl) (fun _ => ?_) (fun hc21 => by exfalso; revert hc21; decide)
    refine pv_iload (pc := 58) (i := 5) rfl (fm_dec dtX10_bestWay 32 rfl) ?_
    exact pv_ireturn (pc := 60) rfl (fm_dec dtX10_bestWay 33 rfl) (hn (by rw [sc_lt]; rw [sc_le] at hc41; omega))
  · refine pv_iload (pc := 44) (i := 8) rfl (fm_dec dtX10_bestWay 26 rfl) ?_
    refine pv_istore (pc := 46) (i := 6) (by decide) rfl (fm_dec dtX10_bestWay 27 rfl) ?_
    dsimp only [List.set_cons_zero, List.set_cons_succ]
    refine pv_iload (pc := 48) (i := 7) rfl (fm_dec dtX10_bestWay 28 rfl) ?_
    refine pv_istore (pc := 50) (i := 5) (by decide) rfl (fm_dec dtX10_bestWay 29 rfl) ?_
    dsimp only [List.set_cons_zero, List.set_cons_succ]
    refine pv_iincc (pc := 52) 7 1 (by decide) rfl (by decide) rfl (fm_dec dtX10_bestWay 30 rfl) ?_
    dsimp only [List.set_cons_zero, List.set_cons_succ]
    rw [show (2 : Int32) + 1 = 3 by decide]
    refine pv_goto (pc := 55) 18 (by decide) (fm_dec dtX10_bestWay 31 rfl) ?_
    refine pv_iload (pc := 18) (i := 7) rfl (fm_dec dtX10_bestWay 12 rfl) ?_
    refine pv_iconst (pc := 20) (v := 2) (by decide) (fm_dec dtX10_bestWay 13 rfl) ?_
    refine pv_icmp_gt (pc := 21) 58 (by decide) (fm_dec dtX10_bestWay 14 rfl) (fun _ => ?_) (fun hc21 => by exfalso; revert hc21; decide)
    refine pv_iload (pc := 58) (i := 5) rfl (fm_dec dtX10_bestWay 32 rfl) ?_
    exact pv_ireturn (pc := 60) rfl (fm_dec dtX10_bestWay 33 rfl) (hy (by rw [sc_lt]; rw [sc_le] at hc41; omega))
set_option maxRecDepth 20000 in
theorem bw_1 {Q : fmR → fmM → Prop} {M : fmM} {t b v x y mo : Int32} {v8 : Option Value} (hy : mo < mnV t b v x y 2 → Q (.inl (some (.int 2))) M) (hn : ¬ mo < mnV t b v x y 2 → Q (.inl (some (.int 1))) M) : pvEv Tx 1 qX10_bestWay 18 [some (.int t), some (.int b), some (.int v), some (.int x), some (.int y), some (.int 1), some (.int mo), some (.int 2), v8] [] M Q := by
  refine pv_iload (pc := 18) (i := 7) rfl (fm_dec dtX10_bestWay 12 rfl) ?_
  refine pv_iconst (pc := 20) (v := 2) (by decide) (fm_dec dtX10_bestWay 13 rfl) ?_
  refine pv_icmp_gt (pc := 21) 58 (by decide) (fm_dec dtX10_bestWay 14 rfl) (fun hc21 => by exfalso; revert hc21; decide) (fun _ => ?_)
  refine pv_iloadn (pc := 24) (n := 0) 0 rfl rfl (fm_dec dtX10_bestWay 15 rfl) ?_
  refine pv_iloadn (pc := 25) (n := 1) 1 rfl rfl (fm_dec dtX10_bestWay 16 rfl) ?_
  refine pv_iloadn (pc := 26) (n := 2) 2 rfl rfl (fm_dec dtX10_bestWay 17 rfl) ?_
  refine pv_iloadn (pc := 27) (n := 3) 3 rfl rfl (fm_dec dtX10_bestWay 18 rfl) ?_
  refine pv_iload (pc := 28) (i := 4) rfl (fm_dec dtX10_bestWay 19 rfl) ?_
  refine pv_iload (pc := 30) (i := 7) rfl (fm_dec dtX10_bestWay 20 rfl) ?_
  refine pv_iS6 (d' := 0) (pc := 32) pcs_X10_312 (Nat.le_of_ble_eq_true rfl) (by decide) (fm_dec dtX10_bestWay 21 rfl) ?_
  refine c_mean2 ?_
  refine pv_then1 ?_
  refine pv_istore (pc := 35) (i := 8) (by decide) rfl (fm_dec dtX10_bestWay 22 rfl) ?_
  dsimp only [List.set_cons_zero, List.set_cons_succ]
  refine pv_iload (pc := 37) (i := 8) rfl (fm_dec dtX10_bestWay 23 rfl) ?_
  refine pv_iload (pc := 39) (i := 6) rfl (fm_dec dtX10_bestWay 24 rfl) ?_
  refine pv_icmp_le (pc := 41) 52 (by decide) (fm_dec dtX10_bestWay 25 rfl) (fun hc41 => ?_) (fun hc41 => ?_)
  · refine pv_iincc (pc := 52) 7 1 (by decide) rfl (by decide) rfl (fm_dec dtX10_bestWay 30 rfl) ?_
    dsimp only [List.set_cons_zero, List.set_cons_succ]
    rw [show (2 : Int32) + 1 = 3 by decide]
    refine pv_goto (pc := 55) 18 (by decide) (fm_dec dtX10_bestWay 31 rfl) ?_
    refine pv_iload (pc := 18) (i := 7) rfl (fm_dec dtX10_bestWay 12 rfl) ?_
    refine pv_iconst (pc := 20) (v := 2) (by decide) (fm_dec dtX10_bestWay 13 rfl) ?_
    refine pv_icmp_gt (pc := 21) 58 (by decide) (fm_dec dtX10_bestWay 14 rfl) (fun _ => ?_) (fun hc21 => by exfalso; revert hc21; decide)
    refine pv_iload (pc := 58) (i := 5) rfl (fm_dec dtX10_bestWay 32 rfl) ?_
    exact pv_ireturn (pc := 60) rfl (fm_dec dtX10_bestWay 33 rfl) (hn (by rw [sc_lt]; rw [sc_le] at hc41; omega))
  · refine pv_iload (pc := 44) (i := 8) rfl (fm_dec dtX10_bestWay 26 rfl) ?_
    refine pv_istore (pc := 46) (i := 6) (by decide) rfl (fm_dec dtX10_bestWay 27 rfl) ?_
    dsimp only [List.set_cons_zero, List.set_cons_succ]
    refine pv_iload (pc := 48) (i := 7) rfl (fm_dec dtX10_bestWay 28 rfl) ?_
    refine pv_istore (pc := 50) (i := 5) (by decide) rfl (fm_dec dtX10_bestWay 29 rfl) ?_
    dsimp only [List.set_cons_zero, List.set_cons_succ]
    refine pv_iincc (pc := 52) 7 1 (by decide) rfl (by decide) rfl (fm_dec dtX10_bestWay 30 rfl) ?_
    dsimp only [List.set_cons_zero, List.set_cons_succ]
    rw [show (2 : Int32) + 1 = 3 by decide]
    refine pv_goto (pc := 55) 18 (by decide) (fm_dec dtX10_bestWay 31 rfl) ?_
    refine pv_iload (pc := 18) (i := 7) rfl (fm_dec dtX10_bestWay 12 rfl) ?_
    refine pv_iconst (pc := 20) (v := 2) (by decide) (fm_dec dtX10_bestWay 13 rfl) ?_
    refine pv_icmp_gt (pc := 21) 58 (by decide) (fm_dec dtX10_bestWay 14 rfl) (fun _ => ?_) (fun hc21 => by exfalso; revert hc21; decide)
    refine pv_iload (pc := 58) (i := 5) rfl (fm_dec dtX10_bestWay 32 rfl) ?_
    exact pv_ireturn (pc := 60) rfl (fm_dec dtX10_bestWay 33 rfl) (hy (by rw [sc_lt]; rw [sc_le] at hc41; omega))
set_option maxRecDepth 20000 in
theorem c_xbest {M : fmM} {Q : fmR → fmM → Prop} {t b v x y : Int32} (hq : Q (.inl (some (.int (bwV t b v x y)))) M) : pvGood Tx 1 qX10_bestWay [.int t, .int b, .int v, .int x, .int y] M Q := by
  refine pvGood_of (Nat.le_of_ble_eq_true rfl) ?_
  show pvEv Tx 1 qX10_bestWay 0 [some (.int t), some (.int b), some (.int v), some (.int x), some (.int y), none, none, none, none] [] M Q
  refine pv_iconst (pc := 0) (v := 0) (by decide) (fm_dec dtX10_bestWay 0 rfl) ?_
  refine pv_istore (pc := 1) (i := 5) (by decide) rfl (fm_dec dtX10_bestWay 1 rfl) ?_
  dsimp only [List.set_cons_zero, List.set_cons_succ]
  refine pv_iloadn (pc := 3) (n := 0) 0 rfl rfl (fm_dec dtX10_bestWay 2 rfl) ?_
  refine pv_iloadn (pc := 4) (n := 1) 1 rfl rfl (fm_dec dtX10_bestWay 3 rfl) ?_
  refine pv_iloadn (pc := 5) (n := 2) 2 rfl rfl (fm_dec dtX10_bestWay 4 rfl) ?_
  refine pv_iloadn (pc := 6) (n := 3) 3 rfl rfl (fm_dec dtX10_bestWay 5 rfl) ?_
  refine pv_iload (pc := 7) (i := 4) rfl (fm_dec dtX10_bestWay 6 rfl) ?_
  refine pv_iconst (pc := 9) (v := 0) (by decide) (fm_dec dtX10_bestWay 7 rfl) ?_
  refine pv_iS6 (d' := 0) (pc := 10) pcs_X10_312 (Nat.le_of_ble_eq_true rfl) (by decide) (fm_dec dtX10_bestWay 8 rfl) ?_
  refine c_mean0 ?_
  refine pv_then1 ?_
  refine pv_istore (pc := 13) (i := 6) (by decide) rfl (fm_dec dtX10_bestWay 9 rfl) ?_
  dsimp only [List.set_cons_zero, List.set_cons_succ]
  refine pv_iconst (pc := 15) (v := 1) (by decide) (fm_dec dtX10_bestWay 10 rfl) ?_
  refine pv_istore (pc := 16) (i := 7) (by decide) rfl (fm_dec dtX10_bestWay 11 rfl) ?_
  dsimp only [List.set_cons_zero, List.set_cons_succ]
  refine pv_iload (pc := 18) (i := 7) rfl (fm_dec dtX10_bestWay 12 rfl) ?_
  refine pv_iconst (pc := 20) (v := 2) (by decide) (fm_dec dtX10_bestWay 13 rfl) ?_
  refine pv_icmp_gt (pc := 21) 58 (by decide) (fm_dec dtX10_bestWay 14 rfl) (fun hc21 => by exfalso; revert hc21; decide) (fun _ => ?_)
  refine pv_iloadn (pc := 24) (n := 0) 0 rfl rfl (fm_dec dtX10_bestWay 15 rfl) ?_
  refine pv_iloadn (pc := 25) (n := 1) 1 rfl rfl (fm_dec dtX10_bestWay 16 rfl) ?_
  refine pv_iloadn (pc := 26) (n := 2) 2 rfl rfl (fm_dec dtX10_bestWay 17 rfl) ?_
  refine pv_iloadn (pc := 27) (n := 3) 3 rfl rfl (fm_dec dtX10_bestWay 18 rfl) ?_
  refine pv_iload (pc := 28) (i := 4) rfl (fm_dec dtX10_bestWay 19 rfl) ?_
  refine pv_iload (pc := 30) (i := 7) rfl (fm_dec dtX10_bestWay 20 rfl) ?_
  refine pv_iS6 (d' := 0) (pc := 32) pcs_X10_312 (Nat.le_of_ble_eq_true rfl) (by decide) (fm_dec dtX10_bestWay 21 rfl) ?_
  refine c_mean1 ?_
  refine pv_then1 ?_
  refine pv_istore (pc := 35) (i := 8) (by decide) rfl (fm_dec dtX10_bestWay 22 rfl) ?_
  dsimp only [List.set_cons_zero, List.set_cons_succ]
  refine pv_iload (pc := 37) (i := 8) rfl (fm_dec dtX10_bestWay 23 rfl) ?_
  refine pv_iload (pc := 39) (i := 6) rfl (fm_dec dtX10_bestWay 24 rfl) ?_
  refine pv_icmp_le (pc := 41) 52 (by decide) (fm_dec dtX10_bestWay 25 rfl) (fun hc41 => ?_) (fun hc41 => ?_)
  · refine pv_iincc (pc := 52) 7 1 (by decide) rfl (by decide) rfl (fm_dec dtX10_bestWay 30 rfl) ?_
    dsimp only [List.set_cons_zero, List.set_cons_succ]
    rw [show (1 : Int32) + 1 = 2 by decide]
    refine pv_goto (pc := 55) 18 (by decide) (fm_dec dtX10_bestWay 31 rfl) ?_
    have e1 : b1V t b v x y = 0 := if_neg (by rw [sc_lt]; rw [sc_le] at hc41; omega)
    refine bw_0 (fun h => ?_) (fun h => ?_)
    · have h9 := hq; unfold bwV at h9; rw [e1, if_pos h] at h9; exact h9
    · have h9 := hq; unfold bwV at h9; rw [e1, if_neg h] at h9; exact h9
  · refine pv_iload (pc := 44) (i := 8) rfl (fm_dec dtX10_bestWay 26 rfl) ?_
    refine pv_istore (pc := 46) (i := 6) (by decide) rfl (fm_dec dtX10_bestWay 27 rfl) ?_
    dsimp only [List.set_cons_zero, List.set_cons_succ]
    refine pv_iload (pc := 48) (i := 7) rfl (fm_dec dtX10_bestWay 28 rfl) ?_
    refine pv_istore (pc := 50) (i := 5) (by decide) rfl (fm_dec dtX10_bestWay 29 rfl) ?_
    dsimp only [List.set_cons_zero, List.set_cons_succ]
    refine pv_iincc (pc := 52) 7 1 (by decide) rfl (by decide) rfl (fm_dec dtX10_bestWay 30 rfl) ?_
    dsimp only [List.set_cons_zero, List.set_cons_succ]
    rw [show (1 : Int32) + 1 = 2 by decide]
    refine pv_goto (pc := 55) 18 (by decide) (fm_dec dtX10_bestWay 31 rfl) ?_
    have e1 : b1V t b v x y = 1 := if_pos (by rw [sc_lt]; rw [sc_le] at hc41; omega)
    refine bw_1 (fun h => ?_) (fun h => ?_)
    · have h9 := hq; unfold bwV at h9; rw [e1, if_pos h] at h9; exact h9
    · have h9 := hq; unfold bwV at h9; rw [e1, if_neg h] at h9; exact h9
set_option maxRecDepth 20000 in
theorem c_xsays {M : fmM} {Q : fmR → fmM → Prop} {t b v x y : Int32} (ht : inW t 0 16 ∧ rgR b v x y → Q (.inl (some (.int (bwV t b v x y)))) M) (hf : ¬ (inW t 0 16 ∧ rgR b v x y) → Q (.inr fmIAE) (fmI M 0 16 (M.1 0 16 + 1))) : pvGood Tx 2 qX10_says [.ref 0, .int t, .int b, .int v, .int x, .int y] M Q := by
  refine pvGood_of (Nat.le_of_ble_eq_true rfl) ?_
  show pvEv Tx 2 qX10_says 0 [some (.ref 0), some (.int t), some (.int b), some (.int v), some (.int x), some (.int y)] [] M Q
  refine pv_aloadn (pc := 0) (n := 0) 0 rfl rfl (fm_dec dtX10_says 0 rfl) ?_
  refine pv_iloadn (pc := 1) (n := 1) 1 rfl rfl (fm_dec dtX10_says 1 rfl) ?_
  refine pv_iconst (pc := 2) (v := 0) (by decide) (fm_dec dtX10_says 2 rfl) ?_
  refine pv_bipush (pc := 3) (v := 16) (by decide) (fm_dec dtX10_says 3 rfl) ?_
  refine pv_invV3 (k := 0) (d' := 0) (pc := 5) pcv_X10_169 (by decide) rfl (Nat.le_of_ble_eq_true rfl) (by decide) (fm_dec dtX10_says 4 rfl) ?_
  refine c_needW (fun h5a h5b => ?_) (fun h5 => ?_)
  · refine pv_then0 ?_
    refine pv_aloadn (pc := 8) (n := 0) 0 rfl rfl (fm_dec dtX10_says 5 rfl) ?_
    refine pv_iloadn (pc := 9) (n := 2) 2 rfl rfl (fm_dec dtX10_says 6 rfl) ?_
    refine pv_iloadn (pc := 10) (n := 3) 3 rfl rfl (fm_dec dtX10_says 7 rfl) ?_
    refine pv_iload (pc := 11) (i := 4) rfl (fm_dec dtX10_says 8 rfl) ?_
    refine pv_iload (pc := 13) (i := 5) rfl (fm_dec dtX10_says 9 rfl) ?_
    refine pv_invV4 (k := 0) (d' := 1) (pc := 15) pcv_X10_308 (by decide) rfl (Nat.le_of_ble_eq_true rfl) (by decide) (fm_dec dtX10_says 10 rfl) ?_
    refine c_needR (fun h15 => ?_) (fun h15 => ?_)
    · refine pv_then0 ?_
      refine pv_iloadn (pc := 18) (n := 1) 1 rfl rfl (fm_dec dtX10_says 11 rfl) ?_
      refine pv_iloadn (pc := 19) (n := 2) 2 rfl rfl (fm_dec dtX10_says 12 rfl) ?_
      refine pv_iloadn (pc := 20) (n := 3) 3 rfl rfl (fm_dec dtX10_says 13 rfl) ?_
      refine pv_iload (pc := 21) (i := 4) rfl (fm_dec dtX10_says 14 rfl) ?_
      refine pv_iload (pc := 23) (i := 5) rfl (fm_dec dtX10_says 15 rfl) ?_
      refine pv_iS5 (d' := 1) (pc := 25) pcs_X10_316 (Nat.le_of_ble_eq_true rfl) (by decide) (fm_dec dtX10_says 16 rfl) ?_
      refine c_xbest ?_
      refine pv_then1 ?_
      exact pv_ireturn (pc := 28) rfl (fm_dec dtX10_says 17 rfl) (ht ⟨⟨h5a, h5b⟩, h15⟩)
    · refine pv_thenX ?_
      exact hf (fun h9 => h15 (by first | exact h9.1 | exact h9.2))
  · refine pv_thenX ?_
    exact hf (fun h9 => h5 (by first | exact h9.1 | exact h9.2))
set_option maxRecDepth 20000 in
theorem ln_x {Q : fmR → fmM → Prop} {M : fmM} {b v x y : Int32} : ∀ (n k : Nat), k + n = 17 → Q (.inl (some (.int (lnV b v x y n k)))) M → pvEv Tx 2 qX10_line 12 [some (.ref 0), some (.int b), some (.int v), some (.int x), some (.int y), some (.int (nI k))] [] M Q := by
  intro n
  induction n with
  | zero =>
    intro k hk hq
    refine pv_iload (pc := 12) (i := 5) rfl (fm_dec dtX10_line 8 rfl) ?_
    refine pv_bipush (pc := 14) (v := 16) (by decide) (fm_dec dtX10_line 9 rfl) ?_
    refine pv_icmp_gt (pc := 16) 41 (by decide) (fm_dec dtX10_line 10 rfl) (fun _ => ?_) (fun hc16 => by exfalso; apply hc16; rw [sc_lt]; have h8 : (16 : Int32).toInt = 16 := (by decide); have h7 : (nI k).toInt = (k : Int) := nI_toInt (by omega); omega)
    refine pv_iconst (pc := 41) (v := (-1)) (by decide) (fm_dec dtX10_line 22 rfl) ?_
    exact pv_ireturn (pc := 42) rfl (fm_dec dtX10_line 23 rfl) (hq : _)
  | succ n ih =>
    intro k hk hq
    refine pv_iload (pc := 12) (i := 5) rfl (fm_dec dtX10_line 8 rfl) ?_
    refine pv_bipush (pc := 14) (v := 16) (by decide) (fm_dec dtX10_line 9 rfl) ?_
    refine pv_icmp_gt (pc := 16) 41 (by decide) (fm_dec dtX10_line 10 rfl) (fun hc16 => by exfalso; rw [sc_lt] at hc16; have h8 : (16 : Int32).toInt = 16 := (by decide); have h7 : (nI k).toInt = (k : Int) := nI_toInt (by omega); omega) (fun _ => ?_)
    refine pv_iload (pc := 19) (i := 5) rfl (fm_dec dtX10_line 11 rfl) ?_
    refine pv_iloadn (pc := 21) (n := 1) 1 rfl rfl (fm_dec dtX10_line 12 rfl) ?_
    refine pv_iloadn (pc := 22) (n := 2) 2 rfl rfl (fm_dec dtX10_line 13 rfl) ?_
    refine pv_iloadn (pc := 23) (n := 3) 3 rfl rfl (fm_dec dtX10_line 14 rfl) ?_
    refine pv_iload (pc := 24) (i := 4) rfl (fm_dec dtX10_line 15 rfl) ?_
    refine pv_iS5 (d' := 1) (pc := 26) pcs_X10_316 (Nat.le_of_ble_eq_true rfl) (by decide) (fm_dec dtX10_line 16 rfl) ?_
    refine c_xbest ?_
    refine pv_then1 ?_
    refine pv_if_ne (pc := 29) 35 (by decide) (fm_dec dtX10_line 17 rfl) (fun hc29 => ?_) (fun hc29 => ?_)
    · refine pv_iincc (pc := 35) 5 1 (by decide) rfl (by decide) rfl (fm_dec dtX10_line 20 rfl) ?_
      dsimp only [List.set_cons_zero, List.set_cons_succ]
      refine pv_goto (pc := 38) 12 (by decide) (fm_dec dtX10_line 21 rfl) ?_
      rw [nI_succ1]
      refine ih (k + 1) (by omega) ?_
      have h9 := hq; simp only [lnV] at h9; rw [if_neg hc29] at h9; exact h9
    · refine pv_iload (pc := 32) (i := 5) rfl (fm_dec dtX10_line 18 rfl) ?_
      exact pv_ireturn (pc := 34) rfl (fm_dec dtX10_line 19 rfl) (by have h9 := hq; simp only [lnV] at h9; rw [if_pos hc29] at h9; exact h9)
set_option maxRecDepth 20000 in
theorem c_xline {M : fmM} {Q : fmR → fmM → Prop} {b v x y : Int32} (ht : rgR b v x y → Q (.inl (some (.int (lnV b v x y 17 0)))) M) (hf : ¬ rgR b v x y → Q (.inr fmIAE) (fmI M 0 16 (M.1 0 16 + 1))) : pvGood Tx 2 qX10_line [.ref 0, .int b, .int v, .int x, .int y] M Q := by
  refine pvGood_of (Nat.le_of_ble_eq_true rfl) ?_
  show pvEv Tx 2 qX10_line 0 [some (.ref 0), some (.int b), some (.int v), some (.int x), some (.int y), none] [] M Q
  refine pv_aloadn (pc := 0) (n := 0) 0 rfl rfl (fm_dec dtX10_line 0 rfl) ?_
  refine pv_iloadn (pc := 1) (n := 1) 1 rfl rfl (fm_dec dtX10_line 1 rfl) ?_
  refine pv_iloadn (pc := 2) (n := 2) 2 rfl rfl (fm_dec dtX10_line 2 rfl) ?_
  refine pv_iloadn (pc := 3) (n := 3) 3 rfl rfl (fm_dec dtX10_line 3 rfl) ?_
  refine pv_iload (pc := 4) (i := 4) rfl (fm_dec dtX10_line 4 rfl) ?_
  refine pv_invV4 (k := 0) (d' := 1) (pc := 6) pcv_X10_308 (by decide) rfl (Nat.le_of_ble_eq_true rfl) (by decide) (fm_dec dtX10_line 5 rfl) ?_
  refine c_needR (fun h6 => ?_) (fun h6 => ?_)
  · refine pv_then0 ?_
    refine pv_iconst (pc := 9) (v := 0) (by decide) (fm_dec dtX10_line 6 rfl) ?_
    refine pv_istore (pc := 10) (i := 5) (by decide) rfl (fm_dec dtX10_line 7 rfl) ?_
    dsimp only [List.set_cons_zero, List.set_cons_succ]
    exact ln_x 17 0 (by decide) (ht h6)
  · refine pv_thenX ?_
    exact hf h6
set_option maxRecDepth 20000 in
theorem c_isRum {M : fmM} {Q : fmR → fmM → Prop} {b v x y : Int32} (ht : rgR b v x y → Q (.inl (some (.int 1))) M) (hf : ¬ rgR b v x y → Q (.inl (some (.int 0))) M) : pvGood Tm 1 qX11_isRumour [.int b, .int v, .int x, .int y] M Q := by
  refine pvGood_of (Nat.le_of_ble_eq_true rfl) ?_
  show pvEv Tm 1 qX11_isRumour 0 [some (.int b), some (.int v), some (.int x), some (.int y)] [] M Q
  refine pv_iloadn (pc := 0) (n := 0) 0 rfl rfl (fm_dec dtX11_isRumour 0 rfl) ?_
  refine pv_iconst (pc := 1) (v := 0) (by decide) (fm_dec dtX11_isRumour 1 rfl) ?_
  refine pv_bipush (pc := 2) (v := 16) (by decide) (fm_dec dtX11_isRumour 2 rfl) ?_
  refine pv_iS3 (d' := 0) (pc := 4) pcs_X11_135 (Nat.le_of_ble_eq_true rfl) (by decide) (fm_dec dtX11_isRumour 3 rfl) ?_
  refine c_in (fun h4a h4b => ?_) (fun h4 => ?_)
  · refine pv_then1 ?_
    refine pv_if_eq (pc := 7) 47 (by decide) (fm_dec dtX11_isRumour 4 rfl) (fun hc7 => by exfalso; revert hc7; decide) (fun _ => ?_)
    refine pv_iloadn (pc := 10) (n := 1) 1 rfl rfl (fm_dec dtX11_isRumour 5 rfl) ?_
    refine pv_iconst (pc := 11) (v := 0) (by decide) (fm_dec dtX11_isRumour 6 rfl) ?_
    refine pv_sipush (pc := 12) (v := 999) (by decide) (fm_dec dtX11_isRumour 7 rfl) ?_
    refine pv_iS3 (d' := 0) (pc := 15) pcs_X11_135 (Nat.le_of_ble_eq_true rfl) (by decide) (fm_dec dtX11_isRumour 8 rfl) ?_
    refine c_in (fun h15a h15b => ?_) (fun h15 => ?_)
    · refine pv_then1 ?_
      refine pv_if_eq (pc := 18) 47 (by decide) (fm_dec dtX11_isRumour 9 rfl) (fun hc18 => by exfalso; revert hc18; decide) (fun _ => ?_)
      refine pv_iloadn (pc := 21) (n := 2) 2 rfl rfl (fm_dec dtX11_isRumour 10 rfl) ?_
      refine pv_iconst (pc := 22) (v := 0) (by decide) (fm_dec dtX11_isRumour 11 rfl) ?_
      refine pv_sipush (pc := 23) (v := 999) (by decide) (fm_dec dtX11_isRumour 12 rfl) ?_
      refine pv_iS3 (d' := 0) (pc := 26) pcs_X11_135 (Nat.le_of_ble_eq_true rfl) (by decide) (fm_dec dtX11_isRumour 13 rfl) ?_
      refine c_in (fun h26a h26b => ?_) (fun h26 => ?_)
      · refine pv_then1 ?_
        refine pv_if_eq (pc := 29) 47 (by decide) (fm_dec dtX11_isRumour 14 rfl) (fun hc29 => by exfalso; revert hc29; decide) (fun _ => ?_)
        refine pv_iloadn (pc := 32) (n := 3) 3 rfl rfl (fm_dec dtX11_isRumour 15 rfl) ?_
        refine pv_iconst (pc := 33) (v := 0) (by decide) (fm_dec dtX11_isRumour 16 rfl) ?_
        refine pv_sipush (pc := 34) (v := 999) (by decide) (fm_dec dtX11_isRumour 17 rfl) ?_
        refine pv_iS3 (d' := 0) (pc := 37) pcs_X11_135 (Nat.le_of_ble_eq_true rfl) (by decide) (fm_dec dtX11_isRumour 18 rfl) ?_
        refine c_in (fun h37a h37b => ?_) (fun h37 => ?_)
        · refine pv_then1 ?_
          refine pv_if_eq (pc := 40) 47 (by decide) (fm_dec dtX11_isRumour 19 rfl) (fun hc40 => by exfalso; revert hc40; decide) (fun _ => ?_)
          refine pv_iconst (pc := 43) (v := 1) (by decide) (fm_dec dtX11_isRumour 20 rfl) ?_
          refine pv_goto (pc := 44) 48 (by decide) (fm_dec dtX11_isRumour 21 rfl) ?_
          exact pv_zreturn (pc := 48) rfl (by first | exact Or.inr rfl | exact Or.inl rfl) (fm_dec dtX11_isRumour 23 rfl) (by first | exact ht ⟨⟨h4a, h4b⟩, ⟨h15a, h15b⟩, ⟨h26a, h26b⟩, ⟨h37a, h37b⟩⟩ | exact hf (fun h9 => h37 h9.2.2.2) | exact hf (fun h9 => h26 h9.2.2.1) | exact hf (fun h9 => h15 h9.2.1) | exact hf (fun h9 => h4 h9.1))
        · refine pv_then1 ?_
          refine pv_if_eq (pc := 40) 47 (by decide) (fm_dec dtX11_isRumour 19 rfl) (fun _ => ?_) (fun hc40 => by exfalso; revert hc40; decide)
          refine pv_iconst (pc := 47) (v := 0) (by decide) (fm_dec dtX11_isRumour 22 rfl) ?_
          exact pv_zreturn (pc := 48) rfl (by first | exact Or.inr rfl | exact Or.inl rfl) (fm_dec dtX11_isRumour 23 rfl) (by first | exact ht ⟨⟨h4a, h4b⟩, ⟨h15a, h15b⟩, ⟨h26a, h26b⟩, ⟨h37a, h37b⟩⟩ | exact hf (fun h9 => h37 h9.2.2.2) | exact hf (fun h9 => h26 h9.2.2.1) | exact hf (fun h9 => h15 h9.2.1) | exact hf (fun h9 => h4 h9.1))
      · refine pv_then1 ?_
        refine pv_if_eq (pc := 29) 47 (by decide) (fm_dec dtX11_isRumour 14 rfl) (fun _ => ?_) (fun hc29 => by exfalso; revert hc29; decide)
        refine pv_iconst (pc := 47) (v := 0) (by decide) (fm_dec dtX11_isRumour 22 rfl) ?_
        exact pv_zreturn (pc := 48) rfl (by first | exact Or.inr rfl | exact Or.inl rfl) (fm_dec dtX11_isRumour 23 rfl) (by first | exact ht ⟨⟨h4a, h4b⟩, ⟨h15a, h15b⟩, ⟨h26a, h26b⟩, ⟨h37a, h37b⟩⟩ | exact hf (fun h9 => h37 h9.2.2.2) | exact hf (fun h9 => h26 h9.2.2.1) | exact hf (fun h9 => h15 h9.2.1) | exact hf (fun h9 => h4 h9.1))
    · refine pv_then1 ?_
      refine pv_if_eq (pc := 18) 47 (by decide) (fm_dec dtX11_isRumour 9 rfl) (fun _ => ?_) (fun hc18 => by exfalso; revert hc18; decide)
      refine pv_iconst (pc := 47) (v := 0) (by decide) (fm_dec dtX11_isRumour 22 rfl) ?_
      exact pv_zreturn (pc := 48) rfl (by first | exact Or.inr rfl | exact Or.inl rfl) (fm_dec dtX11_isRumour 23 rfl) (by first | exact ht ⟨⟨h4a, h4b⟩, ⟨h15a, h15b⟩, ⟨h26a, h26b⟩, ⟨h37a, h37b⟩⟩ | exact hf (fun h9 => h37 h9.2.2.2) | exact hf (fun h9 => h26 h9.2.2.1) | exact hf (fun h9 => h15 h9.2.1) | exact hf (fun h9 => h4 h9.1))
  · refine pv_then1 ?_
    refine pv_if_eq (pc := 7) 47 (by decide) (fm_dec dtX11_isRumour 4 rfl) (fun _ => ?_) (fun hc7 => by exfalso; revert hc7; decide)
    refine pv_iconst (pc := 47) (v := 0) (by decide) (fm_dec dtX11_isRumour 22 rfl) ?_
    exact pv_zreturn (pc := 48) rfl (by first | exact Or.inr rfl | exact Or.inl rfl) (fm_dec dtX11_isRumour 23 rfl) (by first | exact ht ⟨⟨h4a, h4b⟩, ⟨h15a, h15b⟩, ⟨h26a, h26b⟩, ⟨h37a, h37b⟩⟩ | exact hf (fun h9 => h37 h9.2.2.2) | exact hf (fun h9 => h26 h9.2.2.1) | exact hf (fun h9 => h15 h9.2.1) | exact hf (fun h9 => h4 h9.1))
set_option maxRecDepth 20000 in
theorem c_bringsBy {M : fmM} {Q : fmR → fmM → Prop} {t b v x y w : Int32} (hq : Q (.inl (some (.int (mnV t b v x y w)))) M) : pvGood Tm 0 qX11_bringsBy [.int t, .int b, .int v, .int x, .int y, .int w] M Q := by
  refine pvGood_of (Nat.le_of_ble_eq_true rfl) ?_
  show pvEv Tm 0 qX11_bringsBy 0 [some (.int t), some (.int b), some (.int v), some (.int x), some (.int y), some (.int w)] [] M Q
  refine pv_iload (pc := 0) (i := 5) rfl (fm_dec dtX11_bringsBy 0 rfl) ?_
  refine pv_iconst (pc := 2) (v := 2) (by decide) (fm_dec dtX11_bringsBy 1 rfl) ?_
  refine pv_icmp_ne (pc := 3) 17 (by decide) (fm_dec dtX11_bringsBy 2 rfl) (fun hc3 => ?_) (fun hc3 => ?_)
  · refine pv_bipush (pc := 17) (v := 16) (by decide) (fm_dec dtX11_bringsBy 11 rfl) ?_
    refine pv_iloadn (pc := 19) (n := 0) 0 rfl rfl (fm_dec dtX11_bringsBy 12 rfl) ?_
    refine pv_iloadn (pc := 20) (n := 2) 2 rfl rfl (fm_dec dtX11_bringsBy 13 rfl) ?_
    refine pv_imul (pc := 21) (fm_dec dtX11_bringsBy 14 rfl) ?_
    refine pv_bipush (pc := 22) (v := 16) (by decide) (fm_dec dtX11_bringsBy 15 rfl) ?_
    refine pv_iloadn (pc := 24) (n := 0) 0 rfl rfl (fm_dec dtX11_bringsBy 16 rfl) ?_
    refine pv_isub (pc := 25) (fm_dec dtX11_bringsBy 17 rfl) ?_
    refine pv_iload (pc := 26) (i := 5) rfl (fm_dec dtX11_bringsBy 18 rfl) ?_
    refine pv_if_ne (pc := 28) 35 (by decide) (fm_dec dtX11_bringsBy 19 rfl) (fun hc28 => ?_) (fun hc28 => ?_)
    · refine pv_iload (pc := 35) (i := 4) rfl (fm_dec dtX11_bringsBy 22 rfl) ?_
      refine pv_imul (pc := 37) (fm_dec dtX11_bringsBy 23 rfl) ?_
      refine pv_isub (pc := 38) (fm_dec dtX11_bringsBy 24 rfl) ?_
      refine pv_imul (pc := 39) (fm_dec dtX11_bringsBy 25 rfl) ?_
      exact pv_ireturn (pc := 40) rfl (fm_dec dtX11_bringsBy 26 rfl) (by have h9 := hq; unfold mnV at h9; rw [if_neg hc3, if_neg hc28] at h9; exact h9)
    · refine pv_iloadn (pc := 31) (n := 3) 3 rfl rfl (fm_dec dtX11_bringsBy 20 rfl) ?_
      refine pv_goto (pc := 32) 37 (by decide) (fm_dec dtX11_bringsBy 21 rfl) ?_
      refine pv_imul (pc := 37) (fm_dec dtX11_bringsBy 23 rfl) ?_
      refine pv_isub (pc := 38) (fm_dec dtX11_bringsBy 24 rfl) ?_
      refine pv_imul (pc := 39) (fm_dec dtX11_bringsBy 25 rfl) ?_
      exact pv_ireturn (pc := 40) rfl (fm_dec dtX11_bringsBy 26 rfl) (by have h9 := hq; unfold mnV at h9; rw [if_neg hc3, if_pos hc28] at h9; exact h9)
  · refine pv_iloadn (pc := 6) (n := 0) 0 rfl rfl (fm_dec dtX11_bringsBy 3 rfl) ?_
    refine pv_bipush (pc := 7) (v := 16) (by decide) (fm_dec dtX11_bringsBy 4 rfl) ?_
    refine pv_iloadn (pc := 9) (n := 1) 1 rfl rfl (fm_dec dtX11_bringsBy 5 rfl) ?_
    refine pv_isub (pc := 10) (fm_dec dtX11_bringsBy 6 rfl) ?_
    refine pv_imul (pc := 11) (fm_dec dtX11_bringsBy 7 rfl) ?_
    refine pv_iloadn (pc := 12) (n := 2) 2 rfl rfl (fm_dec dtX11_bringsBy 8 rfl) ?_
    refine pv_imul (pc := 13) (fm_dec dtX11_bringsBy 9 rfl) ?_
    refine pv_goto (pc := 14) 40 (by decide) (fm_dec dtX11_bringsBy 10 rfl) ?_
    exact pv_ireturn (pc := 40) rfl (fm_dec dtX11_bringsBy 26 rfl) (by have h9 := hq; unfold mnV at h9; rw [if_pos hc3] at h9; exact h9)
set_option maxRecDepth 20000 in
theorem c_mbrings {M : fmM} {Q : fmR → fmM → Prop} {t b v x y w : Int32} (ht : inW t 0 16 ∧ rgR b v x y ∧ inW w 0 2 → Q (.inl (some (.int (mnV t b v x y w)))) (fmI M 0 0 0)) (hf : ¬ (inW t 0 16 ∧ rgR b v x y ∧ inW w 0 2) → ∀ M' : fmM, M'.1 0 0 = 1 → Q (.inl (some (.int 0))) M') : pvGood Tm 2 qX11_brings [.ref 0, .int t, .int b, .int v, .int x, .int y, .int w] M Q := by
  refine pvGood_of (Nat.le_of_ble_eq_true rfl) ?_
  show pvEv Tm 2 qX11_brings 0 [some (.ref 0), some (.int t), some (.int b), some (.int v), some (.int x), some (.int y), some (.int w)] [] M Q
  refine pv_aloadn (pc := 0) (n := 0) 0 rfl rfl (fm_dec dtX11_brings 0 rfl) ?_
  refine pv_iconst (pc := 1) (v := 0) (by decide) (fm_dec dtX11_brings 1 rfl) ?_
  refine pv_putI (k := 0) (j := 0) (ci := 11) (pc := 2) pfl_X11_101 (by decide) rfl (by decide) (fm_dec dtX11_brings 2 rfl) ?_
  refine pv_aloadn (pc := 5) (n := 0) 0 rfl rfl (fm_dec dtX11_brings 3 rfl) ?_
  refine pv_iloadn (pc := 6) (n := 1) 1 rfl rfl (fm_dec dtX11_brings 4 rfl) ?_
  refine pv_iconst (pc := 7) (v := 0) (by decide) (fm_dec dtX11_brings 5 rfl) ?_
  refine pv_bipush (pc := 8) (v := 16) (by decide) (fm_dec dtX11_brings 6 rfl) ?_
  refine pv_iS3 (d' := 0) (pc := 10) pcs_X11_135 (Nat.le_of_ble_eq_true rfl) (by decide) (fm_dec dtX11_brings 7 rfl) ?_
  refine c_in (fun h10a h10b => ?_) (fun h10 => ?_)
  · refine pv_then1 ?_
    refine pv_if_eq (pc := 13) 38 (by decide) (fm_dec dtX11_brings 8 rfl) (fun hc13 => by exfalso; revert hc13; decide) (fun _ => ?_)
    refine pv_iloadn (pc := 16) (n := 2) 2 rfl rfl (fm_dec dtX11_brings 9 rfl) ?_
    refine pv_iloadn (pc := 17) (n := 3) 3 rfl rfl (fm_dec dtX11_brings 10 rfl) ?_
    refine pv_iload (pc := 18) (i := 4) rfl (fm_dec dtX11_brings 11 rfl) ?_
    refine pv_iload (pc := 20) (i := 5) rfl (fm_dec dtX11_brings 12 rfl) ?_
    refine pv_iS4 (d' := 1) (pc := 22) pcs_X11_389 (Nat.le_of_ble_eq_true rfl) (by decide) (fm_dec dtX11_brings 13 rfl) ?_
    refine c_isRum (fun h22 => ?_) (fun h22 => ?_)
    · refine pv_then1 ?_
      refine pv_if_eq (pc := 25) 38 (by decide) (fm_dec dtX11_brings 14 rfl) (fun hc25 => by exfalso; revert hc25; decide) (fun _ => ?_)
      refine pv_iload (pc := 28) (i := 6) rfl (fm_dec dtX11_brings 15 rfl) ?_
      refine pv_iconst (pc := 30) (v := 0) (by decide) (fm_dec dtX11_brings 16 rfl) ?_
      refine pv_iconst (pc := 31) (v := 2) (by decide) (fm_dec dtX11_brings 17 rfl) ?_
      refine pv_iS3 (d' := 0) (pc := 32) pcs_X11_135 (Nat.le_of_ble_eq_true rfl) (by decide) (fm_dec dtX11_brings 18 rfl) ?_
      refine c_in (fun h32a h32b => ?_) (fun h32 => ?_)
      · refine pv_then1 ?_
        refine pv_if_ne (pc := 35) 42 (by decide) (fm_dec dtX11_brings 19 rfl) (fun _ => ?_) (fun hc35 => by exfalso; revert hc35; decide)
        refine pv_iconst (pc := 42) (v := 0) (by decide) (fm_dec dtX11_brings 22 rfl) ?_
        refine pv_iconst (pc := 43) (v := 1) (by decide) (fm_dec dtX11_brings 23 rfl) ?_
        refine pv_iconst (pc := 44) (v := 1) (by decide) (fm_dec dtX11_brings 24 rfl) ?_
        refine pv_invV3 (k := 0) (d' := 0) (pc := 45) pcv_X11_177 (by decide) rfl (Nat.le_of_ble_eq_true rfl) (by decide) (fm_dec dtX11_brings 25 rfl) ?_
        refine c_badF1 rfl ?_
        refine pv_then1 ?_
        refine pv_if_eq (pc := 48) 53 (by decide) (fm_dec dtX11_brings 26 rfl) (fun _ => ?_) (fun hc48 => by exfalso; revert hc48; decide)
        refine pv_iloadn (pc := 53) (n := 1) 1 rfl rfl (fm_dec dtX11_brings 29 rfl) ?_
        refine pv_iloadn (pc := 54) (n := 2) 2 rfl rfl (fm_dec dtX11_brings 30 rfl) ?_
        refine pv_iloadn (pc := 55) (n := 3) 3 rfl rfl (fm_dec dtX11_brings 31 rfl) ?_
        refine pv_iload (pc := 56) (i := 4) rfl (fm_dec dtX11_brings 32 rfl) ?_
        refine pv_iload (pc := 58) (i := 5) rfl (fm_dec dtX11_brings 33 rfl) ?_
        refine pv_iload (pc := 60) (i := 6) rfl (fm_dec dtX11_brings 34 rfl) ?_
        refine pv_iS6 (d' := 0) (pc := 62) pcs_X11_393 (Nat.le_of_ble_eq_true rfl) (by decide) (fm_dec dtX11_brings 35 rfl) ?_
        refine c_bringsBy ?_
        refine pv_then1 ?_
        exact pv_ireturn (pc := 65) rfl (fm_dec dtX11_brings 36 rfl) (ht ⟨⟨h10a, h10b⟩, h22, ⟨h32a, h32b⟩⟩)
      · refine pv_then1 ?_
        refine pv_if_ne (pc := 35) 42 (by decide) (fm_dec dtX11_brings 19 rfl) (fun hc35 => by exfalso; revert hc35; decide) (fun _ => ?_)
        refine pv_iconst (pc := 38) (v := 1) (by decide) (fm_dec dtX11_brings 20 rfl) ?_
        refine pv_goto (pc := 39) 43 (by decide) (fm_dec dtX11_brings 21 rfl) ?_
        refine pv_iconst (pc := 43) (v := 1) (by decide) (fm_dec dtX11_brings 23 rfl) ?_
        refine pv_iconst (pc := 44) (v := 1) (by decide) (fm_dec dtX11_brings 24 rfl) ?_
        refine pv_invV3 (k := 0) (d' := 0) (pc := 45) pcv_X11_177 (by decide) rfl (Nat.le_of_ble_eq_true rfl) (by decide) (fm_dec dtX11_brings 25 rfl) ?_
        refine c_badT1 rfl (by decide) ?_
        refine pv_then1 ?_
        refine pv_if_eq (pc := 48) 53 (by decide) (fm_dec dtX11_brings 26 rfl) (fun hc48 => by exfalso; revert hc48; decide) (fun _ => ?_)
        refine pv_iconst (pc := 51) (v := 0) (by decide) (fm_dec dtX11_brings 27 rfl) ?_
        exact pv_ireturn (pc := 52) rfl (fm_dec dtX11_brings 28 rfl) (hf (by intro h9; first | exact h32 h9.2.2 | exact h22 h9.2.1 | exact h10 h9.1) _ rfl)
    · refine pv_then1 ?_
      refine pv_if_eq (pc := 25) 38 (by decide) (fm_dec dtX11_brings 14 rfl) (fun _ => ?_) (fun hc25 => by exfalso; revert hc25; decide)
      refine pv_iconst (pc := 38) (v := 1) (by decide) (fm_dec dtX11_brings 20 rfl) ?_
      refine pv_goto (pc := 39) 43 (by decide) (fm_dec dtX11_brings 21 rfl) ?_
      refine pv_iconst (pc := 43) (v := 1) (by decide) (fm_dec dtX11_brings 23 rfl) ?_
      refine pv_iconst (pc := 44) (v := 1) (by decide) (fm_dec dtX11_brings 24 rfl) ?_
      refine pv_invV3 (k := 0) (d' := 0) (pc := 45) pcv_X11_177 (by decide) rfl (Nat.le_of_ble_eq_true rfl) (by decide) (fm_dec dtX11_brings 25 rfl) ?_
      refine c_badT1 rfl (by decide) ?_
      refine pv_then1 ?_
      refine pv_if_eq (pc := 48) 53 (by decide) (fm_dec dtX11_brings 26 rfl) (fun hc48 => by exfalso; revert hc48; decide) (fun _ => ?_)
      refine pv_iconst (pc := 51) (v := 0) (by decide) (fm_dec dtX11_brings 27 rfl) ?_
      exact pv_ireturn (pc := 52) rfl (fm_dec dtX11_brings 28 rfl) (hf (by intro h9; first | exact h32 h9.2.2 | exact h22 h9.2.1 | exact h10 h9.1) _ rfl)
  · refine pv_then1 ?_
    refine pv_if_eq (pc := 13) 38 (by decide) (fm_dec dtX11_brings 8 rfl) (fun _ => ?_) (fun hc13 => by exfalso; revert hc13; decide)
    refine pv_iconst (pc := 38) (v := 1) (by decide) (fm_dec dtX11_brings 20 rfl) ?_
    refine pv_goto (pc := 39) 43 (by decide) (fm_dec dtX11_brings 21 rfl) ?_
    refine pv_iconst (pc := 43) (v := 1) (by decide) (fm_dec dtX11_brings 23 rfl) ?_
    refine pv_iconst (pc := 44) (v := 1) (by decide) (fm_dec dtX11_brings 24 rfl) ?_
    refine pv_invV3 (k := 0) (d' := 0) (pc := 45) pcv_X11_177 (by decide) rfl (Nat.le_of_ble_eq_true rfl) (by decide) (fm_dec dtX11_brings 25 rfl) ?_
    refine c_badT1 rfl (by decide) ?_
    refine pv_then1 ?_
    refine pv_if_eq (pc := 48) 53 (by decide) (fm_dec dtX11_brings 26 rfl) (fun hc48 => by exfalso; revert hc48; decide) (fun _ => ?_)
    refine pv_iconst (pc := 51) (v := 0) (by decide) (fm_dec dtX11_brings 27 rfl) ?_
    exact pv_ireturn (pc := 52) rfl (fm_dec dtX11_brings 28 rfl) (hf (by intro h9; first | exact h32 h9.2.2 | exact h22 h9.2.1 | exact h10 h9.1) _ rfl)
set_option maxRecDepth 20000 in
theorem sb_0 {Q : fmR → fmM → Prop} {M : fmM} {t b v x y : Int32} (hy : mnV t b v x y 0 < mnV t b v x y 2 → Q (.inl (some (.int 2))) M) (hn : ¬ mnV t b v x y 0 < mnV t b v x y 2 → Q (.inl (some (.int 0))) M) : pvEv Tm 1 qX11_saysBy 6 [some (.int t), some (.int b), some (.int v), some (.int x), some (.int y), some (.int 0), some (.int 2)] [] M Q := by
  refine pv_iload (pc := 6) (i := 6) rfl (fm_dec dtX11_saysBy 4 rfl) ?_
  refine pv_iconst (pc := 8) (v := 3) (by decide) (fm_dec dtX11_saysBy 5 rfl) ?_
  refine pv_icmp_ge (pc := 9) 52 (by decide) (fm_dec dtX11_saysBy 6 rfl) (fun hc9 => by exfalso; revert hc9; decide) (fun _ => ?_)
  refine pv_iloadn (pc := 12) (n := 0) 0 rfl rfl (fm_dec dtX11_saysBy 7 rfl) ?_
  refine pv_iloadn (pc := 13) (n := 1) 1 rfl rfl (fm_dec dtX11_saysBy 8 rfl) ?_
  refine pv_iloadn (pc := 14) (n := 2) 2 rfl rfl (fm_dec dtX11_saysBy 9 rfl) ?_
  refine pv_iloadn (pc := 15) (n := 3) 3 rfl rfl (fm_dec dtX11_saysBy 10 rfl) ?_
  refine pv_iload (pc := 16) (i := 4) rfl (fm_dec dtX11_saysBy 11 rfl) ?_
  refine pv_iload (pc := 18) (i := 6) rfl (fm_dec dtX11_saysBy 12 rfl) ?_
  refine pv_iS6 (d' := 0) (pc := 20) pcs_X11_393 (Nat.le_of_ble_eq_true rfl) (by decide) (fm_dec dtX11_saysBy 13 rfl) ?_
  refine c_bringsBy ?_
  refine pv_then1 ?_
  refine pv_iloadn (pc := 23) (n := 0) 0 rfl rfl (fm_dec dtX11_saysBy 14 rfl) ?_
  refine pv_iloadn (pc := 24) (n := 1) 1 rfl rfl (fm_dec dtX11_saysBy 15 rfl) ?_
  refine pv_iloadn (pc := 25) (n := 2) 2 rfl rfl (fm_dec dtX11_saysBy 16 rfl) ?_
  refine pv_iloadn (pc := 26) (n := 3) 3 rfl rfl (fm_dec dtX11_saysBy 17 rfl) ?_
  refine pv_iload (pc := 27) (i := 4) rfl (fm_dec dtX11_saysBy 18 rfl) ?_
  refine pv_iload (pc := 29) (i := 5) rfl (fm_dec dtX11_saysBy 19 rfl) ?_
  refine pv_iS6 (d' := 0) (pc := 31) pcs_X11_393 (Nat.le_of_ble_eq_true rfl) (by decide) (fm_dec dtX11_saysBy 20 rfl) ?_
  refine c_bringsBy ?_
  refine pv_then1 ?_
  refine pv_icmp_le (pc := 34) 42 (by decide) (fm_dec dtX11_saysBy 21 rfl) (fun hc34 => ?_) (fun hc34 => ?_)
  · refine pv_iload (pc := 42) (i := 5) rfl (fm_dec dtX11_saysBy 24 rfl) ?_
    refine pv_istore (pc := 44) (i := 5) (by decide) rfl (fm_dec dtX11_saysBy 25 rfl) ?_
    dsimp only [List.set_cons_zero, List.set_cons_succ]
    refine pv_iincc (pc := 46) 6 1 (by decide) rfl (by decide) rfl (fm_dec dtX11_saysBy 26 rfl) ?_
    dsimp only [List.set_cons_zero, List.set_cons_succ]
    rw [show (2 : Int32) + 1 = 3 by decide]
    refine pv_goto (pc := 49) 6 (by decide) (fm_dec dtX11_saysBy 27 rfl) ?_
    refine pv_iload (pc := 6) (i := 6) rfl (fm_dec dtX11_saysBy 4 rfl) ?_
    refine pv_iconst (pc := 8) (v := 3) (by decide) (fm_dec dtX11_saysBy 5 rfl) ?_
    refine pv_icmp_ge (pc := 9) 52 (by decide) (fm_dec dtX11_saysBy 6 rfl) (fun _ => ?_) (fun hc9 => by exfalso; revert hc9; decide)
    refine pv_iload (pc := 52) (i := 5) rfl (fm_dec dtX11_saysBy 28 rfl) ?_
    exact pv_ireturn (pc := 54) rfl (fm_dec dtX11_saysBy 29 rfl) (hn (by rw [sc_lt]; rw [sc_le] at hc34; omega))
  · refine pv_iload (pc := 37) (i := 6) rfl (fm_dec dtX11_saysBy 22 rfl) ?_
    refine pv_goto (pc := 39) 44 (by decide) (fm_dec dtX11_saysBy 23 rfl) ?_
    refine pv_istore (pc := 44) (i := 5) (by decide) rfl (fm_dec dtX11_saysBy 25 rfl) ?_
    dsimp only [List.set_cons_zero, List.set_cons_succ]
    refine pv_iincc (pc := 46) 6 1 (by decide) rfl (by decide) rfl (fm_dec dtX11_saysBy 26 rfl) ?_
    dsimp only [List.set_cons_zero, List.set_cons_succ]
    rw [show (2 : Int32) + 1 = 3 by decide]
    refine pv_goto (pc := 49) 6 (by decide) (fm_dec dtX11_saysBy 27 rfl) ?_
    refine pv_iload (pc := 6) (i := 6) rfl (fm_dec dtX11_saysBy 4 rfl) ?_
    refine pv_iconst (pc := 8) (v := 3) (by decide) (fm_dec dtX11_saysBy 5 rfl) ?_
    refine pv_icmp_ge (pc := 9) 52 (by decide) (fm_dec dtX11_saysBy 6 rfl) (fun _ => ?_) (fun hc9 => by exfalso; revert hc9; decide)
    refine pv_iload (pc := 52) (i := 5) rfl (fm_dec dtX11_saysBy 28 rfl) ?_
    exact pv_ireturn (pc := 54) rfl (fm_dec dtX11_saysBy 29 rfl) (hy (by rw [sc_lt]; rw [sc_le] at hc34; omega))
set_option maxRecDepth 20000 in
theorem sb_1 {Q : fmR → fmM → Prop} {M : fmM} {t b v x y : Int32} (hy : mnV t b v x y 1 < mnV t b v x y 2 → Q (.inl (some (.int 2))) M) (hn : ¬ mnV t b v x y 1 < mnV t b v x y 2 → Q (.inl (some (.int 1))) M) : pvEv Tm 1 qX11_saysBy 6 [some (.int t), some (.int b), some (.int v), some (.int x), some (.int y), some (.int 1), some (.int 2)] [] M Q := by
  refine pv_iload (pc := 6) (i := 6) rfl (fm_dec dtX11_saysBy 4 rfl) ?_
  refine pv_iconst (pc := 8) (v := 3) (by decide) (fm_dec dtX11_saysBy 5 rfl) ?_
  refine pv_icmp_ge (pc := 9) 52 (by decide) (fm_dec dtX11_saysBy 6 rfl) (fun hc9 => by exfalso; revert hc9; decide) (fun _ => ?_)
  refine pv_iloadn (pc := 12) (n := 0) 0 rfl rfl (fm_dec dtX11_saysBy 7 rfl) ?_
  refine pv_iloadn (pc := 13) (n := 1) 1 rfl rfl (fm_dec dtX11_saysBy 8 rfl) ?_
  refine pv_iloadn (pc := 14) (n := 2) 2 rfl rfl (fm_dec dtX11_saysBy 9 rfl) ?_
  refine pv_iloadn (pc := 15) (n := 3) 3 rfl rfl (fm_dec dtX11_saysBy 10 rfl) ?_
  refine pv_iload (pc := 16) (i := 4) rfl (fm_dec dtX11_saysBy 11 rfl) ?_
  refine pv_iload (pc := 18) (i := 6) rfl (fm_dec dtX11_saysBy 12 rfl) ?_
  refine pv_iS6 (d' := 0) (pc := 20) pcs_X11_393 (Nat.le_of_ble_eq_true rfl) (by decide) (fm_dec dtX11_saysBy 13 rfl) ?_
  refine c_bringsBy ?_
  refine pv_then1 ?_
  refine pv_iloadn (pc := 23) (n := 0) 0 rfl rfl (fm_dec dtX11_saysBy 14 rfl) ?_
  refine pv_iloadn (pc := 24) (n := 1) 1 rfl rfl (fm_dec dtX11_saysBy 15 rfl) ?_
  refine pv_iloadn (pc := 25) (n := 2) 2 rfl rfl (fm_dec dtX11_saysBy 16 rfl) ?_
  refine pv_iloadn (pc := 26) (n := 3) 3 rfl rfl (fm_dec dtX11_saysBy 17 rfl) ?_
  refine pv_iload (pc := 27) (i := 4) rfl (fm_dec dtX11_saysBy 18 rfl) ?_
  refine pv_iload (pc := 29) (i := 5) rfl (fm_dec dtX11_saysBy 19 rfl) ?_
  refine pv_iS6 (d' := 0) (pc := 31) pcs_X11_393 (Nat.le_of_ble_eq_true rfl) (by decide) (fm_dec dtX11_saysBy 20 rfl) ?_
  refine c_bringsBy ?_
  refine pv_then1 ?_
  refine pv_icmp_le (pc := 34) 42 (by decide) (fm_dec dtX11_saysBy 21 rfl) (fun hc34 => ?_) (fun hc34 => ?_)
  · refine pv_iload (pc := 42) (i := 5) rfl (fm_dec dtX11_saysBy 24 rfl) ?_
    refine pv_istore (pc := 44) (i := 5) (by decide) rfl (fm_dec dtX11_saysBy 25 rfl) ?_
    dsimp only [List.set_cons_zero, List.set_cons_succ]
    refine pv_iincc (pc := 46) 6 1 (by decide) rfl (by decide) rfl (fm_dec dtX11_saysBy 26 rfl) ?_
    dsimp only [List.set_cons_zero, List.set_cons_succ]
    rw [show (2 : Int32) + 1 = 3 by decide]
    refine pv_goto (pc := 49) 6 (by decide) (fm_dec dtX11_saysBy 27 rfl) ?_
    refine pv_iload (pc := 6) (i := 6) rfl (fm_dec dtX11_saysBy 4 rfl) ?_
    refine pv_iconst (pc := 8) (v := 3) (by decide) (fm_dec dtX11_saysBy 5 rfl) ?_
    refine pv_icmp_ge (pc := 9) 52 (by decide) (fm_dec dtX11_saysBy 6 rfl) (fun _ => ?_) (fun hc9 => by exfalso; revert hc9; decide)
    refine pv_iload (pc := 52) (i := 5) rfl (fm_dec dtX11_saysBy 28 rfl) ?_
    exact pv_ireturn (pc := 54) rfl (fm_dec dtX11_saysBy 29 rfl) (hn (by rw [sc_lt]; rw [sc_le] at hc34; omega))
  · refine pv_iload (pc := 37) (i := 6) rfl (fm_dec dtX11_saysBy 22 rfl) ?_
    refine pv_goto (pc := 39) 44 (by decide) (fm_dec dtX11_saysBy 23 rfl) ?_
    refine pv_istore (pc := 44) (i := 5) (by decide) rfl (fm_dec dtX11_saysBy 25 rfl) ?_
    dsimp only [List.set_cons_zero, List.set_cons_succ]
    refine pv_iincc (pc := 46) 6 1 (by decide) rfl (by decide) rfl (fm_dec dtX11_saysBy 26 rfl) ?_
    dsimp only [List.set_cons_zero, List.set_cons_succ]
    rw [show (2 : Int32) + 1 = 3 by decide]
    refine pv_goto (pc := 49) 6 (by decide) (fm_dec dtX11_saysBy 27 rfl) ?_
    refine pv_iload (pc := 6) (i := 6) rfl (fm_dec dtX11_saysBy 4 rfl) ?_
    refine pv_iconst (pc := 8) (v := 3) (by decide) (fm_dec dtX11_saysBy 5 rfl) ?_
    refine pv_icmp_ge (pc := 9) 52 (by decide) (fm_dec dtX11_saysBy 6 rfl) (fun _ => ?_) (fun hc9 => by exfalso; revert hc9; decide)
    refine pv_iload (pc := 52) (i := 5) rfl (fm_dec dtX11_saysBy 28 rfl) ?_
    exact pv_ireturn (pc := 54) rfl (fm_dec dtX11_saysBy 29 rfl) (hy (by rw [sc_lt]; rw [sc_le] at hc34; omega))
set_option maxRecDepth 20000 in
theorem c_saysBy {M : fmM} {Q : fmR → fmM → Prop} {t b v x y : Int32} (hq : Q (.inl (some (.int (bwV t b v x y)))) M) : pvGood Tm 1 qX11_saysBy [.int t, .int b, .int v, .int x, .int y] M Q := by
  refine pvGood_of (Nat.le_of_ble_eq_true rfl) ?_
  show pvEv Tm 1 qX11_saysBy 0 [some (.int t), some (.int b), some (.int v), some (.int x), some (.int y), none, none] [] M Q
  refine pv_iconst (pc := 0) (v := 0) (by decide) (fm_dec dtX11_saysBy 0 rfl) ?_
  refine pv_istore (pc := 1) (i := 5) (by decide) rfl (fm_dec dtX11_saysBy 1 rfl) ?_
  dsimp only [List.set_cons_zero, List.set_cons_succ]
  refine pv_iconst (pc := 3) (v := 1) (by decide) (fm_dec dtX11_saysBy 2 rfl) ?_
  refine pv_istore (pc := 4) (i := 6) (by decide) rfl (fm_dec dtX11_saysBy 3 rfl) ?_
  dsimp only [List.set_cons_zero, List.set_cons_succ]
  refine pv_iload (pc := 6) (i := 6) rfl (fm_dec dtX11_saysBy 4 rfl) ?_
  refine pv_iconst (pc := 8) (v := 3) (by decide) (fm_dec dtX11_saysBy 5 rfl) ?_
  refine pv_icmp_ge (pc := 9) 52 (by decide) (fm_dec dtX11_saysBy 6 rfl) (fun hc9 => by exfalso; revert hc9; decide) (fun _ => ?_)
  refine pv_iloadn (pc := 12) (n := 0) 0 rfl rfl (fm_dec dtX11_saysBy 7 rfl) ?_
  refine pv_iloadn (pc := 13) (n := 1) 1 rfl rfl (fm_dec dtX11_saysBy 8 rfl) ?_
  refine pv_iloadn (pc := 14) (n := 2) 2 rfl rfl (fm_dec dtX11_saysBy 9 rfl) ?_
  refine pv_iloadn (pc := 15) (n := 3) 3 rfl rfl (fm_dec dtX11_saysBy 10 rfl) ?_
  refine pv_iload (pc := 16) (i := 4) rfl (fm_dec dtX11_saysBy 11 rfl) ?_
  refine pv_iload (pc := 18) (i := 6) rfl (fm_dec dtX11_saysBy 12 rfl) ?_
  refine pv_iS6 (d' := 0) (pc := 20) pcs_X11_393 (Nat.le_of_ble_eq_true rfl) (by decide) (fm_dec dtX11_saysBy 13 rfl) ?_
  refine c_bringsBy ?_
  refine pv_then1 ?_
  refine pv_iloadn (pc := 23) (n := 0) 0 rfl rfl (fm_dec dtX11_saysBy 14 rfl) ?_
  refine pv_iloadn (pc := 24) (n := 1) 1 rfl rfl (fm_dec dtX11_saysBy 15 rfl) ?_
  refine pv_iloadn (pc := 25) (n := 2) 2 rfl rfl (fm_dec dtX11_saysBy 16 rfl) ?_
  refine pv_iloadn (pc := 26) (n := 3) 3 rfl rfl (fm_dec dtX11_saysBy 17 rfl) ?_
  refine pv_iload (pc := 27) (i := 4) rfl (fm_dec dtX11_saysBy 18 rfl) ?_
  refine pv_iload (pc := 29) (i := 5) rfl (fm_dec dtX11_saysBy 19 rfl) ?_
  refine pv_iS6 (d' := 0) (pc := 31) pcs_X11_393 (Nat.le_of_ble_eq_true rfl) (by decide) (fm_dec dtX11_saysBy 20 rfl) ?_
  refine c_bringsBy ?_
  refine pv_then1 ?_
  refine pv_icmp_le (pc := 34) 42 (by decide) (fm_dec dtX11_saysBy 21 rfl) (fun hc34 => ?_) (fun hc34 => ?_)
  · refine pv_iload (pc := 42) (i := 5) rfl (fm_dec dtX11_saysBy 24 rfl) ?_
    refine pv_istore (pc := 44) (i := 5) (by decide) rfl (fm_dec dtX11_saysBy 25 rfl) ?_
    dsimp only [List.set_cons_zero, List.set_cons_succ]
    refine pv_iincc (pc := 46) 6 1 (by decide) rfl (by decide) rfl (fm_dec dtX11_saysBy 26 rfl) ?_
    dsimp only [List.set_cons_zero, List.set_cons_succ]
    rw [show (1 : Int32) + 1 = 2 by decide]
    refine pv_goto (pc := 49) 6 (by decide) (fm_dec dtX11_saysBy 27 rfl) ?_
    have e1 : b1V t b v x y = 0 := if_neg (by rw [sc_lt]; rw [sc_le] at hc34; omega)
    refine sb_0 (fun h => ?_) (fun h => ?_)
    · have h9 := hq; unfold bwV at h9; rw [e1, if_pos h] at h9; exact h9
    · have h9 := hq; unfold bwV at h9; rw [e1, if_neg h] at h9; exact h9
  · refine pv_iload (pc := 37) (i := 6) rfl (fm_dec dtX11_saysBy 22 rfl) ?_
    refine pv_goto (pc := 39) 44 (by decide) (fm_dec dtX11_saysBy 23 rfl) ?_
    refine pv_istore (pc := 44) (i := 5) (by decide) rfl (fm_dec dtX11_saysBy 25 rfl) ?_
    dsimp only [List.set_cons_zero, List.set_cons_succ]
    refine pv_iincc (pc := 46) 6 1 (by decide) rfl (by decide) rfl (fm_dec dtX11_saysBy 26 rfl) ?_
    dsimp only [List.set_cons_zero, List.set_cons_succ]
    rw [show (1 : Int32) + 1 = 2 by decide]
    refine pv_goto (pc := 49) 6 (by decide) (fm_dec dtX11_saysBy 27 rfl) ?_
    have e1 : b1V t b v x y = 1 := if_pos (by rw [sc_lt]; rw [sc_le] at hc34; omega)
    refine sb_1 (fun h => ?_) (fun h => ?_)
    · have h9 := hq; unfold bwV at h9; rw [e1, if_pos h] at h9; exact h9
    · have h9 := hq; unfold bwV at h9; rw [e1, if_neg h] at h9; exact h9
set_option maxRecDepth 20000 in
theorem c_msays {M : fmM} {Q : fmR → fmM → Prop} {t b v x y : Int32} (ht : inW t 0 16 ∧ rgR b v x y → Q (.inl (some (.int (bwV t b v x y)))) (fmI M 0 0 0)) (hf : ¬ (inW t 0 16 ∧ rgR b v x y) → ∀ M' : fmM, M'.1 0 0 = 1 → Q (.inl (some (.int 0))) M') : pvGood Tm 2 qX11_says [.ref 0, .int t, .int b, .int v, .int x, .int y] M Q := by
  refine pvGood_of (Nat.le_of_ble_eq_true rfl) ?_
  show pvEv Tm 2 qX11_says 0 [some (.ref 0), some (.int t), some (.int b), some (.int v), some (.int x), some (.int y)] [] M Q
  refine pv_aloadn (pc := 0) (n := 0) 0 rfl rfl (fm_dec dtX11_says 0 rfl) ?_
  refine pv_iconst (pc := 1) (v := 0) (by decide) (fm_dec dtX11_says 1 rfl) ?_
  refine pv_putI (k := 0) (j := 0) (ci := 11) (pc := 2) pfl_X11_101 (by decide) rfl (by decide) (fm_dec dtX11_says 2 rfl) ?_
  refine pv_aloadn (pc := 5) (n := 0) 0 rfl rfl (fm_dec dtX11_says 3 rfl) ?_
  refine pv_iloadn (pc := 6) (n := 1) 1 rfl rfl (fm_dec dtX11_says 4 rfl) ?_
  refine pv_iconst (pc := 7) (v := 0) (by decide) (fm_dec dtX11_says 5 rfl) ?_
  refine pv_bipush (pc := 8) (v := 16) (by decide) (fm_dec dtX11_says 6 rfl) ?_
  refine pv_iS3 (d' := 0) (pc := 10) pcs_X11_135 (Nat.le_of_ble_eq_true rfl) (by decide) (fm_dec dtX11_says 7 rfl) ?_
  refine c_in (fun h10a h10b => ?_) (fun h10 => ?_)
  · refine pv_then1 ?_
    refine pv_if_eq (pc := 13) 28 (by decide) (fm_dec dtX11_says 8 rfl) (fun hc13 => by exfalso; revert hc13; decide) (fun _ => ?_)
    refine pv_iloadn (pc := 16) (n := 2) 2 rfl rfl (fm_dec dtX11_says 9 rfl) ?_
    refine pv_iloadn (pc := 17) (n := 3) 3 rfl rfl (fm_dec dtX11_says 10 rfl) ?_
    refine pv_iload (pc := 18) (i := 4) rfl (fm_dec dtX11_says 11 rfl) ?_
    refine pv_iload (pc := 20) (i := 5) rfl (fm_dec dtX11_says 12 rfl) ?_
    refine pv_iS4 (d' := 1) (pc := 22) pcs_X11_389 (Nat.le_of_ble_eq_true rfl) (by decide) (fm_dec dtX11_says 13 rfl) ?_
    refine c_isRum (fun h22 => ?_) (fun h22 => ?_)
    · refine pv_then1 ?_
      refine pv_if_ne (pc := 25) 32 (by decide) (fm_dec dtX11_says 14 rfl) (fun _ => ?_) (fun hc25 => by exfalso; revert hc25; decide)
      refine pv_iconst (pc := 32) (v := 0) (by decide) (fm_dec dtX11_says 17 rfl) ?_
      refine pv_iconst (pc := 33) (v := 1) (by decide) (fm_dec dtX11_says 18 rfl) ?_
      refine pv_iconst (pc := 34) (v := 1) (by decide) (fm_dec dtX11_says 19 rfl) ?_
      refine pv_invV3 (k := 0) (d' := 0) (pc := 35) pcv_X11_177 (by decide) rfl (Nat.le_of_ble_eq_true rfl) (by decide) (fm_dec dtX11_says 20 rfl) ?_
      refine c_badF1 rfl ?_
      refine pv_then1 ?_
      refine pv_if_eq (pc := 38) 43 (by decide) (fm_dec dtX11_says 21 rfl) (fun _ => ?_) (fun hc38 => by exfalso; revert hc38; decide)
      refine pv_iloadn (pc := 43) (n := 1) 1 rfl rfl (fm_dec dtX11_says 24 rfl) ?_
      refine pv_iloadn (pc := 44) (n := 2) 2 rfl rfl (fm_dec dtX11_says 25 rfl) ?_
      refine pv_iloadn (pc := 45) (n := 3) 3 rfl rfl (fm_dec dtX11_says 26 rfl) ?_
      refine pv_iload (pc := 46) (i := 4) rfl (fm_dec dtX11_says 27 rfl) ?_
      refine pv_iload (pc := 48) (i := 5) rfl (fm_dec dtX11_says 28 rfl) ?_
      refine pv_iS5 (d' := 1) (pc := 50) pcs_X11_397 (Nat.le_of_ble_eq_true rfl) (by decide) (fm_dec dtX11_says 29 rfl) ?_
      refine c_saysBy ?_
      refine pv_then1 ?_
      exact pv_ireturn (pc := 53) rfl (fm_dec dtX11_says 30 rfl) (ht ⟨⟨h10a, h10b⟩, h22⟩)
    · refine pv_then1 ?_
      refine pv_if_ne (pc := 25) 32 (by decide) (fm_dec dtX11_says 14 rfl) (fun hc25 => by exfalso; revert hc25; decide) (fun _ => ?_)
      refine pv_iconst (pc := 28) (v := 1) (by decide) (fm_dec dtX11_says 15 rfl) ?_
      refine pv_goto (pc := 29) 33 (by decide) (fm_dec dtX11_says 16 rfl) ?_
      refine pv_iconst (pc := 33) (v := 1) (by decide) (fm_dec dtX11_says 18 rfl) ?_
      refine pv_iconst (pc := 34) (v := 1) (by decide) (fm_dec dtX11_says 19 rfl) ?_
      refine pv_invV3 (k := 0) (d' := 0) (pc := 35) pcv_X11_177 (by decide) rfl (Nat.le_of_ble_eq_true rfl) (by decide) (fm_dec dtX11_says 20 rfl) ?_
      refine c_badT1 rfl (by decide) ?_
      refine pv_then1 ?_
      refine pv_if_eq (pc := 38) 43 (by decide) (fm_dec dtX11_says 21 rfl) (fun hc38 => by exfalso; revert hc38; decide) (fun _ => ?_)
      refine pv_iconst (pc := 41) (v := 0) (by decide) (fm_dec dtX11_says 22 rfl) ?_
      exact pv_ireturn (pc := 42) rfl (fm_dec dtX11_says 23 rfl) (hf (by intro h9; first | exact h22 h9.2 | exact h10 h9.1) _ rfl)
  · refine pv_then1 ?_
    refine pv_if_eq (pc := 13) 28 (by decide) (fm_dec dtX11_says 8 rfl) (fun _ => ?_) (fun hc13 => by exfalso; revert hc13; decide)
    refine pv_iconst (pc := 28) (v := 1) (by decide) (fm_dec dtX11_says 15 rfl) ?_
    refine pv_goto (pc := 29) 33 (by decide) (fm_dec dtX11_says 16 rfl) ?_
    refine pv_iconst (pc := 33) (v := 1) (by decide) (fm_dec dtX11_says 18 rfl) ?_
    refine pv_iconst (pc := 34) (v := 1) (by decide) (fm_dec dtX11_says 19 rfl) ?_
    refine pv_invV3 (k := 0) (d' := 0) (pc := 35) pcv_X11_177 (by decide) rfl (Nat.le_of_ble_eq_true rfl) (by decide) (fm_dec dtX11_says 20 rfl) ?_
    refine c_badT1 rfl (by decide) ?_
    refine pv_then1 ?_
    refine pv_if_eq (pc := 38) 43 (by decide) (fm_dec dtX11_says 21 rfl) (fun hc38 => by exfalso; revert hc38; decide) (fun _ => ?_)
    refine pv_iconst (pc := 41) (v := 0) (by decide) (fm_dec dtX11_says 22 rfl) ?_
    exact pv_ireturn (pc := 42) rfl (fm_dec dtX11_says 23 rfl) (hf (by intro h9; first | exact h22 h9.2 | exact h10 h9.1) _ rfl)
set_option maxRecDepth 20000 in
theorem ln_m {Q : fmR → fmM → Prop} {M : fmM} {b v x y : Int32} : ∀ (n k : Nat), k + n = 17 → Q (.inl (some (.int (lnV b v x y n k)))) M → pvEv Tm 2 qX11_line 35 [some (.ref 0), some (.int b), some (.int v), some (.int x), some (.int y), some (.int (nI k))] [] M Q := by
  intro n
  induction n with
  | zero =>
    intro k hk hq
    refine pv_iload (pc := 35) (i := 5) rfl (fm_dec dtX11_line 21 rfl) ?_
    refine pv_bipush (pc := 37) (v := 16) (by decide) (fm_dec dtX11_line 22 rfl) ?_
    refine pv_icmp_gt (pc := 39) 64 (by decide) (fm_dec dtX11_line 23 rfl) (fun _ => ?_) (fun hc39 => by exfalso; apply hc39; rw [sc_lt]; have h8 : (16 : Int32).toInt = 16 := (by decide); have h7 : (nI k).toInt = (k : Int) := nI_toInt (by omega); omega)
    refine pv_iconst (pc := 64) (v := (-1)) (by decide) (fm_dec dtX11_line 35 rfl) ?_
    exact pv_ireturn (pc := 65) rfl (fm_dec dtX11_line 36 rfl) (hq : _)
  | succ n ih =>
    intro k hk hq
    refine pv_iload (pc := 35) (i := 5) rfl (fm_dec dtX11_line 21 rfl) ?_
    refine pv_bipush (pc := 37) (v := 16) (by decide) (fm_dec dtX11_line 22 rfl) ?_
    refine pv_icmp_gt (pc := 39) 64 (by decide) (fm_dec dtX11_line 23 rfl) (fun hc39 => by exfalso; rw [sc_lt] at hc39; have h8 : (16 : Int32).toInt = 16 := (by decide); have h7 : (nI k).toInt = (k : Int) := nI_toInt (by omega); omega) (fun _ => ?_)
    refine pv_iload (pc := 42) (i := 5) rfl (fm_dec dtX11_line 24 rfl) ?_
    refine pv_iloadn (pc := 44) (n := 1) 1 rfl rfl (fm_dec dtX11_line 25 rfl) ?_
    refine pv_iloadn (pc := 45) (n := 2) 2 rfl rfl (fm_dec dtX11_line 26 rfl) ?_
    refine pv_iloadn (pc := 46) (n := 3) 3 rfl rfl (fm_dec dtX11_line 27 rfl) ?_
    refine pv_iload (pc := 47) (i := 4) rfl (fm_dec dtX11_line 28 rfl) ?_
    refine pv_iS5 (d' := 1) (pc := 49) pcs_X11_397 (Nat.le_of_ble_eq_true rfl) (by decide) (fm_dec dtX11_line 29 rfl) ?_
    refine c_saysBy ?_
    refine pv_then1 ?_
    refine pv_if_ne (pc := 52) 58 (by decide) (fm_dec dtX11_line 30 rfl) (fun hc52 => ?_) (fun hc52 => ?_)
    · refine pv_iincc (pc := 58) 5 1 (by decide) rfl (by decide) rfl (fm_dec dtX11_line 33 rfl) ?_
      dsimp only [List.set_cons_zero, List.set_cons_succ]
      refine pv_goto (pc := 61) 35 (by decide) (fm_dec dtX11_line 34 rfl) ?_
      rw [nI_succ1]
      refine ih (k + 1) (by omega) ?_
      have h9 := hq; simp only [lnV] at h9; rw [if_neg hc52] at h9; exact h9
    · refine pv_iload (pc := 55) (i := 5) rfl (fm_dec dtX11_line 31 rfl) ?_
      exact pv_ireturn (pc := 57) rfl (fm_dec dtX11_line 32 rfl) (by have h9 := hq; simp only [lnV] at h9; rw [if_pos hc52] at h9; exact h9)
set_option maxRecDepth 20000 in
theorem c_mline {M : fmM} {Q : fmR → fmM → Prop} {b v x y : Int32} (ht : rgR b v x y → Q (.inl (some (.int (lnV b v x y 17 0)))) (fmI M 0 0 0)) (hf : ¬ (rgR b v x y) → ∀ M' : fmM, M'.1 0 0 = 1 → Q (.inl (some (.int 0))) M') : pvGood Tm 2 qX11_line [.ref 0, .int b, .int v, .int x, .int y] M Q := by
  refine pvGood_of (Nat.le_of_ble_eq_true rfl) ?_
  show pvEv Tm 2 qX11_line 0 [some (.ref 0), some (.int b), some (.int v), some (.int x), some (.int y), none] [] M Q
  refine pv_aloadn (pc := 0) (n := 0) 0 rfl rfl (fm_dec dtX11_line 0 rfl) ?_
  refine pv_iconst (pc := 1) (v := 0) (by decide) (fm_dec dtX11_line 1 rfl) ?_
  refine pv_putI (k := 0) (j := 0) (ci := 11) (pc := 2) pfl_X11_101 (by decide) rfl (by decide) (fm_dec dtX11_line 2 rfl) ?_
  refine pv_aloadn (pc := 5) (n := 0) 0 rfl rfl (fm_dec dtX11_line 3 rfl) ?_
  refine pv_iloadn (pc := 6) (n := 1) 1 rfl rfl (fm_dec dtX11_line 4 rfl) ?_
  refine pv_iloadn (pc := 7) (n := 2) 2 rfl rfl (fm_dec dtX11_line 5 rfl) ?_
  refine pv_iloadn (pc := 8) (n := 3) 3 rfl rfl (fm_dec dtX11_line 6 rfl) ?_
  refine pv_iload (pc := 9) (i := 4) rfl (fm_dec dtX11_line 7 rfl) ?_
  refine pv_iS4 (d' := 1) (pc := 11) pcs_X11_389 (Nat.le_of_ble_eq_true rfl) (by decide) (fm_dec dtX11_line 8 rfl) ?_
  refine c_isRum (fun h11 => ?_) (fun h11 => ?_)
  · refine pv_then1 ?_
    refine pv_if_ne (pc := 14) 21 (by decide) (fm_dec dtX11_line 9 rfl) (fun _ => ?_) (fun hc14 => by exfalso; revert hc14; decide)
    refine pv_iconst (pc := 21) (v := 0) (by decide) (fm_dec dtX11_line 12 rfl) ?_
    refine pv_iconst (pc := 22) (v := 1) (by decide) (fm_dec dtX11_line 13 rfl) ?_
    refine pv_iconst (pc := 23) (v := 1) (by decide) (fm_dec dtX11_line 14 rfl) ?_
    refine pv_invV3 (k := 0) (d' := 0) (pc := 24) pcv_X11_177 (by decide) rfl (Nat.le_of_ble_eq_true rfl) (by decide) (fm_dec dtX11_line 15 rfl) ?_
    refine c_badF1 rfl ?_
    refine pv_then1 ?_
    refine pv_if_eq (pc := 27) 32 (by decide) (fm_dec dtX11_line 16 rfl) (fun _ => ?_) (fun hc27 => by exfalso; revert hc27; decide)
    refine pv_iconst (pc := 32) (v := 0) (by decide) (fm_dec dtX11_line 19 rfl) ?_
    refine pv_istore (pc := 33) (i := 5) (by decide) rfl (fm_dec dtX11_line 20 rfl) ?_
    dsimp only [List.set_cons_zero, List.set_cons_succ]
    exact ln_m 17 0 (by decide) (ht h11)
  · refine pv_then1 ?_
    refine pv_if_ne (pc := 14) 21 (by decide) (fm_dec dtX11_line 9 rfl) (fun hc14 => by exfalso; revert hc14; decide) (fun _ => ?_)
    refine pv_iconst (pc := 17) (v := 1) (by decide) (fm_dec dtX11_line 10 rfl) ?_
    refine pv_goto (pc := 18) 22 (by decide) (fm_dec dtX11_line 11 rfl) ?_
    refine pv_iconst (pc := 22) (v := 1) (by decide) (fm_dec dtX11_line 13 rfl) ?_
    refine pv_iconst (pc := 23) (v := 1) (by decide) (fm_dec dtX11_line 14 rfl) ?_
    refine pv_invV3 (k := 0) (d' := 0) (pc := 24) pcv_X11_177 (by decide) rfl (Nat.le_of_ble_eq_true rfl) (by decide) (fm_dec dtX11_line 15 rfl) ?_
    refine c_badT1 rfl (by decide) ?_
    refine pv_then1 ?_
    refine pv_if_eq (pc := 27) 32 (by decide) (fm_dec dtX11_line 16 rfl) (fun hc27 => by exfalso; revert hc27; decide) (fun _ => ?_)
    refine pv_iconst (pc := 30) (v := 0) (by decide) (fm_dec dtX11_line 17 rfl) ?_
    exact pv_ireturn (pc := 31) rfl (fm_dec dtX11_line 18 rfl) (hf h11 _ rfl)
theorem xe_brings {M : fmM} {t b v x y w : Int32} : pvGood Tx 2 qX10_brings [.ref 0, .int t, .int b, .int v, .int x, .int y, .int w] M (fun r _ => ((inW t 0 16 ∧ rgR b v x y ∧ inW w 0 2) ∧ r = .inl (some (.int (mnV t b v x y w)))) ∨ (¬ (inW t 0 16 ∧ rgR b v x y ∧ inW w 0 2) ∧ r = .inr fmIAE)) := c_xbrings (fun h => Or.inl ⟨h, rfl⟩) (fun h => Or.inr ⟨h, rfl⟩)
theorem me_brings {M : fmM} {t b v x y w : Int32} : pvGood Tm 2 qX11_brings [.ref 0, .int t, .int b, .int v, .int x, .int y, .int w] M (fun r M' => ((inW t 0 16 ∧ rgR b v x y ∧ inW w 0 2) ∧ r = .inl (some (.int (mnV t b v x y w))) ∧ M'.1 0 0 = 0) ∨ (¬ (inW t 0 16 ∧ rgR b v x y ∧ inW w 0 2) ∧ M'.1 0 0 = 1)) := c_mbrings (fun h => Or.inl ⟨h, rfl, rfl⟩) (fun h M' e => Or.inr ⟨h, e⟩)
theorem xe_says {M : fmM} {t b v x y : Int32} : pvGood Tx 2 qX10_says [.ref 0, .int t, .int b, .int v, .int x, .int y] M (fun r _ => ((inW t 0 16 ∧ rgR b v x y) ∧ r = .inl (some (.int (bwV t b v x y)))) ∨ (¬ (inW t 0 16 ∧ rgR b v x y) ∧ r = .inr fmIAE)) := c_xsays (fun h => Or.inl ⟨h, rfl⟩) (fun h => Or.inr ⟨h, rfl⟩)
theorem me_says {M : fmM} {t b v x y : Int32} : pvGood Tm 2 qX11_says [.ref 0, .int t, .int b, .int v, .int x, .int y] M (fun r M' => ((inW t 0 16 ∧ rgR b v x y) ∧ r = .inl (some (.int (bwV t b v x y))) ∧ M'.1 0 0 = 0) ∨ (¬ (inW t 0 16 ∧ rgR b v x y) ∧ M'.1 0 0 = 1)) := c_msays (fun h => Or.inl ⟨h, rfl, rfl⟩) (fun h M' e => Or.inr ⟨h, e⟩)
theorem xe_line {M : fmM} {b v x y : Int32} : pvGood Tx 2 qX10_line [.ref 0, .int b, .int v, .int x, .int y] M (fun r _ => ((rgR b v x y) ∧ r = .inl (some (.int (lnV b v x y 17 0)))) ∨ (¬ (rgR b v x y) ∧ r = .inr fmIAE)) := c_xline (fun h => Or.inl ⟨h, rfl⟩) (fun h => Or.inr ⟨h, rfl⟩)
theorem me_line {M : fmM} {b v x y : Int32} : pvGood Tm 2 qX11_line [.ref 0, .int b, .int v, .int x, .int y] M (fun r M' => ((rgR b v x y) ∧ r = .inl (some (.int (lnV b v x y 17 0))) ∧ M'.1 0 0 = 0) ∨ (¬ (rgR b v x y) ∧ M'.1 0 0 = 1)) := c_mline (fun h => Or.inl ⟨h, rfl, rfl⟩) (fun h M' e => Or.inr ⟨h, e⟩)
end

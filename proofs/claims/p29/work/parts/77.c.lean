section RULES
variable {X : Tok} {d : Nat} {st L : List Value} {h : Hp} {mu : Nat → Nat → Int32} {la : Nat → Nat → Int64} {ro : Nat → Nat → Option Nat} {et : Nat → Option va_E}
def tbl_0 : List (Nat × Instr × Nat) := [(0, .new 7, 3), (3, .dup, 1), (4, .invokespecial 9, 3), (7, .astore_n 1, 1), (8, .new 10, 3), (11, .dup, 1), (12, .invokespecial 12, 3), (15, .astore_n 2, 1), (16, .iconst 0, 1), (17, .istore_n 3, 1), (18, .iload_n 3, 1), (19, .aload_n 0, 1), (20, .arraylength, 1), (21, .bipush 6, 2), (23, .isub, 1), (24, .if_icmp .gt 1526, 3), (27, .aload_n 0, 1), (28, .iload_n 3, 1), (29, .iaload, 1), (30, .bipush 63, 2), (32, .iand, 1), (33, .tableswitch 1511 0 37 #[167, 200, 213, 246, 289, 332, 345, 378, 431, 464, 487, 510, 563, 616, 659, 692, 735, 768, 811, 844, 887, 900, 943, 986, 1029, 1062, 1095, 1108, 1121, 1144, 1187, 1210, 1243, 1286, 1359, 1392, 1455, 1488], 167), (200, .aload_n 1, 1), (201, .aload_n 0, 1)]
def tbl_1 : List (Nat × Instr × Nat) := [(202, .iload_n 3, 1), (203, .iconst 1, 1), (204, .iadd, 1), (205, .iaload, 1), (206, .aload_n 0, 1), (207, .iload_n 3, 1), (208, .iconst 2, 1), (209, .iadd, 1), (210, .iaload, 1), (211, .invokevirtual 13, 3), (214, .pop, 1), (215, .aload_n 2, 1), (216, .aload_n 0, 1), (217, .iload_n 3, 1), (218, .iconst 1, 1), (219, .iadd, 1), (220, .iaload, 1), (221, .aload_n 0, 1), (222, .iload_n 3, 1), (223, .iconst 2, 1), (224, .iadd, 1), (225, .iaload, 1), (226, .invokevirtual 17, 3), (229, .pop, 1)]
def tbl_2 : List (Nat × Instr × Nat) := [(230, .goto 1314, 3), (233, .aload_n 1, 1), (234, .invokevirtual 18, 3), (237, .pop, 1), (238, .aload_n 2, 1), (239, .invokevirtual 22, 3), (242, .pop, 1), (243, .goto 1301, 3), (246, .aload_n 1, 1), (247, .aload_n 0, 1), (248, .iload_n 3, 1), (249, .iconst 1, 1), (250, .iadd, 1), (251, .iaload, 1), (252, .aload_n 0, 1), (253, .iload_n 3, 1), (254, .iconst 2, 1), (255, .iadd, 1), (256, .iaload, 1), (257, .invokevirtual 23, 3), (260, .pop, 1), (261, .aload_n 2, 1), (262, .aload_n 0, 1), (263, .iload_n 3, 1)]
def tbl_3 : List (Nat × Instr × Nat) := [(264, .iconst 1, 1), (265, .iadd, 1), (266, .iaload, 1), (267, .aload_n 0, 1), (268, .iload_n 3, 1), (269, .iconst 2, 1), (270, .iadd, 1), (271, .iaload, 1), (272, .invokevirtual 26, 3), (275, .pop, 1), (276, .goto 1268, 3), (279, .aload_n 1, 1), (280, .aload_n 0, 1), (281, .iload_n 3, 1), (282, .iconst 1, 1), (283, .iadd, 1), (284, .iaload, 1), (285, .aload_n 0, 1), (286, .iload_n 3, 1), (287, .iconst 2, 1), (288, .iadd, 1), (289, .iaload, 1), (290, .aload_n 0, 1), (291, .iload_n 3, 1)]
def tbl_4 : List (Nat × Instr × Nat) := [(292, .iconst 3, 1), (293, .iadd, 1), (294, .iaload, 1), (295, .invokevirtual 27, 3), (298, .pop, 1), (299, .aload_n 2, 1), (300, .aload_n 0, 1), (301, .iload_n 3, 1), (302, .iconst 1, 1), (303, .iadd, 1), (304, .iaload, 1), (305, .aload_n 0, 1), (306, .iload_n 3, 1), (307, .iconst 2, 1), (308, .iadd, 1), (309, .iaload, 1), (310, .aload_n 0, 1), (311, .iload_n 3, 1), (312, .iconst 3, 1), (313, .iadd, 1), (314, .iaload, 1), (315, .invokevirtual 31, 3), (318, .pop, 1), (319, .goto 1225, 3)]
def tbl_5 : List (Nat × Instr × Nat) := [(322, .aload_n 1, 1), (323, .aload_n 0, 1), (324, .iload_n 3, 1), (325, .iconst 1, 1), (326, .iadd, 1), (327, .iaload, 1), (328, .aload_n 0, 1), (329, .iload_n 3, 1), (330, .iconst 2, 1), (331, .iadd, 1), (332, .iaload, 1), (333, .aload_n 0, 1), (334, .iload_n 3, 1), (335, .iconst 3, 1), (336, .iadd, 1), (337, .iaload, 1), (338, .invokevirtual 32, 3), (341, .pop, 1), (342, .aload_n 2, 1), (343, .aload_n 0, 1), (344, .iload_n 3, 1), (345, .iconst 1, 1), (346, .iadd, 1), (347, .iaload, 1)]
def tbl_6 : List (Nat × Instr × Nat) := [(348, .aload_n 0, 1), (349, .iload_n 3, 1), (350, .iconst 2, 1), (351, .iadd, 1), (352, .iaload, 1), (353, .aload_n 0, 1), (354, .iload_n 3, 1), (355, .iconst 3, 1), (356, .iadd, 1), (357, .iaload, 1), (358, .invokevirtual 35, 3), (361, .pop, 1), (362, .goto 1182, 3), (365, .aload_n 1, 1), (366, .invokevirtual 36, 3), (369, .pop, 1), (370, .aload_n 2, 1), (371, .invokevirtual 39, 3), (374, .pop, 1), (375, .goto 1169, 3), (378, .aload_n 1, 1), (379, .aload_n 0, 1), (380, .iload_n 3, 1), (381, .iconst 1, 1)]
def tbl_7 : List (Nat × Instr × Nat) := [(382, .iadd, 1), (383, .iaload, 1), (384, .aload_n 0, 1), (385, .iload_n 3, 1), (386, .iconst 2, 1), (387, .iadd, 1), (388, .iaload, 1), (389, .invokevirtual 40, 3), (392, .pop, 1), (393, .aload_n 2, 1), (394, .aload_n 0, 1), (395, .iload_n 3, 1), (396, .iconst 1, 1), (397, .iadd, 1), (398, .iaload, 1), (399, .aload_n 0, 1), (400, .iload_n 3, 1), (401, .iconst 2, 1), (402, .iadd, 1), (403, .iaload, 1), (404, .invokevirtual 43, 3), (407, .pop, 1), (408, .goto 1136, 3), (411, .aload_n 1, 1)]
def tbl_8 : List (Nat × Instr × Nat) := [(412, .aload_n 0, 1), (413, .iload_n 3, 1), (414, .iconst 1, 1), (415, .iadd, 1), (416, .iaload, 1), (417, .aload_n 0, 1), (418, .iload_n 3, 1), (419, .iconst 2, 1), (420, .iadd, 1), (421, .iaload, 1), (422, .aload_n 0, 1), (423, .iload_n 3, 1), (424, .iconst 3, 1), (425, .iadd, 1), (426, .iaload, 1), (427, .aload_n 0, 1), (428, .iload_n 3, 1), (429, .iconst 4, 1), (430, .iadd, 1), (431, .iaload, 1), (432, .invokevirtual 44, 3), (435, .pop, 1), (436, .aload_n 2, 1), (437, .aload_n 0, 1)]
def tbl_9 : List (Nat × Instr × Nat) := [(438, .iload_n 3, 1), (439, .iconst 1, 1), (440, .iadd, 1), (441, .iaload, 1), (442, .aload_n 0, 1), (443, .iload_n 3, 1), (444, .iconst 2, 1), (445, .iadd, 1), (446, .iaload, 1), (447, .aload_n 0, 1), (448, .iload_n 3, 1), (449, .iconst 3, 1), (450, .iadd, 1), (451, .iaload, 1), (452, .aload_n 0, 1), (453, .iload_n 3, 1), (454, .iconst 4, 1), (455, .iadd, 1), (456, .iaload, 1), (457, .invokevirtual 48, 3), (460, .pop, 1), (461, .goto 1083, 3), (464, .aload_n 1, 1), (465, .aload_n 0, 1)]
def tbl_10 : List (Nat × Instr × Nat) := [(466, .iload_n 3, 1), (467, .iconst 1, 1), (468, .iadd, 1), (469, .iaload, 1), (470, .aload_n 0, 1), (471, .iload_n 3, 1), (472, .iconst 2, 1), (473, .iadd, 1), (474, .iaload, 1), (475, .invokevirtual 49, 3), (478, .pop, 1), (479, .aload_n 2, 1), (480, .aload_n 0, 1), (481, .iload_n 3, 1), (482, .iconst 1, 1), (483, .iadd, 1), (484, .iaload, 1), (485, .aload_n 0, 1), (486, .iload_n 3, 1), (487, .iconst 2, 1), (488, .iadd, 1), (489, .iaload, 1), (490, .invokevirtual 52, 3), (493, .pop, 1)]
def tbl_11 : List (Nat × Instr × Nat) := [(494, .goto 1050, 3), (497, .aload_n 1, 1), (498, .aload_n 0, 1), (499, .iload_n 3, 1), (500, .iconst 1, 1), (501, .iadd, 1), (502, .iaload, 1), (503, .invokevirtual 53, 3), (506, .pop, 1), (507, .aload_n 2, 1), (508, .aload_n 0, 1), (509, .iload_n 3, 1), (510, .iconst 1, 1), (511, .iadd, 1), (512, .iaload, 1), (513, .invokevirtual 57, 3), (516, .pop, 1), (517, .goto 1027, 3), (520, .aload_n 1, 1), (521, .aload_n 0, 1), (522, .iload_n 3, 1), (523, .iconst 1, 1), (524, .iadd, 1), (525, .iaload, 1)]
def tbl_12 : List (Nat × Instr × Nat) := [(526, .invokevirtual 58, 3), (529, .pop, 1), (530, .aload_n 2, 1), (531, .aload_n 0, 1), (532, .iload_n 3, 1), (533, .iconst 1, 1), (534, .iadd, 1), (535, .iaload, 1), (536, .invokevirtual 61, 3), (539, .pop, 1), (540, .goto 1004, 3), (543, .aload_n 1, 1), (544, .aload_n 0, 1), (545, .iload_n 3, 1), (546, .iconst 1, 1), (547, .iadd, 1), (548, .iaload, 1), (549, .aload_n 0, 1), (550, .iload_n 3, 1), (551, .iconst 2, 1), (552, .iadd, 1), (553, .iaload, 1), (554, .aload_n 0, 1), (555, .iload_n 3, 1)]
def tbl_13 : List (Nat × Instr × Nat) := [(556, .iconst 3, 1), (557, .iadd, 1), (558, .iaload, 1), (559, .aload_n 0, 1), (560, .iload_n 3, 1), (561, .iconst 4, 1), (562, .iadd, 1), (563, .iaload, 1), (564, .invokevirtual 62, 3), (567, .pop, 1), (568, .aload_n 2, 1), (569, .aload_n 0, 1), (570, .iload_n 3, 1), (571, .iconst 1, 1), (572, .iadd, 1), (573, .iaload, 1), (574, .aload_n 0, 1), (575, .iload_n 3, 1), (576, .iconst 2, 1), (577, .iadd, 1), (578, .iaload, 1), (579, .aload_n 0, 1), (580, .iload_n 3, 1), (581, .iconst 3, 1)]
def tbl_14 : List (Nat × Instr × Nat) := [(582, .iadd, 1), (583, .iaload, 1), (584, .aload_n 0, 1), (585, .iload_n 3, 1), (586, .iconst 4, 1), (587, .iadd, 1), (588, .iaload, 1), (589, .invokevirtual 65, 3), (592, .pop, 1), (593, .goto 951, 3), (596, .aload_n 1, 1), (597, .aload_n 0, 1), (598, .iload_n 3, 1), (599, .iconst 1, 1), (600, .iadd, 1), (601, .iaload, 1), (602, .aload_n 0, 1), (603, .iload_n 3, 1), (604, .iconst 2, 1), (605, .iadd, 1), (606, .iaload, 1), (607, .aload_n 0, 1), (608, .iload_n 3, 1), (609, .iconst 3, 1)]
def tbl_15 : List (Nat × Instr × Nat) := [(610, .iadd, 1), (611, .iaload, 1), (612, .aload_n 0, 1), (613, .iload_n 3, 1), (614, .iconst 4, 1), (615, .iadd, 1), (616, .iaload, 1), (617, .invokevirtual 66, 3), (620, .pop, 1), (621, .aload_n 2, 1), (622, .aload_n 0, 1), (623, .iload_n 3, 1), (624, .iconst 1, 1), (625, .iadd, 1), (626, .iaload, 1), (627, .aload_n 0, 1), (628, .iload_n 3, 1), (629, .iconst 2, 1), (630, .iadd, 1), (631, .iaload, 1), (632, .aload_n 0, 1), (633, .iload_n 3, 1), (634, .iconst 3, 1), (635, .iadd, 1)]
def tbl_16 : List (Nat × Instr × Nat) := [(636, .iaload, 1), (637, .aload_n 0, 1), (638, .iload_n 3, 1), (639, .iconst 4, 1), (640, .iadd, 1), (641, .iaload, 1), (642, .invokevirtual 69, 3), (645, .pop, 1), (646, .goto 898, 3), (649, .aload_n 1, 1), (650, .aload_n 0, 1), (651, .iload_n 3, 1), (652, .iconst 1, 1), (653, .iadd, 1), (654, .iaload, 1), (655, .aload_n 0, 1), (656, .iload_n 3, 1), (657, .iconst 2, 1), (658, .iadd, 1), (659, .iaload, 1), (660, .aload_n 0, 1), (661, .iload_n 3, 1), (662, .iconst 3, 1), (663, .iadd, 1)]
def tbl_17 : List (Nat × Instr × Nat) := [(664, .iaload, 1), (665, .invokevirtual 70, 3), (668, .pop, 1), (669, .aload_n 2, 1), (670, .aload_n 0, 1), (671, .iload_n 3, 1), (672, .iconst 1, 1), (673, .iadd, 1), (674, .iaload, 1), (675, .aload_n 0, 1), (676, .iload_n 3, 1), (677, .iconst 2, 1), (678, .iadd, 1), (679, .iaload, 1), (680, .aload_n 0, 1), (681, .iload_n 3, 1), (682, .iconst 3, 1), (683, .iadd, 1), (684, .iaload, 1), (685, .invokevirtual 73, 3), (688, .pop, 1), (689, .goto 855, 3), (692, .aload_n 1, 1), (693, .aload_n 0, 1)]
def tbl_18 : List (Nat × Instr × Nat) := [(694, .iload_n 3, 1), (695, .iconst 1, 1), (696, .iadd, 1), (697, .iaload, 1), (698, .aload_n 0, 1), (699, .iload_n 3, 1), (700, .iconst 2, 1), (701, .iadd, 1), (702, .iaload, 1), (703, .invokevirtual 74, 3), (706, .pop, 1), (707, .aload_n 2, 1), (708, .aload_n 0, 1), (709, .iload_n 3, 1), (710, .iconst 1, 1), (711, .iadd, 1), (712, .iaload, 1), (713, .aload_n 0, 1), (714, .iload_n 3, 1), (715, .iconst 2, 1), (716, .iadd, 1), (717, .iaload, 1), (718, .invokevirtual 77, 3), (721, .pop, 1)]
def tbl_19 : List (Nat × Instr × Nat) := [(722, .goto 822, 3), (725, .aload_n 1, 1), (726, .aload_n 0, 1), (727, .iload_n 3, 1), (728, .iconst 1, 1), (729, .iadd, 1), (730, .iaload, 1), (731, .aload_n 0, 1), (732, .iload_n 3, 1), (733, .iconst 2, 1), (734, .iadd, 1), (735, .iaload, 1), (736, .aload_n 0, 1), (737, .iload_n 3, 1), (738, .iconst 3, 1), (739, .iadd, 1), (740, .iaload, 1), (741, .invokevirtual 78, 3), (744, .pop, 1), (745, .aload_n 2, 1), (746, .aload_n 0, 1), (747, .iload_n 3, 1), (748, .iconst 1, 1), (749, .iadd, 1)]
def tbl_20 : List (Nat × Instr × Nat) := [(750, .iaload, 1), (751, .aload_n 0, 1), (752, .iload_n 3, 1), (753, .iconst 2, 1), (754, .iadd, 1), (755, .iaload, 1), (756, .aload_n 0, 1), (757, .iload_n 3, 1), (758, .iconst 3, 1), (759, .iadd, 1), (760, .iaload, 1), (761, .invokevirtual 81, 3), (764, .pop, 1), (765, .goto 779, 3), (768, .aload_n 1, 1), (769, .aload_n 0, 1), (770, .iload_n 3, 1), (771, .iconst 1, 1), (772, .iadd, 1), (773, .iaload, 1), (774, .aload_n 0, 1), (775, .iload_n 3, 1), (776, .iconst 2, 1), (777, .iadd, 1)]
def tbl_21 : List (Nat × Instr × Nat) := [(778, .iaload, 1), (779, .invokevirtual 82, 3), (782, .pop, 1), (783, .aload_n 2, 1), (784, .aload_n 0, 1), (785, .iload_n 3, 1), (786, .iconst 1, 1), (787, .iadd, 1), (788, .iaload, 1), (789, .aload_n 0, 1), (790, .iload_n 3, 1), (791, .iconst 2, 1), (792, .iadd, 1), (793, .iaload, 1), (794, .invokevirtual 85, 3), (797, .pop, 1), (798, .goto 746, 3), (801, .aload_n 1, 1), (802, .aload_n 0, 1), (803, .iload_n 3, 1), (804, .iconst 1, 1), (805, .iadd, 1), (806, .iaload, 1), (807, .aload_n 0, 1)]
def tbl_22 : List (Nat × Instr × Nat) := [(808, .iload_n 3, 1), (809, .iconst 2, 1), (810, .iadd, 1), (811, .iaload, 1), (812, .aload_n 0, 1), (813, .iload_n 3, 1), (814, .iconst 3, 1), (815, .iadd, 1), (816, .iaload, 1), (817, .invokevirtual 86, 3), (820, .pop, 1), (821, .aload_n 2, 1), (822, .aload_n 0, 1), (823, .iload_n 3, 1), (824, .iconst 1, 1), (825, .iadd, 1), (826, .iaload, 1), (827, .aload_n 0, 1), (828, .iload_n 3, 1), (829, .iconst 2, 1), (830, .iadd, 1), (831, .iaload, 1), (832, .aload_n 0, 1), (833, .iload_n 3, 1)]
def tbl_23 : List (Nat × Instr × Nat) := [(834, .iconst 3, 1), (835, .iadd, 1), (836, .iaload, 1), (837, .invokevirtual 89, 3), (840, .pop, 1), (841, .goto 703, 3), (844, .aload_n 1, 1), (845, .aload_n 0, 1), (846, .iload_n 3, 1), (847, .iconst 1, 1), (848, .iadd, 1), (849, .iaload, 1), (850, .aload_n 0, 1), (851, .iload_n 3, 1), (852, .iconst 2, 1), (853, .iadd, 1), (854, .iaload, 1), (855, .invokevirtual 90, 3), (858, .pop, 1), (859, .aload_n 2, 1), (860, .aload_n 0, 1), (861, .iload_n 3, 1), (862, .iconst 1, 1), (863, .iadd, 1)]
def tbl_24 : List (Nat × Instr × Nat) := [(864, .iaload, 1), (865, .aload_n 0, 1), (866, .iload_n 3, 1), (867, .iconst 2, 1), (868, .iadd, 1), (869, .iaload, 1), (870, .invokevirtual 93, 3), (873, .pop, 1), (874, .goto 670, 3), (877, .aload_n 1, 1), (878, .aload_n 0, 1), (879, .iload_n 3, 1), (880, .iconst 1, 1), (881, .iadd, 1), (882, .iaload, 1), (883, .aload_n 0, 1), (884, .iload_n 3, 1), (885, .iconst 2, 1), (886, .iadd, 1), (887, .iaload, 1), (888, .aload_n 0, 1), (889, .iload_n 3, 1), (890, .iconst 3, 1), (891, .iadd, 1)]
def tbl_25 : List (Nat × Instr × Nat) := [(892, .iaload, 1), (893, .invokevirtual 94, 3), (896, .pop, 1), (897, .aload_n 2, 1), (898, .aload_n 0, 1), (899, .iload_n 3, 1), (900, .iconst 1, 1), (901, .iadd, 1), (902, .iaload, 1), (903, .aload_n 0, 1), (904, .iload_n 3, 1), (905, .iconst 2, 1), (906, .iadd, 1), (907, .iaload, 1), (908, .aload_n 0, 1), (909, .iload_n 3, 1), (910, .iconst 3, 1), (911, .iadd, 1), (912, .iaload, 1), (913, .invokevirtual 97, 3), (916, .pop, 1), (917, .goto 627, 3), (920, .aload_n 1, 1), (921, .invokevirtual 98, 3)]
def tbl_26 : List (Nat × Instr × Nat) := [(924, .pop, 1), (925, .aload_n 2, 1), (926, .invokevirtual 101, 3), (929, .pop, 1), (930, .goto 614, 3), (933, .aload_n 1, 1), (934, .aload_n 0, 1), (935, .iload_n 3, 1), (936, .iconst 1, 1), (937, .iadd, 1), (938, .iaload, 1), (939, .aload_n 0, 1), (940, .iload_n 3, 1), (941, .iconst 2, 1), (942, .iadd, 1), (943, .iaload, 1), (944, .aload_n 0, 1), (945, .iload_n 3, 1), (946, .iconst 3, 1), (947, .iadd, 1), (948, .iaload, 1), (949, .invokevirtual 102, 3), (952, .pop, 1), (953, .aload_n 2, 1)]
def tbl_27 : List (Nat × Instr × Nat) := [(954, .aload_n 0, 1), (955, .iload_n 3, 1), (956, .iconst 1, 1), (957, .iadd, 1), (958, .iaload, 1), (959, .aload_n 0, 1), (960, .iload_n 3, 1), (961, .iconst 2, 1), (962, .iadd, 1), (963, .iaload, 1), (964, .aload_n 0, 1), (965, .iload_n 3, 1), (966, .iconst 3, 1), (967, .iadd, 1), (968, .iaload, 1), (969, .invokevirtual 105, 3), (972, .pop, 1), (973, .goto 571, 3), (976, .aload_n 1, 1), (977, .aload_n 0, 1), (978, .iload_n 3, 1), (979, .iconst 1, 1), (980, .iadd, 1), (981, .iaload, 1)]
def tbl_28 : List (Nat × Instr × Nat) := [(982, .aload_n 0, 1), (983, .iload_n 3, 1), (984, .iconst 2, 1), (985, .iadd, 1), (986, .iaload, 1), (987, .aload_n 0, 1), (988, .iload_n 3, 1), (989, .iconst 3, 1), (990, .iadd, 1), (991, .iaload, 1), (992, .invokevirtual 106, 3), (995, .pop, 1), (996, .aload_n 2, 1), (997, .aload_n 0, 1), (998, .iload_n 3, 1), (999, .iconst 1, 1), (1000, .iadd, 1), (1001, .iaload, 1), (1002, .aload_n 0, 1), (1003, .iload_n 3, 1), (1004, .iconst 2, 1), (1005, .iadd, 1), (1006, .iaload, 1), (1007, .aload_n 0, 1)]
def tbl_29 : List (Nat × Instr × Nat) := [(1008, .iload_n 3, 1), (1009, .iconst 3, 1), (1010, .iadd, 1), (1011, .iaload, 1), (1012, .invokevirtual 109, 3), (1015, .pop, 1), (1016, .goto 528, 3), (1019, .aload_n 1, 1), (1020, .aload_n 0, 1), (1021, .iload_n 3, 1), (1022, .iconst 1, 1), (1023, .iadd, 1), (1024, .iaload, 1), (1025, .aload_n 0, 1), (1026, .iload_n 3, 1), (1027, .iconst 2, 1), (1028, .iadd, 1), (1029, .iaload, 1), (1030, .aload_n 0, 1), (1031, .iload_n 3, 1), (1032, .iconst 3, 1), (1033, .iadd, 1), (1034, .iaload, 1), (1035, .invokevirtual 110, 3)]
def tbl_30 : List (Nat × Instr × Nat) := [(1038, .pop, 1), (1039, .aload_n 2, 1), (1040, .aload_n 0, 1), (1041, .iload_n 3, 1), (1042, .iconst 1, 1), (1043, .iadd, 1), (1044, .iaload, 1), (1045, .aload_n 0, 1), (1046, .iload_n 3, 1), (1047, .iconst 2, 1), (1048, .iadd, 1), (1049, .iaload, 1), (1050, .aload_n 0, 1), (1051, .iload_n 3, 1), (1052, .iconst 3, 1), (1053, .iadd, 1), (1054, .iaload, 1), (1055, .invokevirtual 113, 3), (1058, .pop, 1), (1059, .goto 485, 3), (1062, .aload_n 1, 1), (1063, .aload_n 0, 1), (1064, .iload_n 3, 1), (1065, .iconst 1, 1)]
def tbl_31 : List (Nat × Instr × Nat) := [(1066, .iadd, 1), (1067, .iaload, 1), (1068, .aload_n 0, 1), (1069, .iload_n 3, 1), (1070, .iconst 2, 1), (1071, .iadd, 1), (1072, .iaload, 1), (1073, .invokevirtual 114, 3), (1076, .pop, 1), (1077, .aload_n 2, 1), (1078, .aload_n 0, 1), (1079, .iload_n 3, 1), (1080, .iconst 1, 1), (1081, .iadd, 1), (1082, .iaload, 1), (1083, .aload_n 0, 1), (1084, .iload_n 3, 1), (1085, .iconst 2, 1), (1086, .iadd, 1), (1087, .iaload, 1), (1088, .invokevirtual 117, 3), (1091, .pop, 1), (1092, .goto 452, 3), (1095, .aload_n 1, 1)]
def tbl_32 : List (Nat × Instr × Nat) := [(1096, .aload_n 0, 1), (1097, .iload_n 3, 1), (1098, .iconst 1, 1), (1099, .iadd, 1), (1100, .iaload, 1), (1101, .aload_n 0, 1), (1102, .iload_n 3, 1), (1103, .iconst 2, 1), (1104, .iadd, 1), (1105, .iaload, 1), (1106, .invokevirtual 118, 3), (1109, .pop, 1), (1110, .aload_n 2, 1), (1111, .aload_n 0, 1), (1112, .iload_n 3, 1), (1113, .iconst 1, 1), (1114, .iadd, 1), (1115, .iaload, 1), (1116, .aload_n 0, 1), (1117, .iload_n 3, 1), (1118, .iconst 2, 1), (1119, .iadd, 1), (1120, .iaload, 1), (1121, .invokevirtual 121, 3)]
def tbl_33 : List (Nat × Instr × Nat) := [(1124, .pop, 1), (1125, .goto 419, 3), (1128, .aload_n 1, 1), (1129, .invokevirtual 122, 3), (1132, .pop, 1), (1133, .aload_n 2, 1), (1134, .invokevirtual 125, 3), (1137, .pop, 1), (1138, .goto 406, 3), (1141, .aload_n 1, 1), (1142, .invokevirtual 126, 3), (1145, .aload_n 2, 1), (1146, .invokevirtual 129, 3), (1149, .if_icmp .eq 395, 3), (1152, .iconst 0, 1), (1153, .ireturn, 1), (1154, .aload_n 1, 1), (1155, .aload_n 0, 1), (1156, .iload_n 3, 1), (1157, .iconst 1, 1), (1158, .iadd, 1), (1159, .iaload, 1), (1160, .invokevirtual 130, 3), (1163, .pop, 1)]
def tbl_34 : List (Nat × Instr × Nat) := [(1164, .aload_n 2, 1), (1165, .aload_n 0, 1), (1166, .iload_n 3, 1), (1167, .iconst 1, 1), (1168, .iadd, 1), (1169, .iaload, 1), (1170, .invokevirtual 133, 3), (1173, .pop, 1), (1174, .goto 370, 3), (1177, .aload_n 1, 1), (1178, .aload_n 0, 1), (1179, .iload_n 3, 1), (1180, .iconst 1, 1), (1181, .iadd, 1), (1182, .iaload, 1), (1183, .aload_n 0, 1), (1184, .iload_n 3, 1), (1185, .iconst 2, 1), (1186, .iadd, 1), (1187, .iaload, 1), (1188, .aload_n 0, 1), (1189, .iload_n 3, 1), (1190, .iconst 3, 1), (1191, .iadd, 1)]
def tbl_35 : List (Nat × Instr × Nat) := [(1192, .iaload, 1), (1193, .invokevirtual 134, 3), (1196, .pop, 1), (1197, .aload_n 2, 1), (1198, .aload_n 0, 1), (1199, .iload_n 3, 1), (1200, .iconst 1, 1), (1201, .iadd, 1), (1202, .iaload, 1), (1203, .aload_n 0, 1), (1204, .iload_n 3, 1), (1205, .iconst 2, 1), (1206, .iadd, 1), (1207, .iaload, 1), (1208, .aload_n 0, 1), (1209, .iload_n 3, 1), (1210, .iconst 3, 1), (1211, .iadd, 1), (1212, .iaload, 1), (1213, .invokevirtual 137, 3), (1216, .pop, 1), (1217, .goto 327, 3), (1220, .aload_n 1, 1), (1221, .aload_n 0, 1)]
def tbl_36 : List (Nat × Instr × Nat) := [(1222, .iload_n 3, 1), (1223, .iconst 1, 1), (1224, .iadd, 1), (1225, .iaload, 1), (1226, .invokevirtual 138, 3), (1229, .pop, 1), (1230, .aload_n 2, 1), (1231, .aload_n 0, 1), (1232, .iload_n 3, 1), (1233, .iconst 1, 1), (1234, .iadd, 1), (1235, .iaload, 1), (1236, .invokevirtual 141, 3), (1239, .pop, 1), (1240, .goto 304, 3), (1243, .aload_n 1, 1), (1244, .aload_n 0, 1), (1245, .iload_n 3, 1), (1246, .iconst 1, 1), (1247, .iadd, 1), (1248, .iaload, 1), (1249, .aload_n 0, 1), (1250, .iload_n 3, 1), (1251, .iconst 2, 1)]
def tbl_37 : List (Nat × Instr × Nat) := [(1252, .iadd, 1), (1253, .iaload, 1), (1254, .invokevirtual 142, 3), (1257, .pop, 1), (1258, .aload_n 2, 1), (1259, .aload_n 0, 1), (1260, .iload_n 3, 1), (1261, .iconst 1, 1), (1262, .iadd, 1), (1263, .iaload, 1), (1264, .aload_n 0, 1), (1265, .iload_n 3, 1), (1266, .iconst 2, 1), (1267, .iadd, 1), (1268, .iaload, 1), (1269, .invokevirtual 145, 3), (1272, .pop, 1), (1273, .goto 271, 3), (1276, .aload_n 1, 1), (1277, .aload_n 0, 1), (1278, .iload_n 3, 1), (1279, .iconst 1, 1), (1280, .iadd, 1), (1281, .iaload, 1)]
def tbl_38 : List (Nat × Instr × Nat) := [(1282, .aload_n 0, 1), (1283, .iload_n 3, 1), (1284, .iconst 2, 1), (1285, .iadd, 1), (1286, .iaload, 1), (1287, .aload_n 0, 1), (1288, .iload_n 3, 1), (1289, .iconst 3, 1), (1290, .iadd, 1), (1291, .iaload, 1), (1292, .invokevirtual 146, 3), (1295, .pop, 1), (1296, .aload_n 2, 1), (1297, .aload_n 0, 1), (1298, .iload_n 3, 1), (1299, .iconst 1, 1), (1300, .iadd, 1), (1301, .iaload, 1), (1302, .aload_n 0, 1), (1303, .iload_n 3, 1), (1304, .iconst 2, 1), (1305, .iadd, 1), (1306, .iaload, 1), (1307, .aload_n 0, 1)]
def tbl_39 : List (Nat × Instr × Nat) := [(1308, .iload_n 3, 1), (1309, .iconst 3, 1), (1310, .iadd, 1), (1311, .iaload, 1), (1312, .invokevirtual 149, 3), (1315, .pop, 1), (1316, .goto 228, 3), (1319, .aload_n 1, 1), (1320, .aload_n 0, 1), (1321, .iload_n 3, 1), (1322, .iconst 1, 1), (1323, .iadd, 1), (1324, .iaload, 1), (1325, .aload_n 0, 1), (1326, .iload_n 3, 1), (1327, .iconst 2, 1), (1328, .iadd, 1), (1329, .iaload, 1), (1330, .aload_n 0, 1), (1331, .iload_n 3, 1), (1332, .iconst 3, 1), (1333, .iadd, 1), (1334, .iaload, 1), (1335, .i2l, 1)]
def tbl_40 : List (Nat × Instr × Nat) := [(1336, .bipush 32, 2), (1338, .lshl, 1), (1339, .aload_n 0, 1), (1340, .iload_n 3, 1), (1341, .iconst 4, 1), (1342, .iadd, 1), (1343, .iaload, 1), (1344, .i2l, 1), (1345, .ldc2_w 150, 3), (1348, .land, 1), (1349, .lor, 1), (1350, .invokevirtual 152, 3), (1353, .pop, 1), (1354, .aload_n 2, 1), (1355, .aload_n 0, 1), (1356, .iload_n 3, 1), (1357, .iconst 1, 1), (1358, .iadd, 1), (1359, .iaload, 1), (1360, .aload_n 0, 1), (1361, .iload_n 3, 1), (1362, .iconst 2, 1), (1363, .iadd, 1), (1364, .iaload, 1)]
def tbl_41 : List (Nat × Instr × Nat) := [(1365, .aload_n 0, 1), (1366, .iload_n 3, 1), (1367, .iconst 3, 1), (1368, .iadd, 1), (1369, .iaload, 1), (1370, .i2l, 1), (1371, .bipush 32, 2), (1373, .lshl, 1), (1374, .aload_n 0, 1), (1375, .iload_n 3, 1), (1376, .iconst 4, 1), (1377, .iadd, 1), (1378, .iaload, 1), (1379, .i2l, 1), (1380, .ldc2_w 150, 3), (1383, .land, 1), (1384, .lor, 1), (1385, .invokevirtual 156, 3), (1388, .pop, 1), (1389, .goto 155, 3), (1392, .aload_n 1, 1), (1393, .aload_n 0, 1), (1394, .iload_n 3, 1), (1395, .iconst 1, 1)]
def tbl_42 : List (Nat × Instr × Nat) := [(1396, .iadd, 1), (1397, .iaload, 1), (1398, .aload_n 0, 1), (1399, .iload_n 3, 1), (1400, .iconst 2, 1), (1401, .iadd, 1), (1402, .iaload, 1), (1403, .invokevirtual 157, 3), (1406, .pop2, 1), (1407, .aload_n 2, 1), (1408, .aload_n 0, 1), (1409, .iload_n 3, 1), (1410, .iconst 1, 1), (1411, .iadd, 1), (1412, .iaload, 1), (1413, .aload_n 0, 1), (1414, .iload_n 3, 1), (1415, .iconst 2, 1), (1416, .iadd, 1), (1417, .iaload, 1), (1418, .invokevirtual 161, 3), (1421, .pop2, 1), (1422, .goto 122, 3), (1425, .aload_n 1, 1)]
def tbl_43 : List (Nat × Instr × Nat) := [(1426, .aload_n 0, 1), (1427, .iload_n 3, 1), (1428, .iconst 1, 1), (1429, .iadd, 1), (1430, .iaload, 1), (1431, .aload_n 0, 1), (1432, .iload_n 3, 1), (1433, .iconst 2, 1), (1434, .iadd, 1), (1435, .iaload, 1), (1436, .aload_n 0, 1), (1437, .iload_n 3, 1), (1438, .iconst 3, 1), (1439, .iadd, 1), (1440, .iaload, 1), (1441, .aload_n 0, 1), (1442, .iload_n 3, 1), (1443, .iconst 4, 1), (1444, .iadd, 1), (1445, .iaload, 1), (1446, .aload_n 0, 1), (1447, .iload_n 3, 1), (1448, .iconst 5, 1), (1449, .iadd, 1)]
def tbl_44 : List (Nat × Instr × Nat) := [(1450, .iaload, 1), (1451, .invokevirtual 162, 3), (1454, .pop, 1), (1455, .aload_n 2, 1), (1456, .aload_n 0, 1), (1457, .iload_n 3, 1), (1458, .iconst 1, 1), (1459, .iadd, 1), (1460, .iaload, 1), (1461, .aload_n 0, 1), (1462, .iload_n 3, 1), (1463, .iconst 2, 1), (1464, .iadd, 1), (1465, .iaload, 1), (1466, .aload_n 0, 1), (1467, .iload_n 3, 1), (1468, .iconst 3, 1), (1469, .iadd, 1), (1470, .iaload, 1), (1471, .aload_n 0, 1), (1472, .iload_n 3, 1), (1473, .iconst 4, 1), (1474, .iadd, 1), (1475, .iaload, 1)]
def tbl_45 : List (Nat × Instr × Nat) := [(1476, .aload_n 0, 1), (1477, .iload_n 3, 1), (1478, .iconst 5, 1), (1479, .iadd, 1), (1480, .iaload, 1), (1481, .invokevirtual 166, 3), (1484, .pop, 1), (1485, .goto 59, 3), (1488, .aload_n 1, 1), (1489, .aload_n 0, 1), (1490, .iload_n 3, 1), (1491, .iconst 1, 1), (1492, .iadd, 1), (1493, .iaload, 1), (1494, .aload_n 0, 1), (1495, .iload_n 3, 1), (1496, .iconst 2, 1), (1497, .iadd, 1), (1498, .iaload, 1), (1499, .invokevirtual 167, 3), (1502, .pop, 1), (1503, .aload_n 2, 1), (1504, .aload_n 0, 1), (1505, .iload_n 3, 1)]
def tbl_46 : List (Nat × Instr × Nat) := [(1506, .iconst 1, 1), (1507, .iadd, 1), (1508, .iaload, 1), (1509, .aload_n 0, 1), (1510, .iload_n 3, 1), (1511, .iconst 2, 1), (1512, .iadd, 1), (1513, .iaload, 1), (1514, .invokevirtual 170, 3), (1517, .pop, 1), (1518, .goto 26, 3), (1521, .aload_n 1, 1), (1522, .aload_n 0, 1), (1523, .iload_n 3, 1), (1524, .iconst 1, 1), (1525, .iadd, 1), (1526, .iaload, 1), (1527, .invokevirtual 171, 3), (1530, .pop, 1), (1531, .aload_n 2, 1), (1532, .aload_n 0, 1), (1533, .iload_n 3, 1), (1534, .iconst 1, 1), (1535, .iadd, 1)]
def tbl_47 : List (Nat × Instr × Nat) := [(1536, .iaload, 1), (1537, .invokevirtual 174, 3), (1540, .pop, 1), (1541, .goto 3, 3), (1544, .iinc 3 6, 3), (1547, .goto (-1529), 3), (1550, .iconst 1, 1), (1551, .ireturn, 1)]
def tbLs : List (List (Nat × Instr × Nat)) := [tbl_0, tbl_1, tbl_2, tbl_3, tbl_4, tbl_5, tbl_6, tbl_7, tbl_8, tbl_9, tbl_10, tbl_11, tbl_12, tbl_13, tbl_14, tbl_15, tbl_16, tbl_17, tbl_18, tbl_19, tbl_20, tbl_21, tbl_22, tbl_23, tbl_24, tbl_25, tbl_26, tbl_27, tbl_28, tbl_29, tbl_30, tbl_31, tbl_32, tbl_33, tbl_34, tbl_35, tbl_36, tbl_37, tbl_38, tbl_39, tbl_40, tbl_41, tbl_42, tbl_43, tbl_44, tbl_45, tbl_46, tbl_47]
set_option maxRecDepth 100000 in
theorem tbLw : ∀ e, e ∈ tbLs.flatten → decode MLa_law.2.2.1 e.1 = .ok e.2 := walk_ok _ _ 0 rfl (by decide +kernel)
theorem lw_d {k j : Nat} {l : List (Nat × Instr × Nat)} {e : Nat × Instr × Nat} (h : tbLs[k]? = some l) (hj : l[j]? = some e) : decode MLa_law.2.2.1 e.1 = .ok e.2 := tbLw e (List.mem_flatten.mpr ⟨l, List.mem_of_getElem? h, List.mem_of_getElem? hj⟩)
theorem d_MLa_law_0 : decode MLa_law.2.2.1 0 = .ok (.new 7, 3) := lw_d (k := 0) (j := 0) (l := tbl_0) (e := (0, .new 7, 3)) rfl rfl
theorem d_MLa_law_3 : decode MLa_law.2.2.1 3 = .ok (.dup, 1) := lw_d (k := 0) (j := 1) (l := tbl_0) (e := (3, .dup, 1)) rfl rfl
theorem d_MLa_law_4 : decode MLa_law.2.2.1 4 = .ok (.invokespecial 9, 3) := lw_d (k := 0) (j := 2) (l := tbl_0) (e := (4, .invokespecial 9, 3)) rfl rfl
theorem d_MLa_law_7 : decode MLa_law.2.2.1 7 = .ok (.astore_n 1, 1) := lw_d (k := 0) (j := 3) (l := tbl_0) (e := (7, .astore_n 1, 1)) rfl rfl
theorem d_MLa_law_8 : decode MLa_law.2.2.1 8 = .ok (.new 10, 3) := lw_d (k := 0) (j := 4) (l := tbl_0) (e := (8, .new 10, 3)) rfl rfl
theorem d_MLa_law_11 : decode MLa_law.2.2.1 11 = .ok (.dup, 1) := lw_d (k := 0) (j := 5) (l := tbl_0) (e := (11, .dup, 1)) rfl rfl
theorem d_MLa_law_12 : decode MLa_law.2.2.1 12 = .ok (.invokespecial 12, 3) := lw_d (k := 0) (j := 6) (l := tbl_0) (e := (12, .invokespecial 12, 3)) rfl rfl
theorem d_MLa_law_15 : decode MLa_law.2.2.1 15 = .ok (.astore_n 2, 1) := lw_d (k := 0) (j := 7) (l := tbl_0) (e := (15, .astore_n 2, 1)) rfl rfl
theorem d_MLa_law_16 : decode MLa_law.2.2.1 16 = .ok (.iconst 0, 1) := lw_d (k := 0) (j := 8) (l := tbl_0) (e := (16, .iconst 0, 1)) rfl rfl
theorem d_MLa_law_17 : decode MLa_law.2.2.1 17 = .ok (.istore_n 3, 1) := lw_d (k := 0) (j := 9) (l := tbl_0) (e := (17, .istore_n 3, 1)) rfl rfl
theorem d_MLa_law_18 : decode MLa_law.2.2.1 18 = .ok (.iload_n 3, 1) := lw_d (k := 0) (j := 10) (l := tbl_0) (e := (18, .iload_n 3, 1)) rfl rfl
theorem d_MLa_law_19 : decode MLa_law.2.2.1 19 = .ok (.aload_n 0, 1) := lw_d (k := 0) (j := 11) (l := tbl_0) (e := (19, .aload_n 0, 1)) rfl rfl
theorem d_MLa_law_20 : decode MLa_law.2.2.1 20 = .ok (.arraylength, 1) := lw_d (k := 0) (j := 12) (l := tbl_0) (e := (20, .arraylength, 1)) rfl rfl
theorem d_MLa_law_21 : decode MLa_law.2.2.1 21 = .ok (.bipush 6, 2) := lw_d (k := 0) (j := 13) (l := tbl_0) (e := (21, .bipush 6, 2)) rfl rfl
theorem d_MLa_law_23 : decode MLa_law.2.2.1 23 = .ok (.isub, 1) := lw_d (k := 0) (j := 14) (l := tbl_0) (e := (23, .isub, 1)) rfl rfl
theorem d_MLa_law_24 : decode MLa_law.2.2.1 24 = .ok (.if_icmp .gt 1526, 3) := lw_d (k := 0) (j := 15) (l := tbl_0) (e := (24, .if_icmp .gt 1526, 3)) rfl rfl
theorem d_MLa_law_27 : decode MLa_law.2.2.1 27 = .ok (.aload_n 0, 1) := lw_d (k := 0) (j := 16) (l := tbl_0) (e := (27, .aload_n 0, 1)) rfl rfl
theorem d_MLa_law_28 : decode MLa_law.2.2.1 28 = .ok (.iload_n 3, 1) := lw_d (k := 0) (j := 17) (l := tbl_0) (e := (28, .iload_n 3, 1)) rfl rfl
theorem d_MLa_law_29 : decode MLa_law.2.2.1 29 = .ok (.iaload, 1) := lw_d (k := 0) (j := 18) (l := tbl_0) (e := (29, .iaload, 1)) rfl rfl
theorem d_MLa_law_30 : decode MLa_law.2.2.1 30 = .ok (.bipush 63, 2) := lw_d (k := 0) (j := 19) (l := tbl_0) (e := (30, .bipush 63, 2)) rfl rfl
theorem d_MLa_law_32 : decode MLa_law.2.2.1 32 = .ok (.iand, 1) := lw_d (k := 0) (j := 20) (l := tbl_0) (e := (32, .iand, 1)) rfl rfl
theorem d_MLa_law_33 : decode MLa_law.2.2.1 33 = .ok (.tableswitch 1511 0 37 #[167, 200, 213, 246, 289, 332, 345, 378, 431, 464, 487, 510, 563, 616, 659, 692, 735, 768, 811, 844, 887, 900, 943, 986, 1029, 1062, 1095, 1108, 1121, 1144, 1187, 1210, 1243, 1286, 1359, 1392, 1455, 1488], 167) := lw_d (k := 0) (j := 21) (l := tbl_0) (e := (33, .tableswitch 1511 0 37 #[167, 200, 213, 246, 289, 332, 345, 378, 431, 464, 487, 510, 563, 616, 659, 692, 735, 768, 811, 844, 887, 900, 943, 986, 1029, 1062, 1095, 1108, 1121, 1144, 1187, 1210, 1243, 1286, 1359, 1392, 1455, 1488], 167)) rfl rfl
theorem d_MLa_law_200 : decode MLa_law.2.2.1 200 = .ok (.aload_n 1, 1) := lw_d (k := 0) (j := 22) (l := tbl_0) (e := (200, .aload_n 1, 1)) rfl rfl
theorem d_MLa_law_201 : decode MLa_law.2.2.1 201 = .ok (.aload_n 0, 1) := lw_d (k := 0) (j := 23) (l := tbl_0) (e := (201, .aload_n 0, 1)) rfl rfl
theorem d_MLa_law_202 : decode MLa_law.2.2.1 202 = .ok (.iload_n 3, 1) := lw_d (k := 1) (j := 0) (l := tbl_1) (e := (202, .iload_n 3, 1)) rfl rfl
theorem d_MLa_law_203 : decode MLa_law.2.2.1 203 = .ok (.iconst 1, 1) := lw_d (k := 1) (j := 1) (l := tbl_1) (e := (203, .iconst 1, 1)) rfl rfl
theorem d_MLa_law_204 : decode MLa_law.2.2.1 204 = .ok (.iadd, 1) := lw_d (k := 1) (j := 2) (l := tbl_1) (e := (204, .iadd, 1)) rfl rfl
theorem d_MLa_law_205 : decode MLa_law.2.2.1 205 = .ok (.iaload, 1) := lw_d (k := 1) (j := 3) (l := tbl_1) (e := (205, .iaload, 1)) rfl rfl
theorem d_MLa_law_206 : decode MLa_law.2.2.1 206 = .ok (.aload_n 0, 1) := lw_d (k := 1) (j := 4) (l := tbl_1) (e := (206, .aload_n 0, 1)) rfl rfl
theorem d_MLa_law_207 : decode MLa_law.2.2.1 207 = .ok (.iload_n 3, 1) := lw_d (k := 1) (j := 5) (l := tbl_1) (e := (207, .iload_n 3, 1)) rfl rfl
theorem d_MLa_law_208 : decode MLa_law.2.2.1 208 = .ok (.iconst 2, 1) := lw_d (k := 1) (j := 6) (l := tbl_1) (e := (208, .iconst 2, 1)) rfl rfl
theorem d_MLa_law_209 : decode MLa_law.2.2.1 209 = .ok (.iadd, 1) := lw_d (k := 1) (j := 7) (l := tbl_1) (e := (209, .iadd, 1)) rfl rfl
theorem d_MLa_law_210 : decode MLa_law.2.2.1 210 = .ok (.iaload, 1) := lw_d (k := 1) (j := 8) (l := tbl_1) (e := (210, .iaload, 1)) rfl rfl
theorem d_MLa_law_211 : decode MLa_law.2.2.1 211 = .ok (.invokevirtual 13, 3) := lw_d (k := 1) (j := 9) (l := tbl_1) (e := (211, .invokevirtual 13, 3)) rfl rfl
theorem d_MLa_law_214 : decode MLa_law.2.2.1 214 = .ok (.pop, 1) := lw_d (k := 1) (j := 10) (l := tbl_1) (e := (214, .pop, 1)) rfl rfl
theorem d_MLa_law_215 : decode MLa_law.2.2.1 215 = .ok (.aload_n 2, 1) := lw_d (k := 1) (j := 11) (l := tbl_1) (e := (215, .aload_n 2, 1)) rfl rfl
theorem d_MLa_law_216 : decode MLa_law.2.2.1 216 = .ok (.aload_n 0, 1) := lw_d (k := 1) (j := 12) (l := tbl_1) (e := (216, .aload_n 0, 1)) rfl rfl
theorem d_MLa_law_217 : decode MLa_law.2.2.1 217 = .ok (.iload_n 3, 1) := lw_d (k := 1) (j := 13) (l := tbl_1) (e := (217, .iload_n 3, 1)) rfl rfl
theorem d_MLa_law_218 : decode MLa_law.2.2.1 218 = .ok (.iconst 1, 1) := lw_d (k := 1) (j := 14) (l := tbl_1) (e := (218, .iconst 1, 1)) rfl rfl
theorem d_MLa_law_219 : decode MLa_law.2.2.1 219 = .ok (.iadd, 1) := lw_d (k := 1) (j := 15) (l := tbl_1) (e := (219, .iadd, 1)) rfl rfl
theorem d_MLa_law_220 : decode MLa_law.2.2.1 220 = .ok (.iaload, 1) := lw_d (k := 1) (j := 16) (l := tbl_1) (e := (220, .iaload, 1)) rfl rfl
theorem d_MLa_law_221 : decode MLa_law.2.2.1 221 = .ok (.aload_n 0, 1) := lw_d (k := 1) (j := 17) (l := tbl_1) (e := (221, .aload_n 0, 1)) rfl rfl
theorem d_MLa_law_222 : decode MLa_law.2.2.1 222 = .ok (.iload_n 3, 1) := lw_d (k := 1) (j := 18) (l := tbl_1) (e := (222, .iload_n 3, 1)) rfl rfl
theorem d_MLa_law_223 : decode MLa_law.2.2.1 223 = .ok (.iconst 2, 1) := lw_d (k := 1) (j := 19) (l := tbl_1) (e := (223, .iconst 2, 1)) rfl rfl
theorem d_MLa_law_224 : decode MLa_law.2.2.1 224 = .ok (.iadd, 1) := lw_d (k := 1) (j := 20) (l := tbl_1) (e := (224, .iadd, 1)) rfl rfl
theorem d_MLa_law_225 : decode MLa_law.2.2.1 225 = .ok (.iaload, 1) := lw_d (k := 1) (j := 21) (l := tbl_1) (e := (225, .iaload, 1)) rfl rfl
theorem d_MLa_law_226 : decode MLa_law.2.2.1 226 = .ok (.invokevirtual 17, 3) := lw_d (k := 1) (j := 22) (l := tbl_1) (e := (226, .invokevirtual 17, 3)) rfl rfl
theorem d_MLa_law_229 : decode MLa_law.2.2.1 229 = .ok (.pop, 1) := lw_d (k := 1) (j := 23) (l := tbl_1) (e := (229, .pop, 1)) rfl rfl
theorem d_MLa_law_230 : decode MLa_law.2.2.1 230 = .ok (.goto 1314, 3) := lw_d (k := 2) (j := 0) (l := tbl_2) (e := (230, .goto 1314, 3)) rfl rfl
theorem d_MLa_law_233 : decode MLa_law.2.2.1 233 = .ok (.aload_n 1, 1) := lw_d (k := 2) (j := 1) (l := tbl_2) (e := (233, .aload_n 1, 1)) rfl rfl
theorem d_MLa_law_234 : decode MLa_law.2.2.1 234 = .ok (.invokevirtual 18, 3) := lw_d (k := 2) (j := 2) (l := tbl_2) (e := (234, .invokevirtual 18, 3)) rfl rfl
theorem d_MLa_law_237 : decode MLa_law.2.2.1 237 = .ok (.pop, 1) := lw_d (k := 2) (j := 3) (l := tbl_2) (e := (237, .pop, 1)) rfl rfl
theorem d_MLa_law_238 : decode MLa_law.2.2.1 238 = .ok (.aload_n 2, 1) := lw_d (k := 2) (j := 4) (l := tbl_2) (e := (238, .aload_n 2, 1)) rfl rfl
theorem d_MLa_law_239 : decode MLa_law.2.2.1 239 = .ok (.invokevirtual 22, 3) := lw_d (k := 2) (j := 5) (l := tbl_2) (e := (239, .invokevirtual 22, 3)) rfl rfl
theorem d_MLa_law_242 : decode MLa_law.2.2.1 242 = .ok (.pop, 1) := lw_d (k := 2) (j := 6) (l := tbl_2) (e := (242, .pop, 1)) rfl rfl
theorem d_MLa_law_243 : decode MLa_law.2.2.1 243 = .ok (.goto 1301, 3) := lw_d (k := 2) (j := 7) (l := tbl_2) (e := (243, .goto 1301, 3)) rfl rfl
theorem d_MLa_law_246 : decode MLa_law.2.2.1 246 = .ok (.aload_n 1, 1) := lw_d (k := 2) (j := 8) (l := tbl_2) (e := (246, .aload_n 1, 1)) rfl rfl
theorem d_MLa_law_247 : decode MLa_law.2.2.1 247 = .ok (.aload_n 0, 1) := lw_d (k := 2) (j := 9) (l := tbl_2) (e := (247, .aload_n 0, 1)) rfl rfl
theorem d_MLa_law_248 : decode MLa_law.2.2.1 248 = .ok (.iload_n 3, 1) := lw_d (k := 2) (j := 10) (l := tbl_2) (e := (248, .iload_n 3, 1)) rfl rfl
theorem d_MLa_law_249 : decode MLa_law.2.2.1 249 = .ok (.iconst 1, 1) := lw_d (k := 2) (j := 11) (l := tbl_2) (e := (249, .iconst 1, 1)) rfl rfl
theorem d_MLa_law_250 : decode MLa_law.2.2.1 250 = .ok (.iadd, 1) := lw_d (k := 2) (j := 12) (l := tbl_2) (e := (250, .iadd, 1)) rfl rfl
theorem d_MLa_law_251 : decode MLa_law.2.2.1 251 = .ok (.iaload, 1) := lw_d (k := 2) (j := 13) (l := tbl_2) (e := (251, .iaload, 1)) rfl rfl
theorem d_MLa_law_252 : decode MLa_law.2.2.1 252 = .ok (.aload_n 0, 1) := lw_d (k := 2) (j := 14) (l := tbl_2) (e := (252, .aload_n 0, 1)) rfl rfl
theorem d_MLa_law_253 : decode MLa_law.2.2.1 253 = .ok (.iload_n 3, 1) := lw_d (k := 2) (j := 15) (l := tbl_2) (e := (253, .iload_n 3, 1)) rfl rfl
theorem d_MLa_law_254 : decode MLa_law.2.2.1 254 = .ok (.iconst 2, 1) := lw_d (k := 2) (j := 16) (l := tbl_2) (e := (254, .iconst 2, 1)) rfl rfl
theorem d_MLa_law_255 : decode MLa_law.2.2.1 255 = .ok (.iadd, 1) := lw_d (k := 2) (j := 17) (l := tbl_2) (e := (255, .iadd, 1)) rfl rfl
theorem d_MLa_law_256 : decode MLa_law.2.2.1 256 = .ok (.iaload, 1) := lw_d (k := 2) (j := 18) (l := tbl_2) (e := (256, .iaload, 1)) rfl rfl
theorem d_MLa_law_257 : decode MLa_law.2.2.1 257 = .ok (.invokevirtual 23, 3) := lw_d (k := 2) (j := 19) (l := tbl_2) (e := (257, .invokevirtual 23, 3)) rfl rfl
theorem d_MLa_law_260 : decode MLa_law.2.2.1 260 = .ok (.pop, 1) := lw_d (k := 2) (j := 20) (l := tbl_2) (e := (260, .pop, 1)) rfl rfl
theorem d_MLa_law_261 : decode MLa_law.2.2.1 261 = .ok (.aload_n 2, 1) := lw_d (k := 2) (j := 21) (l := tbl_2) (e := (261, .aload_n 2, 1)) rfl rfl
theorem d_MLa_law_262 : decode MLa_law.2.2.1 262 = .ok (.aload_n 0, 1) := lw_d (k := 2) (j := 22) (l := tbl_2) (e := (262, .aload_n 0, 1)) rfl rfl
theorem d_MLa_law_263 : decode MLa_law.2.2.1 263 = .ok (.iload_n 3, 1) := lw_d (k := 2) (j := 23) (l := tbl_2) (e := (263, .iload_n 3, 1)) rfl rfl
theorem d_MLa_law_264 : decode MLa_law.2.2.1 264 = .ok (.iconst 1, 1) := lw_d (k := 3) (j := 0) (l := tbl_3) (e := (264, .iconst 1, 1)) rfl rfl
theorem d_MLa_law_265 : decode MLa_law.2.2.1 265 = .ok (.iadd, 1) := lw_d (k := 3) (j := 1) (l := tbl_3) (e := (265, .iadd, 1)) rfl rfl
theorem d_MLa_law_266 : decode MLa_law.2.2.1 266 = .ok (.iaload, 1) := lw_d (k := 3) (j := 2) (l := tbl_3) (e := (266, .iaload, 1)) rfl rfl
theorem d_MLa_law_267 : decode MLa_law.2.2.1 267 = .ok (.aload_n 0, 1) := lw_d (k := 3) (j := 3) (l := tbl_3) (e := (267, .aload_n 0, 1)) rfl rfl
theorem d_MLa_law_268 : decode MLa_law.2.2.1 268 = .ok (.iload_n 3, 1) := lw_d (k := 3) (j := 4) (l := tbl_3) (e := (268, .iload_n 3, 1)) rfl rfl
theorem d_MLa_law_269 : decode MLa_law.2.2.1 269 = .ok (.iconst 2, 1) := lw_d (k := 3) (j := 5) (l := tbl_3) (e := (269, .iconst 2, 1)) rfl rfl
theorem d_MLa_law_270 : decode MLa_law.2.2.1 270 = .ok (.iadd, 1) := lw_d (k := 3) (j := 6) (l := tbl_3) (e := (270, .iadd, 1)) rfl rfl
theorem d_MLa_law_271 : decode MLa_law.2.2.1 271 = .ok (.iaload, 1) := lw_d (k := 3) (j := 7) (l := tbl_3) (e := (271, .iaload, 1)) rfl rfl
theorem d_MLa_law_272 : decode MLa_law.2.2.1 272 = .ok (.invokevirtual 26, 3) := lw_d (k := 3) (j := 8) (l := tbl_3) (e := (272, .invokevirtual 26, 3)) rfl rfl
theorem d_MLa_law_275 : decode MLa_law.2.2.1 275 = .ok (.pop, 1) := lw_d (k := 3) (j := 9) (l := tbl_3) (e := (275, .pop, 1)) rfl rfl
theorem d_MLa_law_276 : decode MLa_law.2.2.1 276 = .ok (.goto 1268, 3) := lw_d (k := 3) (j := 10) (l := tbl_3) (e := (276, .goto 1268, 3)) rfl rfl
theorem d_MLa_law_279 : decode MLa_law.2.2.1 279 = .ok (.aload_n 1, 1) := lw_d (k := 3) (j := 11) (l := tbl_3) (e := (279, .aload_n 1, 1)) rfl rfl
theorem d_MLa_law_280 : decode MLa_law.2.2.1 280 = .ok (.aload_n 0, 1) := lw_d (k := 3) (j := 12) (l := tbl_3) (e := (280, .aload_n 0, 1)) rfl rfl
theorem d_MLa_law_281 : decode MLa_law.2.2.1 281 = .ok (.iload_n 3, 1) := lw_d (k := 3) (j := 13) (l := tbl_3) (e := (281, .iload_n 3, 1)) rfl rfl
theorem d_MLa_law_282 : decode MLa_law.2.2.1 282 = .ok (.iconst 1, 1) := lw_d (k := 3) (j := 14) (l := tbl_3) (e := (282, .iconst 1, 1)) rfl rfl
theorem d_MLa_law_283 : decode MLa_law.2.2.1 283 = .ok (.iadd, 1) := lw_d (k := 3) (j := 15) (l := tbl_3) (e := (283, .iadd, 1)) rfl rfl
theorem d_MLa_law_284 : decode MLa_law.2.2.1 284 = .ok (.iaload, 1) := lw_d (k := 3) (j := 16) (l := tbl_3) (e := (284, .iaload, 1)) rfl rfl
theorem d_MLa_law_285 : decode MLa_law.2.2.1 285 = .ok (.aload_n 0, 1) := lw_d (k := 3) (j := 17) (l := tbl_3) (e := (285, .aload_n 0, 1)) rfl rfl
theorem d_MLa_law_286 : decode MLa_law.2.2.1 286 = .ok (.iload_n 3, 1) := lw_d (k := 3) (j := 18) (l := tbl_3) (e := (286, .iload_n 3, 1)) rfl rfl
theorem d_MLa_law_287 : decode MLa_law.2.2.1 287 = .ok (.iconst 2, 1) := lw_d (k := 3) (j := 19) (l := tbl_3) (e := (287, .iconst 2, 1)) rfl rfl
theorem d_MLa_law_288 : decode MLa_law.2.2.1 288 = .ok (.iadd, 1) := lw_d (k := 3) (j := 20) (l := tbl_3) (e := (288, .iadd, 1)) rfl rfl
theorem d_MLa_law_289 : decode MLa_law.2.2.1 289 = .ok (.iaload, 1) := lw_d (k := 3) (j := 21) (l := tbl_3) (e := (289, .iaload, 1)) rfl rfl
theorem d_MLa_law_290 : decode MLa_law.2.2.1 290 = .ok (.aload_n 0, 1) := lw_d (k := 3) (j := 22) (l := tbl_3) (e := (290, .aload_n 0, 1)) rfl rfl
theorem d_MLa_law_291 : decode MLa_law.2.2.1 291 = .ok (.iload_n 3, 1) := lw_d (k := 3) (j := 23) (l := tbl_3) (e := (291, .iload_n 3, 1)) rfl rfl
theorem d_MLa_law_292 : decode MLa_law.2.2.1 292 = .ok (.iconst 3, 1) := lw_d (k := 4) (j := 0) (l := tbl_4) (e := (292, .iconst 3, 1)) rfl rfl
theorem d_MLa_law_293 : decode MLa_law.2.2.1 293 = .ok (.iadd, 1) := lw_d (k := 4) (j := 1) (l := tbl_4) (e := (293, .iadd, 1)) rfl rfl
theorem d_MLa_law_294 : decode MLa_law.2.2.1 294 = .ok (.iaload, 1) := lw_d (k := 4) (j := 2) (l := tbl_4) (e := (294, .iaload, 1)) rfl rfl
theorem d_MLa_law_295 : decode MLa_law.2.2.1 295 = .ok (.invokevirtual 27, 3) := lw_d (k := 4) (j := 3) (l := tbl_4) (e := (295, .invokevirtual 27, 3)) rfl rfl
theorem d_MLa_law_298 : decode MLa_law.2.2.1 298 = .ok (.pop, 1) := lw_d (k := 4) (j := 4) (l := tbl_4) (e := (298, .pop, 1)) rfl rfl
theorem d_MLa_law_299 : decode MLa_law.2.2.1 299 = .ok (.aload_n 2, 1) := lw_d (k := 4) (j := 5) (l := tbl_4) (e := (299, .aload_n 2, 1)) rfl rfl
theorem d_MLa_law_300 : decode MLa_law.2.2.1 300 = .ok (.aload_n 0, 1) := lw_d (k := 4) (j := 6) (l := tbl_4) (e := (300, .aload_n 0, 1)) rfl rfl
theorem d_MLa_law_301 : decode MLa_law.2.2.1 301 = .ok (.iload_n 3, 1) := lw_d (k := 4) (j := 7) (l := tbl_4) (e := (301, .iload_n 3, 1)) rfl rfl
theorem d_MLa_law_302 : decode MLa_law.2.2.1 302 = .ok (.iconst 1, 1) := lw_d (k := 4) (j := 8) (l := tbl_4) (e := (302, .iconst 1, 1)) rfl rfl
theorem d_MLa_law_303 : decode MLa_law.2.2.1 303 = .ok (.iadd, 1) := lw_d (k := 4) (j := 9) (l := tbl_4) (e := (303, .iadd, 1)) rfl rfl
theorem d_MLa_law_304 : decode MLa_law.2.2.1 304 = .ok (.iaload, 1) := lw_d (k := 4) (j := 10) (l := tbl_4) (e := (304, .iaload, 1)) rfl rfl
theorem d_MLa_law_305 : decode MLa_law.2.2.1 305 = .ok (.aload_n 0, 1) := lw_d (k := 4) (j := 11) (l := tbl_4) (e := (305, .aload_n 0, 1)) rfl rfl
theorem d_MLa_law_306 : decode MLa_law.2.2.1 306 = .ok (.iload_n 3, 1) := lw_d (k := 4) (j := 12) (l := tbl_4) (e := (306, .iload_n 3, 1)) rfl rfl
theorem d_MLa_law_307 : decode MLa_law.2.2.1 307 = .ok (.iconst 2, 1) := lw_d (k := 4) (j := 13) (l := tbl_4) (e := (307, .iconst 2, 1)) rfl rfl
theorem d_MLa_law_308 : decode MLa_law.2.2.1 308 = .ok (.iadd, 1) := lw_d (k := 4) (j := 14) (l := tbl_4) (e := (308, .iadd, 1)) rfl rfl
theorem d_MLa_law_309 : decode MLa_law.2.2.1 309 = .ok (.iaload, 1) := lw_d (k := 4) (j := 15) (l := tbl_4) (e := (309, .iaload, 1)) rfl rfl
theorem d_MLa_law_310 : decode MLa_law.2.2.1 310 = .ok (.aload_n 0, 1) := lw_d (k := 4) (j := 16) (l := tbl_4) (e := (310, .aload_n 0, 1)) rfl rfl
theorem d_MLa_law_311 : decode MLa_law.2.2.1 311 = .ok (.iload_n 3, 1) := lw_d (k := 4) (j := 17) (l := tbl_4) (e := (311, .iload_n 3, 1)) rfl rfl
theorem d_MLa_law_312 : decode MLa_law.2.2.1 312 = .ok (.iconst 3, 1) := lw_d (k := 4) (j := 18) (l := tbl_4) (e := (312, .iconst 3, 1)) rfl rfl
theorem d_MLa_law_313 : decode MLa_law.2.2.1 313 = .ok (.iadd, 1) := lw_d (k := 4) (j := 19) (l := tbl_4) (e := (313, .iadd, 1)) rfl rfl
theorem d_MLa_law_314 : decode MLa_law.2.2.1 314 = .ok (.iaload, 1) := lw_d (k := 4) (j := 20) (l := tbl_4) (e := (314, .iaload, 1)) rfl rfl
theorem d_MLa_law_315 : decode MLa_law.2.2.1 315 = .ok (.invokevirtual 31, 3) := lw_d (k := 4) (j := 21) (l := tbl_4) (e := (315, .invokevirtual 31, 3)) rfl rfl
theorem d_MLa_law_318 : decode MLa_law.2.2.1 318 = .ok (.pop, 1) := lw_d (k := 4) (j := 22) (l := tbl_4) (e := (318, .pop, 1)) rfl rfl
theorem d_MLa_law_319 : decode MLa_law.2.2.1 319 = .ok (.goto 1225, 3) := lw_d (k := 4) (j := 23) (l := tbl_4) (e := (319, .goto 1225, 3)) rfl rfl
theorem d_MLa_law_322 : decode MLa_law.2.2.1 322 = .ok (.aload_n 1, 1) := lw_d (k := 5) (j := 0) (l := tbl_5) (e := (322, .aload_n 1, 1)) rfl rfl
theorem d_MLa_law_323 : decode MLa_law.2.2.1 323 = .ok (.aload_n 0, 1) := lw_d (k := 5) (j := 1) (l := tbl_5) (e := (323, .aload_n 0, 1)) rfl rfl
theorem d_MLa_law_324 : decode MLa_law.2.2.1 324 = .ok (.iload_n 3, 1) := lw_d (k := 5) (j := 2) (l := tbl_5) (e := (324, .iload_n 3, 1)) rfl rfl
theorem d_MLa_law_325 : decode MLa_law.2.2.1 325 = .ok (.iconst 1, 1) := lw_d (k := 5) (j := 3) (l := tbl_5) (e := (325, .iconst 1, 1)) rfl rfl
theorem d_MLa_law_326 : decode MLa_law.2.2.1 326 = .ok (.iadd, 1) := lw_d (k := 5) (j := 4) (l := tbl_5) (e := (326, .iadd, 1)) rfl rfl
theorem d_MLa_law_327 : decode MLa_law.2.2.1 327 = .ok (.iaload, 1) := lw_d (k := 5) (j := 5) (l := tbl_5) (e := (327, .iaload, 1)) rfl rfl
theorem d_MLa_law_328 : decode MLa_law.2.2.1 328 = .ok (.aload_n 0, 1) := lw_d (k := 5) (j := 6) (l := tbl_5) (e := (328, .aload_n 0, 1)) rfl rfl
theorem d_MLa_law_329 : decode MLa_law.2.2.1 329 = .ok (.iload_n 3, 1) := lw_d (k := 5) (j := 7) (l := tbl_5) (e := (329, .iload_n 3, 1)) rfl rfl
theorem d_MLa_law_330 : decode MLa_law.2.2.1 330 = .ok (.iconst 2, 1) := lw_d (k := 5) (j := 8) (l := tbl_5) (e := (330, .iconst 2, 1)) rfl rfl
theorem d_MLa_law_331 : decode MLa_law.2.2.1 331 = .ok (.iadd, 1) := lw_d (k := 5) (j := 9) (l := tbl_5) (e := (331, .iadd, 1)) rfl rfl
theorem d_MLa_law_332 : decode MLa_law.2.2.1 332 = .ok (.iaload, 1) := lw_d (k := 5) (j := 10) (l := tbl_5) (e := (332, .iaload, 1)) rfl rfl
theorem d_MLa_law_333 : decode MLa_law.2.2.1 333 = .ok (.aload_n 0, 1) := lw_d (k := 5) (j := 11) (l := tbl_5) (e := (333, .aload_n 0, 1)) rfl rfl
theorem d_MLa_law_334 : decode MLa_law.2.2.1 334 = .ok (.iload_n 3, 1) := lw_d (k := 5) (j := 12) (l := tbl_5) (e := (334, .iload_n 3, 1)) rfl rfl
theorem d_MLa_law_335 : decode MLa_law.2.2.1 335 = .ok (.iconst 3, 1) := lw_d (k := 5) (j := 13) (l := tbl_5) (e := (335, .iconst 3, 1)) rfl rfl
theorem d_MLa_law_336 : decode MLa_law.2.2.1 336 = .ok (.iadd, 1) := lw_d (k := 5) (j := 14) (l := tbl_5) (e := (336, .iadd, 1)) rfl rfl
theorem d_MLa_law_337 : decode MLa_law.2.2.1 337 = .ok (.iaload, 1) := lw_d (k := 5) (j := 15) (l := tbl_5) (e := (337, .iaload, 1)) rfl rfl
theorem d_MLa_law_338 : decode MLa_law.2.2.1 338 = .ok (.invokevirtual 32, 3) := lw_d (k := 5) (j := 16) (l := tbl_5) (e := (338, .invokevirtual 32, 3)) rfl rfl
theorem d_MLa_law_341 : decode MLa_law.2.2.1 341 = .ok (.pop, 1) := lw_d (k := 5) (j := 17) (l := tbl_5) (e := (341, .pop, 1)) rfl rfl
theorem d_MLa_law_342 : decode MLa_law.2.2.1 342 = .ok (.aload_n 2, 1) := lw_d (k := 5) (j := 18) (l := tbl_5) (e := (342, .aload_n 2, 1)) rfl rfl
theorem d_MLa_law_343 : decode MLa_law.2.2.1 343 = .ok (.aload_n 0, 1) := lw_d (k := 5) (j := 19) (l := tbl_5) (e := (343, .aload_n 0, 1)) rfl rfl
theorem d_MLa_law_344 : decode MLa_law.2.2.1 344 = .ok (.iload_n 3, 1) := lw_d (k := 5) (j := 20) (l := tbl_5) (e := (344, .iload_n 3, 1)) rfl rfl
theorem d_MLa_law_345 : decode MLa_law.2.2.1 345 = .ok (.iconst 1, 1) := lw_d (k := 5) (j := 21) (l := tbl_5) (e := (345, .iconst 1, 1)) rfl rfl
theorem d_MLa_law_346 : decode MLa_law.2.2.1 346 = .ok (.iadd, 1) := lw_d (k := 5) (j := 22) (l := tbl_5) (e := (346, .iadd, 1)) rfl rfl
theorem d_MLa_law_347 : decode MLa_law.2.2.1 347 = .ok (.iaload, 1) := lw_d (k := 5) (j := 23) (l := tbl_5) (e := (347, .iaload, 1)) rfl rfl
theorem d_MLa_law_348 : decode MLa_law.2.2.1 348 = .ok (.aload_n 0, 1) := lw_d (k := 6) (j := 0) (l := tbl_6) (e := (348, .aload_n 0, 1)) rfl rfl
theorem d_MLa_law_349 : decode MLa_law.2.2.1 349 = .ok (.iload_n 3, 1) := lw_d (k := 6) (j := 1) (l := tbl_6) (e := (349, .iload_n 3, 1)) rfl rfl
theorem d_MLa_law_350 : decode MLa_law.2.2.1 350 = .ok (.iconst 2, 1) := lw_d (k := 6) (j := 2) (l := tbl_6) (e := (350, .iconst 2, 1)) rfl rfl
theorem d_MLa_law_351 : decode MLa_law.2.2.1 351 = .ok (.iadd, 1) := lw_d (k := 6) (j := 3) (l := tbl_6) (e := (351, .iadd, 1)) rfl rfl
theorem d_MLa_law_352 : decode MLa_law.2.2.1 352 = .ok (.iaload, 1) := lw_d (k := 6) (j := 4) (l := tbl_6) (e := (352, .iaload, 1)) rfl rfl
theorem d_MLa_law_353 : decode MLa_law.2.2.1 353 = .ok (.aload_n 0, 1) := lw_d (k := 6) (j := 5) (l := tbl_6) (e := (353, .aload_n 0, 1)) rfl rfl
theorem d_MLa_law_354 : decode MLa_law.2.2.1 354 = .ok (.iload_n 3, 1) := lw_d (k := 6) (j := 6) (l := tbl_6) (e := (354, .iload_n 3, 1)) rfl rfl
theorem d_MLa_law_355 : decode MLa_law.2.2.1 355 = .ok (.iconst 3, 1) := lw_d (k := 6) (j := 7) (l := tbl_6) (e := (355, .iconst 3, 1)) rfl rfl
theorem d_MLa_law_356 : decode MLa_law.2.2.1 356 = .ok (.iadd, 1) := lw_d (k := 6) (j := 8) (l := tbl_6) (e := (356, .iadd, 1)) rfl rfl
theorem d_MLa_law_357 : decode MLa_law.2.2.1 357 = .ok (.iaload, 1) := lw_d (k := 6) (j := 9) (l := tbl_6) (e := (357, .iaload, 1)) rfl rfl
theorem d_MLa_law_358 : decode MLa_law.2.2.1 358 = .ok (.invokevirtual 35, 3) := lw_d (k := 6) (j := 10) (l := tbl_6) (e := (358, .invokevirtual 35, 3)) rfl rfl
theorem d_MLa_law_361 : decode MLa_law.2.2.1 361 = .ok (.pop, 1) := lw_d (k := 6) (j := 11) (l := tbl_6) (e := (361, .pop, 1)) rfl rfl
theorem d_MLa_law_362 : decode MLa_law.2.2.1 362 = .ok (.goto 1182, 3) := lw_d (k := 6) (j := 12) (l := tbl_6) (e := (362, .goto 1182, 3)) rfl rfl
theorem d_MLa_law_365 : decode MLa_law.2.2.1 365 = .ok (.aload_n 1, 1) := lw_d (k := 6) (j := 13) (l := tbl_6) (e := (365, .aload_n 1, 1)) rfl rfl
theorem d_MLa_law_366 : decode MLa_law.2.2.1 366 = .ok (.invokevirtual 36, 3) := lw_d (k := 6) (j := 14) (l := tbl_6) (e := (366, .invokevirtual 36, 3)) rfl rfl
theorem d_MLa_law_369 : decode MLa_law.2.2.1 369 = .ok (.pop, 1) := lw_d (k := 6) (j := 15) (l := tbl_6) (e := (369, .pop, 1)) rfl rfl
theorem d_MLa_law_370 : decode MLa_law.2.2.1 370 = .ok (.aload_n 2, 1) := lw_d (k := 6) (j := 16) (l := tbl_6) (e := (370, .aload_n 2, 1)) rfl rfl
theorem d_MLa_law_371 : decode MLa_law.2.2.1 371 = .ok (.invokevirtual 39, 3) := lw_d (k := 6) (j := 17) (l := tbl_6) (e := (371, .invokevirtual 39, 3)) rfl rfl
theorem d_MLa_law_374 : decode MLa_law.2.2.1 374 = .ok (.pop, 1) := lw_d (k := 6) (j := 18) (l := tbl_6) (e := (374, .pop, 1)) rfl rfl
theorem d_MLa_law_375 : decode MLa_law.2.2.1 375 = .ok (.goto 1169, 3) := lw_d (k := 6) (j := 19) (l := tbl_6) (e := (375, .goto 1169, 3)) rfl rfl
theorem d_MLa_law_378 : decode MLa_law.2.2.1 378 = .ok (.aload_n 1, 1) := lw_d (k := 6) (j := 20) (l := tbl_6) (e := (378, .aload_n 1, 1)) rfl rfl
theorem d_MLa_law_379 : decode MLa_law.2.2.1 379 = .ok (.aload_n 0, 1) := lw_d (k := 6) (j := 21) (l := tbl_6) (e := (379, .aload_n 0, 1)) rfl rfl
theorem d_MLa_law_380 : decode MLa_law.2.2.1 380 = .ok (.iload_n 3, 1) := lw_d (k := 6) (j := 22) (l := tbl_6) (e := (380, .iload_n 3, 1)) rfl rfl
theorem d_MLa_law_381 : decode MLa_law.2.2.1 381 = .ok (.iconst 1, 1) := lw_d (k := 6) (j := 23) (l := tbl_6) (e := (381, .iconst 1, 1)) rfl rfl
theorem d_MLa_law_382 : decode MLa_law.2.2.1 382 = .ok (.iadd, 1) := lw_d (k := 7) (j := 0) (l := tbl_7) (e := (382, .iadd, 1)) rfl rfl
theorem d_MLa_law_383 : decode MLa_law.2.2.1 383 = .ok (.iaload, 1) := lw_d (k := 7) (j := 1) (l := tbl_7) (e := (383, .iaload, 1)) rfl rfl
theorem d_MLa_law_384 : decode MLa_law.2.2.1 384 = .ok (.aload_n 0, 1) := lw_d (k := 7) (j := 2) (l := tbl_7) (e := (384, .aload_n 0, 1)) rfl rfl
theorem d_MLa_law_385 : decode MLa_law.2.2.1 385 = .ok (.iload_n 3, 1) := lw_d (k := 7) (j := 3) (l := tbl_7) (e := (385, .iload_n 3, 1)) rfl rfl
theorem d_MLa_law_386 : decode MLa_law.2.2.1 386 = .ok (.iconst 2, 1) := lw_d (k := 7) (j := 4) (l := tbl_7) (e := (386, .iconst 2, 1)) rfl rfl
theorem d_MLa_law_387 : decode MLa_law.2.2.1 387 = .ok (.iadd, 1) := lw_d (k := 7) (j := 5) (l := tbl_7) (e := (387, .iadd, 1)) rfl rfl
theorem d_MLa_law_388 : decode MLa_law.2.2.1 388 = .ok (.iaload, 1) := lw_d (k := 7) (j := 6) (l := tbl_7) (e := (388, .iaload, 1)) rfl rfl
theorem d_MLa_law_389 : decode MLa_law.2.2.1 389 = .ok (.invokevirtual 40, 3) := lw_d (k := 7) (j := 7) (l := tbl_7) (e := (389, .invokevirtual 40, 3)) rfl rfl
theorem d_MLa_law_392 : decode MLa_law.2.2.1 392 = .ok (.pop, 1) := lw_d (k := 7) (j := 8) (l := tbl_7) (e := (392, .pop, 1)) rfl rfl
theorem d_MLa_law_393 : decode MLa_law.2.2.1 393 = .ok (.aload_n 2, 1) := lw_d (k := 7) (j := 9) (l := tbl_7) (e := (393, .aload_n 2, 1)) rfl rfl
theorem d_MLa_law_394 : decode MLa_law.2.2.1 394 = .ok (.aload_n 0, 1) := lw_d (k := 7) (j := 10) (l := tbl_7) (e := (394, .aload_n 0, 1)) rfl rfl
theorem d_MLa_law_395 : decode MLa_law.2.2.1 395 = .ok (.iload_n 3, 1) := lw_d (k := 7) (j := 11) (l := tbl_7) (e := (395, .iload_n 3, 1)) rfl rfl
theorem d_MLa_law_396 : decode MLa_law.2.2.1 396 = .ok (.iconst 1, 1) := lw_d (k := 7) (j := 12) (l := tbl_7) (e := (396, .iconst 1, 1)) rfl rfl
theorem d_MLa_law_397 : decode MLa_law.2.2.1 397 = .ok (.iadd, 1) := lw_d (k := 7) (j := 13) (l := tbl_7) (e := (397, .iadd, 1)) rfl rfl
theorem d_MLa_law_398 : decode MLa_law.2.2.1 398 = .ok (.iaload, 1) := lw_d (k := 7) (j := 14) (l := tbl_7) (e := (398, .iaload, 1)) rfl rfl
theorem d_MLa_law_399 : decode MLa_law.2.2.1 399 = .ok (.aload_n 0, 1) := lw_d (k := 7) (j := 15) (l := tbl_7) (e := (399, .aload_n 0, 1)) rfl rfl
theorem d_MLa_law_400 : decode MLa_law.2.2.1 400 = .ok (.iload_n 3, 1) := lw_d (k := 7) (j := 16) (l := tbl_7) (e := (400, .iload_n 3, 1)) rfl rfl
theorem d_MLa_law_401 : decode MLa_law.2.2.1 401 = .ok (.iconst 2, 1) := lw_d (k := 7) (j := 17) (l := tbl_7) (e := (401, .iconst 2, 1)) rfl rfl
theorem d_MLa_law_402 : decode MLa_law.2.2.1 402 = .ok (.iadd, 1) := lw_d (k := 7) (j := 18) (l := tbl_7) (e := (402, .iadd, 1)) rfl rfl
theorem d_MLa_law_403 : decode MLa_law.2.2.1 403 = .ok (.iaload, 1) := lw_d (k := 7) (j := 19) (l := tbl_7) (e := (403, .iaload, 1)) rfl rfl
theorem d_MLa_law_404 : decode MLa_law.2.2.1 404 = .ok (.invokevirtual 43, 3) := lw_d (k := 7) (j := 20) (l := tbl_7) (e := (404, .invokevirtual 43, 3)) rfl rfl
theorem d_MLa_law_407 : decode MLa_law.2.2.1 407 = .ok (.pop, 1) := lw_d (k := 7) (j := 21) (l := tbl_7) (e := (407, .pop, 1)) rfl rfl
theorem d_MLa_law_408 : decode MLa_law.2.2.1 408 = .ok (.goto 1136, 3) := lw_d (k := 7) (j := 22) (l := tbl_7) (e := (408, .goto 1136, 3)) rfl rfl
theorem d_MLa_law_411 : decode MLa_law.2.2.1 411 = .ok (.aload_n 1, 1) := lw_d (k := 7) (j := 23) (l := tbl_7) (e := (411, .aload_n 1, 1)) rfl rfl
theorem d_MLa_law_412 : decode MLa_law.2.2.1 412 = .ok (.aload_n 0, 1) := lw_d (k := 8) (j := 0) (l := tbl_8) (e := (412, .aload_n 0, 1)) rfl rfl
theorem d_MLa_law_413 : decode MLa_law.2.2.1 413 = .ok (.iload_n 3, 1) := lw_d (k := 8) (j := 1) (l := tbl_8) (e := (413, .iload_n 3, 1)) rfl rfl
theorem d_MLa_law_414 : decode MLa_law.2.2.1 414 = .ok (.iconst 1, 1) := lw_d (k := 8) (j := 2) (l := tbl_8) (e := (414, .iconst 1, 1)) rfl rfl
theorem d_MLa_law_415 : decode MLa_law.2.2.1 415 = .ok (.iadd, 1) := lw_d (k := 8) (j := 3) (l := tbl_8) (e := (415, .iadd, 1)) rfl rfl
theorem d_MLa_law_416 : decode MLa_law.2.2.1 416 = .ok (.iaload, 1) := lw_d (k := 8) (j := 4) (l := tbl_8) (e := (416, .iaload, 1)) rfl rfl
theorem d_MLa_law_417 : decode MLa_law.2.2.1 417 = .ok (.aload_n 0, 1) := lw_d (k := 8) (j := 5) (l := tbl_8) (e := (417, .aload_n 0, 1)) rfl rfl
theorem d_MLa_law_418 : decode MLa_law.2.2.1 418 = .ok (.iload_n 3, 1) := lw_d (k := 8) (j := 6) (l := tbl_8) (e := (418, .iload_n 3, 1)) rfl rfl
theorem d_MLa_law_419 : decode MLa_law.2.2.1 419 = .ok (.iconst 2, 1) := lw_d (k := 8) (j := 7) (l := tbl_8) (e := (419, .iconst 2, 1)) rfl rfl
theorem d_MLa_law_420 : decode MLa_law.2.2.1 420 = .ok (.iadd, 1) := lw_d (k := 8) (j := 8) (l := tbl_8) (e := (420, .iadd, 1)) rfl rfl
theorem d_MLa_law_421 : decode MLa_law.2.2.1 421 = .ok (.iaload, 1) := lw_d (k := 8) (j := 9) (l := tbl_8) (e := (421, .iaload, 1)) rfl rfl
theorem d_MLa_law_422 : decode MLa_law.2.2.1 422 = .ok (.aload_n 0, 1) := lw_d (k := 8) (j := 10) (l := tbl_8) (e := (422, .aload_n 0, 1)) rfl rfl
theorem d_MLa_law_423 : decode MLa_law.2.2.1 423 = .ok (.iload_n 3, 1) := lw_d (k := 8) (j := 11) (l := tbl_8) (e := (423, .iload_n 3, 1)) rfl rfl
theorem d_MLa_law_424 : decode MLa_law.2.2.1 424 = .ok (.iconst 3, 1) := lw_d (k := 8) (j := 12) (l := tbl_8) (e := (424, .iconst 3, 1)) rfl rfl
theorem d_MLa_law_425 : decode MLa_law.2.2.1 425 = .ok (.iadd, 1) := lw_d (k := 8) (j := 13) (l := tbl_8) (e := (425, .iadd, 1)) rfl rfl
theorem d_MLa_law_426 : decode MLa_law.2.2.1 426 = .ok (.iaload, 1) := lw_d (k := 8) (j := 14) (l := tbl_8) (e := (426, .iaload, 1)) rfl rfl
theorem d_MLa_law_427 : decode MLa_law.2.2.1 427 = .ok (.aload_n 0, 1) := lw_d (k := 8) (j := 15) (l := tbl_8) (e := (427, .aload_n 0, 1)) rfl rfl
theorem d_MLa_law_428 : decode MLa_law.2.2.1 428 = .ok (.iload_n 3, 1) := lw_d (k := 8) (j := 16) (l := tbl_8) (e := (428, .iload_n 3, 1)) rfl rfl
theorem d_MLa_law_429 : decode MLa_law.2.2.1 429 = .ok (.iconst 4, 1) := lw_d (k := 8) (j := 17) (l := tbl_8) (e := (429, .iconst 4, 1)) rfl rfl
theorem d_MLa_law_430 : decode MLa_law.2.2.1 430 = .ok (.iadd, 1) := lw_d (k := 8) (j := 18) (l := tbl_8) (e := (430, .iadd, 1)) rfl rfl
theorem d_MLa_law_431 : decode MLa_law.2.2.1 431 = .ok (.iaload, 1) := lw_d (k := 8) (j := 19) (l := tbl_8) (e := (431, .iaload, 1)) rfl rfl
theorem d_MLa_law_432 : decode MLa_law.2.2.1 432 = .ok (.invokevirtual 44, 3) := lw_d (k := 8) (j := 20) (l := tbl_8) (e := (432, .invokevirtual 44, 3)) rfl rfl
theorem d_MLa_law_435 : decode MLa_law.2.2.1 435 = .ok (.pop, 1) := lw_d (k := 8) (j := 21) (l := tbl_8) (e := (435, .pop, 1)) rfl rfl
theorem d_MLa_law_436 : decode MLa_law.2.2.1 436 = .ok (.aload_n 2, 1) := lw_d (k := 8) (j := 22) (l := tbl_8) (e := (436, .aload_n 2, 1)) rfl rfl
theorem d_MLa_law_437 : decode MLa_law.2.2.1 437 = .ok (.aload_n 0, 1) := lw_d (k := 8) (j := 23) (l := tbl_8) (e := (437, .aload_n 0, 1)) rfl rfl
theorem d_MLa_law_438 : decode MLa_law.2.2.1 438 = .ok (.iload_n 3, 1) := lw_d (k := 9) (j := 0) (l := tbl_9) (e := (438, .iload_n 3, 1)) rfl rfl
theorem d_MLa_law_439 : decode MLa_law.2.2.1 439 = .ok (.iconst 1, 1) := lw_d (k := 9) (j := 1) (l := tbl_9) (e := (439, .iconst 1, 1)) rfl rfl
theorem d_MLa_law_440 : decode MLa_law.2.2.1 440 = .ok (.iadd, 1) := lw_d (k := 9) (j := 2) (l := tbl_9) (e := (440, .iadd, 1)) rfl rfl
theorem d_MLa_law_441 : decode MLa_law.2.2.1 441 = .ok (.iaload, 1) := lw_d (k := 9) (j := 3) (l := tbl_9) (e := (441, .iaload, 1)) rfl rfl
theorem d_MLa_law_442 : decode MLa_law.2.2.1 442 = .ok (.aload_n 0, 1) := lw_d (k := 9) (j := 4) (l := tbl_9) (e := (442, .aload_n 0, 1)) rfl rfl
theorem d_MLa_law_443 : decode MLa_law.2.2.1 443 = .ok (.iload_n 3, 1) := lw_d (k := 9) (j := 5) (l := tbl_9) (e := (443, .iload_n 3, 1)) rfl rfl
theorem d_MLa_law_444 : decode MLa_law.2.2.1 444 = .ok (.iconst 2, 1) := lw_d (k := 9) (j := 6) (l := tbl_9) (e := (444, .iconst 2, 1)) rfl rfl
theorem d_MLa_law_445 : decode MLa_law.2.2.1 445 = .ok (.iadd, 1) := lw_d (k := 9) (j := 7) (l := tbl_9) (e := (445, .iadd, 1)) rfl rfl
theorem d_MLa_law_446 : decode MLa_law.2.2.1 446 = .ok (.iaload, 1) := lw_d (k := 9) (j := 8) (l := tbl_9) (e := (446, .iaload, 1)) rfl rfl
theorem d_MLa_law_447 : decode MLa_law.2.2.1 447 = .ok (.aload_n 0, 1) := lw_d (k := 9) (j := 9) (l := tbl_9) (e := (447, .aload_n 0, 1)) rfl rfl
theorem d_MLa_law_448 : decode MLa_law.2.2.1 448 = .ok (.iload_n 3, 1) := lw_d (k := 9) (j := 10) (l := tbl_9) (e := (448, .iload_n 3, 1)) rfl rfl
theorem d_MLa_law_449 : decode MLa_law.2.2.1 449 = .ok (.iconst 3, 1) := lw_d (k := 9) (j := 11) (l := tbl_9) (e := (449, .iconst 3, 1)) rfl rfl
theorem d_MLa_law_450 : decode MLa_law.2.2.1 450 = .ok (.iadd, 1) := lw_d (k := 9) (j := 12) (l := tbl_9) (e := (450, .iadd, 1)) rfl rfl
theorem d_MLa_law_451 : decode MLa_law.2.2.1 451 = .ok (.iaload, 1) := lw_d (k := 9) (j := 13) (l := tbl_9) (e := (451, .iaload, 1)) rfl rfl
theorem d_MLa_law_452 : decode MLa_law.2.2.1 452 = .ok (.aload_n 0, 1) := lw_d (k := 9) (j := 14) (l := tbl_9) (e := (452, .aload_n 0, 1)) rfl rfl
theorem d_MLa_law_453 : decode MLa_law.2.2.1 453 = .ok (.iload_n 3, 1) := lw_d (k := 9) (j := 15) (l := tbl_9) (e := (453, .iload_n 3, 1)) rfl rfl
theorem d_MLa_law_454 : decode MLa_law.2.2.1 454 = .ok (.iconst 4, 1) := lw_d (k := 9) (j := 16) (l := tbl_9) (e := (454, .iconst 4, 1)) rfl rfl
theorem d_MLa_law_455 : decode MLa_law.2.2.1 455 = .ok (.iadd, 1) := lw_d (k := 9) (j := 17) (l := tbl_9) (e := (455, .iadd, 1)) rfl rfl
theorem d_MLa_law_456 : decode MLa_law.2.2.1 456 = .ok (.iaload, 1) := lw_d (k := 9) (j := 18) (l := tbl_9) (e := (456, .iaload, 1)) rfl rfl
theorem d_MLa_law_457 : decode MLa_law.2.2.1 457 = .ok (.invokevirtual 48, 3) := lw_d (k := 9) (j := 19) (l := tbl_9) (e := (457, .invokevirtual 48, 3)) rfl rfl
theorem d_MLa_law_460 : decode MLa_law.2.2.1 460 = .ok (.pop, 1) := lw_d (k := 9) (j := 20) (l := tbl_9) (e := (460, .pop, 1)) rfl rfl
theorem d_MLa_law_461 : decode MLa_law.2.2.1 461 = .ok (.goto 1083, 3) := lw_d (k := 9) (j := 21) (l := tbl_9) (e := (461, .goto 1083, 3)) rfl rfl
theorem d_MLa_law_464 : decode MLa_law.2.2.1 464 = .ok (.aload_n 1, 1) := lw_d (k := 9) (j := 22) (l := tbl_9) (e := (464, .aload_n 1, 1)) rfl rfl
theorem d_MLa_law_465 : decode MLa_law.2.2.1 465 = .ok (.aload_n 0, 1) := lw_d (k := 9) (j := 23) (l := tbl_9) (e := (465, .aload_n 0, 1)) rfl rfl
theorem d_MLa_law_466 : decode MLa_law.2.2.1 466 = .ok (.iload_n 3, 1) := lw_d (k := 10) (j := 0) (l := tbl_10) (e := (466, .iload_n 3, 1)) rfl rfl
theorem d_MLa_law_467 : decode MLa_law.2.2.1 467 = .ok (.iconst 1, 1) := lw_d (k := 10) (j := 1) (l := tbl_10) (e := (467, .iconst 1, 1)) rfl rfl
theorem d_MLa_law_468 : decode MLa_law.2.2.1 468 = .ok (.iadd, 1) := lw_d (k := 10) (j := 2) (l := tbl_10) (e := (468, .iadd, 1)) rfl rfl
theorem d_MLa_law_469 : decode MLa_law.2.2.1 469 = .ok (.iaload, 1) := lw_d (k := 10) (j := 3) (l := tbl_10) (e := (469, .iaload, 1)) rfl rfl
theorem d_MLa_law_470 : decode MLa_law.2.2.1 470 = .ok (.aload_n 0, 1) := lw_d (k := 10) (j := 4) (l := tbl_10) (e := (470, .aload_n 0, 1)) rfl rfl
theorem d_MLa_law_471 : decode MLa_law.2.2.1 471 = .ok (.iload_n 3, 1) := lw_d (k := 10) (j := 5) (l := tbl_10) (e := (471, .iload_n 3, 1)) rfl rfl
theorem d_MLa_law_472 : decode MLa_law.2.2.1 472 = .ok (.iconst 2, 1) := lw_d (k := 10) (j := 6) (l := tbl_10) (e := (472, .iconst 2, 1)) rfl rfl
theorem d_MLa_law_473 : decode MLa_law.2.2.1 473 = .ok (.iadd, 1) := lw_d (k := 10) (j := 7) (l := tbl_10) (e := (473, .iadd, 1)) rfl rfl
theorem d_MLa_law_474 : decode MLa_law.2.2.1 474 = .ok (.iaload, 1) := lw_d (k := 10) (j := 8) (l := tbl_10) (e := (474, .iaload, 1)) rfl rfl
theorem d_MLa_law_475 : decode MLa_law.2.2.1 475 = .ok (.invokevirtual 49, 3) := lw_d (k := 10) (j := 9) (l := tbl_10) (e := (475, .invokevirtual 49, 3)) rfl rfl
theorem d_MLa_law_478 : decode MLa_law.2.2.1 478 = .ok (.pop, 1) := lw_d (k := 10) (j := 10) (l := tbl_10) (e := (478, .pop, 1)) rfl rfl
theorem d_MLa_law_479 : decode MLa_law.2.2.1 479 = .ok (.aload_n 2, 1) := lw_d (k := 10) (j := 11) (l := tbl_10) (e := (479, .aload_n 2, 1)) rfl rfl
theorem d_MLa_law_480 : decode MLa_law.2.2.1 480 = .ok (.aload_n 0, 1) := lw_d (k := 10) (j := 12) (l := tbl_10) (e := (480, .aload_n 0, 1)) rfl rfl
theorem d_MLa_law_481 : decode MLa_law.2.2.1 481 = .ok (.iload_n 3, 1) := lw_d (k := 10) (j := 13) (l := tbl_10) (e := (481, .iload_n 3, 1)) rfl rfl
theorem d_MLa_law_482 : decode MLa_law.2.2.1 482 = .ok (.iconst 1, 1) := lw_d (k := 10) (j := 14) (l := tbl_10) (e := (482, .iconst 1, 1)) rfl rfl
theorem d_MLa_law_483 : decode MLa_law.2.2.1 483 = .ok (.iadd, 1) := lw_d (k := 10) (j := 15) (l := tbl_10) (e := (483, .iadd, 1)) rfl rfl
theorem d_MLa_law_484 : decode MLa_law.2.2.1 484 = .ok (.iaload, 1) := lw_d (k := 10) (j := 16) (l := tbl_10) (e := (484, .iaload, 1)) rfl rfl
theorem d_MLa_law_485 : decode MLa_law.2.2.1 485 = .ok (.aload_n 0, 1) := lw_d (k := 10) (j := 17) (l := tbl_10) (e := (485, .aload_n 0, 1)) rfl rfl
theorem d_MLa_law_486 : decode MLa_law.2.2.1 486 = .ok (.iload_n 3, 1) := lw_d (k := 10) (j := 18) (l := tbl_10) (e := (486, .iload_n 3, 1)) rfl rfl
theorem d_MLa_law_487 : decode MLa_law.2.2.1 487 = .ok (.iconst 2, 1) := lw_d (k := 10) (j := 19) (l := tbl_10) (e := (487, .iconst 2, 1)) rfl rfl
theorem d_MLa_law_488 : decode MLa_law.2.2.1 488 = .ok (.iadd, 1) := lw_d (k := 10) (j := 20) (l := tbl_10) (e := (488, .iadd, 1)) rfl rfl
theorem d_MLa_law_489 : decode MLa_law.2.2.1 489 = .ok (.iaload, 1) := lw_d (k := 10) (j := 21) (l := tbl_10) (e := (489, .iaload, 1)) rfl rfl
theorem d_MLa_law_490 : decode MLa_law.2.2.1 490 = .ok (.invokevirtual 52, 3) := lw_d (k := 10) (j := 22) (l := tbl_10) (e := (490, .invokevirtual 52, 3)) rfl rfl
theorem d_MLa_law_493 : decode MLa_law.2.2.1 493 = .ok (.pop, 1) := lw_d (k := 10) (j := 23) (l := tbl_10) (e := (493, .pop, 1)) rfl rfl
theorem d_MLa_law_494 : decode MLa_law.2.2.1 494 = .ok (.goto 1050, 3) := lw_d (k := 11) (j := 0) (l := tbl_11) (e := (494, .goto 1050, 3)) rfl rfl
theorem d_MLa_law_497 : decode MLa_law.2.2.1 497 = .ok (.aload_n 1, 1) := lw_d (k := 11) (j := 1) (l := tbl_11) (e := (497, .aload_n 1, 1)) rfl rfl
theorem d_MLa_law_498 : decode MLa_law.2.2.1 498 = .ok (.aload_n 0, 1) := lw_d (k := 11) (j := 2) (l := tbl_11) (e := (498, .aload_n 0, 1)) rfl rfl
theorem d_MLa_law_499 : decode MLa_law.2.2.1 499 = .ok (.iload_n 3, 1) := lw_d (k := 11) (j := 3) (l := tbl_11) (e := (499, .iload_n 3, 1)) rfl rfl
theorem d_MLa_law_500 : decode MLa_law.2.2.1 500 = .ok (.iconst 1, 1) := lw_d (k := 11) (j := 4) (l := tbl_11) (e := (500, .iconst 1, 1)) rfl rfl
theorem d_MLa_law_501 : decode MLa_law.2.2.1 501 = .ok (.iadd, 1) := lw_d (k := 11) (j := 5) (l := tbl_11) (e := (501, .iadd, 1)) rfl rfl
theorem d_MLa_law_502 : decode MLa_law.2.2.1 502 = .ok (.iaload, 1) := lw_d (k := 11) (j := 6) (l := tbl_11) (e := (502, .iaload, 1)) rfl rfl
theorem d_MLa_law_503 : decode MLa_law.2.2.1 503 = .ok (.invokevirtual 53, 3) := lw_d (k := 11) (j := 7) (l := tbl_11) (e := (503, .invokevirtual 53, 3)) rfl rfl
theorem d_MLa_law_506 : decode MLa_law.2.2.1 506 = .ok (.pop, 1) := lw_d (k := 11) (j := 8) (l := tbl_11) (e := (506, .pop, 1)) rfl rfl
theorem d_MLa_law_507 : decode MLa_law.2.2.1 507 = .ok (.aload_n 2, 1) := lw_d (k := 11) (j := 9) (l := tbl_11) (e := (507, .aload_n 2, 1)) rfl rfl
theorem d_MLa_law_508 : decode MLa_law.2.2.1 508 = .ok (.aload_n 0, 1) := lw_d (k := 11) (j := 10) (l := tbl_11) (e := (508, .aload_n 0, 1)) rfl rfl
theorem d_MLa_law_509 : decode MLa_law.2.2.1 509 = .ok (.iload_n 3, 1) := lw_d (k := 11) (j := 11) (l := tbl_11) (e := (509, .iload_n 3, 1)) rfl rfl
theorem d_MLa_law_510 : decode MLa_law.2.2.1 510 = .ok (.iconst 1, 1) := lw_d (k := 11) (j := 12) (l := tbl_11) (e := (510, .iconst 1, 1)) rfl rfl
theorem d_MLa_law_511 : decode MLa_law.2.2.1 511 = .ok (.iadd, 1) := lw_d (k := 11) (j := 13) (l := tbl_11) (e := (511, .iadd, 1)) rfl rfl
theorem d_MLa_law_512 : decode MLa_law.2.2.1 512 = .ok (.iaload, 1) := lw_d (k := 11) (j := 14) (l := tbl_11) (e := (512, .iaload, 1)) rfl rfl
theorem d_MLa_law_513 : decode MLa_law.2.2.1 513 = .ok (.invokevirtual 57, 3) := lw_d (k := 11) (j := 15) (l := tbl_11) (e := (513, .invokevirtual 57, 3)) rfl rfl
theorem d_MLa_law_516 : decode MLa_law.2.2.1 516 = .ok (.pop, 1) := lw_d (k := 11) (j := 16) (l := tbl_11) (e := (516, .pop, 1)) rfl rfl
theorem d_MLa_law_517 : decode MLa_law.2.2.1 517 = .ok (.goto 1027, 3) := lw_d (k := 11) (j := 17) (l := tbl_11) (e := (517, .goto 1027, 3)) rfl rfl
theorem d_MLa_law_520 : decode MLa_law.2.2.1 520 = .ok (.aload_n 1, 1) := lw_d (k := 11) (j := 18) (l := tbl_11) (e := (520, .aload_n 1, 1)) rfl rfl
theorem d_MLa_law_521 : decode MLa_law.2.2.1 521 = .ok (.aload_n 0, 1) := lw_d (k := 11) (j := 19) (l := tbl_11) (e := (521, .aload_n 0, 1)) rfl rfl
theorem d_MLa_law_522 : decode MLa_law.2.2.1 522 = .ok (.iload_n 3, 1) := lw_d (k := 11) (j := 20) (l := tbl_11) (e := (522, .iload_n 3, 1)) rfl rfl
theorem d_MLa_law_523 : decode MLa_law.2.2.1 523 = .ok (.iconst 1, 1) := lw_d (k := 11) (j := 21) (l := tbl_11) (e := (523, .iconst 1, 1)) rfl rfl
theorem d_MLa_law_524 : decode MLa_law.2.2.1 524 = .ok (.iadd, 1) := lw_d (k := 11) (j := 22) (l := tbl_11) (e := (524, .iadd, 1)) rfl rfl
theorem d_MLa_law_525 : decode MLa_law.2.2.1 525 = .ok (.iaload, 1) := lw_d (k := 11) (j := 23) (l := tbl_11) (e := (525, .iaload, 1)) rfl rfl
theorem d_MLa_law_526 : decode MLa_law.2.2.1 526 = .ok (.invokevirtual 58, 3) := lw_d (k := 12) (j := 0) (l := tbl_12) (e := (526, .invokevirtual 58, 3)) rfl rfl
theorem d_MLa_law_529 : decode MLa_law.2.2.1 529 = .ok (.pop, 1) := lw_d (k := 12) (j := 1) (l := tbl_12) (e := (529, .pop, 1)) rfl rfl
theorem d_MLa_law_530 : decode MLa_law.2.2.1 530 = .ok (.aload_n 2, 1) := lw_d (k := 12) (j := 2) (l := tbl_12) (e := (530, .aload_n 2, 1)) rfl rfl
theorem d_MLa_law_531 : decode MLa_law.2.2.1 531 = .ok (.aload_n 0, 1) := lw_d (k := 12) (j := 3) (l := tbl_12) (e := (531, .aload_n 0, 1)) rfl rfl
theorem d_MLa_law_532 : decode MLa_law.2.2.1 532 = .ok (.iload_n 3, 1) := lw_d (k := 12) (j := 4) (l := tbl_12) (e := (532, .iload_n 3, 1)) rfl rfl
theorem d_MLa_law_533 : decode MLa_law.2.2.1 533 = .ok (.iconst 1, 1) := lw_d (k := 12) (j := 5) (l := tbl_12) (e := (533, .iconst 1, 1)) rfl rfl
theorem d_MLa_law_534 : decode MLa_law.2.2.1 534 = .ok (.iadd, 1) := lw_d (k := 12) (j := 6) (l := tbl_12) (e := (534, .iadd, 1)) rfl rfl
theorem d_MLa_law_535 : decode MLa_law.2.2.1 535 = .ok (.iaload, 1) := lw_d (k := 12) (j := 7) (l := tbl_12) (e := (535, .iaload, 1)) rfl rfl
theorem d_MLa_law_536 : decode MLa_law.2.2.1 536 = .ok (.invokevirtual 61, 3) := lw_d (k := 12) (j := 8) (l := tbl_12) (e := (536, .invokevirtual 61, 3)) rfl rfl
theorem d_MLa_law_539 : decode MLa_law.2.2.1 539 = .ok (.pop, 1) := lw_d (k := 12) (j := 9) (l := tbl_12) (e := (539, .pop, 1)) rfl rfl
theorem d_MLa_law_540 : decode MLa_law.2.2.1 540 = .ok (.goto 1004, 3) := lw_d (k := 12) (j := 10) (l := tbl_12) (e := (540, .goto 1004, 3)) rfl rfl
theorem d_MLa_law_543 : decode MLa_law.2.2.1 543 = .ok (.aload_n 1, 1) := lw_d (k := 12) (j := 11) (l := tbl_12) (e := (543, .aload_n 1, 1)) rfl rfl
theorem d_MLa_law_544 : decode MLa_law.2.2.1 544 = .ok (.aload_n 0, 1) := lw_d (k := 12) (j := 12) (l := tbl_12) (e := (544, .aload_n 0, 1)) rfl rfl
theorem d_MLa_law_545 : decode MLa_law.2.2.1 545 = .ok (.iload_n 3, 1) := lw_d (k := 12) (j := 13) (l := tbl_12) (e := (545, .iload_n 3, 1)) rfl rfl
theorem d_MLa_law_546 : decode MLa_law.2.2.1 546 = .ok (.iconst 1, 1) := lw_d (k := 12) (j := 14) (l := tbl_12) (e := (546, .iconst 1, 1)) rfl rfl
theorem d_MLa_law_547 : decode MLa_law.2.2.1 547 = .ok (.iadd, 1) := lw_d (k := 12) (j := 15) (l := tbl_12) (e := (547, .iadd, 1)) rfl rfl
theorem d_MLa_law_548 : decode MLa_law.2.2.1 548 = .ok (.iaload, 1) := lw_d (k := 12) (j := 16) (l := tbl_12) (e := (548, .iaload, 1)) rfl rfl
theorem d_MLa_law_549 : decode MLa_law.2.2.1 549 = .ok (.aload_n 0, 1) := lw_d (k := 12) (j := 17) (l := tbl_12) (e := (549, .aload_n 0, 1)) rfl rfl
theorem d_MLa_law_550 : decode MLa_law.2.2.1 550 = .ok (.iload_n 3, 1) := lw_d (k := 12) (j := 18) (l := tbl_12) (e := (550, .iload_n 3, 1)) rfl rfl
theorem d_MLa_law_551 : decode MLa_law.2.2.1 551 = .ok (.iconst 2, 1) := lw_d (k := 12) (j := 19) (l := tbl_12) (e := (551, .iconst 2, 1)) rfl rfl
theorem d_MLa_law_552 : decode MLa_law.2.2.1 552 = .ok (.iadd, 1) := lw_d (k := 12) (j := 20) (l := tbl_12) (e := (552, .iadd, 1)) rfl rfl
theorem d_MLa_law_553 : decode MLa_law.2.2.1 553 = .ok (.iaload, 1) := lw_d (k := 12) (j := 21) (l := tbl_12) (e := (553, .iaload, 1)) rfl rfl
theorem d_MLa_law_554 : decode MLa_law.2.2.1 554 = .ok (.aload_n 0, 1) := lw_d (k := 12) (j := 22) (l := tbl_12) (e := (554, .aload_n 0, 1)) rfl rfl
theorem d_MLa_law_555 : decode MLa_law.2.2.1 555 = .ok (.iload_n 3, 1) := lw_d (k := 12) (j := 23) (l := tbl_12) (e := (555, .iload_n 3, 1)) rfl rfl
theorem d_MLa_law_556 : decode MLa_law.2.2.1 556 = .ok (.iconst 3, 1) := lw_d (k := 13) (j := 0) (l := tbl_13) (e := (556, .iconst 3, 1)) rfl rfl
theorem d_MLa_law_557 : decode MLa_law.2.2.1 557 = .ok (.iadd, 1) := lw_d (k := 13) (j := 1) (l := tbl_13) (e := (557, .iadd, 1)) rfl rfl
theorem d_MLa_law_558 : decode MLa_law.2.2.1 558 = .ok (.iaload, 1) := lw_d (k := 13) (j := 2) (l := tbl_13) (e := (558, .iaload, 1)) rfl rfl
theorem d_MLa_law_559 : decode MLa_law.2.2.1 559 = .ok (.aload_n 0, 1) := lw_d (k := 13) (j := 3) (l := tbl_13) (e := (559, .aload_n 0, 1)) rfl rfl
theorem d_MLa_law_560 : decode MLa_law.2.2.1 560 = .ok (.iload_n 3, 1) := lw_d (k := 13) (j := 4) (l := tbl_13) (e := (560, .iload_n 3, 1)) rfl rfl
theorem d_MLa_law_561 : decode MLa_law.2.2.1 561 = .ok (.iconst 4, 1) := lw_d (k := 13) (j := 5) (l := tbl_13) (e := (561, .iconst 4, 1)) rfl rfl
theorem d_MLa_law_562 : decode MLa_law.2.2.1 562 = .ok (.iadd, 1) := lw_d (k := 13) (j := 6) (l := tbl_13) (e := (562, .iadd, 1)) rfl rfl
theorem d_MLa_law_563 : decode MLa_law.2.2.1 563 = .ok (.iaload, 1) := lw_d (k := 13) (j := 7) (l := tbl_13) (e := (563, .iaload, 1)) rfl rfl
theorem d_MLa_law_564 : decode MLa_law.2.2.1 564 = .ok (.invokevirtual 62, 3) := lw_d (k := 13) (j := 8) (l := tbl_13) (e := (564, .invokevirtual 62, 3)) rfl rfl
theorem d_MLa_law_567 : decode MLa_law.2.2.1 567 = .ok (.pop, 1) := lw_d (k := 13) (j := 9) (l := tbl_13) (e := (567, .pop, 1)) rfl rfl
theorem d_MLa_law_568 : decode MLa_law.2.2.1 568 = .ok (.aload_n 2, 1) := lw_d (k := 13) (j := 10) (l := tbl_13) (e := (568, .aload_n 2, 1)) rfl rfl
theorem d_MLa_law_569 : decode MLa_law.2.2.1 569 = .ok (.aload_n 0, 1) := lw_d (k := 13) (j := 11) (l := tbl_13) (e := (569, .aload_n 0, 1)) rfl rfl
theorem d_MLa_law_570 : decode MLa_law.2.2.1 570 = .ok (.iload_n 3, 1) := lw_d (k := 13) (j := 12) (l := tbl_13) (e := (570, .iload_n 3, 1)) rfl rfl
theorem d_MLa_law_571 : decode MLa_law.2.2.1 571 = .ok (.iconst 1, 1) := lw_d (k := 13) (j := 13) (l := tbl_13) (e := (571, .iconst 1, 1)) rfl rfl
theorem d_MLa_law_572 : decode MLa_law.2.2.1 572 = .ok (.iadd, 1) := lw_d (k := 13) (j := 14) (l := tbl_13) (e := (572, .iadd, 1)) rfl rfl
theorem d_MLa_law_573 : decode MLa_law.2.2.1 573 = .ok (.iaload, 1) := lw_d (k := 13) (j := 15) (l := tbl_13) (e := (573, .iaload, 1)) rfl rfl
theorem d_MLa_law_574 : decode MLa_law.2.2.1 574 = .ok (.aload_n 0, 1) := lw_d (k := 13) (j := 16) (l := tbl_13) (e := (574, .aload_n 0, 1)) rfl rfl
theorem d_MLa_law_575 : decode MLa_law.2.2.1 575 = .ok (.iload_n 3, 1) := lw_d (k := 13) (j := 17) (l := tbl_13) (e := (575, .iload_n 3, 1)) rfl rfl
theorem d_MLa_law_576 : decode MLa_law.2.2.1 576 = .ok (.iconst 2, 1) := lw_d (k := 13) (j := 18) (l := tbl_13) (e := (576, .iconst 2, 1)) rfl rfl
theorem d_MLa_law_577 : decode MLa_law.2.2.1 577 = .ok (.iadd, 1) := lw_d (k := 13) (j := 19) (l := tbl_13) (e := (577, .iadd, 1)) rfl rfl
theorem d_MLa_law_578 : decode MLa_law.2.2.1 578 = .ok (.iaload, 1) := lw_d (k := 13) (j := 20) (l := tbl_13) (e := (578, .iaload, 1)) rfl rfl
theorem d_MLa_law_579 : decode MLa_law.2.2.1 579 = .ok (.aload_n 0, 1) := lw_d (k := 13) (j := 21) (l := tbl_13) (e := (579, .aload_n 0, 1)) rfl rfl
theorem d_MLa_law_580 : decode MLa_law.2.2.1 580 = .ok (.iload_n 3, 1) := lw_d (k := 13) (j := 22) (l := tbl_13) (e := (580, .iload_n 3, 1)) rfl rfl
theorem d_MLa_law_581 : decode MLa_law.2.2.1 581 = .ok (.iconst 3, 1) := lw_d (k := 13) (j := 23) (l := tbl_13) (e := (581, .iconst 3, 1)) rfl rfl
theorem d_MLa_law_582 : decode MLa_law.2.2.1 582 = .ok (.iadd, 1) := lw_d (k := 14) (j := 0) (l := tbl_14) (e := (582, .iadd, 1)) rfl rfl
theorem d_MLa_law_583 : decode MLa_law.2.2.1 583 = .ok (.iaload, 1) := lw_d (k := 14) (j := 1) (l := tbl_14) (e := (583, .iaload, 1)) rfl rfl
theorem d_MLa_law_584 : decode MLa_law.2.2.1 584 = .ok (.aload_n 0, 1) := lw_d (k := 14) (j := 2) (l := tbl_14) (e := (584, .aload_n 0, 1)) rfl rfl
theorem d_MLa_law_585 : decode MLa_law.2.2.1 585 = .ok (.iload_n 3, 1) := lw_d (k := 14) (j := 3) (l := tbl_14) (e := (585, .iload_n 3, 1)) rfl rfl
theorem d_MLa_law_586 : decode MLa_law.2.2.1 586 = .ok (.iconst 4, 1) := lw_d (k := 14) (j := 4) (l := tbl_14) (e := (586, .iconst 4, 1)) rfl rfl
theorem d_MLa_law_587 : decode MLa_law.2.2.1 587 = .ok (.iadd, 1) := lw_d (k := 14) (j := 5) (l := tbl_14) (e := (587, .iadd, 1)) rfl rfl
theorem d_MLa_law_588 : decode MLa_law.2.2.1 588 = .ok (.iaload, 1) := lw_d (k := 14) (j := 6) (l := tbl_14) (e := (588, .iaload, 1)) rfl rfl
theorem d_MLa_law_589 : decode MLa_law.2.2.1 589 = .ok (.invokevirtual 65, 3) := lw_d (k := 14) (j := 7) (l := tbl_14) (e := (589, .invokevirtual 65, 3)) rfl rfl
theorem d_MLa_law_592 : decode MLa_law.2.2.1 592 = .ok (.pop, 1) := lw_d (k := 14) (j := 8) (l := tbl_14) (e := (592, .pop, 1)) rfl rfl
theorem d_MLa_law_593 : decode MLa_law.2.2.1 593 = .ok (.goto 951, 3) := lw_d (k := 14) (j := 9) (l := tbl_14) (e := (593, .goto 951, 3)) rfl rfl
theorem d_MLa_law_596 : decode MLa_law.2.2.1 596 = .ok (.aload_n 1, 1) := lw_d (k := 14) (j := 10) (l := tbl_14) (e := (596, .aload_n 1, 1)) rfl rfl
theorem d_MLa_law_597 : decode MLa_law.2.2.1 597 = .ok (.aload_n 0, 1) := lw_d (k := 14) (j := 11) (l := tbl_14) (e := (597, .aload_n 0, 1)) rfl rfl
theorem d_MLa_law_598 : decode MLa_law.2.2.1 598 = .ok (.iload_n 3, 1) := lw_d (k := 14) (j := 12) (l := tbl_14) (e := (598, .iload_n 3, 1)) rfl rfl
theorem d_MLa_law_599 : decode MLa_law.2.2.1 599 = .ok (.iconst 1, 1) := lw_d (k := 14) (j := 13) (l := tbl_14) (e := (599, .iconst 1, 1)) rfl rfl
theorem d_MLa_law_600 : decode MLa_law.2.2.1 600 = .ok (.iadd, 1) := lw_d (k := 14) (j := 14) (l := tbl_14) (e := (600, .iadd, 1)) rfl rfl
theorem d_MLa_law_601 : decode MLa_law.2.2.1 601 = .ok (.iaload, 1) := lw_d (k := 14) (j := 15) (l := tbl_14) (e := (601, .iaload, 1)) rfl rfl
theorem d_MLa_law_602 : decode MLa_law.2.2.1 602 = .ok (.aload_n 0, 1) := lw_d (k := 14) (j := 16) (l := tbl_14) (e := (602, .aload_n 0, 1)) rfl rfl
theorem d_MLa_law_603 : decode MLa_law.2.2.1 603 = .ok (.iload_n 3, 1) := lw_d (k := 14) (j := 17) (l := tbl_14) (e := (603, .iload_n 3, 1)) rfl rfl
theorem d_MLa_law_604 : decode MLa_law.2.2.1 604 = .ok (.iconst 2, 1) := lw_d (k := 14) (j := 18) (l := tbl_14) (e := (604, .iconst 2, 1)) rfl rfl
theorem d_MLa_law_605 : decode MLa_law.2.2.1 605 = .ok (.iadd, 1) := lw_d (k := 14) (j := 19) (l := tbl_14) (e := (605, .iadd, 1)) rfl rfl
theorem d_MLa_law_606 : decode MLa_law.2.2.1 606 = .ok (.iaload, 1) := lw_d (k := 14) (j := 20) (l := tbl_14) (e := (606, .iaload, 1)) rfl rfl
theorem d_MLa_law_607 : decode MLa_law.2.2.1 607 = .ok (.aload_n 0, 1) := lw_d (k := 14) (j := 21) (l := tbl_14) (e := (607, .aload_n 0, 1)) rfl rfl
theorem d_MLa_law_608 : decode MLa_law.2.2.1 608 = .ok (.iload_n 3, 1) := lw_d (k := 14) (j := 22) (l := tbl_14) (e := (608, .iload_n 3, 1)) rfl rfl
theorem d_MLa_law_609 : decode MLa_law.2.2.1 609 = .ok (.iconst 3, 1) := lw_d (k := 14) (j := 23) (l := tbl_14) (e := (609, .iconst 3, 1)) rfl rfl
theorem d_MLa_law_610 : decode MLa_law.2.2.1 610 = .ok (.iadd, 1) := lw_d (k := 15) (j := 0) (l := tbl_15) (e := (610, .iadd, 1)) rfl rfl
theorem d_MLa_law_611 : decode MLa_law.2.2.1 611 = .ok (.iaload, 1) := lw_d (k := 15) (j := 1) (l := tbl_15) (e := (611, .iaload, 1)) rfl rfl
theorem d_MLa_law_612 : decode MLa_law.2.2.1 612 = .ok (.aload_n 0, 1) := lw_d (k := 15) (j := 2) (l := tbl_15) (e := (612, .aload_n 0, 1)) rfl rfl
theorem d_MLa_law_613 : decode MLa_law.2.2.1 613 = .ok (.iload_n 3, 1) := lw_d (k := 15) (j := 3) (l := tbl_15) (e := (613, .iload_n 3, 1)) rfl rfl
theorem d_MLa_law_614 : decode MLa_law.2.2.1 614 = .ok (.iconst 4, 1) := lw_d (k := 15) (j := 4) (l := tbl_15) (e := (614, .iconst 4, 1)) rfl rfl
theorem d_MLa_law_615 : decode MLa_law.2.2.1 615 = .ok (.iadd, 1) := lw_d (k := 15) (j := 5) (l := tbl_15) (e := (615, .iadd, 1)) rfl rfl
theorem d_MLa_law_616 : decode MLa_law.2.2.1 616 = .ok (.iaload, 1) := lw_d (k := 15) (j := 6) (l := tbl_15) (e := (616, .iaload, 1)) rfl rfl
theorem d_MLa_law_617 : decode MLa_law.2.2.1 617 = .ok (.invokevirtual 66, 3) := lw_d (k := 15) (j := 7) (l := tbl_15) (e := (617, .invokevirtual 66, 3)) rfl rfl
theorem d_MLa_law_620 : decode MLa_law.2.2.1 620 = .ok (.pop, 1) := lw_d (k := 15) (j := 8) (l := tbl_15) (e := (620, .pop, 1)) rfl rfl
theorem d_MLa_law_621 : decode MLa_law.2.2.1 621 = .ok (.aload_n 2, 1) := lw_d (k := 15) (j := 9) (l := tbl_15) (e := (621, .aload_n 2, 1)) rfl rfl
theorem d_MLa_law_622 : decode MLa_law.2.2.1 622 = .ok (.aload_n 0, 1) := lw_d (k := 15) (j := 10) (l := tbl_15) (e := (622, .aload_n 0, 1)) rfl rfl
theorem d_MLa_law_623 : decode MLa_law.2.2.1 623 = .ok (.iload_n 3, 1) := lw_d (k := 15) (j := 11) (l := tbl_15) (e := (623, .iload_n 3, 1)) rfl rfl
theorem d_MLa_law_624 : decode MLa_law.2.2.1 624 = .ok (.iconst 1, 1) := lw_d (k := 15) (j := 12) (l := tbl_15) (e := (624, .iconst 1, 1)) rfl rfl
theorem d_MLa_law_625 : decode MLa_law.2.2.1 625 = .ok (.iadd, 1) := lw_d (k := 15) (j := 13) (l := tbl_15) (e := (625, .iadd, 1)) rfl rfl
theorem d_MLa_law_626 : decode MLa_law.2.2.1 626 = .ok (.iaload, 1) := lw_d (k := 15) (j := 14) (l := tbl_15) (e := (626, .iaload, 1)) rfl rfl
theorem d_MLa_law_627 : decode MLa_law.2.2.1 627 = .ok (.aload_n 0, 1) := lw_d (k := 15) (j := 15) (l := tbl_15) (e := (627, .aload_n 0, 1)) rfl rfl
theorem d_MLa_law_628 : decode MLa_law.2.2.1 628 = .ok (.iload_n 3, 1) := lw_d (k := 15) (j := 16) (l := tbl_15) (e := (628, .iload_n 3, 1)) rfl rfl
theorem d_MLa_law_629 : decode MLa_law.2.2.1 629 = .ok (.iconst 2, 1) := lw_d (k := 15) (j := 17) (l := tbl_15) (e := (629, .iconst 2, 1)) rfl rfl
theorem d_MLa_law_630 : decode MLa_law.2.2.1 630 = .ok (.iadd, 1) := lw_d (k := 15) (j := 18) (l := tbl_15) (e := (630, .iadd, 1)) rfl rfl
theorem d_MLa_law_631 : decode MLa_law.2.2.1 631 = .ok (.iaload, 1) := lw_d (k := 15) (j := 19) (l := tbl_15) (e := (631, .iaload, 1)) rfl rfl
theorem d_MLa_law_632 : decode MLa_law.2.2.1 632 = .ok (.aload_n 0, 1) := lw_d (k := 15) (j := 20) (l := tbl_15) (e := (632, .aload_n 0, 1)) rfl rfl
theorem d_MLa_law_633 : decode MLa_law.2.2.1 633 = .ok (.iload_n 3, 1) := lw_d (k := 15) (j := 21) (l := tbl_15) (e := (633, .iload_n 3, 1)) rfl rfl
theorem d_MLa_law_634 : decode MLa_law.2.2.1 634 = .ok (.iconst 3, 1) := lw_d (k := 15) (j := 22) (l := tbl_15) (e := (634, .iconst 3, 1)) rfl rfl
theorem d_MLa_law_635 : decode MLa_law.2.2.1 635 = .ok (.iadd, 1) := lw_d (k := 15) (j := 23) (l := tbl_15) (e := (635, .iadd, 1)) rfl rfl
theorem d_MLa_law_636 : decode MLa_law.2.2.1 636 = .ok (.iaload, 1) := lw_d (k := 16) (j := 0) (l := tbl_16) (e := (636, .iaload, 1)) rfl rfl
theorem d_MLa_law_637 : decode MLa_law.2.2.1 637 = .ok (.aload_n 0, 1) := lw_d (k := 16) (j := 1) (l := tbl_16) (e := (637, .aload_n 0, 1)) rfl rfl
theorem d_MLa_law_638 : decode MLa_law.2.2.1 638 = .ok (.iload_n 3, 1) := lw_d (k := 16) (j := 2) (l := tbl_16) (e := (638, .iload_n 3, 1)) rfl rfl
theorem d_MLa_law_639 : decode MLa_law.2.2.1 639 = .ok (.iconst 4, 1) := lw_d (k := 16) (j := 3) (l := tbl_16) (e := (639, .iconst 4, 1)) rfl rfl
theorem d_MLa_law_640 : decode MLa_law.2.2.1 640 = .ok (.iadd, 1) := lw_d (k := 16) (j := 4) (l := tbl_16) (e := (640, .iadd, 1)) rfl rfl
theorem d_MLa_law_641 : decode MLa_law.2.2.1 641 = .ok (.iaload, 1) := lw_d (k := 16) (j := 5) (l := tbl_16) (e := (641, .iaload, 1)) rfl rfl
theorem d_MLa_law_642 : decode MLa_law.2.2.1 642 = .ok (.invokevirtual 69, 3) := lw_d (k := 16) (j := 6) (l := tbl_16) (e := (642, .invokevirtual 69, 3)) rfl rfl
theorem d_MLa_law_645 : decode MLa_law.2.2.1 645 = .ok (.pop, 1) := lw_d (k := 16) (j := 7) (l := tbl_16) (e := (645, .pop, 1)) rfl rfl
theorem d_MLa_law_646 : decode MLa_law.2.2.1 646 = .ok (.goto 898, 3) := lw_d (k := 16) (j := 8) (l := tbl_16) (e := (646, .goto 898, 3)) rfl rfl
theorem d_MLa_law_649 : decode MLa_law.2.2.1 649 = .ok (.aload_n 1, 1) := lw_d (k := 16) (j := 9) (l := tbl_16) (e := (649, .aload_n 1, 1)) rfl rfl
theorem d_MLa_law_650 : decode MLa_law.2.2.1 650 = .ok (.aload_n 0, 1) := lw_d (k := 16) (j := 10) (l := tbl_16) (e := (650, .aload_n 0, 1)) rfl rfl
theorem d_MLa_law_651 : decode MLa_law.2.2.1 651 = .ok (.iload_n 3, 1) := lw_d (k := 16) (j := 11) (l := tbl_16) (e := (651, .iload_n 3, 1)) rfl rfl
theorem d_MLa_law_652 : decode MLa_law.2.2.1 652 = .ok (.iconst 1, 1) := lw_d (k := 16) (j := 12) (l := tbl_16) (e := (652, .iconst 1, 1)) rfl rfl
theorem d_MLa_law_653 : decode MLa_law.2.2.1 653 = .ok (.iadd, 1) := lw_d (k := 16) (j := 13) (l := tbl_16) (e := (653, .iadd, 1)) rfl rfl
theorem d_MLa_law_654 : decode MLa_law.2.2.1 654 = .ok (.iaload, 1) := lw_d (k := 16) (j := 14) (l := tbl_16) (e := (654, .iaload, 1)) rfl rfl
theorem d_MLa_law_655 : decode MLa_law.2.2.1 655 = .ok (.aload_n 0, 1) := lw_d (k := 16) (j := 15) (l := tbl_16) (e := (655, .aload_n 0, 1)) rfl rfl
theorem d_MLa_law_656 : decode MLa_law.2.2.1 656 = .ok (.iload_n 3, 1) := lw_d (k := 16) (j := 16) (l := tbl_16) (e := (656, .iload_n 3, 1)) rfl rfl
theorem d_MLa_law_657 : decode MLa_law.2.2.1 657 = .ok (.iconst 2, 1) := lw_d (k := 16) (j := 17) (l := tbl_16) (e := (657, .iconst 2, 1)) rfl rfl
theorem d_MLa_law_658 : decode MLa_law.2.2.1 658 = .ok (.iadd, 1) := lw_d (k := 16) (j := 18) (l := tbl_16) (e := (658, .iadd, 1)) rfl rfl
theorem d_MLa_law_659 : decode MLa_law.2.2.1 659 = .ok (.iaload, 1) := lw_d (k := 16) (j := 19) (l := tbl_16) (e := (659, .iaload, 1)) rfl rfl
theorem d_MLa_law_660 : decode MLa_law.2.2.1 660 = .ok (.aload_n 0, 1) := lw_d (k := 16) (j := 20) (l := tbl_16) (e := (660, .aload_n 0, 1)) rfl rfl
theorem d_MLa_law_661 : decode MLa_law.2.2.1 661 = .ok (.iload_n 3, 1) := lw_d (k := 16) (j := 21) (l := tbl_16) (e := (661, .iload_n 3, 1)) rfl rfl
theorem d_MLa_law_662 : decode MLa_law.2.2.1 662 = .ok (.iconst 3, 1) := lw_d (k := 16) (j := 22) (l := tbl_16) (e := (662, .iconst 3, 1)) rfl rfl
theorem d_MLa_law_663 : decode MLa_law.2.2.1 663 = .ok (.iadd, 1) := lw_d (k := 16) (j := 23) (l := tbl_16) (e := (663, .iadd, 1)) rfl rfl
theorem d_MLa_law_664 : decode MLa_law.2.2.1 664 = .ok (.iaload, 1) := lw_d (k := 17) (j := 0) (l := tbl_17) (e := (664, .iaload, 1)) rfl rfl
theorem d_MLa_law_665 : decode MLa_law.2.2.1 665 = .ok (.invokevirtual 70, 3) := lw_d (k := 17) (j := 1) (l := tbl_17) (e := (665, .invokevirtual 70, 3)) rfl rfl
theorem d_MLa_law_668 : decode MLa_law.2.2.1 668 = .ok (.pop, 1) := lw_d (k := 17) (j := 2) (l := tbl_17) (e := (668, .pop, 1)) rfl rfl
theorem d_MLa_law_669 : decode MLa_law.2.2.1 669 = .ok (.aload_n 2, 1) := lw_d (k := 17) (j := 3) (l := tbl_17) (e := (669, .aload_n 2, 1)) rfl rfl
theorem d_MLa_law_670 : decode MLa_law.2.2.1 670 = .ok (.aload_n 0, 1) := lw_d (k := 17) (j := 4) (l := tbl_17) (e := (670, .aload_n 0, 1)) rfl rfl
theorem d_MLa_law_671 : decode MLa_law.2.2.1 671 = .ok (.iload_n 3, 1) := lw_d (k := 17) (j := 5) (l := tbl_17) (e := (671, .iload_n 3, 1)) rfl rfl
theorem d_MLa_law_672 : decode MLa_law.2.2.1 672 = .ok (.iconst 1, 1) := lw_d (k := 17) (j := 6) (l := tbl_17) (e := (672, .iconst 1, 1)) rfl rfl
theorem d_MLa_law_673 : decode MLa_law.2.2.1 673 = .ok (.iadd, 1) := lw_d (k := 17) (j := 7) (l := tbl_17) (e := (673, .iadd, 1)) rfl rfl
theorem d_MLa_law_674 : decode MLa_law.2.2.1 674 = .ok (.iaload, 1) := lw_d (k := 17) (j := 8) (l := tbl_17) (e := (674, .iaload, 1)) rfl rfl
theorem d_MLa_law_675 : decode MLa_law.2.2.1 675 = .ok (.aload_n 0, 1) := lw_d (k := 17) (j := 9) (l := tbl_17) (e := (675, .aload_n 0, 1)) rfl rfl
theorem d_MLa_law_676 : decode MLa_law.2.2.1 676 = .ok (.iload_n 3, 1) := lw_d (k := 17) (j := 10) (l := tbl_17) (e := (676, .iload_n 3, 1)) rfl rfl
theorem d_MLa_law_677 : decode MLa_law.2.2.1 677 = .ok (.iconst 2, 1) := lw_d (k := 17) (j := 11) (l := tbl_17) (e := (677, .iconst 2, 1)) rfl rfl
theorem d_MLa_law_678 : decode MLa_law.2.2.1 678 = .ok (.iadd, 1) := lw_d (k := 17) (j := 12) (l := tbl_17) (e := (678, .iadd, 1)) rfl rfl
theorem d_MLa_law_679 : decode MLa_law.2.2.1 679 = .ok (.iaload, 1) := lw_d (k := 17) (j := 13) (l := tbl_17) (e := (679, .iaload, 1)) rfl rfl
theorem d_MLa_law_680 : decode MLa_law.2.2.1 680 = .ok (.aload_n 0, 1) := lw_d (k := 17) (j := 14) (l := tbl_17) (e := (680, .aload_n 0, 1)) rfl rfl
theorem d_MLa_law_681 : decode MLa_law.2.2.1 681 = .ok (.iload_n 3, 1) := lw_d (k := 17) (j := 15) (l := tbl_17) (e := (681, .iload_n 3, 1)) rfl rfl
theorem d_MLa_law_682 : decode MLa_law.2.2.1 682 = .ok (.iconst 3, 1) := lw_d (k := 17) (j := 16) (l := tbl_17) (e := (682, .iconst 3, 1)) rfl rfl
theorem d_MLa_law_683 : decode MLa_law.2.2.1 683 = .ok (.iadd, 1) := lw_d (k := 17) (j := 17) (l := tbl_17) (e := (683, .iadd, 1)) rfl rfl
theorem d_MLa_law_684 : decode MLa_law.2.2.1 684 = .ok (.iaload, 1) := lw_d (k := 17) (j := 18) (l := tbl_17) (e := (684, .iaload, 1)) rfl rfl
theorem d_MLa_law_685 : decode MLa_law.2.2.1 685 = .ok (.invokevirtual 73, 3) := lw_d (k := 17) (j := 19) (l := tbl_17) (e := (685, .invokevirtual 73, 3)) rfl rfl
theorem d_MLa_law_688 : decode MLa_law.2.2.1 688 = .ok (.pop, 1) := lw_d (k := 17) (j := 20) (l := tbl_17) (e := (688, .pop, 1)) rfl rfl
theorem d_MLa_law_689 : decode MLa_law.2.2.1 689 = .ok (.goto 855, 3) := lw_d (k := 17) (j := 21) (l := tbl_17) (e := (689, .goto 855, 3)) rfl rfl
theorem d_MLa_law_692 : decode MLa_law.2.2.1 692 = .ok (.aload_n 1, 1) := lw_d (k := 17) (j := 22) (l := tbl_17) (e := (692, .aload_n 1, 1)) rfl rfl
theorem d_MLa_law_693 : decode MLa_law.2.2.1 693 = .ok (.aload_n 0, 1) := lw_d (k := 17) (j := 23) (l := tbl_17) (e := (693, .aload_n 0, 1)) rfl rfl
theorem d_MLa_law_694 : decode MLa_law.2.2.1 694 = .ok (.iload_n 3, 1) := lw_d (k := 18) (j := 0) (l := tbl_18) (e := (694, .iload_n 3, 1)) rfl rfl
theorem d_MLa_law_695 : decode MLa_law.2.2.1 695 = .ok (.iconst 1, 1) := lw_d (k := 18) (j := 1) (l := tbl_18) (e := (695, .iconst 1, 1)) rfl rfl
theorem d_MLa_law_696 : decode MLa_law.2.2.1 696 = .ok (.iadd, 1) := lw_d (k := 18) (j := 2) (l := tbl_18) (e := (696, .iadd, 1)) rfl rfl
theorem d_MLa_law_697 : decode MLa_law.2.2.1 697 = .ok (.iaload, 1) := lw_d (k := 18) (j := 3) (l := tbl_18) (e := (697, .iaload, 1)) rfl rfl
theorem d_MLa_law_698 : decode MLa_law.2.2.1 698 = .ok (.aload_n 0, 1) := lw_d (k := 18) (j := 4) (l := tbl_18) (e := (698, .aload_n 0, 1)) rfl rfl
theorem d_MLa_law_699 : decode MLa_law.2.2.1 699 = .ok (.iload_n 3, 1) := lw_d (k := 18) (j := 5) (l := tbl_18) (e := (699, .iload_n 3, 1)) rfl rfl
theorem d_MLa_law_700 : decode MLa_law.2.2.1 700 = .ok (.iconst 2, 1) := lw_d (k := 18) (j := 6) (l := tbl_18) (e := (700, .iconst 2, 1)) rfl rfl
theorem d_MLa_law_701 : decode MLa_law.2.2.1 701 = .ok (.iadd, 1) := lw_d (k := 18) (j := 7) (l := tbl_18) (e := (701, .iadd, 1)) rfl rfl
theorem d_MLa_law_702 : decode MLa_law.2.2.1 702 = .ok (.iaload, 1) := lw_d (k := 18) (j := 8) (l := tbl_18) (e := (702, .iaload, 1)) rfl rfl
theorem d_MLa_law_703 : decode MLa_law.2.2.1 703 = .ok (.invokevirtual 74, 3) := lw_d (k := 18) (j := 9) (l := tbl_18) (e := (703, .invokevirtual 74, 3)) rfl rfl
theorem d_MLa_law_706 : decode MLa_law.2.2.1 706 = .ok (.pop, 1) := lw_d (k := 18) (j := 10) (l := tbl_18) (e := (706, .pop, 1)) rfl rfl
theorem d_MLa_law_707 : decode MLa_law.2.2.1 707 = .ok (.aload_n 2, 1) := lw_d (k := 18) (j := 11) (l := tbl_18) (e := (707, .aload_n 2, 1)) rfl rfl
theorem d_MLa_law_708 : decode MLa_law.2.2.1 708 = .ok (.aload_n 0, 1) := lw_d (k := 18) (j := 12) (l := tbl_18) (e := (708, .aload_n 0, 1)) rfl rfl
theorem d_MLa_law_709 : decode MLa_law.2.2.1 709 = .ok (.iload_n 3, 1) := lw_d (k := 18) (j := 13) (l := tbl_18) (e := (709, .iload_n 3, 1)) rfl rfl
theorem d_MLa_law_710 : decode MLa_law.2.2.1 710 = .ok (.iconst 1, 1) := lw_d (k := 18) (j := 14) (l := tbl_18) (e := (710, .iconst 1, 1)) rfl rfl
theorem d_MLa_law_711 : decode MLa_law.2.2.1 711 = .ok (.iadd, 1) := lw_d (k := 18) (j := 15) (l := tbl_18) (e := (711, .iadd, 1)) rfl rfl
theorem d_MLa_law_712 : decode MLa_law.2.2.1 712 = .ok (.iaload, 1) := lw_d (k := 18) (j := 16) (l := tbl_18) (e := (712, .iaload, 1)) rfl rfl
theorem d_MLa_law_713 : decode MLa_law.2.2.1 713 = .ok (.aload_n 0, 1) := lw_d (k := 18) (j := 17) (l := tbl_18) (e := (713, .aload_n 0, 1)) rfl rfl
theorem d_MLa_law_714 : decode MLa_law.2.2.1 714 = .ok (.iload_n 3, 1) := lw_d (k := 18) (j := 18) (l := tbl_18) (e := (714, .iload_n 3, 1)) rfl rfl
theorem d_MLa_law_715 : decode MLa_law.2.2.1 715 = .ok (.iconst 2, 1) := lw_d (k := 18) (j := 19) (l := tbl_18) (e := (715, .iconst 2, 1)) rfl rfl
theorem d_MLa_law_716 : decode MLa_law.2.2.1 716 = .ok (.iadd, 1) := lw_d (k := 18) (j := 20) (l := tbl_18) (e := (716, .iadd, 1)) rfl rfl
theorem d_MLa_law_717 : decode MLa_law.2.2.1 717 = .ok (.iaload, 1) := lw_d (k := 18) (j := 21) (l := tbl_18) (e := (717, .iaload, 1)) rfl rfl
theorem d_MLa_law_718 : decode MLa_law.2.2.1 718 = .ok (.invokevirtual 77, 3) := lw_d (k := 18) (j := 22) (l := tbl_18) (e := (718, .invokevirtual 77, 3)) rfl rfl
theorem d_MLa_law_721 : decode MLa_law.2.2.1 721 = .ok (.pop, 1) := lw_d (k := 18) (j := 23) (l := tbl_18) (e := (721, .pop, 1)) rfl rfl
theorem d_MLa_law_722 : decode MLa_law.2.2.1 722 = .ok (.goto 822, 3) := lw_d (k := 19) (j := 0) (l := tbl_19) (e := (722, .goto 822, 3)) rfl rfl
theorem d_MLa_law_725 : decode MLa_law.2.2.1 725 = .ok (.aload_n 1, 1) := lw_d (k := 19) (j := 1) (l := tbl_19) (e := (725, .aload_n 1, 1)) rfl rfl
theorem d_MLa_law_726 : decode MLa_law.2.2.1 726 = .ok (.aload_n 0, 1) := lw_d (k := 19) (j := 2) (l := tbl_19) (e := (726, .aload_n 0, 1)) rfl rfl
theorem d_MLa_law_727 : decode MLa_law.2.2.1 727 = .ok (.iload_n 3, 1) := lw_d (k := 19) (j := 3) (l := tbl_19) (e := (727, .iload_n 3, 1)) rfl rfl
theorem d_MLa_law_728 : decode MLa_law.2.2.1 728 = .ok (.iconst 1, 1) := lw_d (k := 19) (j := 4) (l := tbl_19) (e := (728, .iconst 1, 1)) rfl rfl
theorem d_MLa_law_729 : decode MLa_law.2.2.1 729 = .ok (.iadd, 1) := lw_d (k := 19) (j := 5) (l := tbl_19) (e := (729, .iadd, 1)) rfl rfl
theorem d_MLa_law_730 : decode MLa_law.2.2.1 730 = .ok (.iaload, 1) := lw_d (k := 19) (j := 6) (l := tbl_19) (e := (730, .iaload, 1)) rfl rfl
theorem d_MLa_law_731 : decode MLa_law.2.2.1 731 = .ok (.aload_n 0, 1) := lw_d (k := 19) (j := 7) (l := tbl_19) (e := (731, .aload_n 0, 1)) rfl rfl
theorem d_MLa_law_732 : decode MLa_law.2.2.1 732 = .ok (.iload_n 3, 1) := lw_d (k := 19) (j := 8) (l := tbl_19) (e := (732, .iload_n 3, 1)) rfl rfl
theorem d_MLa_law_733 : decode MLa_law.2.2.1 733 = .ok (.iconst 2, 1) := lw_d (k := 19) (j := 9) (l := tbl_19) (e := (733, .iconst 2, 1)) rfl rfl
theorem d_MLa_law_734 : decode MLa_law.2.2.1 734 = .ok (.iadd, 1) := lw_d (k := 19) (j := 10) (l := tbl_19) (e := (734, .iadd, 1)) rfl rfl
theorem d_MLa_law_735 : decode MLa_law.2.2.1 735 = .ok (.iaload, 1) := lw_d (k := 19) (j := 11) (l := tbl_19) (e := (735, .iaload, 1)) rfl rfl
theorem d_MLa_law_736 : decode MLa_law.2.2.1 736 = .ok (.aload_n 0, 1) := lw_d (k := 19) (j := 12) (l := tbl_19) (e := (736, .aload_n 0, 1)) rfl rfl
theorem d_MLa_law_737 : decode MLa_law.2.2.1 737 = .ok (.iload_n 3, 1) := lw_d (k := 19) (j := 13) (l := tbl_19) (e := (737, .iload_n 3, 1)) rfl rfl
theorem d_MLa_law_738 : decode MLa_law.2.2.1 738 = .ok (.iconst 3, 1) := lw_d (k := 19) (j := 14) (l := tbl_19) (e := (738, .iconst 3, 1)) rfl rfl
theorem d_MLa_law_739 : decode MLa_law.2.2.1 739 = .ok (.iadd, 1) := lw_d (k := 19) (j := 15) (l := tbl_19) (e := (739, .iadd, 1)) rfl rfl
theorem d_MLa_law_740 : decode MLa_law.2.2.1 740 = .ok (.iaload, 1) := lw_d (k := 19) (j := 16) (l := tbl_19) (e := (740, .iaload, 1)) rfl rfl
theorem d_MLa_law_741 : decode MLa_law.2.2.1 741 = .ok (.invokevirtual 78, 3) := lw_d (k := 19) (j := 17) (l := tbl_19) (e := (741, .invokevirtual 78, 3)) rfl rfl
theorem d_MLa_law_744 : decode MLa_law.2.2.1 744 = .ok (.pop, 1) := lw_d (k := 19) (j := 18) (l := tbl_19) (e := (744, .pop, 1)) rfl rfl
theorem d_MLa_law_745 : decode MLa_law.2.2.1 745 = .ok (.aload_n 2, 1) := lw_d (k := 19) (j := 19) (l := tbl_19) (e := (745, .aload_n 2, 1)) rfl rfl
theorem d_MLa_law_746 : decode MLa_law.2.2.1 746 = .ok (.aload_n 0, 1) := lw_d (k := 19) (j := 20) (l := tbl_19) (e := (746, .aload_n 0, 1)) rfl rfl
theorem d_MLa_law_747 : decode MLa_law.2.2.1 747 = .ok (.iload_n 3, 1) := lw_d (k := 19) (j := 21) (l := tbl_19) (e := (747, .iload_n 3, 1)) rfl rfl
theorem d_MLa_law_748 : decode MLa_law.2.2.1 748 = .ok (.iconst 1, 1) := lw_d (k := 19) (j := 22) (l := tbl_19) (e := (748, .iconst 1, 1)) rfl rfl
theorem d_MLa_law_749 : decode MLa_law.2.2.1 749 = .ok (.iadd, 1) := lw_d (k := 19) (j := 23) (l := tbl_19) (e := (749, .iadd, 1)) rfl rfl
theorem d_MLa_law_750 : decode MLa_law.2.2.1 750 = .ok (.iaload, 1) := lw_d (k := 20) (j := 0) (l := tbl_20) (e := (750, .iaload, 1)) rfl rfl
theorem d_MLa_law_751 : decode MLa_law.2.2.1 751 = .ok (.aload_n 0, 1) := lw_d (k := 20) (j := 1) (l := tbl_20) (e := (751, .aload_n 0, 1)) rfl rfl
theorem d_MLa_law_752 : decode MLa_law.2.2.1 752 = .ok (.iload_n 3, 1) := lw_d (k := 20) (j := 2) (l := tbl_20) (e := (752, .iload_n 3, 1)) rfl rfl
theorem d_MLa_law_753 : decode MLa_law.2.2.1 753 = .ok (.iconst 2, 1) := lw_d (k := 20) (j := 3) (l := tbl_20) (e := (753, .iconst 2, 1)) rfl rfl
theorem d_MLa_law_754 : decode MLa_law.2.2.1 754 = .ok (.iadd, 1) := lw_d (k := 20) (j := 4) (l := tbl_20) (e := (754, .iadd, 1)) rfl rfl
theorem d_MLa_law_755 : decode MLa_law.2.2.1 755 = .ok (.iaload, 1) := lw_d (k := 20) (j := 5) (l := tbl_20) (e := (755, .iaload, 1)) rfl rfl
theorem d_MLa_law_756 : decode MLa_law.2.2.1 756 = .ok (.aload_n 0, 1) := lw_d (k := 20) (j := 6) (l := tbl_20) (e := (756, .aload_n 0, 1)) rfl rfl
theorem d_MLa_law_757 : decode MLa_law.2.2.1 757 = .ok (.iload_n 3, 1) := lw_d (k := 20) (j := 7) (l := tbl_20) (e := (757, .iload_n 3, 1)) rfl rfl
theorem d_MLa_law_758 : decode MLa_law.2.2.1 758 = .ok (.iconst 3, 1) := lw_d (k := 20) (j := 8) (l := tbl_20) (e := (758, .iconst 3, 1)) rfl rfl
theorem d_MLa_law_759 : decode MLa_law.2.2.1 759 = .ok (.iadd, 1) := lw_d (k := 20) (j := 9) (l := tbl_20) (e := (759, .iadd, 1)) rfl rfl
theorem d_MLa_law_760 : decode MLa_law.2.2.1 760 = .ok (.iaload, 1) := lw_d (k := 20) (j := 10) (l := tbl_20) (e := (760, .iaload, 1)) rfl rfl
theorem d_MLa_law_761 : decode MLa_law.2.2.1 761 = .ok (.invokevirtual 81, 3) := lw_d (k := 20) (j := 11) (l := tbl_20) (e := (761, .invokevirtual 81, 3)) rfl rfl
theorem d_MLa_law_764 : decode MLa_law.2.2.1 764 = .ok (.pop, 1) := lw_d (k := 20) (j := 12) (l := tbl_20) (e := (764, .pop, 1)) rfl rfl
theorem d_MLa_law_765 : decode MLa_law.2.2.1 765 = .ok (.goto 779, 3) := lw_d (k := 20) (j := 13) (l := tbl_20) (e := (765, .goto 779, 3)) rfl rfl
theorem d_MLa_law_768 : decode MLa_law.2.2.1 768 = .ok (.aload_n 1, 1) := lw_d (k := 20) (j := 14) (l := tbl_20) (e := (768, .aload_n 1, 1)) rfl rfl
theorem d_MLa_law_769 : decode MLa_law.2.2.1 769 = .ok (.aload_n 0, 1) := lw_d (k := 20) (j := 15) (l := tbl_20) (e := (769, .aload_n 0, 1)) rfl rfl
theorem d_MLa_law_770 : decode MLa_law.2.2.1 770 = .ok (.iload_n 3, 1) := lw_d (k := 20) (j := 16) (l := tbl_20) (e := (770, .iload_n 3, 1)) rfl rfl
theorem d_MLa_law_771 : decode MLa_law.2.2.1 771 = .ok (.iconst 1, 1) := lw_d (k := 20) (j := 17) (l := tbl_20) (e := (771, .iconst 1, 1)) rfl rfl
theorem d_MLa_law_772 : decode MLa_law.2.2.1 772 = .ok (.iadd, 1) := lw_d (k := 20) (j := 18) (l := tbl_20) (e := (772, .iadd, 1)) rfl rfl
theorem d_MLa_law_773 : decode MLa_law.2.2.1 773 = .ok (.iaload, 1) := lw_d (k := 20) (j := 19) (l := tbl_20) (e := (773, .iaload, 1)) rfl rfl
theorem d_MLa_law_774 : decode MLa_law.2.2.1 774 = .ok (.aload_n 0, 1) := lw_d (k := 20) (j := 20) (l := tbl_20) (e := (774, .aload_n 0, 1)) rfl rfl
theorem d_MLa_law_775 : decode MLa_law.2.2.1 775 = .ok (.iload_n 3, 1) := lw_d (k := 20) (j := 21) (l := tbl_20) (e := (775, .iload_n 3, 1)) rfl rfl
theorem d_MLa_law_776 : decode MLa_law.2.2.1 776 = .ok (.iconst 2, 1) := lw_d (k := 20) (j := 22) (l := tbl_20) (e := (776, .iconst 2, 1)) rfl rfl
theorem d_MLa_law_777 : decode MLa_law.2.2.1 777 = .ok (.iadd, 1) := lw_d (k := 20) (j := 23) (l := tbl_20) (e := (777, .iadd, 1)) rfl rfl
theorem d_MLa_law_778 : decode MLa_law.2.2.1 778 = .ok (.iaload, 1) := lw_d (k := 21) (j := 0) (l := tbl_21) (e := (778, .iaload, 1)) rfl rfl
theorem d_MLa_law_779 : decode MLa_law.2.2.1 779 = .ok (.invokevirtual 82, 3) := lw_d (k := 21) (j := 1) (l := tbl_21) (e := (779, .invokevirtual 82, 3)) rfl rfl
theorem d_MLa_law_782 : decode MLa_law.2.2.1 782 = .ok (.pop, 1) := lw_d (k := 21) (j := 2) (l := tbl_21) (e := (782, .pop, 1)) rfl rfl
theorem d_MLa_law_783 : decode MLa_law.2.2.1 783 = .ok (.aload_n 2, 1) := lw_d (k := 21) (j := 3) (l := tbl_21) (e := (783, .aload_n 2, 1)) rfl rfl
theorem d_MLa_law_784 : decode MLa_law.2.2.1 784 = .ok (.aload_n 0, 1) := lw_d (k := 21) (j := 4) (l := tbl_21) (e := (784, .aload_n 0, 1)) rfl rfl
theorem d_MLa_law_785 : decode MLa_law.2.2.1 785 = .ok (.iload_n 3, 1) := lw_d (k := 21) (j := 5) (l := tbl_21) (e := (785, .iload_n 3, 1)) rfl rfl
theorem d_MLa_law_786 : decode MLa_law.2.2.1 786 = .ok (.iconst 1, 1) := lw_d (k := 21) (j := 6) (l := tbl_21) (e := (786, .iconst 1, 1)) rfl rfl
theorem d_MLa_law_787 : decode MLa_law.2.2.1 787 = .ok (.iadd, 1) := lw_d (k := 21) (j := 7) (l := tbl_21) (e := (787, .iadd, 1)) rfl rfl
theorem d_MLa_law_788 : decode MLa_law.2.2.1 788 = .ok (.iaload, 1) := lw_d (k := 21) (j := 8) (l := tbl_21) (e := (788, .iaload, 1)) rfl rfl
theorem d_MLa_law_789 : decode MLa_law.2.2.1 789 = .ok (.aload_n 0, 1) := lw_d (k := 21) (j := 9) (l := tbl_21) (e := (789, .aload_n 0, 1)) rfl rfl
theorem d_MLa_law_790 : decode MLa_law.2.2.1 790 = .ok (.iload_n 3, 1) := lw_d (k := 21) (j := 10) (l := tbl_21) (e := (790, .iload_n 3, 1)) rfl rfl
theorem d_MLa_law_791 : decode MLa_law.2.2.1 791 = .ok (.iconst 2, 1) := lw_d (k := 21) (j := 11) (l := tbl_21) (e := (791, .iconst 2, 1)) rfl rfl
theorem d_MLa_law_792 : decode MLa_law.2.2.1 792 = .ok (.iadd, 1) := lw_d (k := 21) (j := 12) (l := tbl_21) (e := (792, .iadd, 1)) rfl rfl
theorem d_MLa_law_793 : decode MLa_law.2.2.1 793 = .ok (.iaload, 1) := lw_d (k := 21) (j := 13) (l := tbl_21) (e := (793, .iaload, 1)) rfl rfl
theorem d_MLa_law_794 : decode MLa_law.2.2.1 794 = .ok (.invokevirtual 85, 3) := lw_d (k := 21) (j := 14) (l := tbl_21) (e := (794, .invokevirtual 85, 3)) rfl rfl
theorem d_MLa_law_797 : decode MLa_law.2.2.1 797 = .ok (.pop, 1) := lw_d (k := 21) (j := 15) (l := tbl_21) (e := (797, .pop, 1)) rfl rfl
theorem d_MLa_law_798 : decode MLa_law.2.2.1 798 = .ok (.goto 746, 3) := lw_d (k := 21) (j := 16) (l := tbl_21) (e := (798, .goto 746, 3)) rfl rfl
theorem d_MLa_law_801 : decode MLa_law.2.2.1 801 = .ok (.aload_n 1, 1) := lw_d (k := 21) (j := 17) (l := tbl_21) (e := (801, .aload_n 1, 1)) rfl rfl
theorem d_MLa_law_802 : decode MLa_law.2.2.1 802 = .ok (.aload_n 0, 1) := lw_d (k := 21) (j := 18) (l := tbl_21) (e := (802, .aload_n 0, 1)) rfl rfl
theorem d_MLa_law_803 : decode MLa_law.2.2.1 803 = .ok (.iload_n 3, 1) := lw_d (k := 21) (j := 19) (l := tbl_21) (e := (803, .iload_n 3, 1)) rfl rfl
theorem d_MLa_law_804 : decode MLa_law.2.2.1 804 = .ok (.iconst 1, 1) := lw_d (k := 21) (j := 20) (l := tbl_21) (e := (804, .iconst 1, 1)) rfl rfl
theorem d_MLa_law_805 : decode MLa_law.2.2.1 805 = .ok (.iadd, 1) := lw_d (k := 21) (j := 21) (l := tbl_21) (e := (805, .iadd, 1)) rfl rfl
theorem d_MLa_law_806 : decode MLa_law.2.2.1 806 = .ok (.iaload, 1) := lw_d (k := 21) (j := 22) (l := tbl_21) (e := (806, .iaload, 1)) rfl rfl
theorem d_MLa_law_807 : decode MLa_law.2.2.1 807 = .ok (.aload_n 0, 1) := lw_d (k := 21) (j := 23) (l := tbl_21) (e := (807, .aload_n 0, 1)) rfl rfl
theorem d_MLa_law_808 : decode MLa_law.2.2.1 808 = .ok (.iload_n 3, 1) := lw_d (k := 22) (j := 0) (l := tbl_22) (e := (808, .iload_n 3, 1)) rfl rfl
theorem d_MLa_law_809 : decode MLa_law.2.2.1 809 = .ok (.iconst 2, 1) := lw_d (k := 22) (j := 1) (l := tbl_22) (e := (809, .iconst 2, 1)) rfl rfl
theorem d_MLa_law_810 : decode MLa_law.2.2.1 810 = .ok (.iadd, 1) := lw_d (k := 22) (j := 2) (l := tbl_22) (e := (810, .iadd, 1)) rfl rfl
theorem d_MLa_law_811 : decode MLa_law.2.2.1 811 = .ok (.iaload, 1) := lw_d (k := 22) (j := 3) (l := tbl_22) (e := (811, .iaload, 1)) rfl rfl
theorem d_MLa_law_812 : decode MLa_law.2.2.1 812 = .ok (.aload_n 0, 1) := lw_d (k := 22) (j := 4) (l := tbl_22) (e := (812, .aload_n 0, 1)) rfl rfl
theorem d_MLa_law_813 : decode MLa_law.2.2.1 813 = .ok (.iload_n 3, 1) := lw_d (k := 22) (j := 5) (l := tbl_22) (e := (813, .iload_n 3, 1)) rfl rfl
theorem d_MLa_law_814 : decode MLa_law.2.2.1 814 = .ok (.iconst 3, 1) := lw_d (k := 22) (j := 6) (l := tbl_22) (e := (814, .iconst 3, 1)) rfl rfl
theorem d_MLa_law_815 : decode MLa_law.2.2.1 815 = .ok (.iadd, 1) := lw_d (k := 22) (j := 7) (l := tbl_22) (e := (815, .iadd, 1)) rfl rfl
theorem d_MLa_law_816 : decode MLa_law.2.2.1 816 = .ok (.iaload, 1) := lw_d (k := 22) (j := 8) (l := tbl_22) (e := (816, .iaload, 1)) rfl rfl
theorem d_MLa_law_817 : decode MLa_law.2.2.1 817 = .ok (.invokevirtual 86, 3) := lw_d (k := 22) (j := 9) (l := tbl_22) (e := (817, .invokevirtual 86, 3)) rfl rfl
theorem d_MLa_law_820 : decode MLa_law.2.2.1 820 = .ok (.pop, 1) := lw_d (k := 22) (j := 10) (l := tbl_22) (e := (820, .pop, 1)) rfl rfl
theorem d_MLa_law_821 : decode MLa_law.2.2.1 821 = .ok (.aload_n 2, 1) := lw_d (k := 22) (j := 11) (l := tbl_22) (e := (821, .aload_n 2, 1)) rfl rfl
theorem d_MLa_law_822 : decode MLa_law.2.2.1 822 = .ok (.aload_n 0, 1) := lw_d (k := 22) (j := 12) (l := tbl_22) (e := (822, .aload_n 0, 1)) rfl rfl
theorem d_MLa_law_823 : decode MLa_law.2.2.1 823 = .ok (.iload_n 3, 1) := lw_d (k := 22) (j := 13) (l := tbl_22) (e := (823, .iload_n 3, 1)) rfl rfl
theorem d_MLa_law_824 : decode MLa_law.2.2.1 824 = .ok (.iconst 1, 1) := lw_d (k := 22) (j := 14) (l := tbl_22) (e := (824, .iconst 1, 1)) rfl rfl
theorem d_MLa_law_825 : decode MLa_law.2.2.1 825 = .ok (.iadd, 1) := lw_d (k := 22) (j := 15) (l := tbl_22) (e := (825, .iadd, 1)) rfl rfl
theorem d_MLa_law_826 : decode MLa_law.2.2.1 826 = .ok (.iaload, 1) := lw_d (k := 22) (j := 16) (l := tbl_22) (e := (826, .iaload, 1)) rfl rfl
theorem d_MLa_law_827 : decode MLa_law.2.2.1 827 = .ok (.aload_n 0, 1) := lw_d (k := 22) (j := 17) (l := tbl_22) (e := (827, .aload_n 0, 1)) rfl rfl
theorem d_MLa_law_828 : decode MLa_law.2.2.1 828 = .ok (.iload_n 3, 1) := lw_d (k := 22) (j := 18) (l := tbl_22) (e := (828, .iload_n 3, 1)) rfl rfl
theorem d_MLa_law_829 : decode MLa_law.2.2.1 829 = .ok (.iconst 2, 1) := lw_d (k := 22) (j := 19) (l := tbl_22) (e := (829, .iconst 2, 1)) rfl rfl
theorem d_MLa_law_830 : decode MLa_law.2.2.1 830 = .ok (.iadd, 1) := lw_d (k := 22) (j := 20) (l := tbl_22) (e := (830, .iadd, 1)) rfl rfl
theorem d_MLa_law_831 : decode MLa_law.2.2.1 831 = .ok (.iaload, 1) := lw_d (k := 22) (j := 21) (l := tbl_22) (e := (831, .iaload, 1)) rfl rfl
theorem d_MLa_law_832 : decode MLa_law.2.2.1 832 = .ok (.aload_n 0, 1) := lw_d (k := 22) (j := 22) (l := tbl_22) (e := (832, .aload_n 0, 1)) rfl rfl
theorem d_MLa_law_833 : decode MLa_law.2.2.1 833 = .ok (.iload_n 3, 1) := lw_d (k := 22) (j := 23) (l := tbl_22) (e := (833, .iload_n 3, 1)) rfl rfl
theorem d_MLa_law_834 : decode MLa_law.2.2.1 834 = .ok (.iconst 3, 1) := lw_d (k := 23) (j := 0) (l := tbl_23) (e := (834, .iconst 3, 1)) rfl rfl
theorem d_MLa_law_835 : decode MLa_law.2.2.1 835 = .ok (.iadd, 1) := lw_d (k := 23) (j := 1) (l := tbl_23) (e := (835, .iadd, 1)) rfl rfl
theorem d_MLa_law_836 : decode MLa_law.2.2.1 836 = .ok (.iaload, 1) := lw_d (k := 23) (j := 2) (l := tbl_23) (e := (836, .iaload, 1)) rfl rfl
theorem d_MLa_law_837 : decode MLa_law.2.2.1 837 = .ok (.invokevirtual 89, 3) := lw_d (k := 23) (j := 3) (l := tbl_23) (e := (837, .invokevirtual 89, 3)) rfl rfl
theorem d_MLa_law_840 : decode MLa_law.2.2.1 840 = .ok (.pop, 1) := lw_d (k := 23) (j := 4) (l := tbl_23) (e := (840, .pop, 1)) rfl rfl
theorem d_MLa_law_841 : decode MLa_law.2.2.1 841 = .ok (.goto 703, 3) := lw_d (k := 23) (j := 5) (l := tbl_23) (e := (841, .goto 703, 3)) rfl rfl
theorem d_MLa_law_844 : decode MLa_law.2.2.1 844 = .ok (.aload_n 1, 1) := lw_d (k := 23) (j := 6) (l := tbl_23) (e := (844, .aload_n 1, 1)) rfl rfl
theorem d_MLa_law_845 : decode MLa_law.2.2.1 845 = .ok (.aload_n 0, 1) := lw_d (k := 23) (j := 7) (l := tbl_23) (e := (845, .aload_n 0, 1)) rfl rfl
theorem d_MLa_law_846 : decode MLa_law.2.2.1 846 = .ok (.iload_n 3, 1) := lw_d (k := 23) (j := 8) (l := tbl_23) (e := (846, .iload_n 3, 1)) rfl rfl
theorem d_MLa_law_847 : decode MLa_law.2.2.1 847 = .ok (.iconst 1, 1) := lw_d (k := 23) (j := 9) (l := tbl_23) (e := (847, .iconst 1, 1)) rfl rfl
theorem d_MLa_law_848 : decode MLa_law.2.2.1 848 = .ok (.iadd, 1) := lw_d (k := 23) (j := 10) (l := tbl_23) (e := (848, .iadd, 1)) rfl rfl
theorem d_MLa_law_849 : decode MLa_law.2.2.1 849 = .ok (.iaload, 1) := lw_d (k := 23) (j := 11) (l := tbl_23) (e := (849, .iaload, 1)) rfl rfl
theorem d_MLa_law_850 : decode MLa_law.2.2.1 850 = .ok (.aload_n 0, 1) := lw_d (k := 23) (j := 12) (l := tbl_23) (e := (850, .aload_n 0, 1)) rfl rfl
theorem d_MLa_law_851 : decode MLa_law.2.2.1 851 = .ok (.iload_n 3, 1) := lw_d (k := 23) (j := 13) (l := tbl_23) (e := (851, .iload_n 3, 1)) rfl rfl
theorem d_MLa_law_852 : decode MLa_law.2.2.1 852 = .ok (.iconst 2, 1) := lw_d (k := 23) (j := 14) (l := tbl_23) (e := (852, .iconst 2, 1)) rfl rfl
theorem d_MLa_law_853 : decode MLa_law.2.2.1 853 = .ok (.iadd, 1) := lw_d (k := 23) (j := 15) (l := tbl_23) (e := (853, .iadd, 1)) rfl rfl
theorem d_MLa_law_854 : decode MLa_law.2.2.1 854 = .ok (.iaload, 1) := lw_d (k := 23) (j := 16) (l := tbl_23) (e := (854, .iaload, 1)) rfl rfl
theorem d_MLa_law_855 : decode MLa_law.2.2.1 855 = .ok (.invokevirtual 90, 3) := lw_d (k := 23) (j := 17) (l := tbl_23) (e := (855, .invokevirtual 90, 3)) rfl rfl
theorem d_MLa_law_858 : decode MLa_law.2.2.1 858 = .ok (.pop, 1) := lw_d (k := 23) (j := 18) (l := tbl_23) (e := (858, .pop, 1)) rfl rfl
theorem d_MLa_law_859 : decode MLa_law.2.2.1 859 = .ok (.aload_n 2, 1) := lw_d (k := 23) (j := 19) (l := tbl_23) (e := (859, .aload_n 2, 1)) rfl rfl
theorem d_MLa_law_860 : decode MLa_law.2.2.1 860 = .ok (.aload_n 0, 1) := lw_d (k := 23) (j := 20) (l := tbl_23) (e := (860, .aload_n 0, 1)) rfl rfl
theorem d_MLa_law_861 : decode MLa_law.2.2.1 861 = .ok (.iload_n 3, 1) := lw_d (k := 23) (j := 21) (l := tbl_23) (e := (861, .iload_n 3, 1)) rfl rfl
theorem d_MLa_law_862 : decode MLa_law.2.2.1 862 = .ok (.iconst 1, 1) := lw_d (k := 23) (j := 22) (l := tbl_23) (e := (862, .iconst 1, 1)) rfl rfl
theorem d_MLa_law_863 : decode MLa_law.2.2.1 863 = .ok (.iadd, 1) := lw_d (k := 23) (j := 23) (l := tbl_23) (e := (863, .iadd, 1)) rfl rfl
theorem d_MLa_law_864 : decode MLa_law.2.2.1 864 = .ok (.iaload, 1) := lw_d (k := 24) (j := 0) (l := tbl_24) (e := (864, .iaload, 1)) rfl rfl
theorem d_MLa_law_865 : decode MLa_law.2.2.1 865 = .ok (.aload_n 0, 1) := lw_d (k := 24) (j := 1) (l := tbl_24) (e := (865, .aload_n 0, 1)) rfl rfl
theorem d_MLa_law_866 : decode MLa_law.2.2.1 866 = .ok (.iload_n 3, 1) := lw_d (k := 24) (j := 2) (l := tbl_24) (e := (866, .iload_n 3, 1)) rfl rfl
theorem d_MLa_law_867 : decode MLa_law.2.2.1 867 = .ok (.iconst 2, 1) := lw_d (k := 24) (j := 3) (l := tbl_24) (e := (867, .iconst 2, 1)) rfl rfl
theorem d_MLa_law_868 : decode MLa_law.2.2.1 868 = .ok (.iadd, 1) := lw_d (k := 24) (j := 4) (l := tbl_24) (e := (868, .iadd, 1)) rfl rfl
theorem d_MLa_law_869 : decode MLa_law.2.2.1 869 = .ok (.iaload, 1) := lw_d (k := 24) (j := 5) (l := tbl_24) (e := (869, .iaload, 1)) rfl rfl
theorem d_MLa_law_870 : decode MLa_law.2.2.1 870 = .ok (.invokevirtual 93, 3) := lw_d (k := 24) (j := 6) (l := tbl_24) (e := (870, .invokevirtual 93, 3)) rfl rfl
theorem d_MLa_law_873 : decode MLa_law.2.2.1 873 = .ok (.pop, 1) := lw_d (k := 24) (j := 7) (l := tbl_24) (e := (873, .pop, 1)) rfl rfl
theorem d_MLa_law_874 : decode MLa_law.2.2.1 874 = .ok (.goto 670, 3) := lw_d (k := 24) (j := 8) (l := tbl_24) (e := (874, .goto 670, 3)) rfl rfl
theorem d_MLa_law_877 : decode MLa_law.2.2.1 877 = .ok (.aload_n 1, 1) := lw_d (k := 24) (j := 9) (l := tbl_24) (e := (877, .aload_n 1, 1)) rfl rfl
theorem d_MLa_law_878 : decode MLa_law.2.2.1 878 = .ok (.aload_n 0, 1) := lw_d (k := 24) (j := 10) (l := tbl_24) (e := (878, .aload_n 0, 1)) rfl rfl
theorem d_MLa_law_879 : decode MLa_law.2.2.1 879 = .ok (.iload_n 3, 1) := lw_d (k := 24) (j := 11) (l := tbl_24) (e := (879, .iload_n 3, 1)) rfl rfl
theorem d_MLa_law_880 : decode MLa_law.2.2.1 880 = .ok (.iconst 1, 1) := lw_d (k := 24) (j := 12) (l := tbl_24) (e := (880, .iconst 1, 1)) rfl rfl
theorem d_MLa_law_881 : decode MLa_law.2.2.1 881 = .ok (.iadd, 1) := lw_d (k := 24) (j := 13) (l := tbl_24) (e := (881, .iadd, 1)) rfl rfl
theorem d_MLa_law_882 : decode MLa_law.2.2.1 882 = .ok (.iaload, 1) := lw_d (k := 24) (j := 14) (l := tbl_24) (e := (882, .iaload, 1)) rfl rfl
theorem d_MLa_law_883 : decode MLa_law.2.2.1 883 = .ok (.aload_n 0, 1) := lw_d (k := 24) (j := 15) (l := tbl_24) (e := (883, .aload_n 0, 1)) rfl rfl
theorem d_MLa_law_884 : decode MLa_law.2.2.1 884 = .ok (.iload_n 3, 1) := lw_d (k := 24) (j := 16) (l := tbl_24) (e := (884, .iload_n 3, 1)) rfl rfl
theorem d_MLa_law_885 : decode MLa_law.2.2.1 885 = .ok (.iconst 2, 1) := lw_d (k := 24) (j := 17) (l := tbl_24) (e := (885, .iconst 2, 1)) rfl rfl
theorem d_MLa_law_886 : decode MLa_law.2.2.1 886 = .ok (.iadd, 1) := lw_d (k := 24) (j := 18) (l := tbl_24) (e := (886, .iadd, 1)) rfl rfl
theorem d_MLa_law_887 : decode MLa_law.2.2.1 887 = .ok (.iaload, 1) := lw_d (k := 24) (j := 19) (l := tbl_24) (e := (887, .iaload, 1)) rfl rfl
theorem d_MLa_law_888 : decode MLa_law.2.2.1 888 = .ok (.aload_n 0, 1) := lw_d (k := 24) (j := 20) (l := tbl_24) (e := (888, .aload_n 0, 1)) rfl rfl
theorem d_MLa_law_889 : decode MLa_law.2.2.1 889 = .ok (.iload_n 3, 1) := lw_d (k := 24) (j := 21) (l := tbl_24) (e := (889, .iload_n 3, 1)) rfl rfl
theorem d_MLa_law_890 : decode MLa_law.2.2.1 890 = .ok (.iconst 3, 1) := lw_d (k := 24) (j := 22) (l := tbl_24) (e := (890, .iconst 3, 1)) rfl rfl
theorem d_MLa_law_891 : decode MLa_law.2.2.1 891 = .ok (.iadd, 1) := lw_d (k := 24) (j := 23) (l := tbl_24) (e := (891, .iadd, 1)) rfl rfl
theorem d_MLa_law_892 : decode MLa_law.2.2.1 892 = .ok (.iaload, 1) := lw_d (k := 25) (j := 0) (l := tbl_25) (e := (892, .iaload, 1)) rfl rfl
theorem d_MLa_law_893 : decode MLa_law.2.2.1 893 = .ok (.invokevirtual 94, 3) := lw_d (k := 25) (j := 1) (l := tbl_25) (e := (893, .invokevirtual 94, 3)) rfl rfl
theorem d_MLa_law_896 : decode MLa_law.2.2.1 896 = .ok (.pop, 1) := lw_d (k := 25) (j := 2) (l := tbl_25) (e := (896, .pop, 1)) rfl rfl
theorem d_MLa_law_897 : decode MLa_law.2.2.1 897 = .ok (.aload_n 2, 1) := lw_d (k := 25) (j := 3) (l := tbl_25) (e := (897, .aload_n 2, 1)) rfl rfl
theorem d_MLa_law_898 : decode MLa_law.2.2.1 898 = .ok (.aload_n 0, 1) := lw_d (k := 25) (j := 4) (l := tbl_25) (e := (898, .aload_n 0, 1)) rfl rfl
theorem d_MLa_law_899 : decode MLa_law.2.2.1 899 = .ok (.iload_n 3, 1) := lw_d (k := 25) (j := 5) (l := tbl_25) (e := (899, .iload_n 3, 1)) rfl rfl
theorem d_MLa_law_900 : decode MLa_law.2.2.1 900 = .ok (.iconst 1, 1) := lw_d (k := 25) (j := 6) (l := tbl_25) (e := (900, .iconst 1, 1)) rfl rfl
theorem d_MLa_law_901 : decode MLa_law.2.2.1 901 = .ok (.iadd, 1) := lw_d (k := 25) (j := 7) (l := tbl_25) (e := (901, .iadd, 1)) rfl rfl
theorem d_MLa_law_902 : decode MLa_law.2.2.1 902 = .ok (.iaload, 1) := lw_d (k := 25) (j := 8) (l := tbl_25) (e := (902, .iaload, 1)) rfl rfl
theorem d_MLa_law_903 : decode MLa_law.2.2.1 903 = .ok (.aload_n 0, 1) := lw_d (k := 25) (j := 9) (l := tbl_25) (e := (903, .aload_n 0, 1)) rfl rfl
theorem d_MLa_law_904 : decode MLa_law.2.2.1 904 = .ok (.iload_n 3, 1) := lw_d (k := 25) (j := 10) (l := tbl_25) (e := (904, .iload_n 3, 1)) rfl rfl
theorem d_MLa_law_905 : decode MLa_law.2.2.1 905 = .ok (.iconst 2, 1) := lw_d (k := 25) (j := 11) (l := tbl_25) (e := (905, .iconst 2, 1)) rfl rfl
theorem d_MLa_law_906 : decode MLa_law.2.2.1 906 = .ok (.iadd, 1) := lw_d (k := 25) (j := 12) (l := tbl_25) (e := (906, .iadd, 1)) rfl rfl
theorem d_MLa_law_907 : decode MLa_law.2.2.1 907 = .ok (.iaload, 1) := lw_d (k := 25) (j := 13) (l := tbl_25) (e := (907, .iaload, 1)) rfl rfl
theorem d_MLa_law_908 : decode MLa_law.2.2.1 908 = .ok (.aload_n 0, 1) := lw_d (k := 25) (j := 14) (l := tbl_25) (e := (908, .aload_n 0, 1)) rfl rfl
theorem d_MLa_law_909 : decode MLa_law.2.2.1 909 = .ok (.iload_n 3, 1) := lw_d (k := 25) (j := 15) (l := tbl_25) (e := (909, .iload_n 3, 1)) rfl rfl
theorem d_MLa_law_910 : decode MLa_law.2.2.1 910 = .ok (.iconst 3, 1) := lw_d (k := 25) (j := 16) (l := tbl_25) (e := (910, .iconst 3, 1)) rfl rfl
theorem d_MLa_law_911 : decode MLa_law.2.2.1 911 = .ok (.iadd, 1) := lw_d (k := 25) (j := 17) (l := tbl_25) (e := (911, .iadd, 1)) rfl rfl
theorem d_MLa_law_912 : decode MLa_law.2.2.1 912 = .ok (.iaload, 1) := lw_d (k := 25) (j := 18) (l := tbl_25) (e := (912, .iaload, 1)) rfl rfl
theorem d_MLa_law_913 : decode MLa_law.2.2.1 913 = .ok (.invokevirtual 97, 3) := lw_d (k := 25) (j := 19) (l := tbl_25) (e := (913, .invokevirtual 97, 3)) rfl rfl
theorem d_MLa_law_916 : decode MLa_law.2.2.1 916 = .ok (.pop, 1) := lw_d (k := 25) (j := 20) (l := tbl_25) (e := (916, .pop, 1)) rfl rfl
theorem d_MLa_law_917 : decode MLa_law.2.2.1 917 = .ok (.goto 627, 3) := lw_d (k := 25) (j := 21) (l := tbl_25) (e := (917, .goto 627, 3)) rfl rfl
theorem d_MLa_law_920 : decode MLa_law.2.2.1 920 = .ok (.aload_n 1, 1) := lw_d (k := 25) (j := 22) (l := tbl_25) (e := (920, .aload_n 1, 1)) rfl rfl
theorem d_MLa_law_921 : decode MLa_law.2.2.1 921 = .ok (.invokevirtual 98, 3) := lw_d (k := 25) (j := 23) (l := tbl_25) (e := (921, .invokevirtual 98, 3)) rfl rfl
theorem d_MLa_law_924 : decode MLa_law.2.2.1 924 = .ok (.pop, 1) := lw_d (k := 26) (j := 0) (l := tbl_26) (e := (924, .pop, 1)) rfl rfl
theorem d_MLa_law_925 : decode MLa_law.2.2.1 925 = .ok (.aload_n 2, 1) := lw_d (k := 26) (j := 1) (l := tbl_26) (e := (925, .aload_n 2, 1)) rfl rfl
theorem d_MLa_law_926 : decode MLa_law.2.2.1 926 = .ok (.invokevirtual 101, 3) := lw_d (k := 26) (j := 2) (l := tbl_26) (e := (926, .invokevirtual 101, 3)) rfl rfl
theorem d_MLa_law_929 : decode MLa_law.2.2.1 929 = .ok (.pop, 1) := lw_d (k := 26) (j := 3) (l := tbl_26) (e := (929, .pop, 1)) rfl rfl
theorem d_MLa_law_930 : decode MLa_law.2.2.1 930 = .ok (.goto 614, 3) := lw_d (k := 26) (j := 4) (l := tbl_26) (e := (930, .goto 614, 3)) rfl rfl
theorem d_MLa_law_933 : decode MLa_law.2.2.1 933 = .ok (.aload_n 1, 1) := lw_d (k := 26) (j := 5) (l := tbl_26) (e := (933, .aload_n 1, 1)) rfl rfl
theorem d_MLa_law_934 : decode MLa_law.2.2.1 934 = .ok (.aload_n 0, 1) := lw_d (k := 26) (j := 6) (l := tbl_26) (e := (934, .aload_n 0, 1)) rfl rfl
theorem d_MLa_law_935 : decode MLa_law.2.2.1 935 = .ok (.iload_n 3, 1) := lw_d (k := 26) (j := 7) (l := tbl_26) (e := (935, .iload_n 3, 1)) rfl rfl
theorem d_MLa_law_936 : decode MLa_law.2.2.1 936 = .ok (.iconst 1, 1) := lw_d (k := 26) (j := 8) (l := tbl_26) (e := (936, .iconst 1, 1)) rfl rfl
theorem d_MLa_law_937 : decode MLa_law.2.2.1 937 = .ok (.iadd, 1) := lw_d (k := 26) (j := 9) (l := tbl_26) (e := (937, .iadd, 1)) rfl rfl
theorem d_MLa_law_938 : decode MLa_law.2.2.1 938 = .ok (.iaload, 1) := lw_d (k := 26) (j := 10) (l := tbl_26) (e := (938, .iaload, 1)) rfl rfl
theorem d_MLa_law_939 : decode MLa_law.2.2.1 939 = .ok (.aload_n 0, 1) := lw_d (k := 26) (j := 11) (l := tbl_26) (e := (939, .aload_n 0, 1)) rfl rfl
theorem d_MLa_law_940 : decode MLa_law.2.2.1 940 = .ok (.iload_n 3, 1) := lw_d (k := 26) (j := 12) (l := tbl_26) (e := (940, .iload_n 3, 1)) rfl rfl
theorem d_MLa_law_941 : decode MLa_law.2.2.1 941 = .ok (.iconst 2, 1) := lw_d (k := 26) (j := 13) (l := tbl_26) (e := (941, .iconst 2, 1)) rfl rfl
theorem d_MLa_law_942 : decode MLa_law.2.2.1 942 = .ok (.iadd, 1) := lw_d (k := 26) (j := 14) (l := tbl_26) (e := (942, .iadd, 1)) rfl rfl
theorem d_MLa_law_943 : decode MLa_law.2.2.1 943 = .ok (.iaload, 1) := lw_d (k := 26) (j := 15) (l := tbl_26) (e := (943, .iaload, 1)) rfl rfl
theorem d_MLa_law_944 : decode MLa_law.2.2.1 944 = .ok (.aload_n 0, 1) := lw_d (k := 26) (j := 16) (l := tbl_26) (e := (944, .aload_n 0, 1)) rfl rfl
theorem d_MLa_law_945 : decode MLa_law.2.2.1 945 = .ok (.iload_n 3, 1) := lw_d (k := 26) (j := 17) (l := tbl_26) (e := (945, .iload_n 3, 1)) rfl rfl
theorem d_MLa_law_946 : decode MLa_law.2.2.1 946 = .ok (.iconst 3, 1) := lw_d (k := 26) (j := 18) (l := tbl_26) (e := (946, .iconst 3, 1)) rfl rfl
theorem d_MLa_law_947 : decode MLa_law.2.2.1 947 = .ok (.iadd, 1) := lw_d (k := 26) (j := 19) (l := tbl_26) (e := (947, .iadd, 1)) rfl rfl
theorem d_MLa_law_948 : decode MLa_law.2.2.1 948 = .ok (.iaload, 1) := lw_d (k := 26) (j := 20) (l := tbl_26) (e := (948, .iaload, 1)) rfl rfl
theorem d_MLa_law_949 : decode MLa_law.2.2.1 949 = .ok (.invokevirtual 102, 3) := lw_d (k := 26) (j := 21) (l := tbl_26) (e := (949, .invokevirtual 102, 3)) rfl rfl
theorem d_MLa_law_952 : decode MLa_law.2.2.1 952 = .ok (.pop, 1) := lw_d (k := 26) (j := 22) (l := tbl_26) (e := (952, .pop, 1)) rfl rfl
theorem d_MLa_law_953 : decode MLa_law.2.2.1 953 = .ok (.aload_n 2, 1) := lw_d (k := 26) (j := 23) (l := tbl_26) (e := (953, .aload_n 2, 1)) rfl rfl
theorem d_MLa_law_954 : decode MLa_law.2.2.1 954 = .ok (.aload_n 0, 1) := lw_d (k := 27) (j := 0) (l := tbl_27) (e := (954, .aload_n 0, 1)) rfl rfl
theorem d_MLa_law_955 : decode MLa_law.2.2.1 955 = .ok (.iload_n 3, 1) := lw_d (k := 27) (j := 1) (l := tbl_27) (e := (955, .iload_n 3, 1)) rfl rfl
theorem d_MLa_law_956 : decode MLa_law.2.2.1 956 = .ok (.iconst 1, 1) := lw_d (k := 27) (j := 2) (l := tbl_27) (e := (956, .iconst 1, 1)) rfl rfl
theorem d_MLa_law_957 : decode MLa_law.2.2.1 957 = .ok (.iadd, 1) := lw_d (k := 27) (j := 3) (l := tbl_27) (e := (957, .iadd, 1)) rfl rfl
theorem d_MLa_law_958 : decode MLa_law.2.2.1 958 = .ok (.iaload, 1) := lw_d (k := 27) (j := 4) (l := tbl_27) (e := (958, .iaload, 1)) rfl rfl
theorem d_MLa_law_959 : decode MLa_law.2.2.1 959 = .ok (.aload_n 0, 1) := lw_d (k := 27) (j := 5) (l := tbl_27) (e := (959, .aload_n 0, 1)) rfl rfl
theorem d_MLa_law_960 : decode MLa_law.2.2.1 960 = .ok (.iload_n 3, 1) := lw_d (k := 27) (j := 6) (l := tbl_27) (e := (960, .iload_n 3, 1)) rfl rfl
theorem d_MLa_law_961 : decode MLa_law.2.2.1 961 = .ok (.iconst 2, 1) := lw_d (k := 27) (j := 7) (l := tbl_27) (e := (961, .iconst 2, 1)) rfl rfl
theorem d_MLa_law_962 : decode MLa_law.2.2.1 962 = .ok (.iadd, 1) := lw_d (k := 27) (j := 8) (l := tbl_27) (e := (962, .iadd, 1)) rfl rfl
theorem d_MLa_law_963 : decode MLa_law.2.2.1 963 = .ok (.iaload, 1) := lw_d (k := 27) (j := 9) (l := tbl_27) (e := (963, .iaload, 1)) rfl rfl
theorem d_MLa_law_964 : decode MLa_law.2.2.1 964 = .ok (.aload_n 0, 1) := lw_d (k := 27) (j := 10) (l := tbl_27) (e := (964, .aload_n 0, 1)) rfl rfl
theorem d_MLa_law_965 : decode MLa_law.2.2.1 965 = .ok (.iload_n 3, 1) := lw_d (k := 27) (j := 11) (l := tbl_27) (e := (965, .iload_n 3, 1)) rfl rfl
theorem d_MLa_law_966 : decode MLa_law.2.2.1 966 = .ok (.iconst 3, 1) := lw_d (k := 27) (j := 12) (l := tbl_27) (e := (966, .iconst 3, 1)) rfl rfl
theorem d_MLa_law_967 : decode MLa_law.2.2.1 967 = .ok (.iadd, 1) := lw_d (k := 27) (j := 13) (l := tbl_27) (e := (967, .iadd, 1)) rfl rfl
theorem d_MLa_law_968 : decode MLa_law.2.2.1 968 = .ok (.iaload, 1) := lw_d (k := 27) (j := 14) (l := tbl_27) (e := (968, .iaload, 1)) rfl rfl
theorem d_MLa_law_969 : decode MLa_law.2.2.1 969 = .ok (.invokevirtual 105, 3) := lw_d (k := 27) (j := 15) (l := tbl_27) (e := (969, .invokevirtual 105, 3)) rfl rfl
theorem d_MLa_law_972 : decode MLa_law.2.2.1 972 = .ok (.pop, 1) := lw_d (k := 27) (j := 16) (l := tbl_27) (e := (972, .pop, 1)) rfl rfl
theorem d_MLa_law_973 : decode MLa_law.2.2.1 973 = .ok (.goto 571, 3) := lw_d (k := 27) (j := 17) (l := tbl_27) (e := (973, .goto 571, 3)) rfl rfl
theorem d_MLa_law_976 : decode MLa_law.2.2.1 976 = .ok (.aload_n 1, 1) := lw_d (k := 27) (j := 18) (l := tbl_27) (e := (976, .aload_n 1, 1)) rfl rfl
theorem d_MLa_law_977 : decode MLa_law.2.2.1 977 = .ok (.aload_n 0, 1) := lw_d (k := 27) (j := 19) (l := tbl_27) (e := (977, .aload_n 0, 1)) rfl rfl
theorem d_MLa_law_978 : decode MLa_law.2.2.1 978 = .ok (.iload_n 3, 1) := lw_d (k := 27) (j := 20) (l := tbl_27) (e := (978, .iload_n 3, 1)) rfl rfl
theorem d_MLa_law_979 : decode MLa_law.2.2.1 979 = .ok (.iconst 1, 1) := lw_d (k := 27) (j := 21) (l := tbl_27) (e := (979, .iconst 1, 1)) rfl rfl
theorem d_MLa_law_980 : decode MLa_law.2.2.1 980 = .ok (.iadd, 1) := lw_d (k := 27) (j := 22) (l := tbl_27) (e := (980, .iadd, 1)) rfl rfl
theorem d_MLa_law_981 : decode MLa_law.2.2.1 981 = .ok (.iaload, 1) := lw_d (k := 27) (j := 23) (l := tbl_27) (e := (981, .iaload, 1)) rfl rfl
theorem d_MLa_law_982 : decode MLa_law.2.2.1 982 = .ok (.aload_n 0, 1) := lw_d (k := 28) (j := 0) (l := tbl_28) (e := (982, .aload_n 0, 1)) rfl rfl
theorem d_MLa_law_983 : decode MLa_law.2.2.1 983 = .ok (.iload_n 3, 1) := lw_d (k := 28) (j := 1) (l := tbl_28) (e := (983, .iload_n 3, 1)) rfl rfl
theorem d_MLa_law_984 : decode MLa_law.2.2.1 984 = .ok (.iconst 2, 1) := lw_d (k := 28) (j := 2) (l := tbl_28) (e := (984, .iconst 2, 1)) rfl rfl
theorem d_MLa_law_985 : decode MLa_law.2.2.1 985 = .ok (.iadd, 1) := lw_d (k := 28) (j := 3) (l := tbl_28) (e := (985, .iadd, 1)) rfl rfl
theorem d_MLa_law_986 : decode MLa_law.2.2.1 986 = .ok (.iaload, 1) := lw_d (k := 28) (j := 4) (l := tbl_28) (e := (986, .iaload, 1)) rfl rfl
theorem d_MLa_law_987 : decode MLa_law.2.2.1 987 = .ok (.aload_n 0, 1) := lw_d (k := 28) (j := 5) (l := tbl_28) (e := (987, .aload_n 0, 1)) rfl rfl
theorem d_MLa_law_988 : decode MLa_law.2.2.1 988 = .ok (.iload_n 3, 1) := lw_d (k := 28) (j := 6) (l := tbl_28) (e := (988, .iload_n 3, 1)) rfl rfl
theorem d_MLa_law_989 : decode MLa_law.2.2.1 989 = .ok (.iconst 3, 1) := lw_d (k := 28) (j := 7) (l := tbl_28) (e := (989, .iconst 3, 1)) rfl rfl
theorem d_MLa_law_990 : decode MLa_law.2.2.1 990 = .ok (.iadd, 1) := lw_d (k := 28) (j := 8) (l := tbl_28) (e := (990, .iadd, 1)) rfl rfl
theorem d_MLa_law_991 : decode MLa_law.2.2.1 991 = .ok (.iaload, 1) := lw_d (k := 28) (j := 9) (l := tbl_28) (e := (991, .iaload, 1)) rfl rfl
theorem d_MLa_law_992 : decode MLa_law.2.2.1 992 = .ok (.invokevirtual 106, 3) := lw_d (k := 28) (j := 10) (l := tbl_28) (e := (992, .invokevirtual 106, 3)) rfl rfl
theorem d_MLa_law_995 : decode MLa_law.2.2.1 995 = .ok (.pop, 1) := lw_d (k := 28) (j := 11) (l := tbl_28) (e := (995, .pop, 1)) rfl rfl
theorem d_MLa_law_996 : decode MLa_law.2.2.1 996 = .ok (.aload_n 2, 1) := lw_d (k := 28) (j := 12) (l := tbl_28) (e := (996, .aload_n 2, 1)) rfl rfl
theorem d_MLa_law_997 : decode MLa_law.2.2.1 997 = .ok (.aload_n 0, 1) := lw_d (k := 28) (j := 13) (l := tbl_28) (e := (997, .aload_n 0, 1)) rfl rfl
theorem d_MLa_law_998 : decode MLa_law.2.2.1 998 = .ok (.iload_n 3, 1) := lw_d (k := 28) (j := 14) (l := tbl_28) (e := (998, .iload_n 3, 1)) rfl rfl
theorem d_MLa_law_999 : decode MLa_law.2.2.1 999 = .ok (.iconst 1, 1) := lw_d (k := 28) (j := 15) (l := tbl_28) (e := (999, .iconst 1, 1)) rfl rfl
theorem d_MLa_law_1000 : decode MLa_law.2.2.1 1000 = .ok (.iadd, 1) := lw_d (k := 28) (j := 16) (l := tbl_28) (e := (1000, .iadd, 1)) rfl rfl
theorem d_MLa_law_1001 : decode MLa_law.2.2.1 1001 = .ok (.iaload, 1) := lw_d (k := 28) (j := 17) (l := tbl_28) (e := (1001, .iaload, 1)) rfl rfl
theorem d_MLa_law_1002 : decode MLa_law.2.2.1 1002 = .ok (.aload_n 0, 1) := lw_d (k := 28) (j := 18) (l := tbl_28) (e := (1002, .aload_n 0, 1)) rfl rfl
theorem d_MLa_law_1003 : decode MLa_law.2.2.1 1003 = .ok (.iload_n 3, 1) := lw_d (k := 28) (j := 19) (l := tbl_28) (e := (1003, .iload_n 3, 1)) rfl rfl
theorem d_MLa_law_1004 : decode MLa_law.2.2.1 1004 = .ok (.iconst 2, 1) := lw_d (k := 28) (j := 20) (l := tbl_28) (e := (1004, .iconst 2, 1)) rfl rfl
theorem d_MLa_law_1005 : decode MLa_law.2.2.1 1005 = .ok (.iadd, 1) := lw_d (k := 28) (j := 21) (l := tbl_28) (e := (1005, .iadd, 1)) rfl rfl
theorem d_MLa_law_1006 : decode MLa_law.2.2.1 1006 = .ok (.iaload, 1) := lw_d (k := 28) (j := 22) (l := tbl_28) (e := (1006, .iaload, 1)) rfl rfl
theorem d_MLa_law_1007 : decode MLa_law.2.2.1 1007 = .ok (.aload_n 0, 1) := lw_d (k := 28) (j := 23) (l := tbl_28) (e := (1007, .aload_n 0, 1)) rfl rfl
theorem d_MLa_law_1008 : decode MLa_law.2.2.1 1008 = .ok (.iload_n 3, 1) := lw_d (k := 29) (j := 0) (l := tbl_29) (e := (1008, .iload_n 3, 1)) rfl rfl
theorem d_MLa_law_1009 : decode MLa_law.2.2.1 1009 = .ok (.iconst 3, 1) := lw_d (k := 29) (j := 1) (l := tbl_29) (e := (1009, .iconst 3, 1)) rfl rfl
theorem d_MLa_law_1010 : decode MLa_law.2.2.1 1010 = .ok (.iadd, 1) := lw_d (k := 29) (j := 2) (l := tbl_29) (e := (1010, .iadd, 1)) rfl rfl
theorem d_MLa_law_1011 : decode MLa_law.2.2.1 1011 = .ok (.iaload, 1) := lw_d (k := 29) (j := 3) (l := tbl_29) (e := (1011, .iaload, 1)) rfl rfl
theorem d_MLa_law_1012 : decode MLa_law.2.2.1 1012 = .ok (.invokevirtual 109, 3) := lw_d (k := 29) (j := 4) (l := tbl_29) (e := (1012, .invokevirtual 109, 3)) rfl rfl
theorem d_MLa_law_1015 : decode MLa_law.2.2.1 1015 = .ok (.pop, 1) := lw_d (k := 29) (j := 5) (l := tbl_29) (e := (1015, .pop, 1)) rfl rfl
theorem d_MLa_law_1016 : decode MLa_law.2.2.1 1016 = .ok (.goto 528, 3) := lw_d (k := 29) (j := 6) (l := tbl_29) (e := (1016, .goto 528, 3)) rfl rfl
theorem d_MLa_law_1019 : decode MLa_law.2.2.1 1019 = .ok (.aload_n 1, 1) := lw_d (k := 29) (j := 7) (l := tbl_29) (e := (1019, .aload_n 1, 1)) rfl rfl
theorem d_MLa_law_1020 : decode MLa_law.2.2.1 1020 = .ok (.aload_n 0, 1) := lw_d (k := 29) (j := 8) (l := tbl_29) (e := (1020, .aload_n 0, 1)) rfl rfl
theorem d_MLa_law_1021 : decode MLa_law.2.2.1 1021 = .ok (.iload_n 3, 1) := lw_d (k := 29) (j := 9) (l := tbl_29) (e := (1021, .iload_n 3, 1)) rfl rfl
theorem d_MLa_law_1022 : decode MLa_law.2.2.1 1022 = .ok (.iconst 1, 1) := lw_d (k := 29) (j := 10) (l := tbl_29) (e := (1022, .iconst 1, 1)) rfl rfl
theorem d_MLa_law_1023 : decode MLa_law.2.2.1 1023 = .ok (.iadd, 1) := lw_d (k := 29) (j := 11) (l := tbl_29) (e := (1023, .iadd, 1)) rfl rfl
theorem d_MLa_law_1024 : decode MLa_law.2.2.1 1024 = .ok (.iaload, 1) := lw_d (k := 29) (j := 12) (l := tbl_29) (e := (1024, .iaload, 1)) rfl rfl
theorem d_MLa_law_1025 : decode MLa_law.2.2.1 1025 = .ok (.aload_n 0, 1) := lw_d (k := 29) (j := 13) (l := tbl_29) (e := (1025, .aload_n 0, 1)) rfl rfl
theorem d_MLa_law_1026 : decode MLa_law.2.2.1 1026 = .ok (.iload_n 3, 1) := lw_d (k := 29) (j := 14) (l := tbl_29) (e := (1026, .iload_n 3, 1)) rfl rfl
theorem d_MLa_law_1027 : decode MLa_law.2.2.1 1027 = .ok (.iconst 2, 1) := lw_d (k := 29) (j := 15) (l := tbl_29) (e := (1027, .iconst 2, 1)) rfl rfl
theorem d_MLa_law_1028 : decode MLa_law.2.2.1 1028 = .ok (.iadd, 1) := lw_d (k := 29) (j := 16) (l := tbl_29) (e := (1028, .iadd, 1)) rfl rfl
theorem d_MLa_law_1029 : decode MLa_law.2.2.1 1029 = .ok (.iaload, 1) := lw_d (k := 29) (j := 17) (l := tbl_29) (e := (1029, .iaload, 1)) rfl rfl
theorem d_MLa_law_1030 : decode MLa_law.2.2.1 1030 = .ok (.aload_n 0, 1) := lw_d (k := 29) (j := 18) (l := tbl_29) (e := (1030, .aload_n 0, 1)) rfl rfl
theorem d_MLa_law_1031 : decode MLa_law.2.2.1 1031 = .ok (.iload_n 3, 1) := lw_d (k := 29) (j := 19) (l := tbl_29) (e := (1031, .iload_n 3, 1)) rfl rfl
theorem d_MLa_law_1032 : decode MLa_law.2.2.1 1032 = .ok (.iconst 3, 1) := lw_d (k := 29) (j := 20) (l := tbl_29) (e := (1032, .iconst 3, 1)) rfl rfl
theorem d_MLa_law_1033 : decode MLa_law.2.2.1 1033 = .ok (.iadd, 1) := lw_d (k := 29) (j := 21) (l := tbl_29) (e := (1033, .iadd, 1)) rfl rfl
theorem d_MLa_law_1034 : decode MLa_law.2.2.1 1034 = .ok (.iaload, 1) := lw_d (k := 29) (j := 22) (l := tbl_29) (e := (1034, .iaload, 1)) rfl rfl
theorem d_MLa_law_1035 : decode MLa_law.2.2.1 1035 = .ok (.invokevirtual 110, 3) := lw_d (k := 29) (j := 23) (l := tbl_29) (e := (1035, .invokevirtual 110, 3)) rfl rfl
theorem d_MLa_law_1038 : decode MLa_law.2.2.1 1038 = .ok (.pop, 1) := lw_d (k := 30) (j := 0) (l := tbl_30) (e := (1038, .pop, 1)) rfl rfl
theorem d_MLa_law_1039 : decode MLa_law.2.2.1 1039 = .ok (.aload_n 2, 1) := lw_d (k := 30) (j := 1) (l := tbl_30) (e := (1039, .aload_n 2, 1)) rfl rfl
theorem d_MLa_law_1040 : decode MLa_law.2.2.1 1040 = .ok (.aload_n 0, 1) := lw_d (k := 30) (j := 2) (l := tbl_30) (e := (1040, .aload_n 0, 1)) rfl rfl
theorem d_MLa_law_1041 : decode MLa_law.2.2.1 1041 = .ok (.iload_n 3, 1) := lw_d (k := 30) (j := 3) (l := tbl_30) (e := (1041, .iload_n 3, 1)) rfl rfl
theorem d_MLa_law_1042 : decode MLa_law.2.2.1 1042 = .ok (.iconst 1, 1) := lw_d (k := 30) (j := 4) (l := tbl_30) (e := (1042, .iconst 1, 1)) rfl rfl
theorem d_MLa_law_1043 : decode MLa_law.2.2.1 1043 = .ok (.iadd, 1) := lw_d (k := 30) (j := 5) (l := tbl_30) (e := (1043, .iadd, 1)) rfl rfl
theorem d_MLa_law_1044 : decode MLa_law.2.2.1 1044 = .ok (.iaload, 1) := lw_d (k := 30) (j := 6) (l := tbl_30) (e := (1044, .iaload, 1)) rfl rfl
theorem d_MLa_law_1045 : decode MLa_law.2.2.1 1045 = .ok (.aload_n 0, 1) := lw_d (k := 30) (j := 7) (l := tbl_30) (e := (1045, .aload_n 0, 1)) rfl rfl
theorem d_MLa_law_1046 : decode MLa_law.2.2.1 1046 = .ok (.iload_n 3, 1) := lw_d (k := 30) (j := 8) (l := tbl_30) (e := (1046, .iload_n 3, 1)) rfl rfl
theorem d_MLa_law_1047 : decode MLa_law.2.2.1 1047 = .ok (.iconst 2, 1) := lw_d (k := 30) (j := 9) (l := tbl_30) (e := (1047, .iconst 2, 1)) rfl rfl
theorem d_MLa_law_1048 : decode MLa_law.2.2.1 1048 = .ok (.iadd, 1) := lw_d (k := 30) (j := 10) (l := tbl_30) (e := (1048, .iadd, 1)) rfl rfl
theorem d_MLa_law_1049 : decode MLa_law.2.2.1 1049 = .ok (.iaload, 1) := lw_d (k := 30) (j := 11) (l := tbl_30) (e := (1049, .iaload, 1)) rfl rfl
theorem d_MLa_law_1050 : decode MLa_law.2.2.1 1050 = .ok (.aload_n 0, 1) := lw_d (k := 30) (j := 12) (l := tbl_30) (e := (1050, .aload_n 0, 1)) rfl rfl
theorem d_MLa_law_1051 : decode MLa_law.2.2.1 1051 = .ok (.iload_n 3, 1) := lw_d (k := 30) (j := 13) (l := tbl_30) (e := (1051, .iload_n 3, 1)) rfl rfl
theorem d_MLa_law_1052 : decode MLa_law.2.2.1 1052 = .ok (.iconst 3, 1) := lw_d (k := 30) (j := 14) (l := tbl_30) (e := (1052, .iconst 3, 1)) rfl rfl
theorem d_MLa_law_1053 : decode MLa_law.2.2.1 1053 = .ok (.iadd, 1) := lw_d (k := 30) (j := 15) (l := tbl_30) (e := (1053, .iadd, 1)) rfl rfl
theorem d_MLa_law_1054 : decode MLa_law.2.2.1 1054 = .ok (.iaload, 1) := lw_d (k := 30) (j := 16) (l := tbl_30) (e := (1054, .iaload, 1)) rfl rfl
theorem d_MLa_law_1055 : decode MLa_law.2.2.1 1055 = .ok (.invokevirtual 113, 3) := lw_d (k := 30) (j := 17) (l := tbl_30) (e := (1055, .invokevirtual 113, 3)) rfl rfl
theorem d_MLa_law_1058 : decode MLa_law.2.2.1 1058 = .ok (.pop, 1) := lw_d (k := 30) (j := 18) (l := tbl_30) (e := (1058, .pop, 1)) rfl rfl
theorem d_MLa_law_1059 : decode MLa_law.2.2.1 1059 = .ok (.goto 485, 3) := lw_d (k := 30) (j := 19) (l := tbl_30) (e := (1059, .goto 485, 3)) rfl rfl
theorem d_MLa_law_1062 : decode MLa_law.2.2.1 1062 = .ok (.aload_n 1, 1) := lw_d (k := 30) (j := 20) (l := tbl_30) (e := (1062, .aload_n 1, 1)) rfl rfl
theorem d_MLa_law_1063 : decode MLa_law.2.2.1 1063 = .ok (.aload_n 0, 1) := lw_d (k := 30) (j := 21) (l := tbl_30) (e := (1063, .aload_n 0, 1)) rfl rfl
theorem d_MLa_law_1064 : decode MLa_law.2.2.1 1064 = .ok (.iload_n 3, 1) := lw_d (k := 30) (j := 22) (l := tbl_30) (e := (1064, .iload_n 3, 1)) rfl rfl
theorem d_MLa_law_1065 : decode MLa_law.2.2.1 1065 = .ok (.iconst 1, 1) := lw_d (k := 30) (j := 23) (l := tbl_30) (e := (1065, .iconst 1, 1)) rfl rfl
theorem d_MLa_law_1066 : decode MLa_law.2.2.1 1066 = .ok (.iadd, 1) := lw_d (k := 31) (j := 0) (l := tbl_31) (e := (1066, .iadd, 1)) rfl rfl
theorem d_MLa_law_1067 : decode MLa_law.2.2.1 1067 = .ok (.iaload, 1) := lw_d (k := 31) (j := 1) (l := tbl_31) (e := (1067, .iaload, 1)) rfl rfl
theorem d_MLa_law_1068 : decode MLa_law.2.2.1 1068 = .ok (.aload_n 0, 1) := lw_d (k := 31) (j := 2) (l := tbl_31) (e := (1068, .aload_n 0, 1)) rfl rfl
theorem d_MLa_law_1069 : decode MLa_law.2.2.1 1069 = .ok (.iload_n 3, 1) := lw_d (k := 31) (j := 3) (l := tbl_31) (e := (1069, .iload_n 3, 1)) rfl rfl
theorem d_MLa_law_1070 : decode MLa_law.2.2.1 1070 = .ok (.iconst 2, 1) := lw_d (k := 31) (j := 4) (l := tbl_31) (e := (1070, .iconst 2, 1)) rfl rfl
theorem d_MLa_law_1071 : decode MLa_law.2.2.1 1071 = .ok (.iadd, 1) := lw_d (k := 31) (j := 5) (l := tbl_31) (e := (1071, .iadd, 1)) rfl rfl
theorem d_MLa_law_1072 : decode MLa_law.2.2.1 1072 = .ok (.iaload, 1) := lw_d (k := 31) (j := 6) (l := tbl_31) (e := (1072, .iaload, 1)) rfl rfl
theorem d_MLa_law_1073 : decode MLa_law.2.2.1 1073 = .ok (.invokevirtual 114, 3) := lw_d (k := 31) (j := 7) (l := tbl_31) (e := (1073, .invokevirtual 114, 3)) rfl rfl
theorem d_MLa_law_1076 : decode MLa_law.2.2.1 1076 = .ok (.pop, 1) := lw_d (k := 31) (j := 8) (l := tbl_31) (e := (1076, .pop, 1)) rfl rfl
theorem d_MLa_law_1077 : decode MLa_law.2.2.1 1077 = .ok (.aload_n 2, 1) := lw_d (k := 31) (j := 9) (l := tbl_31) (e := (1077, .aload_n 2, 1)) rfl rfl
theorem d_MLa_law_1078 : decode MLa_law.2.2.1 1078 = .ok (.aload_n 0, 1) := lw_d (k := 31) (j := 10) (l := tbl_31) (e := (1078, .aload_n 0, 1)) rfl rfl
theorem d_MLa_law_1079 : decode MLa_law.2.2.1 1079 = .ok (.iload_n 3, 1) := lw_d (k := 31) (j := 11) (l := tbl_31) (e := (1079, .iload_n 3, 1)) rfl rfl
theorem d_MLa_law_1080 : decode MLa_law.2.2.1 1080 = .ok (.iconst 1, 1) := lw_d (k := 31) (j := 12) (l := tbl_31) (e := (1080, .iconst 1, 1)) rfl rfl
theorem d_MLa_law_1081 : decode MLa_law.2.2.1 1081 = .ok (.iadd, 1) := lw_d (k := 31) (j := 13) (l := tbl_31) (e := (1081, .iadd, 1)) rfl rfl
theorem d_MLa_law_1082 : decode MLa_law.2.2.1 1082 = .ok (.iaload, 1) := lw_d (k := 31) (j := 14) (l := tbl_31) (e := (1082, .iaload, 1)) rfl rfl
theorem d_MLa_law_1083 : decode MLa_law.2.2.1 1083 = .ok (.aload_n 0, 1) := lw_d (k := 31) (j := 15) (l := tbl_31) (e := (1083, .aload_n 0, 1)) rfl rfl
theorem d_MLa_law_1084 : decode MLa_law.2.2.1 1084 = .ok (.iload_n 3, 1) := lw_d (k := 31) (j := 16) (l := tbl_31) (e := (1084, .iload_n 3, 1)) rfl rfl
theorem d_MLa_law_1085 : decode MLa_law.2.2.1 1085 = .ok (.iconst 2, 1) := lw_d (k := 31) (j := 17) (l := tbl_31) (e := (1085, .iconst 2, 1)) rfl rfl
theorem d_MLa_law_1086 : decode MLa_law.2.2.1 1086 = .ok (.iadd, 1) := lw_d (k := 31) (j := 18) (l := tbl_31) (e := (1086, .iadd, 1)) rfl rfl
theorem d_MLa_law_1087 : decode MLa_law.2.2.1 1087 = .ok (.iaload, 1) := lw_d (k := 31) (j := 19) (l := tbl_31) (e := (1087, .iaload, 1)) rfl rfl
theorem d_MLa_law_1088 : decode MLa_law.2.2.1 1088 = .ok (.invokevirtual 117, 3) := lw_d (k := 31) (j := 20) (l := tbl_31) (e := (1088, .invokevirtual 117, 3)) rfl rfl
theorem d_MLa_law_1091 : decode MLa_law.2.2.1 1091 = .ok (.pop, 1) := lw_d (k := 31) (j := 21) (l := tbl_31) (e := (1091, .pop, 1)) rfl rfl
theorem d_MLa_law_1092 : decode MLa_law.2.2.1 1092 = .ok (.goto 452, 3) := lw_d (k := 31) (j := 22) (l := tbl_31) (e := (1092, .goto 452, 3)) rfl rfl
theorem d_MLa_law_1095 : decode MLa_law.2.2.1 1095 = .ok (.aload_n 1, 1) := lw_d (k := 31) (j := 23) (l := tbl_31) (e := (1095, .aload_n 1, 1)) rfl rfl
theorem d_MLa_law_1096 : decode MLa_law.2.2.1 1096 = .ok (.aload_n 0, 1) := lw_d (k := 32) (j := 0) (l := tbl_32) (e := (1096, .aload_n 0, 1)) rfl rfl
theorem d_MLa_law_1097 : decode MLa_law.2.2.1 1097 = .ok (.iload_n 3, 1) := lw_d (k := 32) (j := 1) (l := tbl_32) (e := (1097, .iload_n 3, 1)) rfl rfl
theorem d_MLa_law_1098 : decode MLa_law.2.2.1 1098 = .ok (.iconst 1, 1) := lw_d (k := 32) (j := 2) (l := tbl_32) (e := (1098, .iconst 1, 1)) rfl rfl
theorem d_MLa_law_1099 : decode MLa_law.2.2.1 1099 = .ok (.iadd, 1) := lw_d (k := 32) (j := 3) (l := tbl_32) (e := (1099, .iadd, 1)) rfl rfl
theorem d_MLa_law_1100 : decode MLa_law.2.2.1 1100 = .ok (.iaload, 1) := lw_d (k := 32) (j := 4) (l := tbl_32) (e := (1100, .iaload, 1)) rfl rfl
theorem d_MLa_law_1101 : decode MLa_law.2.2.1 1101 = .ok (.aload_n 0, 1) := lw_d (k := 32) (j := 5) (l := tbl_32) (e := (1101, .aload_n 0, 1)) rfl rfl
theorem d_MLa_law_1102 : decode MLa_law.2.2.1 1102 = .ok (.iload_n 3, 1) := lw_d (k := 32) (j := 6) (l := tbl_32) (e := (1102, .iload_n 3, 1)) rfl rfl
theorem d_MLa_law_1103 : decode MLa_law.2.2.1 1103 = .ok (.iconst 2, 1) := lw_d (k := 32) (j := 7) (l := tbl_32) (e := (1103, .iconst 2, 1)) rfl rfl
theorem d_MLa_law_1104 : decode MLa_law.2.2.1 1104 = .ok (.iadd, 1) := lw_d (k := 32) (j := 8) (l := tbl_32) (e := (1104, .iadd, 1)) rfl rfl
theorem d_MLa_law_1105 : decode MLa_law.2.2.1 1105 = .ok (.iaload, 1) := lw_d (k := 32) (j := 9) (l := tbl_32) (e := (1105, .iaload, 1)) rfl rfl
theorem d_MLa_law_1106 : decode MLa_law.2.2.1 1106 = .ok (.invokevirtual 118, 3) := lw_d (k := 32) (j := 10) (l := tbl_32) (e := (1106, .invokevirtual 118, 3)) rfl rfl
theorem d_MLa_law_1109 : decode MLa_law.2.2.1 1109 = .ok (.pop, 1) := lw_d (k := 32) (j := 11) (l := tbl_32) (e := (1109, .pop, 1)) rfl rfl
theorem d_MLa_law_1110 : decode MLa_law.2.2.1 1110 = .ok (.aload_n 2, 1) := lw_d (k := 32) (j := 12) (l := tbl_32) (e := (1110, .aload_n 2, 1)) rfl rfl
theorem d_MLa_law_1111 : decode MLa_law.2.2.1 1111 = .ok (.aload_n 0, 1) := lw_d (k := 32) (j := 13) (l := tbl_32) (e := (1111, .aload_n 0, 1)) rfl rfl
theorem d_MLa_law_1112 : decode MLa_law.2.2.1 1112 = .ok (.iload_n 3, 1) := lw_d (k := 32) (j := 14) (l := tbl_32) (e := (1112, .iload_n 3, 1)) rfl rfl
theorem d_MLa_law_1113 : decode MLa_law.2.2.1 1113 = .ok (.iconst 1, 1) := lw_d (k := 32) (j := 15) (l := tbl_32) (e := (1113, .iconst 1, 1)) rfl rfl
theorem d_MLa_law_1114 : decode MLa_law.2.2.1 1114 = .ok (.iadd, 1) := lw_d (k := 32) (j := 16) (l := tbl_32) (e := (1114, .iadd, 1)) rfl rfl
theorem d_MLa_law_1115 : decode MLa_law.2.2.1 1115 = .ok (.iaload, 1) := lw_d (k := 32) (j := 17) (l := tbl_32) (e := (1115, .iaload, 1)) rfl rfl
theorem d_MLa_law_1116 : decode MLa_law.2.2.1 1116 = .ok (.aload_n 0, 1) := lw_d (k := 32) (j := 18) (l := tbl_32) (e := (1116, .aload_n 0, 1)) rfl rfl
theorem d_MLa_law_1117 : decode MLa_law.2.2.1 1117 = .ok (.iload_n 3, 1) := lw_d (k := 32) (j := 19) (l := tbl_32) (e := (1117, .iload_n 3, 1)) rfl rfl
theorem d_MLa_law_1118 : decode MLa_law.2.2.1 1118 = .ok (.iconst 2, 1) := lw_d (k := 32) (j := 20) (l := tbl_32) (e := (1118, .iconst 2, 1)) rfl rfl
theorem d_MLa_law_1119 : decode MLa_law.2.2.1 1119 = .ok (.iadd, 1) := lw_d (k := 32) (j := 21) (l := tbl_32) (e := (1119, .iadd, 1)) rfl rfl
theorem d_MLa_law_1120 : decode MLa_law.2.2.1 1120 = .ok (.iaload, 1) := lw_d (k := 32) (j := 22) (l := tbl_32) (e := (1120, .iaload, 1)) rfl rfl
theorem d_MLa_law_1121 : decode MLa_law.2.2.1 1121 = .ok (.invokevirtual 121, 3) := lw_d (k := 32) (j := 23) (l := tbl_32) (e := (1121, .invokevirtual 121, 3)) rfl rfl
theorem d_MLa_law_1124 : decode MLa_law.2.2.1 1124 = .ok (.pop, 1) := lw_d (k := 33) (j := 0) (l := tbl_33) (e := (1124, .pop, 1)) rfl rfl
theorem d_MLa_law_1125 : decode MLa_law.2.2.1 1125 = .ok (.goto 419, 3) := lw_d (k := 33) (j := 1) (l := tbl_33) (e := (1125, .goto 419, 3)) rfl rfl
theorem d_MLa_law_1128 : decode MLa_law.2.2.1 1128 = .ok (.aload_n 1, 1) := lw_d (k := 33) (j := 2) (l := tbl_33) (e := (1128, .aload_n 1, 1)) rfl rfl
theorem d_MLa_law_1129 : decode MLa_law.2.2.1 1129 = .ok (.invokevirtual 122, 3) := lw_d (k := 33) (j := 3) (l := tbl_33) (e := (1129, .invokevirtual 122, 3)) rfl rfl
theorem d_MLa_law_1132 : decode MLa_law.2.2.1 1132 = .ok (.pop, 1) := lw_d (k := 33) (j := 4) (l := tbl_33) (e := (1132, .pop, 1)) rfl rfl
theorem d_MLa_law_1133 : decode MLa_law.2.2.1 1133 = .ok (.aload_n 2, 1) := lw_d (k := 33) (j := 5) (l := tbl_33) (e := (1133, .aload_n 2, 1)) rfl rfl
theorem d_MLa_law_1134 : decode MLa_law.2.2.1 1134 = .ok (.invokevirtual 125, 3) := lw_d (k := 33) (j := 6) (l := tbl_33) (e := (1134, .invokevirtual 125, 3)) rfl rfl
theorem d_MLa_law_1137 : decode MLa_law.2.2.1 1137 = .ok (.pop, 1) := lw_d (k := 33) (j := 7) (l := tbl_33) (e := (1137, .pop, 1)) rfl rfl
theorem d_MLa_law_1138 : decode MLa_law.2.2.1 1138 = .ok (.goto 406, 3) := lw_d (k := 33) (j := 8) (l := tbl_33) (e := (1138, .goto 406, 3)) rfl rfl
theorem d_MLa_law_1141 : decode MLa_law.2.2.1 1141 = .ok (.aload_n 1, 1) := lw_d (k := 33) (j := 9) (l := tbl_33) (e := (1141, .aload_n 1, 1)) rfl rfl
theorem d_MLa_law_1142 : decode MLa_law.2.2.1 1142 = .ok (.invokevirtual 126, 3) := lw_d (k := 33) (j := 10) (l := tbl_33) (e := (1142, .invokevirtual 126, 3)) rfl rfl
theorem d_MLa_law_1145 : decode MLa_law.2.2.1 1145 = .ok (.aload_n 2, 1) := lw_d (k := 33) (j := 11) (l := tbl_33) (e := (1145, .aload_n 2, 1)) rfl rfl
theorem d_MLa_law_1146 : decode MLa_law.2.2.1 1146 = .ok (.invokevirtual 129, 3) := lw_d (k := 33) (j := 12) (l := tbl_33) (e := (1146, .invokevirtual 129, 3)) rfl rfl
theorem d_MLa_law_1149 : decode MLa_law.2.2.1 1149 = .ok (.if_icmp .eq 395, 3) := lw_d (k := 33) (j := 13) (l := tbl_33) (e := (1149, .if_icmp .eq 395, 3)) rfl rfl
theorem d_MLa_law_1152 : decode MLa_law.2.2.1 1152 = .ok (.iconst 0, 1) := lw_d (k := 33) (j := 14) (l := tbl_33) (e := (1152, .iconst 0, 1)) rfl rfl
theorem d_MLa_law_1153 : decode MLa_law.2.2.1 1153 = .ok (.ireturn, 1) := lw_d (k := 33) (j := 15) (l := tbl_33) (e := (1153, .ireturn, 1)) rfl rfl
theorem d_MLa_law_1154 : decode MLa_law.2.2.1 1154 = .ok (.aload_n 1, 1) := lw_d (k := 33) (j := 16) (l := tbl_33) (e := (1154, .aload_n 1, 1)) rfl rfl
theorem d_MLa_law_1155 : decode MLa_law.2.2.1 1155 = .ok (.aload_n 0, 1) := lw_d (k := 33) (j := 17) (l := tbl_33) (e := (1155, .aload_n 0, 1)) rfl rfl
theorem d_MLa_law_1156 : decode MLa_law.2.2.1 1156 = .ok (.iload_n 3, 1) := lw_d (k := 33) (j := 18) (l := tbl_33) (e := (1156, .iload_n 3, 1)) rfl rfl
theorem d_MLa_law_1157 : decode MLa_law.2.2.1 1157 = .ok (.iconst 1, 1) := lw_d (k := 33) (j := 19) (l := tbl_33) (e := (1157, .iconst 1, 1)) rfl rfl
theorem d_MLa_law_1158 : decode MLa_law.2.2.1 1158 = .ok (.iadd, 1) := lw_d (k := 33) (j := 20) (l := tbl_33) (e := (1158, .iadd, 1)) rfl rfl
theorem d_MLa_law_1159 : decode MLa_law.2.2.1 1159 = .ok (.iaload, 1) := lw_d (k := 33) (j := 21) (l := tbl_33) (e := (1159, .iaload, 1)) rfl rfl
theorem d_MLa_law_1160 : decode MLa_law.2.2.1 1160 = .ok (.invokevirtual 130, 3) := lw_d (k := 33) (j := 22) (l := tbl_33) (e := (1160, .invokevirtual 130, 3)) rfl rfl
theorem d_MLa_law_1163 : decode MLa_law.2.2.1 1163 = .ok (.pop, 1) := lw_d (k := 33) (j := 23) (l := tbl_33) (e := (1163, .pop, 1)) rfl rfl
theorem d_MLa_law_1164 : decode MLa_law.2.2.1 1164 = .ok (.aload_n 2, 1) := lw_d (k := 34) (j := 0) (l := tbl_34) (e := (1164, .aload_n 2, 1)) rfl rfl
theorem d_MLa_law_1165 : decode MLa_law.2.2.1 1165 = .ok (.aload_n 0, 1) := lw_d (k := 34) (j := 1) (l := tbl_34) (e := (1165, .aload_n 0, 1)) rfl rfl
theorem d_MLa_law_1166 : decode MLa_law.2.2.1 1166 = .ok (.iload_n 3, 1) := lw_d (k := 34) (j := 2) (l := tbl_34) (e := (1166, .iload_n 3, 1)) rfl rfl
theorem d_MLa_law_1167 : decode MLa_law.2.2.1 1167 = .ok (.iconst 1, 1) := lw_d (k := 34) (j := 3) (l := tbl_34) (e := (1167, .iconst 1, 1)) rfl rfl
theorem d_MLa_law_1168 : decode MLa_law.2.2.1 1168 = .ok (.iadd, 1) := lw_d (k := 34) (j := 4) (l := tbl_34) (e := (1168, .iadd, 1)) rfl rfl
theorem d_MLa_law_1169 : decode MLa_law.2.2.1 1169 = .ok (.iaload, 1) := lw_d (k := 34) (j := 5) (l := tbl_34) (e := (1169, .iaload, 1)) rfl rfl
theorem d_MLa_law_1170 : decode MLa_law.2.2.1 1170 = .ok (.invokevirtual 133, 3) := lw_d (k := 34) (j := 6) (l := tbl_34) (e := (1170, .invokevirtual 133, 3)) rfl rfl
theorem d_MLa_law_1173 : decode MLa_law.2.2.1 1173 = .ok (.pop, 1) := lw_d (k := 34) (j := 7) (l := tbl_34) (e := (1173, .pop, 1)) rfl rfl
theorem d_MLa_law_1174 : decode MLa_law.2.2.1 1174 = .ok (.goto 370, 3) := lw_d (k := 34) (j := 8) (l := tbl_34) (e := (1174, .goto 370, 3)) rfl rfl
theorem d_MLa_law_1177 : decode MLa_law.2.2.1 1177 = .ok (.aload_n 1, 1) := lw_d (k := 34) (j := 9) (l := tbl_34) (e := (1177, .aload_n 1, 1)) rfl rfl
theorem d_MLa_law_1178 : decode MLa_law.2.2.1 1178 = .ok (.aload_n 0, 1) := lw_d (k := 34) (j := 10) (l := tbl_34) (e := (1178, .aload_n 0, 1)) rfl rfl
theorem d_MLa_law_1179 : decode MLa_law.2.2.1 1179 = .ok (.iload_n 3, 1) := lw_d (k := 34) (j := 11) (l := tbl_34) (e := (1179, .iload_n 3, 1)) rfl rfl
theorem d_MLa_law_1180 : decode MLa_law.2.2.1 1180 = .ok (.iconst 1, 1) := lw_d (k := 34) (j := 12) (l := tbl_34) (e := (1180, .iconst 1, 1)) rfl rfl
theorem d_MLa_law_1181 : decode MLa_law.2.2.1 1181 = .ok (.iadd, 1) := lw_d (k := 34) (j := 13) (l := tbl_34) (e := (1181, .iadd, 1)) rfl rfl
theorem d_MLa_law_1182 : decode MLa_law.2.2.1 1182 = .ok (.iaload, 1) := lw_d (k := 34) (j := 14) (l := tbl_34) (e := (1182, .iaload, 1)) rfl rfl
theorem d_MLa_law_1183 : decode MLa_law.2.2.1 1183 = .ok (.aload_n 0, 1) := lw_d (k := 34) (j := 15) (l := tbl_34) (e := (1183, .aload_n 0, 1)) rfl rfl
theorem d_MLa_law_1184 : decode MLa_law.2.2.1 1184 = .ok (.iload_n 3, 1) := lw_d (k := 34) (j := 16) (l := tbl_34) (e := (1184, .iload_n 3, 1)) rfl rfl
theorem d_MLa_law_1185 : decode MLa_law.2.2.1 1185 = .ok (.iconst 2, 1) := lw_d (k := 34) (j := 17) (l := tbl_34) (e := (1185, .iconst 2, 1)) rfl rfl
theorem d_MLa_law_1186 : decode MLa_law.2.2.1 1186 = .ok (.iadd, 1) := lw_d (k := 34) (j := 18) (l := tbl_34) (e := (1186, .iadd, 1)) rfl rfl
theorem d_MLa_law_1187 : decode MLa_law.2.2.1 1187 = .ok (.iaload, 1) := lw_d (k := 34) (j := 19) (l := tbl_34) (e := (1187, .iaload, 1)) rfl rfl
theorem d_MLa_law_1188 : decode MLa_law.2.2.1 1188 = .ok (.aload_n 0, 1) := lw_d (k := 34) (j := 20) (l := tbl_34) (e := (1188, .aload_n 0, 1)) rfl rfl
theorem d_MLa_law_1189 : decode MLa_law.2.2.1 1189 = .ok (.iload_n 3, 1) := lw_d (k := 34) (j := 21) (l := tbl_34) (e := (1189, .iload_n 3, 1)) rfl rfl
theorem d_MLa_law_1190 : decode MLa_law.2.2.1 1190 = .ok (.iconst 3, 1) := lw_d (k := 34) (j := 22) (l := tbl_34) (e := (1190, .iconst 3, 1)) rfl rfl
theorem d_MLa_law_1191 : decode MLa_law.2.2.1 1191 = .ok (.iadd, 1) := lw_d (k := 34) (j := 23) (l := tbl_34) (e := (1191, .iadd, 1)) rfl rfl
theorem d_MLa_law_1192 : decode MLa_law.2.2.1 1192 = .ok (.iaload, 1) := lw_d (k := 35) (j := 0) (l := tbl_35) (e := (1192, .iaload, 1)) rfl rfl
theorem d_MLa_law_1193 : decode MLa_law.2.2.1 1193 = .ok (.invokevirtual 134, 3) := lw_d (k := 35) (j := 1) (l := tbl_35) (e := (1193, .invokevirtual 134, 3)) rfl rfl
theorem d_MLa_law_1196 : decode MLa_law.2.2.1 1196 = .ok (.pop, 1) := lw_d (k := 35) (j := 2) (l := tbl_35) (e := (1196, .pop, 1)) rfl rfl
theorem d_MLa_law_1197 : decode MLa_law.2.2.1 1197 = .ok (.aload_n 2, 1) := lw_d (k := 35) (j := 3) (l := tbl_35) (e := (1197, .aload_n 2, 1)) rfl rfl
theorem d_MLa_law_1198 : decode MLa_law.2.2.1 1198 = .ok (.aload_n 0, 1) := lw_d (k := 35) (j := 4) (l := tbl_35) (e := (1198, .aload_n 0, 1)) rfl rfl
theorem d_MLa_law_1199 : decode MLa_law.2.2.1 1199 = .ok (.iload_n 3, 1) := lw_d (k := 35) (j := 5) (l := tbl_35) (e := (1199, .iload_n 3, 1)) rfl rfl
theorem d_MLa_law_1200 : decode MLa_law.2.2.1 1200 = .ok (.iconst 1, 1) := lw_d (k := 35) (j := 6) (l := tbl_35) (e := (1200, .iconst 1, 1)) rfl rfl
theorem d_MLa_law_1201 : decode MLa_law.2.2.1 1201 = .ok (.iadd, 1) := lw_d (k := 35) (j := 7) (l := tbl_35) (e := (1201, .iadd, 1)) rfl rfl
theorem d_MLa_law_1202 : decode MLa_law.2.2.1 1202 = .ok (.iaload, 1) := lw_d (k := 35) (j := 8) (l := tbl_35) (e := (1202, .iaload, 1)) rfl rfl
theorem d_MLa_law_1203 : decode MLa_law.2.2.1 1203 = .ok (.aload_n 0, 1) := lw_d (k := 35) (j := 9) (l := tbl_35) (e := (1203, .aload_n 0, 1)) rfl rfl
theorem d_MLa_law_1204 : decode MLa_law.2.2.1 1204 = .ok (.iload_n 3, 1) := lw_d (k := 35) (j := 10) (l := tbl_35) (e := (1204, .iload_n 3, 1)) rfl rfl
theorem d_MLa_law_1205 : decode MLa_law.2.2.1 1205 = .ok (.iconst 2, 1) := lw_d (k := 35) (j := 11) (l := tbl_35) (e := (1205, .iconst 2, 1)) rfl rfl
theorem d_MLa_law_1206 : decode MLa_law.2.2.1 1206 = .ok (.iadd, 1) := lw_d (k := 35) (j := 12) (l := tbl_35) (e := (1206, .iadd, 1)) rfl rfl
theorem d_MLa_law_1207 : decode MLa_law.2.2.1 1207 = .ok (.iaload, 1) := lw_d (k := 35) (j := 13) (l := tbl_35) (e := (1207, .iaload, 1)) rfl rfl
theorem d_MLa_law_1208 : decode MLa_law.2.2.1 1208 = .ok (.aload_n 0, 1) := lw_d (k := 35) (j := 14) (l := tbl_35) (e := (1208, .aload_n 0, 1)) rfl rfl
theorem d_MLa_law_1209 : decode MLa_law.2.2.1 1209 = .ok (.iload_n 3, 1) := lw_d (k := 35) (j := 15) (l := tbl_35) (e := (1209, .iload_n 3, 1)) rfl rfl
theorem d_MLa_law_1210 : decode MLa_law.2.2.1 1210 = .ok (.iconst 3, 1) := lw_d (k := 35) (j := 16) (l := tbl_35) (e := (1210, .iconst 3, 1)) rfl rfl
theorem d_MLa_law_1211 : decode MLa_law.2.2.1 1211 = .ok (.iadd, 1) := lw_d (k := 35) (j := 17) (l := tbl_35) (e := (1211, .iadd, 1)) rfl rfl
theorem d_MLa_law_1212 : decode MLa_law.2.2.1 1212 = .ok (.iaload, 1) := lw_d (k := 35) (j := 18) (l := tbl_35) (e := (1212, .iaload, 1)) rfl rfl
theorem d_MLa_law_1213 : decode MLa_law.2.2.1 1213 = .ok (.invokevirtual 137, 3) := lw_d (k := 35) (j := 19) (l := tbl_35) (e := (1213, .invokevirtual 137, 3)) rfl rfl
theorem d_MLa_law_1216 : decode MLa_law.2.2.1 1216 = .ok (.pop, 1) := lw_d (k := 35) (j := 20) (l := tbl_35) (e := (1216, .pop, 1)) rfl rfl
theorem d_MLa_law_1217 : decode MLa_law.2.2.1 1217 = .ok (.goto 327, 3) := lw_d (k := 35) (j := 21) (l := tbl_35) (e := (1217, .goto 327, 3)) rfl rfl
theorem d_MLa_law_1220 : decode MLa_law.2.2.1 1220 = .ok (.aload_n 1, 1) := lw_d (k := 35) (j := 22) (l := tbl_35) (e := (1220, .aload_n 1, 1)) rfl rfl
theorem d_MLa_law_1221 : decode MLa_law.2.2.1 1221 = .ok (.aload_n 0, 1) := lw_d (k := 35) (j := 23) (l := tbl_35) (e := (1221, .aload_n 0, 1)) rfl rfl
theorem d_MLa_law_1222 : decode MLa_law.2.2.1 1222 = .ok (.iload_n 3, 1) := lw_d (k := 36) (j := 0) (l := tbl_36) (e := (1222, .iload_n 3, 1)) rfl rfl
theorem d_MLa_law_1223 : decode MLa_law.2.2.1 1223 = .ok (.iconst 1, 1) := lw_d (k := 36) (j := 1) (l := tbl_36) (e := (1223, .iconst 1, 1)) rfl rfl
theorem d_MLa_law_1224 : decode MLa_law.2.2.1 1224 = .ok (.iadd, 1) := lw_d (k := 36) (j := 2) (l := tbl_36) (e := (1224, .iadd, 1)) rfl rfl
theorem d_MLa_law_1225 : decode MLa_law.2.2.1 1225 = .ok (.iaload, 1) := lw_d (k := 36) (j := 3) (l := tbl_36) (e := (1225, .iaload, 1)) rfl rfl
theorem d_MLa_law_1226 : decode MLa_law.2.2.1 1226 = .ok (.invokevirtual 138, 3) := lw_d (k := 36) (j := 4) (l := tbl_36) (e := (1226, .invokevirtual 138, 3)) rfl rfl
theorem d_MLa_law_1229 : decode MLa_law.2.2.1 1229 = .ok (.pop, 1) := lw_d (k := 36) (j := 5) (l := tbl_36) (e := (1229, .pop, 1)) rfl rfl
theorem d_MLa_law_1230 : decode MLa_law.2.2.1 1230 = .ok (.aload_n 2, 1) := lw_d (k := 36) (j := 6) (l := tbl_36) (e := (1230, .aload_n 2, 1)) rfl rfl
theorem d_MLa_law_1231 : decode MLa_law.2.2.1 1231 = .ok (.aload_n 0, 1) := lw_d (k := 36) (j := 7) (l := tbl_36) (e := (1231, .aload_n 0, 1)) rfl rfl
theorem d_MLa_law_1232 : decode MLa_law.2.2.1 1232 = .ok (.iload_n 3, 1) := lw_d (k := 36) (j := 8) (l := tbl_36) (e := (1232, .iload_n 3, 1)) rfl rfl
theorem d_MLa_law_1233 : decode MLa_law.2.2.1 1233 = .ok (.iconst 1, 1) := lw_d (k := 36) (j := 9) (l := tbl_36) (e := (1233, .iconst 1, 1)) rfl rfl
theorem d_MLa_law_1234 : decode MLa_law.2.2.1 1234 = .ok (.iadd, 1) := lw_d (k := 36) (j := 10) (l := tbl_36) (e := (1234, .iadd, 1)) rfl rfl
theorem d_MLa_law_1235 : decode MLa_law.2.2.1 1235 = .ok (.iaload, 1) := lw_d (k := 36) (j := 11) (l := tbl_36) (e := (1235, .iaload, 1)) rfl rfl
theorem d_MLa_law_1236 : decode MLa_law.2.2.1 1236 = .ok (.invokevirtual 141, 3) := lw_d (k := 36) (j := 12) (l := tbl_36) (e := (1236, .invokevirtual 141, 3)) rfl rfl
theorem d_MLa_law_1239 : decode MLa_law.2.2.1 1239 = .ok (.pop, 1) := lw_d (k := 36) (j := 13) (l := tbl_36) (e := (1239, .pop, 1)) rfl rfl
theorem d_MLa_law_1240 : decode MLa_law.2.2.1 1240 = .ok (.goto 304, 3) := lw_d (k := 36) (j := 14) (l := tbl_36) (e := (1240, .goto 304, 3)) rfl rfl
theorem d_MLa_law_1243 : decode MLa_law.2.2.1 1243 = .ok (.aload_n 1, 1) := lw_d (k := 36) (j := 15) (l := tbl_36) (e := (1243, .aload_n 1, 1)) rfl rfl
theorem d_MLa_law_1244 : decode MLa_law.2.2.1 1244 = .ok (.aload_n 0, 1) := lw_d (k := 36) (j := 16) (l := tbl_36) (e := (1244, .aload_n 0, 1)) rfl rfl
theorem d_MLa_law_1245 : decode MLa_law.2.2.1 1245 = .ok (.iload_n 3, 1) := lw_d (k := 36) (j := 17) (l := tbl_36) (e := (1245, .iload_n 3, 1)) rfl rfl
theorem d_MLa_law_1246 : decode MLa_law.2.2.1 1246 = .ok (.iconst 1, 1) := lw_d (k := 36) (j := 18) (l := tbl_36) (e := (1246, .iconst 1, 1)) rfl rfl
theorem d_MLa_law_1247 : decode MLa_law.2.2.1 1247 = .ok (.iadd, 1) := lw_d (k := 36) (j := 19) (l := tbl_36) (e := (1247, .iadd, 1)) rfl rfl
theorem d_MLa_law_1248 : decode MLa_law.2.2.1 1248 = .ok (.iaload, 1) := lw_d (k := 36) (j := 20) (l := tbl_36) (e := (1248, .iaload, 1)) rfl rfl
theorem d_MLa_law_1249 : decode MLa_law.2.2.1 1249 = .ok (.aload_n 0, 1) := lw_d (k := 36) (j := 21) (l := tbl_36) (e := (1249, .aload_n 0, 1)) rfl rfl
theorem d_MLa_law_1250 : decode MLa_law.2.2.1 1250 = .ok (.iload_n 3, 1) := lw_d (k := 36) (j := 22) (l := tbl_36) (e := (1250, .iload_n 3, 1)) rfl rfl
theorem d_MLa_law_1251 : decode MLa_law.2.2.1 1251 = .ok (.iconst 2, 1) := lw_d (k := 36) (j := 23) (l := tbl_36) (e := (1251, .iconst 2, 1)) rfl rfl
theorem d_MLa_law_1252 : decode MLa_law.2.2.1 1252 = .ok (.iadd, 1) := lw_d (k := 37) (j := 0) (l := tbl_37) (e := (1252, .iadd, 1)) rfl rfl
theorem d_MLa_law_1253 : decode MLa_law.2.2.1 1253 = .ok (.iaload, 1) := lw_d (k := 37) (j := 1) (l := tbl_37) (e := (1253, .iaload, 1)) rfl rfl
theorem d_MLa_law_1254 : decode MLa_law.2.2.1 1254 = .ok (.invokevirtual 142, 3) := lw_d (k := 37) (j := 2) (l := tbl_37) (e := (1254, .invokevirtual 142, 3)) rfl rfl
theorem d_MLa_law_1257 : decode MLa_law.2.2.1 1257 = .ok (.pop, 1) := lw_d (k := 37) (j := 3) (l := tbl_37) (e := (1257, .pop, 1)) rfl rfl
theorem d_MLa_law_1258 : decode MLa_law.2.2.1 1258 = .ok (.aload_n 2, 1) := lw_d (k := 37) (j := 4) (l := tbl_37) (e := (1258, .aload_n 2, 1)) rfl rfl
theorem d_MLa_law_1259 : decode MLa_law.2.2.1 1259 = .ok (.aload_n 0, 1) := lw_d (k := 37) (j := 5) (l := tbl_37) (e := (1259, .aload_n 0, 1)) rfl rfl
theorem d_MLa_law_1260 : decode MLa_law.2.2.1 1260 = .ok (.iload_n 3, 1) := lw_d (k := 37) (j := 6) (l := tbl_37) (e := (1260, .iload_n 3, 1)) rfl rfl
theorem d_MLa_law_1261 : decode MLa_law.2.2.1 1261 = .ok (.iconst 1, 1) := lw_d (k := 37) (j := 7) (l := tbl_37) (e := (1261, .iconst 1, 1)) rfl rfl
theorem d_MLa_law_1262 : decode MLa_law.2.2.1 1262 = .ok (.iadd, 1) := lw_d (k := 37) (j := 8) (l := tbl_37) (e := (1262, .iadd, 1)) rfl rfl
theorem d_MLa_law_1263 : decode MLa_law.2.2.1 1263 = .ok (.iaload, 1) := lw_d (k := 37) (j := 9) (l := tbl_37) (e := (1263, .iaload, 1)) rfl rfl
theorem d_MLa_law_1264 : decode MLa_law.2.2.1 1264 = .ok (.aload_n 0, 1) := lw_d (k := 37) (j := 10) (l := tbl_37) (e := (1264, .aload_n 0, 1)) rfl rfl
theorem d_MLa_law_1265 : decode MLa_law.2.2.1 1265 = .ok (.iload_n 3, 1) := lw_d (k := 37) (j := 11) (l := tbl_37) (e := (1265, .iload_n 3, 1)) rfl rfl
theorem d_MLa_law_1266 : decode MLa_law.2.2.1 1266 = .ok (.iconst 2, 1) := lw_d (k := 37) (j := 12) (l := tbl_37) (e := (1266, .iconst 2, 1)) rfl rfl
theorem d_MLa_law_1267 : decode MLa_law.2.2.1 1267 = .ok (.iadd, 1) := lw_d (k := 37) (j := 13) (l := tbl_37) (e := (1267, .iadd, 1)) rfl rfl
theorem d_MLa_law_1268 : decode MLa_law.2.2.1 1268 = .ok (.iaload, 1) := lw_d (k := 37) (j := 14) (l := tbl_37) (e := (1268, .iaload, 1)) rfl rfl
theorem d_MLa_law_1269 : decode MLa_law.2.2.1 1269 = .ok (.invokevirtual 145, 3) := lw_d (k := 37) (j := 15) (l := tbl_37) (e := (1269, .invokevirtual 145, 3)) rfl rfl
theorem d_MLa_law_1272 : decode MLa_law.2.2.1 1272 = .ok (.pop, 1) := lw_d (k := 37) (j := 16) (l := tbl_37) (e := (1272, .pop, 1)) rfl rfl
theorem d_MLa_law_1273 : decode MLa_law.2.2.1 1273 = .ok (.goto 271, 3) := lw_d (k := 37) (j := 17) (l := tbl_37) (e := (1273, .goto 271, 3)) rfl rfl
theorem d_MLa_law_1276 : decode MLa_law.2.2.1 1276 = .ok (.aload_n 1, 1) := lw_d (k := 37) (j := 18) (l := tbl_37) (e := (1276, .aload_n 1, 1)) rfl rfl
theorem d_MLa_law_1277 : decode MLa_law.2.2.1 1277 = .ok (.aload_n 0, 1) := lw_d (k := 37) (j := 19) (l := tbl_37) (e := (1277, .aload_n 0, 1)) rfl rfl
theorem d_MLa_law_1278 : decode MLa_law.2.2.1 1278 = .ok (.iload_n 3, 1) := lw_d (k := 37) (j := 20) (l := tbl_37) (e := (1278, .iload_n 3, 1)) rfl rfl
theorem d_MLa_law_1279 : decode MLa_law.2.2.1 1279 = .ok (.iconst 1, 1) := lw_d (k := 37) (j := 21) (l := tbl_37) (e := (1279, .iconst 1, 1)) rfl rfl
theorem d_MLa_law_1280 : decode MLa_law.2.2.1 1280 = .ok (.iadd, 1) := lw_d (k := 37) (j := 22) (l := tbl_37) (e := (1280, .iadd, 1)) rfl rfl
theorem d_MLa_law_1281 : decode MLa_law.2.2.1 1281 = .ok (.iaload, 1) := lw_d (k := 37) (j := 23) (l := tbl_37) (e := (1281, .iaload, 1)) rfl rfl
theorem d_MLa_law_1282 : decode MLa_law.2.2.1 1282 = .ok (.aload_n 0, 1) := lw_d (k := 38) (j := 0) (l := tbl_38) (e := (1282, .aload_n 0, 1)) rfl rfl
theorem d_MLa_law_1283 : decode MLa_law.2.2.1 1283 = .ok (.iload_n 3, 1) := lw_d (k := 38) (j := 1) (l := tbl_38) (e := (1283, .iload_n 3, 1)) rfl rfl
theorem d_MLa_law_1284 : decode MLa_law.2.2.1 1284 = .ok (.iconst 2, 1) := lw_d (k := 38) (j := 2) (l := tbl_38) (e := (1284, .iconst 2, 1)) rfl rfl
theorem d_MLa_law_1285 : decode MLa_law.2.2.1 1285 = .ok (.iadd, 1) := lw_d (k := 38) (j := 3) (l := tbl_38) (e := (1285, .iadd, 1)) rfl rfl
theorem d_MLa_law_1286 : decode MLa_law.2.2.1 1286 = .ok (.iaload, 1) := lw_d (k := 38) (j := 4) (l := tbl_38) (e := (1286, .iaload, 1)) rfl rfl
theorem d_MLa_law_1287 : decode MLa_law.2.2.1 1287 = .ok (.aload_n 0, 1) := lw_d (k := 38) (j := 5) (l := tbl_38) (e := (1287, .aload_n 0, 1)) rfl rfl
theorem d_MLa_law_1288 : decode MLa_law.2.2.1 1288 = .ok (.iload_n 3, 1) := lw_d (k := 38) (j := 6) (l := tbl_38) (e := (1288, .iload_n 3, 1)) rfl rfl
theorem d_MLa_law_1289 : decode MLa_law.2.2.1 1289 = .ok (.iconst 3, 1) := lw_d (k := 38) (j := 7) (l := tbl_38) (e := (1289, .iconst 3, 1)) rfl rfl
theorem d_MLa_law_1290 : decode MLa_law.2.2.1 1290 = .ok (.iadd, 1) := lw_d (k := 38) (j := 8) (l := tbl_38) (e := (1290, .iadd, 1)) rfl rfl
theorem d_MLa_law_1291 : decode MLa_law.2.2.1 1291 = .ok (.iaload, 1) := lw_d (k := 38) (j := 9) (l := tbl_38) (e := (1291, .iaload, 1)) rfl rfl
theorem d_MLa_law_1292 : decode MLa_law.2.2.1 1292 = .ok (.invokevirtual 146, 3) := lw_d (k := 38) (j := 10) (l := tbl_38) (e := (1292, .invokevirtual 146, 3)) rfl rfl
theorem d_MLa_law_1295 : decode MLa_law.2.2.1 1295 = .ok (.pop, 1) := lw_d (k := 38) (j := 11) (l := tbl_38) (e := (1295, .pop, 1)) rfl rfl
theorem d_MLa_law_1296 : decode MLa_law.2.2.1 1296 = .ok (.aload_n 2, 1) := lw_d (k := 38) (j := 12) (l := tbl_38) (e := (1296, .aload_n 2, 1)) rfl rfl
theorem d_MLa_law_1297 : decode MLa_law.2.2.1 1297 = .ok (.aload_n 0, 1) := lw_d (k := 38) (j := 13) (l := tbl_38) (e := (1297, .aload_n 0, 1)) rfl rfl
theorem d_MLa_law_1298 : decode MLa_law.2.2.1 1298 = .ok (.iload_n 3, 1) := lw_d (k := 38) (j := 14) (l := tbl_38) (e := (1298, .iload_n 3, 1)) rfl rfl
theorem d_MLa_law_1299 : decode MLa_law.2.2.1 1299 = .ok (.iconst 1, 1) := lw_d (k := 38) (j := 15) (l := tbl_38) (e := (1299, .iconst 1, 1)) rfl rfl
theorem d_MLa_law_1300 : decode MLa_law.2.2.1 1300 = .ok (.iadd, 1) := lw_d (k := 38) (j := 16) (l := tbl_38) (e := (1300, .iadd, 1)) rfl rfl
theorem d_MLa_law_1301 : decode MLa_law.2.2.1 1301 = .ok (.iaload, 1) := lw_d (k := 38) (j := 17) (l := tbl_38) (e := (1301, .iaload, 1)) rfl rfl
theorem d_MLa_law_1302 : decode MLa_law.2.2.1 1302 = .ok (.aload_n 0, 1) := lw_d (k := 38) (j := 18) (l := tbl_38) (e := (1302, .aload_n 0, 1)) rfl rfl
theorem d_MLa_law_1303 : decode MLa_law.2.2.1 1303 = .ok (.iload_n 3, 1) := lw_d (k := 38) (j := 19) (l := tbl_38) (e := (1303, .iload_n 3, 1)) rfl rfl
theorem d_MLa_law_1304 : decode MLa_law.2.2.1 1304 = .ok (.iconst 2, 1) := lw_d (k := 38) (j := 20) (l := tbl_38) (e := (1304, .iconst 2, 1)) rfl rfl
theorem d_MLa_law_1305 : decode MLa_law.2.2.1 1305 = .ok (.iadd, 1) := lw_d (k := 38) (j := 21) (l := tbl_38) (e := (1305, .iadd, 1)) rfl rfl
theorem d_MLa_law_1306 : decode MLa_law.2.2.1 1306 = .ok (.iaload, 1) := lw_d (k := 38) (j := 22) (l := tbl_38) (e := (1306, .iaload, 1)) rfl rfl
theorem d_MLa_law_1307 : decode MLa_law.2.2.1 1307 = .ok (.aload_n 0, 1) := lw_d (k := 38) (j := 23) (l := tbl_38) (e := (1307, .aload_n 0, 1)) rfl rfl
theorem d_MLa_law_1308 : decode MLa_law.2.2.1 1308 = .ok (.iload_n 3, 1) := lw_d (k := 39) (j := 0) (l := tbl_39) (e := (1308, .iload_n 3, 1)) rfl rfl
theorem d_MLa_law_1309 : decode MLa_law.2.2.1 1309 = .ok (.iconst 3, 1) := lw_d (k := 39) (j := 1) (l := tbl_39) (e := (1309, .iconst 3, 1)) rfl rfl
theorem d_MLa_law_1310 : decode MLa_law.2.2.1 1310 = .ok (.iadd, 1) := lw_d (k := 39) (j := 2) (l := tbl_39) (e := (1310, .iadd, 1)) rfl rfl
theorem d_MLa_law_1311 : decode MLa_law.2.2.1 1311 = .ok (.iaload, 1) := lw_d (k := 39) (j := 3) (l := tbl_39) (e := (1311, .iaload, 1)) rfl rfl
theorem d_MLa_law_1312 : decode MLa_law.2.2.1 1312 = .ok (.invokevirtual 149, 3) := lw_d (k := 39) (j := 4) (l := tbl_39) (e := (1312, .invokevirtual 149, 3)) rfl rfl
theorem d_MLa_law_1315 : decode MLa_law.2.2.1 1315 = .ok (.pop, 1) := lw_d (k := 39) (j := 5) (l := tbl_39) (e := (1315, .pop, 1)) rfl rfl
theorem d_MLa_law_1316 : decode MLa_law.2.2.1 1316 = .ok (.goto 228, 3) := lw_d (k := 39) (j := 6) (l := tbl_39) (e := (1316, .goto 228, 3)) rfl rfl
theorem d_MLa_law_1319 : decode MLa_law.2.2.1 1319 = .ok (.aload_n 1, 1) := lw_d (k := 39) (j := 7) (l := tbl_39) (e := (1319, .aload_n 1, 1)) rfl rfl
theorem d_MLa_law_1320 : decode MLa_law.2.2.1 1320 = .ok (.aload_n 0, 1) := lw_d (k := 39) (j := 8) (l := tbl_39) (e := (1320, .aload_n 0, 1)) rfl rfl
theorem d_MLa_law_1321 : decode MLa_law.2.2.1 1321 = .ok (.iload_n 3, 1) := lw_d (k := 39) (j := 9) (l := tbl_39) (e := (1321, .iload_n 3, 1)) rfl rfl
theorem d_MLa_law_1322 : decode MLa_law.2.2.1 1322 = .ok (.iconst 1, 1) := lw_d (k := 39) (j := 10) (l := tbl_39) (e := (1322, .iconst 1, 1)) rfl rfl
theorem d_MLa_law_1323 : decode MLa_law.2.2.1 1323 = .ok (.iadd, 1) := lw_d (k := 39) (j := 11) (l := tbl_39) (e := (1323, .iadd, 1)) rfl rfl
theorem d_MLa_law_1324 : decode MLa_law.2.2.1 1324 = .ok (.iaload, 1) := lw_d (k := 39) (j := 12) (l := tbl_39) (e := (1324, .iaload, 1)) rfl rfl
theorem d_MLa_law_1325 : decode MLa_law.2.2.1 1325 = .ok (.aload_n 0, 1) := lw_d (k := 39) (j := 13) (l := tbl_39) (e := (1325, .aload_n 0, 1)) rfl rfl
theorem d_MLa_law_1326 : decode MLa_law.2.2.1 1326 = .ok (.iload_n 3, 1) := lw_d (k := 39) (j := 14) (l := tbl_39) (e := (1326, .iload_n 3, 1)) rfl rfl
theorem d_MLa_law_1327 : decode MLa_law.2.2.1 1327 = .ok (.iconst 2, 1) := lw_d (k := 39) (j := 15) (l := tbl_39) (e := (1327, .iconst 2, 1)) rfl rfl
theorem d_MLa_law_1328 : decode MLa_law.2.2.1 1328 = .ok (.iadd, 1) := lw_d (k := 39) (j := 16) (l := tbl_39) (e := (1328, .iadd, 1)) rfl rfl
theorem d_MLa_law_1329 : decode MLa_law.2.2.1 1329 = .ok (.iaload, 1) := lw_d (k := 39) (j := 17) (l := tbl_39) (e := (1329, .iaload, 1)) rfl rfl
theorem d_MLa_law_1330 : decode MLa_law.2.2.1 1330 = .ok (.aload_n 0, 1) := lw_d (k := 39) (j := 18) (l := tbl_39) (e := (1330, .aload_n 0, 1)) rfl rfl
theorem d_MLa_law_1331 : decode MLa_law.2.2.1 1331 = .ok (.iload_n 3, 1) := lw_d (k := 39) (j := 19) (l := tbl_39) (e := (1331, .iload_n 3, 1)) rfl rfl
theorem d_MLa_law_1332 : decode MLa_law.2.2.1 1332 = .ok (.iconst 3, 1) := lw_d (k := 39) (j := 20) (l := tbl_39) (e := (1332, .iconst 3, 1)) rfl rfl
theorem d_MLa_law_1333 : decode MLa_law.2.2.1 1333 = .ok (.iadd, 1) := lw_d (k := 39) (j := 21) (l := tbl_39) (e := (1333, .iadd, 1)) rfl rfl
theorem d_MLa_law_1334 : decode MLa_law.2.2.1 1334 = .ok (.iaload, 1) := lw_d (k := 39) (j := 22) (l := tbl_39) (e := (1334, .iaload, 1)) rfl rfl
theorem d_MLa_law_1335 : decode MLa_law.2.2.1 1335 = .ok (.i2l, 1) := lw_d (k := 39) (j := 23) (l := tbl_39) (e := (1335, .i2l, 1)) rfl rfl
theorem d_MLa_law_1336 : decode MLa_law.2.2.1 1336 = .ok (.bipush 32, 2) := lw_d (k := 40) (j := 0) (l := tbl_40) (e := (1336, .bipush 32, 2)) rfl rfl
theorem d_MLa_law_1338 : decode MLa_law.2.2.1 1338 = .ok (.lshl, 1) := lw_d (k := 40) (j := 1) (l := tbl_40) (e := (1338, .lshl, 1)) rfl rfl
theorem d_MLa_law_1339 : decode MLa_law.2.2.1 1339 = .ok (.aload_n 0, 1) := lw_d (k := 40) (j := 2) (l := tbl_40) (e := (1339, .aload_n 0, 1)) rfl rfl
theorem d_MLa_law_1340 : decode MLa_law.2.2.1 1340 = .ok (.iload_n 3, 1) := lw_d (k := 40) (j := 3) (l := tbl_40) (e := (1340, .iload_n 3, 1)) rfl rfl
theorem d_MLa_law_1341 : decode MLa_law.2.2.1 1341 = .ok (.iconst 4, 1) := lw_d (k := 40) (j := 4) (l := tbl_40) (e := (1341, .iconst 4, 1)) rfl rfl
theorem d_MLa_law_1342 : decode MLa_law.2.2.1 1342 = .ok (.iadd, 1) := lw_d (k := 40) (j := 5) (l := tbl_40) (e := (1342, .iadd, 1)) rfl rfl
theorem d_MLa_law_1343 : decode MLa_law.2.2.1 1343 = .ok (.iaload, 1) := lw_d (k := 40) (j := 6) (l := tbl_40) (e := (1343, .iaload, 1)) rfl rfl
theorem d_MLa_law_1344 : decode MLa_law.2.2.1 1344 = .ok (.i2l, 1) := lw_d (k := 40) (j := 7) (l := tbl_40) (e := (1344, .i2l, 1)) rfl rfl
theorem d_MLa_law_1345 : decode MLa_law.2.2.1 1345 = .ok (.ldc2_w 150, 3) := lw_d (k := 40) (j := 8) (l := tbl_40) (e := (1345, .ldc2_w 150, 3)) rfl rfl
theorem d_MLa_law_1348 : decode MLa_law.2.2.1 1348 = .ok (.land, 1) := lw_d (k := 40) (j := 9) (l := tbl_40) (e := (1348, .land, 1)) rfl rfl
theorem d_MLa_law_1349 : decode MLa_law.2.2.1 1349 = .ok (.lor, 1) := lw_d (k := 40) (j := 10) (l := tbl_40) (e := (1349, .lor, 1)) rfl rfl
theorem d_MLa_law_1350 : decode MLa_law.2.2.1 1350 = .ok (.invokevirtual 152, 3) := lw_d (k := 40) (j := 11) (l := tbl_40) (e := (1350, .invokevirtual 152, 3)) rfl rfl
theorem d_MLa_law_1353 : decode MLa_law.2.2.1 1353 = .ok (.pop, 1) := lw_d (k := 40) (j := 12) (l := tbl_40) (e := (1353, .pop, 1)) rfl rfl
theorem d_MLa_law_1354 : decode MLa_law.2.2.1 1354 = .ok (.aload_n 2, 1) := lw_d (k := 40) (j := 13) (l := tbl_40) (e := (1354, .aload_n 2, 1)) rfl rfl
theorem d_MLa_law_1355 : decode MLa_law.2.2.1 1355 = .ok (.aload_n 0, 1) := lw_d (k := 40) (j := 14) (l := tbl_40) (e := (1355, .aload_n 0, 1)) rfl rfl
theorem d_MLa_law_1356 : decode MLa_law.2.2.1 1356 = .ok (.iload_n 3, 1) := lw_d (k := 40) (j := 15) (l := tbl_40) (e := (1356, .iload_n 3, 1)) rfl rfl
theorem d_MLa_law_1357 : decode MLa_law.2.2.1 1357 = .ok (.iconst 1, 1) := lw_d (k := 40) (j := 16) (l := tbl_40) (e := (1357, .iconst 1, 1)) rfl rfl
theorem d_MLa_law_1358 : decode MLa_law.2.2.1 1358 = .ok (.iadd, 1) := lw_d (k := 40) (j := 17) (l := tbl_40) (e := (1358, .iadd, 1)) rfl rfl
theorem d_MLa_law_1359 : decode MLa_law.2.2.1 1359 = .ok (.iaload, 1) := lw_d (k := 40) (j := 18) (l := tbl_40) (e := (1359, .iaload, 1)) rfl rfl
theorem d_MLa_law_1360 : decode MLa_law.2.2.1 1360 = .ok (.aload_n 0, 1) := lw_d (k := 40) (j := 19) (l := tbl_40) (e := (1360, .aload_n 0, 1)) rfl rfl
theorem d_MLa_law_1361 : decode MLa_law.2.2.1 1361 = .ok (.iload_n 3, 1) := lw_d (k := 40) (j := 20) (l := tbl_40) (e := (1361, .iload_n 3, 1)) rfl rfl
theorem d_MLa_law_1362 : decode MLa_law.2.2.1 1362 = .ok (.iconst 2, 1) := lw_d (k := 40) (j := 21) (l := tbl_40) (e := (1362, .iconst 2, 1)) rfl rfl
theorem d_MLa_law_1363 : decode MLa_law.2.2.1 1363 = .ok (.iadd, 1) := lw_d (k := 40) (j := 22) (l := tbl_40) (e := (1363, .iadd, 1)) rfl rfl
theorem d_MLa_law_1364 : decode MLa_law.2.2.1 1364 = .ok (.iaload, 1) := lw_d (k := 40) (j := 23) (l := tbl_40) (e := (1364, .iaload, 1)) rfl rfl
theorem d_MLa_law_1365 : decode MLa_law.2.2.1 1365 = .ok (.aload_n 0, 1) := lw_d (k := 41) (j := 0) (l := tbl_41) (e := (1365, .aload_n 0, 1)) rfl rfl
theorem d_MLa_law_1366 : decode MLa_law.2.2.1 1366 = .ok (.iload_n 3, 1) := lw_d (k := 41) (j := 1) (l := tbl_41) (e := (1366, .iload_n 3, 1)) rfl rfl
theorem d_MLa_law_1367 : decode MLa_law.2.2.1 1367 = .ok (.iconst 3, 1) := lw_d (k := 41) (j := 2) (l := tbl_41) (e := (1367, .iconst 3, 1)) rfl rfl
theorem d_MLa_law_1368 : decode MLa_law.2.2.1 1368 = .ok (.iadd, 1) := lw_d (k := 41) (j := 3) (l := tbl_41) (e := (1368, .iadd, 1)) rfl rfl
theorem d_MLa_law_1369 : decode MLa_law.2.2.1 1369 = .ok (.iaload, 1) := lw_d (k := 41) (j := 4) (l := tbl_41) (e := (1369, .iaload, 1)) rfl rfl
theorem d_MLa_law_1370 : decode MLa_law.2.2.1 1370 = .ok (.i2l, 1) := lw_d (k := 41) (j := 5) (l := tbl_41) (e := (1370, .i2l, 1)) rfl rfl
theorem d_MLa_law_1371 : decode MLa_law.2.2.1 1371 = .ok (.bipush 32, 2) := lw_d (k := 41) (j := 6) (l := tbl_41) (e := (1371, .bipush 32, 2)) rfl rfl
theorem d_MLa_law_1373 : decode MLa_law.2.2.1 1373 = .ok (.lshl, 1) := lw_d (k := 41) (j := 7) (l := tbl_41) (e := (1373, .lshl, 1)) rfl rfl
theorem d_MLa_law_1374 : decode MLa_law.2.2.1 1374 = .ok (.aload_n 0, 1) := lw_d (k := 41) (j := 8) (l := tbl_41) (e := (1374, .aload_n 0, 1)) rfl rfl
theorem d_MLa_law_1375 : decode MLa_law.2.2.1 1375 = .ok (.iload_n 3, 1) := lw_d (k := 41) (j := 9) (l := tbl_41) (e := (1375, .iload_n 3, 1)) rfl rfl
theorem d_MLa_law_1376 : decode MLa_law.2.2.1 1376 = .ok (.iconst 4, 1) := lw_d (k := 41) (j := 10) (l := tbl_41) (e := (1376, .iconst 4, 1)) rfl rfl
theorem d_MLa_law_1377 : decode MLa_law.2.2.1 1377 = .ok (.iadd, 1) := lw_d (k := 41) (j := 11) (l := tbl_41) (e := (1377, .iadd, 1)) rfl rfl
theorem d_MLa_law_1378 : decode MLa_law.2.2.1 1378 = .ok (.iaload, 1) := lw_d (k := 41) (j := 12) (l := tbl_41) (e := (1378, .iaload, 1)) rfl rfl
theorem d_MLa_law_1379 : decode MLa_law.2.2.1 1379 = .ok (.i2l, 1) := lw_d (k := 41) (j := 13) (l := tbl_41) (e := (1379, .i2l, 1)) rfl rfl
theorem d_MLa_law_1380 : decode MLa_law.2.2.1 1380 = .ok (.ldc2_w 150, 3) := lw_d (k := 41) (j := 14) (l := tbl_41) (e := (1380, .ldc2_w 150, 3)) rfl rfl
theorem d_MLa_law_1383 : decode MLa_law.2.2.1 1383 = .ok (.land, 1) := lw_d (k := 41) (j := 15) (l := tbl_41) (e := (1383, .land, 1)) rfl rfl
theorem d_MLa_law_1384 : decode MLa_law.2.2.1 1384 = .ok (.lor, 1) := lw_d (k := 41) (j := 16) (l := tbl_41) (e := (1384, .lor, 1)) rfl rfl
theorem d_MLa_law_1385 : decode MLa_law.2.2.1 1385 = .ok (.invokevirtual 156, 3) := lw_d (k := 41) (j := 17) (l := tbl_41) (e := (1385, .invokevirtual 156, 3)) rfl rfl
theorem d_MLa_law_1388 : decode MLa_law.2.2.1 1388 = .ok (.pop, 1) := lw_d (k := 41) (j := 18) (l := tbl_41) (e := (1388, .pop, 1)) rfl rfl
theorem d_MLa_law_1389 : decode MLa_law.2.2.1 1389 = .ok (.goto 155, 3) := lw_d (k := 41) (j := 19) (l := tbl_41) (e := (1389, .goto 155, 3)) rfl rfl
theorem d_MLa_law_1392 : decode MLa_law.2.2.1 1392 = .ok (.aload_n 1, 1) := lw_d (k := 41) (j := 20) (l := tbl_41) (e := (1392, .aload_n 1, 1)) rfl rfl
theorem d_MLa_law_1393 : decode MLa_law.2.2.1 1393 = .ok (.aload_n 0, 1) := lw_d (k := 41) (j := 21) (l := tbl_41) (e := (1393, .aload_n 0, 1)) rfl rfl
theorem d_MLa_law_1394 : decode MLa_law.2.2.1 1394 = .ok (.iload_n 3, 1) := lw_d (k := 41) (j := 22) (l := tbl_41) (e := (1394, .iload_n 3, 1)) rfl rfl
theorem d_MLa_law_1395 : decode MLa_law.2.2.1 1395 = .ok (.iconst 1, 1) := lw_d (k := 41) (j := 23) (l := tbl_41) (e := (1395, .iconst 1, 1)) rfl rfl
theorem d_MLa_law_1396 : decode MLa_law.2.2.1 1396 = .ok (.iadd, 1) := lw_d (k := 42) (j := 0) (l := tbl_42) (e := (1396, .iadd, 1)) rfl rfl
theorem d_MLa_law_1397 : decode MLa_law.2.2.1 1397 = .ok (.iaload, 1) := lw_d (k := 42) (j := 1) (l := tbl_42) (e := (1397, .iaload, 1)) rfl rfl
theorem d_MLa_law_1398 : decode MLa_law.2.2.1 1398 = .ok (.aload_n 0, 1) := lw_d (k := 42) (j := 2) (l := tbl_42) (e := (1398, .aload_n 0, 1)) rfl rfl
theorem d_MLa_law_1399 : decode MLa_law.2.2.1 1399 = .ok (.iload_n 3, 1) := lw_d (k := 42) (j := 3) (l := tbl_42) (e := (1399, .iload_n 3, 1)) rfl rfl
theorem d_MLa_law_1400 : decode MLa_law.2.2.1 1400 = .ok (.iconst 2, 1) := lw_d (k := 42) (j := 4) (l := tbl_42) (e := (1400, .iconst 2, 1)) rfl rfl
theorem d_MLa_law_1401 : decode MLa_law.2.2.1 1401 = .ok (.iadd, 1) := lw_d (k := 42) (j := 5) (l := tbl_42) (e := (1401, .iadd, 1)) rfl rfl
theorem d_MLa_law_1402 : decode MLa_law.2.2.1 1402 = .ok (.iaload, 1) := lw_d (k := 42) (j := 6) (l := tbl_42) (e := (1402, .iaload, 1)) rfl rfl
theorem d_MLa_law_1403 : decode MLa_law.2.2.1 1403 = .ok (.invokevirtual 157, 3) := lw_d (k := 42) (j := 7) (l := tbl_42) (e := (1403, .invokevirtual 157, 3)) rfl rfl
theorem d_MLa_law_1406 : decode MLa_law.2.2.1 1406 = .ok (.pop2, 1) := lw_d (k := 42) (j := 8) (l := tbl_42) (e := (1406, .pop2, 1)) rfl rfl
theorem d_MLa_law_1407 : decode MLa_law.2.2.1 1407 = .ok (.aload_n 2, 1) := lw_d (k := 42) (j := 9) (l := tbl_42) (e := (1407, .aload_n 2, 1)) rfl rfl
theorem d_MLa_law_1408 : decode MLa_law.2.2.1 1408 = .ok (.aload_n 0, 1) := lw_d (k := 42) (j := 10) (l := tbl_42) (e := (1408, .aload_n 0, 1)) rfl rfl
theorem d_MLa_law_1409 : decode MLa_law.2.2.1 1409 = .ok (.iload_n 3, 1) := lw_d (k := 42) (j := 11) (l := tbl_42) (e := (1409, .iload_n 3, 1)) rfl rfl
theorem d_MLa_law_1410 : decode MLa_law.2.2.1 1410 = .ok (.iconst 1, 1) := lw_d (k := 42) (j := 12) (l := tbl_42) (e := (1410, .iconst 1, 1)) rfl rfl
theorem d_MLa_law_1411 : decode MLa_law.2.2.1 1411 = .ok (.iadd, 1) := lw_d (k := 42) (j := 13) (l := tbl_42) (e := (1411, .iadd, 1)) rfl rfl
theorem d_MLa_law_1412 : decode MLa_law.2.2.1 1412 = .ok (.iaload, 1) := lw_d (k := 42) (j := 14) (l := tbl_42) (e := (1412, .iaload, 1)) rfl rfl
theorem d_MLa_law_1413 : decode MLa_law.2.2.1 1413 = .ok (.aload_n 0, 1) := lw_d (k := 42) (j := 15) (l := tbl_42) (e := (1413, .aload_n 0, 1)) rfl rfl
theorem d_MLa_law_1414 : decode MLa_law.2.2.1 1414 = .ok (.iload_n 3, 1) := lw_d (k := 42) (j := 16) (l := tbl_42) (e := (1414, .iload_n 3, 1)) rfl rfl
theorem d_MLa_law_1415 : decode MLa_law.2.2.1 1415 = .ok (.iconst 2, 1) := lw_d (k := 42) (j := 17) (l := tbl_42) (e := (1415, .iconst 2, 1)) rfl rfl
theorem d_MLa_law_1416 : decode MLa_law.2.2.1 1416 = .ok (.iadd, 1) := lw_d (k := 42) (j := 18) (l := tbl_42) (e := (1416, .iadd, 1)) rfl rfl
theorem d_MLa_law_1417 : decode MLa_law.2.2.1 1417 = .ok (.iaload, 1) := lw_d (k := 42) (j := 19) (l := tbl_42) (e := (1417, .iaload, 1)) rfl rfl
theorem d_MLa_law_1418 : decode MLa_law.2.2.1 1418 = .ok (.invokevirtual 161, 3) := lw_d (k := 42) (j := 20) (l := tbl_42) (e := (1418, .invokevirtual 161, 3)) rfl rfl
theorem d_MLa_law_1421 : decode MLa_law.2.2.1 1421 = .ok (.pop2, 1) := lw_d (k := 42) (j := 21) (l := tbl_42) (e := (1421, .pop2, 1)) rfl rfl
theorem d_MLa_law_1422 : decode MLa_law.2.2.1 1422 = .ok (.goto 122, 3) := lw_d (k := 42) (j := 22) (l := tbl_42) (e := (1422, .goto 122, 3)) rfl rfl
theorem d_MLa_law_1425 : decode MLa_law.2.2.1 1425 = .ok (.aload_n 1, 1) := lw_d (k := 42) (j := 23) (l := tbl_42) (e := (1425, .aload_n 1, 1)) rfl rfl
theorem d_MLa_law_1426 : decode MLa_law.2.2.1 1426 = .ok (.aload_n 0, 1) := lw_d (k := 43) (j := 0) (l := tbl_43) (e := (1426, .aload_n 0, 1)) rfl rfl
theorem d_MLa_law_1427 : decode MLa_law.2.2.1 1427 = .ok (.iload_n 3, 1) := lw_d (k := 43) (j := 1) (l := tbl_43) (e := (1427, .iload_n 3, 1)) rfl rfl
theorem d_MLa_law_1428 : decode MLa_law.2.2.1 1428 = .ok (.iconst 1, 1) := lw_d (k := 43) (j := 2) (l := tbl_43) (e := (1428, .iconst 1, 1)) rfl rfl
theorem d_MLa_law_1429 : decode MLa_law.2.2.1 1429 = .ok (.iadd, 1) := lw_d (k := 43) (j := 3) (l := tbl_43) (e := (1429, .iadd, 1)) rfl rfl
theorem d_MLa_law_1430 : decode MLa_law.2.2.1 1430 = .ok (.iaload, 1) := lw_d (k := 43) (j := 4) (l := tbl_43) (e := (1430, .iaload, 1)) rfl rfl
theorem d_MLa_law_1431 : decode MLa_law.2.2.1 1431 = .ok (.aload_n 0, 1) := lw_d (k := 43) (j := 5) (l := tbl_43) (e := (1431, .aload_n 0, 1)) rfl rfl
theorem d_MLa_law_1432 : decode MLa_law.2.2.1 1432 = .ok (.iload_n 3, 1) := lw_d (k := 43) (j := 6) (l := tbl_43) (e := (1432, .iload_n 3, 1)) rfl rfl
theorem d_MLa_law_1433 : decode MLa_law.2.2.1 1433 = .ok (.iconst 2, 1) := lw_d (k := 43) (j := 7) (l := tbl_43) (e := (1433, .iconst 2, 1)) rfl rfl
theorem d_MLa_law_1434 : decode MLa_law.2.2.1 1434 = .ok (.iadd, 1) := lw_d (k := 43) (j := 8) (l := tbl_43) (e := (1434, .iadd, 1)) rfl rfl
theorem d_MLa_law_1435 : decode MLa_law.2.2.1 1435 = .ok (.iaload, 1) := lw_d (k := 43) (j := 9) (l := tbl_43) (e := (1435, .iaload, 1)) rfl rfl
theorem d_MLa_law_1436 : decode MLa_law.2.2.1 1436 = .ok (.aload_n 0, 1) := lw_d (k := 43) (j := 10) (l := tbl_43) (e := (1436, .aload_n 0, 1)) rfl rfl
theorem d_MLa_law_1437 : decode MLa_law.2.2.1 1437 = .ok (.iload_n 3, 1) := lw_d (k := 43) (j := 11) (l := tbl_43) (e := (1437, .iload_n 3, 1)) rfl rfl
theorem d_MLa_law_1438 : decode MLa_law.2.2.1 1438 = .ok (.iconst 3, 1) := lw_d (k := 43) (j := 12) (l := tbl_43) (e := (1438, .iconst 3, 1)) rfl rfl
theorem d_MLa_law_1439 : decode MLa_law.2.2.1 1439 = .ok (.iadd, 1) := lw_d (k := 43) (j := 13) (l := tbl_43) (e := (1439, .iadd, 1)) rfl rfl
theorem d_MLa_law_1440 : decode MLa_law.2.2.1 1440 = .ok (.iaload, 1) := lw_d (k := 43) (j := 14) (l := tbl_43) (e := (1440, .iaload, 1)) rfl rfl
theorem d_MLa_law_1441 : decode MLa_law.2.2.1 1441 = .ok (.aload_n 0, 1) := lw_d (k := 43) (j := 15) (l := tbl_43) (e := (1441, .aload_n 0, 1)) rfl rfl
theorem d_MLa_law_1442 : decode MLa_law.2.2.1 1442 = .ok (.iload_n 3, 1) := lw_d (k := 43) (j := 16) (l := tbl_43) (e := (1442, .iload_n 3, 1)) rfl rfl
theorem d_MLa_law_1443 : decode MLa_law.2.2.1 1443 = .ok (.iconst 4, 1) := lw_d (k := 43) (j := 17) (l := tbl_43) (e := (1443, .iconst 4, 1)) rfl rfl
theorem d_MLa_law_1444 : decode MLa_law.2.2.1 1444 = .ok (.iadd, 1) := lw_d (k := 43) (j := 18) (l := tbl_43) (e := (1444, .iadd, 1)) rfl rfl
theorem d_MLa_law_1445 : decode MLa_law.2.2.1 1445 = .ok (.iaload, 1) := lw_d (k := 43) (j := 19) (l := tbl_43) (e := (1445, .iaload, 1)) rfl rfl
theorem d_MLa_law_1446 : decode MLa_law.2.2.1 1446 = .ok (.aload_n 0, 1) := lw_d (k := 43) (j := 20) (l := tbl_43) (e := (1446, .aload_n 0, 1)) rfl rfl
theorem d_MLa_law_1447 : decode MLa_law.2.2.1 1447 = .ok (.iload_n 3, 1) := lw_d (k := 43) (j := 21) (l := tbl_43) (e := (1447, .iload_n 3, 1)) rfl rfl
theorem d_MLa_law_1448 : decode MLa_law.2.2.1 1448 = .ok (.iconst 5, 1) := lw_d (k := 43) (j := 22) (l := tbl_43) (e := (1448, .iconst 5, 1)) rfl rfl
theorem d_MLa_law_1449 : decode MLa_law.2.2.1 1449 = .ok (.iadd, 1) := lw_d (k := 43) (j := 23) (l := tbl_43) (e := (1449, .iadd, 1)) rfl rfl
theorem d_MLa_law_1450 : decode MLa_law.2.2.1 1450 = .ok (.iaload, 1) := lw_d (k := 44) (j := 0) (l := tbl_44) (e := (1450, .iaload, 1)) rfl rfl
theorem d_MLa_law_1451 : decode MLa_law.2.2.1 1451 = .ok (.invokevirtual 162, 3) := lw_d (k := 44) (j := 1) (l := tbl_44) (e := (1451, .invokevirtual 162, 3)) rfl rfl
theorem d_MLa_law_1454 : decode MLa_law.2.2.1 1454 = .ok (.pop, 1) := lw_d (k := 44) (j := 2) (l := tbl_44) (e := (1454, .pop, 1)) rfl rfl
theorem d_MLa_law_1455 : decode MLa_law.2.2.1 1455 = .ok (.aload_n 2, 1) := lw_d (k := 44) (j := 3) (l := tbl_44) (e := (1455, .aload_n 2, 1)) rfl rfl
theorem d_MLa_law_1456 : decode MLa_law.2.2.1 1456 = .ok (.aload_n 0, 1) := lw_d (k := 44) (j := 4) (l := tbl_44) (e := (1456, .aload_n 0, 1)) rfl rfl
theorem d_MLa_law_1457 : decode MLa_law.2.2.1 1457 = .ok (.iload_n 3, 1) := lw_d (k := 44) (j := 5) (l := tbl_44) (e := (1457, .iload_n 3, 1)) rfl rfl
theorem d_MLa_law_1458 : decode MLa_law.2.2.1 1458 = .ok (.iconst 1, 1) := lw_d (k := 44) (j := 6) (l := tbl_44) (e := (1458, .iconst 1, 1)) rfl rfl
theorem d_MLa_law_1459 : decode MLa_law.2.2.1 1459 = .ok (.iadd, 1) := lw_d (k := 44) (j := 7) (l := tbl_44) (e := (1459, .iadd, 1)) rfl rfl
theorem d_MLa_law_1460 : decode MLa_law.2.2.1 1460 = .ok (.iaload, 1) := lw_d (k := 44) (j := 8) (l := tbl_44) (e := (1460, .iaload, 1)) rfl rfl
theorem d_MLa_law_1461 : decode MLa_law.2.2.1 1461 = .ok (.aload_n 0, 1) := lw_d (k := 44) (j := 9) (l := tbl_44) (e := (1461, .aload_n 0, 1)) rfl rfl
theorem d_MLa_law_1462 : decode MLa_law.2.2.1 1462 = .ok (.iload_n 3, 1) := lw_d (k := 44) (j := 10) (l := tbl_44) (e := (1462, .iload_n 3, 1)) rfl rfl
theorem d_MLa_law_1463 : decode MLa_law.2.2.1 1463 = .ok (.iconst 2, 1) := lw_d (k := 44) (j := 11) (l := tbl_44) (e := (1463, .iconst 2, 1)) rfl rfl
theorem d_MLa_law_1464 : decode MLa_law.2.2.1 1464 = .ok (.iadd, 1) := lw_d (k := 44) (j := 12) (l := tbl_44) (e := (1464, .iadd, 1)) rfl rfl
theorem d_MLa_law_1465 : decode MLa_law.2.2.1 1465 = .ok (.iaload, 1) := lw_d (k := 44) (j := 13) (l := tbl_44) (e := (1465, .iaload, 1)) rfl rfl
theorem d_MLa_law_1466 : decode MLa_law.2.2.1 1466 = .ok (.aload_n 0, 1) := lw_d (k := 44) (j := 14) (l := tbl_44) (e := (1466, .aload_n 0, 1)) rfl rfl
theorem d_MLa_law_1467 : decode MLa_law.2.2.1 1467 = .ok (.iload_n 3, 1) := lw_d (k := 44) (j := 15) (l := tbl_44) (e := (1467, .iload_n 3, 1)) rfl rfl
theorem d_MLa_law_1468 : decode MLa_law.2.2.1 1468 = .ok (.iconst 3, 1) := lw_d (k := 44) (j := 16) (l := tbl_44) (e := (1468, .iconst 3, 1)) rfl rfl
theorem d_MLa_law_1469 : decode MLa_law.2.2.1 1469 = .ok (.iadd, 1) := lw_d (k := 44) (j := 17) (l := tbl_44) (e := (1469, .iadd, 1)) rfl rfl
theorem d_MLa_law_1470 : decode MLa_law.2.2.1 1470 = .ok (.iaload, 1) := lw_d (k := 44) (j := 18) (l := tbl_44) (e := (1470, .iaload, 1)) rfl rfl
theorem d_MLa_law_1471 : decode MLa_law.2.2.1 1471 = .ok (.aload_n 0, 1) := lw_d (k := 44) (j := 19) (l := tbl_44) (e := (1471, .aload_n 0, 1)) rfl rfl
theorem d_MLa_law_1472 : decode MLa_law.2.2.1 1472 = .ok (.iload_n 3, 1) := lw_d (k := 44) (j := 20) (l := tbl_44) (e := (1472, .iload_n 3, 1)) rfl rfl
theorem d_MLa_law_1473 : decode MLa_law.2.2.1 1473 = .ok (.iconst 4, 1) := lw_d (k := 44) (j := 21) (l := tbl_44) (e := (1473, .iconst 4, 1)) rfl rfl
theorem d_MLa_law_1474 : decode MLa_law.2.2.1 1474 = .ok (.iadd, 1) := lw_d (k := 44) (j := 22) (l := tbl_44) (e := (1474, .iadd, 1)) rfl rfl
theorem d_MLa_law_1475 : decode MLa_law.2.2.1 1475 = .ok (.iaload, 1) := lw_d (k := 44) (j := 23) (l := tbl_44) (e := (1475, .iaload, 1)) rfl rfl
theorem d_MLa_law_1476 : decode MLa_law.2.2.1 1476 = .ok (.aload_n 0, 1) := lw_d (k := 45) (j := 0) (l := tbl_45) (e := (1476, .aload_n 0, 1)) rfl rfl
theorem d_MLa_law_1477 : decode MLa_law.2.2.1 1477 = .ok (.iload_n 3, 1) := lw_d (k := 45) (j := 1) (l := tbl_45) (e := (1477, .iload_n 3, 1)) rfl rfl
theorem d_MLa_law_1478 : decode MLa_law.2.2.1 1478 = .ok (.iconst 5, 1) := lw_d (k := 45) (j := 2) (l := tbl_45) (e := (1478, .iconst 5, 1)) rfl rfl
theorem d_MLa_law_1479 : decode MLa_law.2.2.1 1479 = .ok (.iadd, 1) := lw_d (k := 45) (j := 3) (l := tbl_45) (e := (1479, .iadd, 1)) rfl rfl
theorem d_MLa_law_1480 : decode MLa_law.2.2.1 1480 = .ok (.iaload, 1) := lw_d (k := 45) (j := 4) (l := tbl_45) (e := (1480, .iaload, 1)) rfl rfl
theorem d_MLa_law_1481 : decode MLa_law.2.2.1 1481 = .ok (.invokevirtual 166, 3) := lw_d (k := 45) (j := 5) (l := tbl_45) (e := (1481, .invokevirtual 166, 3)) rfl rfl
theorem d_MLa_law_1484 : decode MLa_law.2.2.1 1484 = .ok (.pop, 1) := lw_d (k := 45) (j := 6) (l := tbl_45) (e := (1484, .pop, 1)) rfl rfl
theorem d_MLa_law_1485 : decode MLa_law.2.2.1 1485 = .ok (.goto 59, 3) := lw_d (k := 45) (j := 7) (l := tbl_45) (e := (1485, .goto 59, 3)) rfl rfl
theorem d_MLa_law_1488 : decode MLa_law.2.2.1 1488 = .ok (.aload_n 1, 1) := lw_d (k := 45) (j := 8) (l := tbl_45) (e := (1488, .aload_n 1, 1)) rfl rfl
theorem d_MLa_law_1489 : decode MLa_law.2.2.1 1489 = .ok (.aload_n 0, 1) := lw_d (k := 45) (j := 9) (l := tbl_45) (e := (1489, .aload_n 0, 1)) rfl rfl
theorem d_MLa_law_1490 : decode MLa_law.2.2.1 1490 = .ok (.iload_n 3, 1) := lw_d (k := 45) (j := 10) (l := tbl_45) (e := (1490, .iload_n 3, 1)) rfl rfl
theorem d_MLa_law_1491 : decode MLa_law.2.2.1 1491 = .ok (.iconst 1, 1) := lw_d (k := 45) (j := 11) (l := tbl_45) (e := (1491, .iconst 1, 1)) rfl rfl
theorem d_MLa_law_1492 : decode MLa_law.2.2.1 1492 = .ok (.iadd, 1) := lw_d (k := 45) (j := 12) (l := tbl_45) (e := (1492, .iadd, 1)) rfl rfl
theorem d_MLa_law_1493 : decode MLa_law.2.2.1 1493 = .ok (.iaload, 1) := lw_d (k := 45) (j := 13) (l := tbl_45) (e := (1493, .iaload, 1)) rfl rfl
theorem d_MLa_law_1494 : decode MLa_law.2.2.1 1494 = .ok (.aload_n 0, 1) := lw_d (k := 45) (j := 14) (l := tbl_45) (e := (1494, .aload_n 0, 1)) rfl rfl
theorem d_MLa_law_1495 : decode MLa_law.2.2.1 1495 = .ok (.iload_n 3, 1) := lw_d (k := 45) (j := 15) (l := tbl_45) (e := (1495, .iload_n 3, 1)) rfl rfl
theorem d_MLa_law_1496 : decode MLa_law.2.2.1 1496 = .ok (.iconst 2, 1) := lw_d (k := 45) (j := 16) (l := tbl_45) (e := (1496, .iconst 2, 1)) rfl rfl
theorem d_MLa_law_1497 : decode MLa_law.2.2.1 1497 = .ok (.iadd, 1) := lw_d (k := 45) (j := 17) (l := tbl_45) (e := (1497, .iadd, 1)) rfl rfl
theorem d_MLa_law_1498 : decode MLa_law.2.2.1 1498 = .ok (.iaload, 1) := lw_d (k := 45) (j := 18) (l := tbl_45) (e := (1498, .iaload, 1)) rfl rfl
theorem d_MLa_law_1499 : decode MLa_law.2.2.1 1499 = .ok (.invokevirtual 167, 3) := lw_d (k := 45) (j := 19) (l := tbl_45) (e := (1499, .invokevirtual 167, 3)) rfl rfl
theorem d_MLa_law_1502 : decode MLa_law.2.2.1 1502 = .ok (.pop, 1) := lw_d (k := 45) (j := 20) (l := tbl_45) (e := (1502, .pop, 1)) rfl rfl
theorem d_MLa_law_1503 : decode MLa_law.2.2.1 1503 = .ok (.aload_n 2, 1) := lw_d (k := 45) (j := 21) (l := tbl_45) (e := (1503, .aload_n 2, 1)) rfl rfl
theorem d_MLa_law_1504 : decode MLa_law.2.2.1 1504 = .ok (.aload_n 0, 1) := lw_d (k := 45) (j := 22) (l := tbl_45) (e := (1504, .aload_n 0, 1)) rfl rfl
theorem d_MLa_law_1505 : decode MLa_law.2.2.1 1505 = .ok (.iload_n 3, 1) := lw_d (k := 45) (j := 23) (l := tbl_45) (e := (1505, .iload_n 3, 1)) rfl rfl
theorem d_MLa_law_1506 : decode MLa_law.2.2.1 1506 = .ok (.iconst 1, 1) := lw_d (k := 46) (j := 0) (l := tbl_46) (e := (1506, .iconst 1, 1)) rfl rfl
theorem d_MLa_law_1507 : decode MLa_law.2.2.1 1507 = .ok (.iadd, 1) := lw_d (k := 46) (j := 1) (l := tbl_46) (e := (1507, .iadd, 1)) rfl rfl
theorem d_MLa_law_1508 : decode MLa_law.2.2.1 1508 = .ok (.iaload, 1) := lw_d (k := 46) (j := 2) (l := tbl_46) (e := (1508, .iaload, 1)) rfl rfl
theorem d_MLa_law_1509 : decode MLa_law.2.2.1 1509 = .ok (.aload_n 0, 1) := lw_d (k := 46) (j := 3) (l := tbl_46) (e := (1509, .aload_n 0, 1)) rfl rfl
theorem d_MLa_law_1510 : decode MLa_law.2.2.1 1510 = .ok (.iload_n 3, 1) := lw_d (k := 46) (j := 4) (l := tbl_46) (e := (1510, .iload_n 3, 1)) rfl rfl
theorem d_MLa_law_1511 : decode MLa_law.2.2.1 1511 = .ok (.iconst 2, 1) := lw_d (k := 46) (j := 5) (l := tbl_46) (e := (1511, .iconst 2, 1)) rfl rfl
theorem d_MLa_law_1512 : decode MLa_law.2.2.1 1512 = .ok (.iadd, 1) := lw_d (k := 46) (j := 6) (l := tbl_46) (e := (1512, .iadd, 1)) rfl rfl
theorem d_MLa_law_1513 : decode MLa_law.2.2.1 1513 = .ok (.iaload, 1) := lw_d (k := 46) (j := 7) (l := tbl_46) (e := (1513, .iaload, 1)) rfl rfl
theorem d_MLa_law_1514 : decode MLa_law.2.2.1 1514 = .ok (.invokevirtual 170, 3) := lw_d (k := 46) (j := 8) (l := tbl_46) (e := (1514, .invokevirtual 170, 3)) rfl rfl
theorem d_MLa_law_1517 : decode MLa_law.2.2.1 1517 = .ok (.pop, 1) := lw_d (k := 46) (j := 9) (l := tbl_46) (e := (1517, .pop, 1)) rfl rfl
theorem d_MLa_law_1518 : decode MLa_law.2.2.1 1518 = .ok (.goto 26, 3) := lw_d (k := 46) (j := 10) (l := tbl_46) (e := (1518, .goto 26, 3)) rfl rfl
theorem d_MLa_law_1521 : decode MLa_law.2.2.1 1521 = .ok (.aload_n 1, 1) := lw_d (k := 46) (j := 11) (l := tbl_46) (e := (1521, .aload_n 1, 1)) rfl rfl
theorem d_MLa_law_1522 : decode MLa_law.2.2.1 1522 = .ok (.aload_n 0, 1) := lw_d (k := 46) (j := 12) (l := tbl_46) (e := (1522, .aload_n 0, 1)) rfl rfl
theorem d_MLa_law_1523 : decode MLa_law.2.2.1 1523 = .ok (.iload_n 3, 1) := lw_d (k := 46) (j := 13) (l := tbl_46) (e := (1523, .iload_n 3, 1)) rfl rfl
theorem d_MLa_law_1524 : decode MLa_law.2.2.1 1524 = .ok (.iconst 1, 1) := lw_d (k := 46) (j := 14) (l := tbl_46) (e := (1524, .iconst 1, 1)) rfl rfl
theorem d_MLa_law_1525 : decode MLa_law.2.2.1 1525 = .ok (.iadd, 1) := lw_d (k := 46) (j := 15) (l := tbl_46) (e := (1525, .iadd, 1)) rfl rfl
theorem d_MLa_law_1526 : decode MLa_law.2.2.1 1526 = .ok (.iaload, 1) := lw_d (k := 46) (j := 16) (l := tbl_46) (e := (1526, .iaload, 1)) rfl rfl
theorem d_MLa_law_1527 : decode MLa_law.2.2.1 1527 = .ok (.invokevirtual 171, 3) := lw_d (k := 46) (j := 17) (l := tbl_46) (e := (1527, .invokevirtual 171, 3)) rfl rfl
theorem d_MLa_law_1530 : decode MLa_law.2.2.1 1530 = .ok (.pop, 1) := lw_d (k := 46) (j := 18) (l := tbl_46) (e := (1530, .pop, 1)) rfl rfl
theorem d_MLa_law_1531 : decode MLa_law.2.2.1 1531 = .ok (.aload_n 2, 1) := lw_d (k := 46) (j := 19) (l := tbl_46) (e := (1531, .aload_n 2, 1)) rfl rfl
theorem d_MLa_law_1532 : decode MLa_law.2.2.1 1532 = .ok (.aload_n 0, 1) := lw_d (k := 46) (j := 20) (l := tbl_46) (e := (1532, .aload_n 0, 1)) rfl rfl
theorem d_MLa_law_1533 : decode MLa_law.2.2.1 1533 = .ok (.iload_n 3, 1) := lw_d (k := 46) (j := 21) (l := tbl_46) (e := (1533, .iload_n 3, 1)) rfl rfl
theorem d_MLa_law_1534 : decode MLa_law.2.2.1 1534 = .ok (.iconst 1, 1) := lw_d (k := 46) (j := 22) (l := tbl_46) (e := (1534, .iconst 1, 1)) rfl rfl
theorem d_MLa_law_1535 : decode MLa_law.2.2.1 1535 = .ok (.iadd, 1) := lw_d (k := 46) (j := 23) (l := tbl_46) (e := (1535, .iadd, 1)) rfl rfl
theorem d_MLa_law_1536 : decode MLa_law.2.2.1 1536 = .ok (.iaload, 1) := lw_d (k := 47) (j := 0) (l := tbl_47) (e := (1536, .iaload, 1)) rfl rfl
theorem d_MLa_law_1537 : decode MLa_law.2.2.1 1537 = .ok (.invokevirtual 174, 3) := lw_d (k := 47) (j := 1) (l := tbl_47) (e := (1537, .invokevirtual 174, 3)) rfl rfl
theorem d_MLa_law_1540 : decode MLa_law.2.2.1 1540 = .ok (.pop, 1) := lw_d (k := 47) (j := 2) (l := tbl_47) (e := (1540, .pop, 1)) rfl rfl
theorem d_MLa_law_1541 : decode MLa_law.2.2.1 1541 = .ok (.goto 3, 3) := lw_d (k := 47) (j := 3) (l := tbl_47) (e := (1541, .goto 3, 3)) rfl rfl
theorem d_MLa_law_1544 : decode MLa_law.2.2.1 1544 = .ok (.iinc 3 6, 3) := lw_d (k := 47) (j := 4) (l := tbl_47) (e := (1544, .iinc 3 6, 3)) rfl rfl
theorem d_MLa_law_1547 : decode MLa_law.2.2.1 1547 = .ok (.goto (-1529), 3) := lw_d (k := 47) (j := 5) (l := tbl_47) (e := (1547, .goto (-1529), 3)) rfl rfl
theorem d_MLa_law_1550 : decode MLa_law.2.2.1 1550 = .ok (.iconst 1, 1) := lw_d (k := 47) (j := 6) (l := tbl_47) (e := (1550, .iconst 1, 1)) rfl rfl
theorem d_MLa_law_1551 : decode MLa_law.2.2.1 1551 = .ok (.ireturn, 1) := lw_d (k := 47) (j := 7) (l := tbl_47) (e := (1551, .ireturn, 1)) rfl rfl
theorem r_MLa_law_3 {x : Nat} : Rr X d MLa_law 3 L (.ref x :: st) h = Rr X d MLa_law 4 L (.ref x :: .ref x :: st) h := Rr_nx d_MLa_law_3 rfl
theorem r_MLa_law_3i {x : Int32} : Rr X d MLa_law 3 L (.int x :: st) h = Rr X d MLa_law 4 L (.int x :: .int x :: st) h := Rr_nx d_MLa_law_3 rfl
theorem r_MLa_law_7 {l0 l1 l2 l3 : Value} {x : Nat} : Rr X d MLa_law 7 [l0, l1, l2, l3] (.ref x :: st) h = Rr X d MLa_law 8 (sL [l0, l1, l2, l3] 1 (.ref x)) st h := Rr_nx d_MLa_law_7 rfl
theorem r_MLa_law_7n {l0 l1 l2 l3 : Value} : Rr X d MLa_law 7 [l0, l1, l2, l3] (.null :: st) h = Rr X d MLa_law 8 (sL [l0, l1, l2, l3] 1 .null) st h := Rr_nx d_MLa_law_7 rfl
theorem r_MLa_law_11 {x : Nat} : Rr X d MLa_law 11 L (.ref x :: st) h = Rr X d MLa_law 12 L (.ref x :: .ref x :: st) h := Rr_nx d_MLa_law_11 rfl
theorem r_MLa_law_11i {x : Int32} : Rr X d MLa_law 11 L (.int x :: st) h = Rr X d MLa_law 12 L (.int x :: .int x :: st) h := Rr_nx d_MLa_law_11 rfl
theorem r_MLa_law_15 {l0 l1 l2 l3 : Value} {x : Nat} : Rr X d MLa_law 15 [l0, l1, l2, l3] (.ref x :: st) h = Rr X d MLa_law 16 (sL [l0, l1, l2, l3] 2 (.ref x)) st h := Rr_nx d_MLa_law_15 rfl
theorem r_MLa_law_15n {l0 l1 l2 l3 : Value} : Rr X d MLa_law 15 [l0, l1, l2, l3] (.null :: st) h = Rr X d MLa_law 16 (sL [l0, l1, l2, l3] 2 .null) st h := Rr_nx d_MLa_law_15 rfl
theorem r_MLa_law_16 : Rr X d MLa_law 16 L st h = Rr X d MLa_law 17 L (.int (0) :: st) h := Rr_nx d_MLa_law_16 rfl
theorem r_MLa_law_17 {l0 l1 l2 l3 : Value} {x : Int32} : Rr X d MLa_law 17 [l0, l1, l2, l3] (.int x :: st) h = Rr X d MLa_law 18 (sL [l0, l1, l2, l3] 3 (.int x)) st h := Rr_nx d_MLa_law_17 rfl
theorem r_MLa_law_18 {l0 l1 l2 : Value} {x : Int32} : Rr X d MLa_law 18 [l0, l1, l2, .int x] st h = Rr X d MLa_law 19 [l0, l1, l2, .int x] (.int x :: st) h := Rr_nx d_MLa_law_18 rfl
theorem r_MLa_law_19 {l1 l2 l3 : Value} {x : Nat} : Rr X d MLa_law 19 [.ref x, l1, l2, l3] st h = Rr X d MLa_law 20 [.ref x, l1, l2, l3] (.ref x :: st) h := Rr_nx d_MLa_law_19 rfl
theorem r_MLa_law_19f {l1 l2 l3 : Value} {x : UInt32} : Rr X d MLa_law 19 [.float x, l1, l2, l3] st h = Rr X d MLa_law 20 [.float x, l1, l2, l3] (.float x :: st) h := Rr_nx d_MLa_law_19 rfl
theorem r_MLa_law_20 {a : Nat} (hq : (qL a).isSome = true) : Rr X d MLa_law 20 L (.ref a :: st) (Wd mu la ro et) = Rr X d MLa_law 21 L (.int (Int32.ofNat (qLd a)) :: st) (Wd mu la ro et) := R_lenW d_MLa_law_20 hq
theorem r_MLa_law_20f {n : Nat} {f : Nat → Int32} : Rr (XS n f) d MLa_law 20 L (.float 0 :: st) h = Rr (XS n f) d MLa_law 21 L (.int (Int32.ofNat n) :: st) h := R_lenS d_MLa_law_20
theorem r_MLa_law_21 : Rr X d MLa_law 21 L st h = Rr X d MLa_law 23 L (.int (6) :: st) h := Rr_nx d_MLa_law_21 rfl
theorem r_MLa_law_23 {x y : Int32} : Rr X d MLa_law 23 L (.int y :: .int x :: st) h = Rr X d MLa_law 24 L (.int (x - y) :: st) h := Rr_nx d_MLa_law_23 rfl
theorem r_MLa_law_24 {x y : Int32} : Rr X d MLa_law 24 L (.int y :: .int x :: st) h = if y < x then Rr X d MLa_law 1550 L st h else Rr X d MLa_law 27 L st h := R_ic_gt d_MLa_law_24 (by decide)
theorem r_MLa_law_27 {l1 l2 l3 : Value} {x : Nat} : Rr X d MLa_law 27 [.ref x, l1, l2, l3] st h = Rr X d MLa_law 28 [.ref x, l1, l2, l3] (.ref x :: st) h := Rr_nx d_MLa_law_27 rfl
theorem r_MLa_law_27f {l1 l2 l3 : Value} {x : UInt32} : Rr X d MLa_law 27 [.float x, l1, l2, l3] st h = Rr X d MLa_law 28 [.float x, l1, l2, l3] (.float x :: st) h := Rr_nx d_MLa_law_27 rfl
theorem r_MLa_law_28 {l0 l1 l2 : Value} {x : Int32} : Rr X d MLa_law 28 [l0, l1, l2, .int x] st h = Rr X d MLa_law 29 [l0, l1, l2, .int x] (.int x :: st) h := Rr_nx d_MLa_law_28 rfl
theorem r_MLa_law_29 {a : Nat} {j : Int32} (hq : (qA a 0).isSome = true) : Rr X d MLa_law 29 L (.int j :: .ref a :: st) (Wd mu la ro et) = if j < 0 ∨ qAd a 0 ≤ j.toNatClampNeg then none else Rr X d MLa_law 30 L (.int (mu a j.toNatClampNeg) :: st) (Wd mu la ro et) := R_ialW d_MLa_law_29 hq
theorem r_MLa_law_29f {n : Nat} {f : Nat → Int32} {j : Int32} : Rr (XS n f) d MLa_law 29 L (.int j :: .float 0 :: st) h = if j < 0 ∨ n ≤ j.toNatClampNeg then none else Rr (XS n f) d MLa_law 30 L (.int (f j.toNatClampNeg) :: st) h := R_ialS d_MLa_law_29
theorem r_MLa_law_30 : Rr X d MLa_law 30 L st h = Rr X d MLa_law 32 L (.int (63) :: st) h := Rr_nx d_MLa_law_30 rfl
theorem r_MLa_law_32 {x y : Int32} : Rr X d MLa_law 32 L (.int y :: .int x :: st) h = Rr X d MLa_law 33 L (.int (x &&& y) :: st) h := Rr_nx d_MLa_law_32 rfl
theorem r_MLa_law_33_0 : Rr X d MLa_law 33 L (.int (0) :: st) h = Rr X d MLa_law 200 L st h := R_tab (off := 167) d_MLa_law_33 (by decide) (by decide) (by decide)
theorem r_MLa_law_33_1 : Rr X d MLa_law 33 L (.int (1) :: st) h = Rr X d MLa_law 233 L st h := R_tab (off := 200) d_MLa_law_33 (by decide) (by decide) (by decide)
theorem r_MLa_law_33_2 : Rr X d MLa_law 33 L (.int (2) :: st) h = Rr X d MLa_law 246 L st h := R_tab (off := 213) d_MLa_law_33 (by decide) (by decide) (by decide)
theorem r_MLa_law_33_3 : Rr X d MLa_law 33 L (.int (3) :: st) h = Rr X d MLa_law 279 L st h := R_tab (off := 246) d_MLa_law_33 (by decide) (by decide) (by decide)
theorem r_MLa_law_33_4 : Rr X d MLa_law 33 L (.int (4) :: st) h = Rr X d MLa_law 322 L st h := R_tab (off := 289) d_MLa_law_33 (by decide) (by decide) (by decide)
theorem r_MLa_law_33_5 : Rr X d MLa_law 33 L (.int (5) :: st) h = Rr X d MLa_law 365 L st h := R_tab (off := 332) d_MLa_law_33 (by decide) (by decide) (by decide)
theorem r_MLa_law_33_6 : Rr X d MLa_law 33 L (.int (6) :: st) h = Rr X d MLa_law 378 L st h := R_tab (off := 345) d_MLa_law_33 (by decide) (by decide) (by decide)
theorem r_MLa_law_33_7 : Rr X d MLa_law 33 L (.int (7) :: st) h = Rr X d MLa_law 411 L st h := R_tab (off := 378) d_MLa_law_33 (by decide) (by decide) (by decide)
theorem r_MLa_law_33_8 : Rr X d MLa_law 33 L (.int (8) :: st) h = Rr X d MLa_law 464 L st h := R_tab (off := 431) d_MLa_law_33 (by decide) (by decide) (by decide)
theorem r_MLa_law_33_9 : Rr X d MLa_law 33 L (.int (9) :: st) h = Rr X d MLa_law 497 L st h := R_tab (off := 464) d_MLa_law_33 (by decide) (by decide) (by decide)
theorem r_MLa_law_33_10 : Rr X d MLa_law 33 L (.int (10) :: st) h = Rr X d MLa_law 520 L st h := R_tab (off := 487) d_MLa_law_33 (by decide) (by decide) (by decide)
theorem r_MLa_law_33_11 : Rr X d MLa_law 33 L (.int (11) :: st) h = Rr X d MLa_law 543 L st h := R_tab (off := 510) d_MLa_law_33 (by decide) (by decide) (by decide)
theorem r_MLa_law_33_12 : Rr X d MLa_law 33 L (.int (12) :: st) h = Rr X d MLa_law 596 L st h := R_tab (off := 563) d_MLa_law_33 (by decide) (by decide) (by decide)
theorem r_MLa_law_33_13 : Rr X d MLa_law 33 L (.int (13) :: st) h = Rr X d MLa_law 649 L st h := R_tab (off := 616) d_MLa_law_33 (by decide) (by decide) (by decide)
theorem r_MLa_law_33_14 : Rr X d MLa_law 33 L (.int (14) :: st) h = Rr X d MLa_law 692 L st h := R_tab (off := 659) d_MLa_law_33 (by decide) (by decide) (by decide)
theorem r_MLa_law_33_15 : Rr X d MLa_law 33 L (.int (15) :: st) h = Rr X d MLa_law 725 L st h := R_tab (off := 692) d_MLa_law_33 (by decide) (by decide) (by decide)
theorem r_MLa_law_33_16 : Rr X d MLa_law 33 L (.int (16) :: st) h = Rr X d MLa_law 768 L st h := R_tab (off := 735) d_MLa_law_33 (by decide) (by decide) (by decide)
theorem r_MLa_law_33_17 : Rr X d MLa_law 33 L (.int (17) :: st) h = Rr X d MLa_law 801 L st h := R_tab (off := 768) d_MLa_law_33 (by decide) (by decide) (by decide)
theorem r_MLa_law_33_18 : Rr X d MLa_law 33 L (.int (18) :: st) h = Rr X d MLa_law 844 L st h := R_tab (off := 811) d_MLa_law_33 (by decide) (by decide) (by decide)
theorem r_MLa_law_33_19 : Rr X d MLa_law 33 L (.int (19) :: st) h = Rr X d MLa_law 877 L st h := R_tab (off := 844) d_MLa_law_33 (by decide) (by decide) (by decide)
theorem r_MLa_law_33_20 : Rr X d MLa_law 33 L (.int (20) :: st) h = Rr X d MLa_law 920 L st h := R_tab (off := 887) d_MLa_law_33 (by decide) (by decide) (by decide)
theorem r_MLa_law_33_21 : Rr X d MLa_law 33 L (.int (21) :: st) h = Rr X d MLa_law 933 L st h := R_tab (off := 900) d_MLa_law_33 (by decide) (by decide) (by decide)
theorem r_MLa_law_33_22 : Rr X d MLa_law 33 L (.int (22) :: st) h = Rr X d MLa_law 976 L st h := R_tab (off := 943) d_MLa_law_33 (by decide) (by decide) (by decide)
theorem r_MLa_law_33_23 : Rr X d MLa_law 33 L (.int (23) :: st) h = Rr X d MLa_law 1019 L st h := R_tab (off := 986) d_MLa_law_33 (by decide) (by decide) (by decide)
theorem r_MLa_law_33_24 : Rr X d MLa_law 33 L (.int (24) :: st) h = Rr X d MLa_law 1062 L st h := R_tab (off := 1029) d_MLa_law_33 (by decide) (by decide) (by decide)
theorem r_MLa_law_33_25 : Rr X d MLa_law 33 L (.int (25) :: st) h = Rr X d MLa_law 1095 L st h := R_tab (off := 1062) d_MLa_law_33 (by decide) (by decide) (by decide)
theorem r_MLa_law_33_26 : Rr X d MLa_law 33 L (.int (26) :: st) h = Rr X d MLa_law 1128 L st h := R_tab (off := 1095) d_MLa_law_33 (by decide) (by decide) (by decide)
theorem r_MLa_law_33_27 : Rr X d MLa_law 33 L (.int (27) :: st) h = Rr X d MLa_law 1141 L st h := R_tab (off := 1108) d_MLa_law_33 (by decide) (by decide) (by decide)
theorem r_MLa_law_33_28 : Rr X d MLa_law 33 L (.int (28) :: st) h = Rr X d MLa_law 1154 L st h := R_tab (off := 1121) d_MLa_law_33 (by decide) (by decide) (by decide)
theorem r_MLa_law_33_29 : Rr X d MLa_law 33 L (.int (29) :: st) h = Rr X d MLa_law 1177 L st h := R_tab (off := 1144) d_MLa_law_33 (by decide) (by decide) (by decide)
theorem r_MLa_law_33_30 : Rr X d MLa_law 33 L (.int (30) :: st) h = Rr X d MLa_law 1220 L st h := R_tab (off := 1187) d_MLa_law_33 (by decide) (by decide) (by decide)
theorem r_MLa_law_33_31 : Rr X d MLa_law 33 L (.int (31) :: st) h = Rr X d MLa_law 1243 L st h := R_tab (off := 1210) d_MLa_law_33 (by decide) (by decide) (by decide)
theorem r_MLa_law_33_32 : Rr X d MLa_law 33 L (.int (32) :: st) h = Rr X d MLa_law 1276 L st h := R_tab (off := 1243) d_MLa_law_33 (by decide) (by decide) (by decide)
theorem r_MLa_law_33_33 : Rr X d MLa_law 33 L (.int (33) :: st) h = Rr X d MLa_law 1319 L st h := R_tab (off := 1286) d_MLa_law_33 (by decide) (by decide) (by decide)
theorem r_MLa_law_33_34 : Rr X d MLa_law 33 L (.int (34) :: st) h = Rr X d MLa_law 1392 L st h := R_tab (off := 1359) d_MLa_law_33 (by decide) (by decide) (by decide)
theorem r_MLa_law_33_35 : Rr X d MLa_law 33 L (.int (35) :: st) h = Rr X d MLa_law 1425 L st h := R_tab (off := 1392) d_MLa_law_33 (by decide) (by decide) (by decide)
theorem r_MLa_law_33_36 : Rr X d MLa_law 33 L (.int (36) :: st) h = Rr X d MLa_law 1488 L st h := R_tab (off := 1455) d_MLa_law_33 (by decide) (by decide) (by decide)
theorem r_MLa_law_33_37 : Rr X d MLa_law 33 L (.int (37) :: st) h = Rr X d MLa_law 1521 L st h := R_tab (off := 1488) d_MLa_law_33 (by decide) (by decide) (by decide)
theorem r_MLa_law_33D {x : Int32} (hx : x.toInt < 0 ∨ 37 < x.toInt) : Rr X d MLa_law 33 L (.int x :: st) h = Rr X d MLa_law 1544 L st h := R_tabD d_MLa_law_33 hx (by decide)
theorem r_MLa_law_200 {l0 l2 l3 : Value} {x : Nat} : Rr X d MLa_law 200 [l0, .ref x, l2, l3] st h = Rr X d MLa_law 201 [l0, .ref x, l2, l3] (.ref x :: st) h := Rr_nx d_MLa_law_200 rfl
theorem r_MLa_law_200n {l0 l2 l3 : Value} : Rr X d MLa_law 200 [l0, .null, l2, l3] st h = Rr X d MLa_law 201 [l0, .null, l2, l3] (.null :: st) h := Rr_nx d_MLa_law_200 rfl
theorem r_MLa_law_201 {l1 l2 l3 : Value} {x : Nat} : Rr X d MLa_law 201 [.ref x, l1, l2, l3] st h = Rr X d MLa_law 202 [.ref x, l1, l2, l3] (.ref x :: st) h := Rr_nx d_MLa_law_201 rfl
theorem r_MLa_law_201f {l1 l2 l3 : Value} {x : UInt32} : Rr X d MLa_law 201 [.float x, l1, l2, l3] st h = Rr X d MLa_law 202 [.float x, l1, l2, l3] (.float x :: st) h := Rr_nx d_MLa_law_201 rfl
theorem r_MLa_law_202 {l0 l1 l2 : Value} {x : Int32} : Rr X d MLa_law 202 [l0, l1, l2, .int x] st h = Rr X d MLa_law 203 [l0, l1, l2, .int x] (.int x :: st) h := Rr_nx d_MLa_law_202 rfl
theorem r_MLa_law_203 : Rr X d MLa_law 203 L st h = Rr X d MLa_law 204 L (.int (1) :: st) h := Rr_nx d_MLa_law_203 rfl
theorem r_MLa_law_204 {x y : Int32} : Rr X d MLa_law 204 L (.int y :: .int x :: st) h = Rr X d MLa_law 205 L (.int (x + y) :: st) h := Rr_nx d_MLa_law_204 rfl
theorem r_MLa_law_205 {a : Nat} {j : Int32} (hq : (qA a 0).isSome = true) : Rr X d MLa_law 205 L (.int j :: .ref a :: st) (Wd mu la ro et) = if j < 0 ∨ qAd a 0 ≤ j.toNatClampNeg then none else Rr X d MLa_law 206 L (.int (mu a j.toNatClampNeg) :: st) (Wd mu la ro et) := R_ialW d_MLa_law_205 hq
theorem r_MLa_law_205f {n : Nat} {f : Nat → Int32} {j : Int32} : Rr (XS n f) d MLa_law 205 L (.int j :: .float 0 :: st) h = if j < 0 ∨ n ≤ j.toNatClampNeg then none else Rr (XS n f) d MLa_law 206 L (.int (f j.toNatClampNeg) :: st) h := R_ialS d_MLa_law_205
theorem r_MLa_law_206 {l1 l2 l3 : Value} {x : Nat} : Rr X d MLa_law 206 [.ref x, l1, l2, l3] st h = Rr X d MLa_law 207 [.ref x, l1, l2, l3] (.ref x :: st) h := Rr_nx d_MLa_law_206 rfl
theorem r_MLa_law_206f {l1 l2 l3 : Value} {x : UInt32} : Rr X d MLa_law 206 [.float x, l1, l2, l3] st h = Rr X d MLa_law 207 [.float x, l1, l2, l3] (.float x :: st) h := Rr_nx d_MLa_law_206 rfl
theorem r_MLa_law_207 {l0 l1 l2 : Value} {x : Int32} : Rr X d MLa_law 207 [l0, l1, l2, .int x] st h = Rr X d MLa_law 208 [l0, l1, l2, .int x] (.int x :: st) h := Rr_nx d_MLa_law_207 rfl
theorem r_MLa_law_208 : Rr X d MLa_law 208 L st h = Rr X d MLa_law 209 L (.int (2) :: st) h := Rr_nx d_MLa_law_208 rfl
theorem r_MLa_law_209 {x y : Int32} : Rr X d MLa_law 209 L (.int y :: .int x :: st) h = Rr X d MLa_law 210 L (.int (x + y) :: st) h := Rr_nx d_MLa_law_209 rfl
theorem r_MLa_law_210 {a : Nat} {j : Int32} (hq : (qA a 0).isSome = true) : Rr X d MLa_law 210 L (.int j :: .ref a :: st) (Wd mu la ro et) = if j < 0 ∨ qAd a 0 ≤ j.toNatClampNeg then none else Rr X d MLa_law 211 L (.int (mu a j.toNatClampNeg) :: st) (Wd mu la ro et) := R_ialW d_MLa_law_210 hq
theorem r_MLa_law_210f {n : Nat} {f : Nat → Int32} {j : Int32} : Rr (XS n f) d MLa_law 210 L (.int j :: .float 0 :: st) h = if j < 0 ∨ n ≤ j.toNatClampNeg then none else Rr (XS n f) d MLa_law 211 L (.int (f j.toNatClampNeg) :: st) h := R_ialS d_MLa_law_210
theorem fc_11_13 : fC 11 13 = some (0, 9, 2, MTo_feed) := rfl
theorem r_MLa_law_211 {y0 : Int32} {y1 : Int32} {a : Nat} (hO : qO a 9 = true) (hc : ckS st = true) : Rr X (d + 1) MLa_law 211 L (.int y1 :: .int y0 :: .ref a :: st) (Wd mu la ro et) = (Rr X d MTo_feed 0 [.ref a, .int y0, .int y1, mkU] [] (Wd mu la ro et)).bind fun q => Rr X (d + 1) MLa_law 214 L (psh q.1 st) q.2 := R_iv (av := [.int y1, .int y0]) d_MLa_law_211 fc_11_13 hO (ckS_le hc) rfl (Nat.le_of_ble_eq_true rfl) (Nat.le_of_ble_eq_true rfl)
theorem r_MLa_law_214 {x : Int32} : Rr X d MLa_law 214 L (.int x :: st) h = Rr X d MLa_law 215 L st h := Rr_nx d_MLa_law_214 rfl
theorem r_MLa_law_215 {l0 l1 l3 : Value} {x : Nat} : Rr X d MLa_law 215 [l0, l1, .ref x, l3] st h = Rr X d MLa_law 216 [l0, l1, .ref x, l3] (.ref x :: st) h := Rr_nx d_MLa_law_215 rfl
theorem r_MLa_law_215n {l0 l1 l3 : Value} : Rr X d MLa_law 215 [l0, l1, .null, l3] st h = Rr X d MLa_law 216 [l0, l1, .null, l3] (.null :: st) h := Rr_nx d_MLa_law_215 rfl
theorem r_MLa_law_216 {l1 l2 l3 : Value} {x : Nat} : Rr X d MLa_law 216 [.ref x, l1, l2, l3] st h = Rr X d MLa_law 217 [.ref x, l1, l2, l3] (.ref x :: st) h := Rr_nx d_MLa_law_216 rfl
theorem r_MLa_law_216f {l1 l2 l3 : Value} {x : UInt32} : Rr X d MLa_law 216 [.float x, l1, l2, l3] st h = Rr X d MLa_law 217 [.float x, l1, l2, l3] (.float x :: st) h := Rr_nx d_MLa_law_216 rfl
theorem r_MLa_law_217 {l0 l1 l2 : Value} {x : Int32} : Rr X d MLa_law 217 [l0, l1, l2, .int x] st h = Rr X d MLa_law 218 [l0, l1, l2, .int x] (.int x :: st) h := Rr_nx d_MLa_law_217 rfl
theorem r_MLa_law_218 : Rr X d MLa_law 218 L st h = Rr X d MLa_law 219 L (.int (1) :: st) h := Rr_nx d_MLa_law_218 rfl
theorem r_MLa_law_219 {x y : Int32} : Rr X d MLa_law 219 L (.int y :: .int x :: st) h = Rr X d MLa_law 220 L (.int (x + y) :: st) h := Rr_nx d_MLa_law_219 rfl
theorem r_MLa_law_220 {a : Nat} {j : Int32} (hq : (qA a 0).isSome = true) : Rr X d MLa_law 220 L (.int j :: .ref a :: st) (Wd mu la ro et) = if j < 0 ∨ qAd a 0 ≤ j.toNatClampNeg then none else Rr X d MLa_law 221 L (.int (mu a j.toNatClampNeg) :: st) (Wd mu la ro et) := R_ialW d_MLa_law_220 hq
theorem r_MLa_law_220f {n : Nat} {f : Nat → Int32} {j : Int32} : Rr (XS n f) d MLa_law 220 L (.int j :: .float 0 :: st) h = if j < 0 ∨ n ≤ j.toNatClampNeg then none else Rr (XS n f) d MLa_law 221 L (.int (f j.toNatClampNeg) :: st) h := R_ialS d_MLa_law_220
theorem r_MLa_law_221 {l1 l2 l3 : Value} {x : Nat} : Rr X d MLa_law 221 [.ref x, l1, l2, l3] st h = Rr X d MLa_law 222 [.ref x, l1, l2, l3] (.ref x :: st) h := Rr_nx d_MLa_law_221 rfl
theorem r_MLa_law_221f {l1 l2 l3 : Value} {x : UInt32} : Rr X d MLa_law 221 [.float x, l1, l2, l3] st h = Rr X d MLa_law 222 [.float x, l1, l2, l3] (.float x :: st) h := Rr_nx d_MLa_law_221 rfl
theorem r_MLa_law_222 {l0 l1 l2 : Value} {x : Int32} : Rr X d MLa_law 222 [l0, l1, l2, .int x] st h = Rr X d MLa_law 223 [l0, l1, l2, .int x] (.int x :: st) h := Rr_nx d_MLa_law_222 rfl
theorem r_MLa_law_223 : Rr X d MLa_law 223 L st h = Rr X d MLa_law 224 L (.int (2) :: st) h := Rr_nx d_MLa_law_223 rfl
theorem r_MLa_law_224 {x y : Int32} : Rr X d MLa_law 224 L (.int y :: .int x :: st) h = Rr X d MLa_law 225 L (.int (x + y) :: st) h := Rr_nx d_MLa_law_224 rfl
theorem r_MLa_law_225 {a : Nat} {j : Int32} (hq : (qA a 0).isSome = true) : Rr X d MLa_law 225 L (.int j :: .ref a :: st) (Wd mu la ro et) = if j < 0 ∨ qAd a 0 ≤ j.toNatClampNeg then none else Rr X d MLa_law 226 L (.int (mu a j.toNatClampNeg) :: st) (Wd mu la ro et) := R_ialW d_MLa_law_225 hq
theorem r_MLa_law_225f {n : Nat} {f : Nat → Int32} {j : Int32} : Rr (XS n f) d MLa_law 225 L (.int j :: .float 0 :: st) h = if j < 0 ∨ n ≤ j.toNatClampNeg then none else Rr (XS n f) d MLa_law 226 L (.int (f j.toNatClampNeg) :: st) h := R_ialS d_MLa_law_225
theorem fc_11_17 : fC 11 17 = some (0, 10, 2, MRm_feed) := rfl
theorem r_MLa_law_226 {y0 : Int32} {y1 : Int32} {a : Nat} (hO : qO a 10 = true) (hc : ckS st = true) : Rr X (d + 1) MLa_law 226 L (.int y1 :: .int y0 :: .ref a :: st) (Wd mu la ro et) = (Rr X d MRm_feed 0 [.ref a, .int y0, .int y1, mkU] [] (Wd mu la ro et)).bind fun q => Rr X (d + 1) MLa_law 229 L (psh q.1 st) q.2 := R_iv (av := [.int y1, .int y0]) d_MLa_law_226 fc_11_17 hO (ckS_le hc) rfl (Nat.le_of_ble_eq_true rfl) (Nat.le_of_ble_eq_true rfl)
theorem r_MLa_law_229 {x : Int32} : Rr X d MLa_law 229 L (.int x :: st) h = Rr X d MLa_law 230 L st h := Rr_nx d_MLa_law_229 rfl
theorem r_MLa_law_230 : Rr X d MLa_law 230 L st h = Rr X d MLa_law 1544 L st h := R_goto d_MLa_law_230 (by decide)
theorem r_MLa_law_233 {l0 l2 l3 : Value} {x : Nat} : Rr X d MLa_law 233 [l0, .ref x, l2, l3] st h = Rr X d MLa_law 234 [l0, .ref x, l2, l3] (.ref x :: st) h := Rr_nx d_MLa_law_233 rfl
theorem r_MLa_law_233n {l0 l2 l3 : Value} : Rr X d MLa_law 233 [l0, .null, l2, l3] st h = Rr X d MLa_law 234 [l0, .null, l2, l3] (.null :: st) h := Rr_nx d_MLa_law_233 rfl
theorem fc_11_18 : fC 11 18 = some (0, 9, 0, MTo_stone) := rfl
theorem r_MLa_law_234 {a : Nat} (hO : qO a 9 = true) (hc : ckS st = true) : Rr X (d + 1) MLa_law 234 L (.ref a :: st) (Wd mu la ro et) = (Rr X d MTo_stone 0 [.ref a, mkU] [] (Wd mu la ro et)).bind fun q => Rr X (d + 1) MLa_law 237 L (psh q.1 st) q.2 := R_iv (av := []) d_MLa_law_234 fc_11_18 hO (ckS_le hc) rfl (Nat.le_of_ble_eq_true rfl) (Nat.le_of_ble_eq_true rfl)
theorem r_MLa_law_237 {x : Int32} : Rr X d MLa_law 237 L (.int x :: st) h = Rr X d MLa_law 238 L st h := Rr_nx d_MLa_law_237 rfl
theorem r_MLa_law_238 {l0 l1 l3 : Value} {x : Nat} : Rr X d MLa_law 238 [l0, l1, .ref x, l3] st h = Rr X d MLa_law 239 [l0, l1, .ref x, l3] (.ref x :: st) h := Rr_nx d_MLa_law_238 rfl
theorem r_MLa_law_238n {l0 l1 l3 : Value} : Rr X d MLa_law 238 [l0, l1, .null, l3] st h = Rr X d MLa_law 239 [l0, l1, .null, l3] (.null :: st) h := Rr_nx d_MLa_law_238 rfl
theorem fc_11_22 : fC 11 22 = some (0, 10, 0, MRm_stone) := rfl
theorem r_MLa_law_239 {a : Nat} (hO : qO a 10 = true) (hc : ckS st = true) : Rr X (d + 1) MLa_law 239 L (.ref a :: st) (Wd mu la ro et) = (Rr X d MRm_stone 0 [.ref a, mkU, mkU] [] (Wd mu la ro et)).bind fun q => Rr X (d + 1) MLa_law 242 L (psh q.1 st) q.2 := R_iv (av := []) d_MLa_law_239 fc_11_22 hO (ckS_le hc) rfl (Nat.le_of_ble_eq_true rfl) (Nat.le_of_ble_eq_true rfl)
theorem r_MLa_law_242 {x : Int32} : Rr X d MLa_law 242 L (.int x :: st) h = Rr X d MLa_law 243 L st h := Rr_nx d_MLa_law_242 rfl
theorem r_MLa_law_243 : Rr X d MLa_law 243 L st h = Rr X d MLa_law 1544 L st h := R_goto d_MLa_law_243 (by decide)
theorem r_MLa_law_246 {l0 l2 l3 : Value} {x : Nat} : Rr X d MLa_law 246 [l0, .ref x, l2, l3] st h = Rr X d MLa_law 247 [l0, .ref x, l2, l3] (.ref x :: st) h := Rr_nx d_MLa_law_246 rfl
theorem r_MLa_law_246n {l0 l2 l3 : Value} : Rr X d MLa_law 246 [l0, .null, l2, l3] st h = Rr X d MLa_law 247 [l0, .null, l2, l3] (.null :: st) h := Rr_nx d_MLa_law_246 rfl
theorem r_MLa_law_247 {l1 l2 l3 : Value} {x : Nat} : Rr X d MLa_law 247 [.ref x, l1, l2, l3] st h = Rr X d MLa_law 248 [.ref x, l1, l2, l3] (.ref x :: st) h := Rr_nx d_MLa_law_247 rfl
theorem r_MLa_law_247f {l1 l2 l3 : Value} {x : UInt32} : Rr X d MLa_law 247 [.float x, l1, l2, l3] st h = Rr X d MLa_law 248 [.float x, l1, l2, l3] (.float x :: st) h := Rr_nx d_MLa_law_247 rfl
theorem r_MLa_law_248 {l0 l1 l2 : Value} {x : Int32} : Rr X d MLa_law 248 [l0, l1, l2, .int x] st h = Rr X d MLa_law 249 [l0, l1, l2, .int x] (.int x :: st) h := Rr_nx d_MLa_law_248 rfl
theorem r_MLa_law_249 : Rr X d MLa_law 249 L st h = Rr X d MLa_law 250 L (.int (1) :: st) h := Rr_nx d_MLa_law_249 rfl
theorem r_MLa_law_250 {x y : Int32} : Rr X d MLa_law 250 L (.int y :: .int x :: st) h = Rr X d MLa_law 251 L (.int (x + y) :: st) h := Rr_nx d_MLa_law_250 rfl
theorem r_MLa_law_251 {a : Nat} {j : Int32} (hq : (qA a 0).isSome = true) : Rr X d MLa_law 251 L (.int j :: .ref a :: st) (Wd mu la ro et) = if j < 0 ∨ qAd a 0 ≤ j.toNatClampNeg then none else Rr X d MLa_law 252 L (.int (mu a j.toNatClampNeg) :: st) (Wd mu la ro et) := R_ialW d_MLa_law_251 hq
theorem r_MLa_law_251f {n : Nat} {f : Nat → Int32} {j : Int32} : Rr (XS n f) d MLa_law 251 L (.int j :: .float 0 :: st) h = if j < 0 ∨ n ≤ j.toNatClampNeg then none else Rr (XS n f) d MLa_law 252 L (.int (f j.toNatClampNeg) :: st) h := R_ialS d_MLa_law_251
theorem r_MLa_law_252 {l1 l2 l3 : Value} {x : Nat} : Rr X d MLa_law 252 [.ref x, l1, l2, l3] st h = Rr X d MLa_law 253 [.ref x, l1, l2, l3] (.ref x :: st) h := Rr_nx d_MLa_law_252 rfl
theorem r_MLa_law_252f {l1 l2 l3 : Value} {x : UInt32} : Rr X d MLa_law 252 [.float x, l1, l2, l3] st h = Rr X d MLa_law 253 [.float x, l1, l2, l3] (.float x :: st) h := Rr_nx d_MLa_law_252 rfl
theorem r_MLa_law_253 {l0 l1 l2 : Value} {x : Int32} : Rr X d MLa_law 253 [l0, l1, l2, .int x] st h = Rr X d MLa_law 254 [l0, l1, l2, .int x] (.int x :: st) h := Rr_nx d_MLa_law_253 rfl
theorem r_MLa_law_254 : Rr X d MLa_law 254 L st h = Rr X d MLa_law 255 L (.int (2) :: st) h := Rr_nx d_MLa_law_254 rfl
theorem r_MLa_law_255 {x y : Int32} : Rr X d MLa_law 255 L (.int y :: .int x :: st) h = Rr X d MLa_law 256 L (.int (x + y) :: st) h := Rr_nx d_MLa_law_255 rfl
theorem r_MLa_law_256 {a : Nat} {j : Int32} (hq : (qA a 0).isSome = true) : Rr X d MLa_law 256 L (.int j :: .ref a :: st) (Wd mu la ro et) = if j < 0 ∨ qAd a 0 ≤ j.toNatClampNeg then none else Rr X d MLa_law 257 L (.int (mu a j.toNatClampNeg) :: st) (Wd mu la ro et) := R_ialW d_MLa_law_256 hq
theorem r_MLa_law_256f {n : Nat} {f : Nat → Int32} {j : Int32} : Rr (XS n f) d MLa_law 256 L (.int j :: .float 0 :: st) h = if j < 0 ∨ n ≤ j.toNatClampNeg then none else Rr (XS n f) d MLa_law 257 L (.int (f j.toNatClampNeg) :: st) h := R_ialS d_MLa_law_256
theorem fc_11_23 : fC 11 23 = some (0, 9, 2, MTo_of) := rfl
theorem r_MLa_law_257 {y0 : Int32} {y1 : Int32} {a : Nat} (hO : qO a 9 = true) (hc : ckS st = true) : Rr X (d + 1) MLa_law 257 L (.int y1 :: .int y0 :: .ref a :: st) (Wd mu la ro et) = (Rr X d MTo_of 0 [.ref a, .int y0, .int y1, mkU] [] (Wd mu la ro et)).bind fun q => Rr X (d + 1) MLa_law 260 L (psh q.1 st) q.2 := R_iv (av := [.int y1, .int y0]) d_MLa_law_257 fc_11_23 hO (ckS_le hc) rfl (Nat.le_of_ble_eq_true rfl) (Nat.le_of_ble_eq_true rfl)
theorem r_MLa_law_260 {x : Int32} : Rr X d MLa_law 260 L (.int x :: st) h = Rr X d MLa_law 261 L st h := Rr_nx d_MLa_law_260 rfl
theorem r_MLa_law_261 {l0 l1 l3 : Value} {x : Nat} : Rr X d MLa_law 261 [l0, l1, .ref x, l3] st h = Rr X d MLa_law 262 [l0, l1, .ref x, l3] (.ref x :: st) h := Rr_nx d_MLa_law_261 rfl
theorem r_MLa_law_261n {l0 l1 l3 : Value} : Rr X d MLa_law 261 [l0, l1, .null, l3] st h = Rr X d MLa_law 262 [l0, l1, .null, l3] (.null :: st) h := Rr_nx d_MLa_law_261 rfl
theorem r_MLa_law_262 {l1 l2 l3 : Value} {x : Nat} : Rr X d MLa_law 262 [.ref x, l1, l2, l3] st h = Rr X d MLa_law 263 [.ref x, l1, l2, l3] (.ref x :: st) h := Rr_nx d_MLa_law_262 rfl
theorem r_MLa_law_262f {l1 l2 l3 : Value} {x : UInt32} : Rr X d MLa_law 262 [.float x, l1, l2, l3] st h = Rr X d MLa_law 263 [.float x, l1, l2, l3] (.float x :: st) h := Rr_nx d_MLa_law_262 rfl
theorem r_MLa_law_263 {l0 l1 l2 : Value} {x : Int32} : Rr X d MLa_law 263 [l0, l1, l2, .int x] st h = Rr X d MLa_law 264 [l0, l1, l2, .int x] (.int x :: st) h := Rr_nx d_MLa_law_263 rfl
theorem r_MLa_law_264 : Rr X d MLa_law 264 L st h = Rr X d MLa_law 265 L (.int (1) :: st) h := Rr_nx d_MLa_law_264 rfl
theorem r_MLa_law_265 {x y : Int32} : Rr X d MLa_law 265 L (.int y :: .int x :: st) h = Rr X d MLa_law 266 L (.int (x + y) :: st) h := Rr_nx d_MLa_law_265 rfl
theorem r_MLa_law_266 {a : Nat} {j : Int32} (hq : (qA a 0).isSome = true) : Rr X d MLa_law 266 L (.int j :: .ref a :: st) (Wd mu la ro et) = if j < 0 ∨ qAd a 0 ≤ j.toNatClampNeg then none else Rr X d MLa_law 267 L (.int (mu a j.toNatClampNeg) :: st) (Wd mu la ro et) := R_ialW d_MLa_law_266 hq
theorem r_MLa_law_266f {n : Nat} {f : Nat → Int32} {j : Int32} : Rr (XS n f) d MLa_law 266 L (.int j :: .float 0 :: st) h = if j < 0 ∨ n ≤ j.toNatClampNeg then none else Rr (XS n f) d MLa_law 267 L (.int (f j.toNatClampNeg) :: st) h := R_ialS d_MLa_law_266
theorem r_MLa_law_267 {l1 l2 l3 : Value} {x : Nat} : Rr X d MLa_law 267 [.ref x, l1, l2, l3] st h = Rr X d MLa_law 268 [.ref x, l1, l2, l3] (.ref x :: st) h := Rr_nx d_MLa_law_267 rfl
theorem r_MLa_law_267f {l1 l2 l3 : Value} {x : UInt32} : Rr X d MLa_law 267 [.float x, l1, l2, l3] st h = Rr X d MLa_law 268 [.float x, l1, l2, l3] (.float x :: st) h := Rr_nx d_MLa_law_267 rfl
theorem r_MLa_law_268 {l0 l1 l2 : Value} {x : Int32} : Rr X d MLa_law 268 [l0, l1, l2, .int x] st h = Rr X d MLa_law 269 [l0, l1, l2, .int x] (.int x :: st) h := Rr_nx d_MLa_law_268 rfl
theorem r_MLa_law_269 : Rr X d MLa_law 269 L st h = Rr X d MLa_law 270 L (.int (2) :: st) h := Rr_nx d_MLa_law_269 rfl
theorem r_MLa_law_270 {x y : Int32} : Rr X d MLa_law 270 L (.int y :: .int x :: st) h = Rr X d MLa_law 271 L (.int (x + y) :: st) h := Rr_nx d_MLa_law_270 rfl
theorem r_MLa_law_271 {a : Nat} {j : Int32} (hq : (qA a 0).isSome = true) : Rr X d MLa_law 271 L (.int j :: .ref a :: st) (Wd mu la ro et) = if j < 0 ∨ qAd a 0 ≤ j.toNatClampNeg then none else Rr X d MLa_law 272 L (.int (mu a j.toNatClampNeg) :: st) (Wd mu la ro et) := R_ialW d_MLa_law_271 hq
theorem r_MLa_law_271f {n : Nat} {f : Nat → Int32} {j : Int32} : Rr (XS n f) d MLa_law 271 L (.int j :: .float 0 :: st) h = if j < 0 ∨ n ≤ j.toNatClampNeg then none else Rr (XS n f) d MLa_law 272 L (.int (f j.toNatClampNeg) :: st) h := R_ialS d_MLa_law_271
theorem fc_11_26 : fC 11 26 = some (0, 10, 2, MRm_of) := rfl
theorem r_MLa_law_272 {y0 : Int32} {y1 : Int32} {a : Nat} (hO : qO a 10 = true) (hc : ckS st = true) : Rr X (d + 1) MLa_law 272 L (.int y1 :: .int y0 :: .ref a :: st) (Wd mu la ro et) = (Rr X d MRm_of 0 [.ref a, .int y0, .int y1] [] (Wd mu la ro et)).bind fun q => Rr X (d + 1) MLa_law 275 L (psh q.1 st) q.2 := R_iv (av := [.int y1, .int y0]) d_MLa_law_272 fc_11_26 hO (ckS_le hc) rfl (Nat.le_of_ble_eq_true rfl) (Nat.le_of_ble_eq_true rfl)
theorem r_MLa_law_275 {x : Int32} : Rr X d MLa_law 275 L (.int x :: st) h = Rr X d MLa_law 276 L st h := Rr_nx d_MLa_law_275 rfl
theorem r_MLa_law_276 : Rr X d MLa_law 276 L st h = Rr X d MLa_law 1544 L st h := R_goto d_MLa_law_276 (by decide)
theorem r_MLa_law_279 {l0 l2 l3 : Value} {x : Nat} : Rr X d MLa_law 279 [l0, .ref x, l2, l3] st h = Rr X d MLa_law 280 [l0, .ref x, l2, l3] (.ref x :: st) h := Rr_nx d_MLa_law_279 rfl
theorem r_MLa_law_279n {l0 l2 l3 : Value} : Rr X d MLa_law 279 [l0, .null, l2, l3] st h = Rr X d MLa_law 280 [l0, .null, l2, l3] (.null :: st) h := Rr_nx d_MLa_law_279 rfl
theorem r_MLa_law_280 {l1 l2 l3 : Value} {x : Nat} : Rr X d MLa_law 280 [.ref x, l1, l2, l3] st h = Rr X d MLa_law 281 [.ref x, l1, l2, l3] (.ref x :: st) h := Rr_nx d_MLa_law_280 rfl
theorem r_MLa_law_280f {l1 l2 l3 : Value} {x : UInt32} : Rr X d MLa_law 280 [.float x, l1, l2, l3] st h = Rr X d MLa_law 281 [.float x, l1, l2, l3] (.float x :: st) h := Rr_nx d_MLa_law_280 rfl
theorem r_MLa_law_281 {l0 l1 l2 : Value} {x : Int32} : Rr X d MLa_law 281 [l0, l1, l2, .int x] st h = Rr X d MLa_law 282 [l0, l1, l2, .int x] (.int x :: st) h := Rr_nx d_MLa_law_281 rfl
theorem r_MLa_law_282 : Rr X d MLa_law 282 L st h = Rr X d MLa_law 283 L (.int (1) :: st) h := Rr_nx d_MLa_law_282 rfl
theorem r_MLa_law_283 {x y : Int32} : Rr X d MLa_law 283 L (.int y :: .int x :: st) h = Rr X d MLa_law 284 L (.int (x + y) :: st) h := Rr_nx d_MLa_law_283 rfl
theorem r_MLa_law_284 {a : Nat} {j : Int32} (hq : (qA a 0).isSome = true) : Rr X d MLa_law 284 L (.int j :: .ref a :: st) (Wd mu la ro et) = if j < 0 ∨ qAd a 0 ≤ j.toNatClampNeg then none else Rr X d MLa_law 285 L (.int (mu a j.toNatClampNeg) :: st) (Wd mu la ro et) := R_ialW d_MLa_law_284 hq
theorem r_MLa_law_284f {n : Nat} {f : Nat → Int32} {j : Int32} : Rr (XS n f) d MLa_law 284 L (.int j :: .float 0 :: st) h = if j < 0 ∨ n ≤ j.toNatClampNeg then none else Rr (XS n f) d MLa_law 285 L (.int (f j.toNatClampNeg) :: st) h := R_ialS d_MLa_law_284
theorem r_MLa_law_285 {l1 l2 l3 : Value} {x : Nat} : Rr X d MLa_law 285 [.ref x, l1, l2, l3] st h = Rr X d MLa_law 286 [.ref x, l1, l2, l3] (.ref x :: st) h := Rr_nx d_MLa_law_285 rfl
theorem r_MLa_law_285f {l1 l2 l3 : Value} {x : UInt32} : Rr X d MLa_law 285 [.float x, l1, l2, l3] st h = Rr X d MLa_law 286 [.float x, l1, l2, l3] (.float x :: st) h := Rr_nx d_MLa_law_285 rfl
theorem r_MLa_law_286 {l0 l1 l2 : Value} {x : Int32} : Rr X d MLa_law 286 [l0, l1, l2, .int x] st h = Rr X d MLa_law 287 [l0, l1, l2, .int x] (.int x :: st) h := Rr_nx d_MLa_law_286 rfl
theorem r_MLa_law_287 : Rr X d MLa_law 287 L st h = Rr X d MLa_law 288 L (.int (2) :: st) h := Rr_nx d_MLa_law_287 rfl
theorem r_MLa_law_288 {x y : Int32} : Rr X d MLa_law 288 L (.int y :: .int x :: st) h = Rr X d MLa_law 289 L (.int (x + y) :: st) h := Rr_nx d_MLa_law_288 rfl
theorem r_MLa_law_289 {a : Nat} {j : Int32} (hq : (qA a 0).isSome = true) : Rr X d MLa_law 289 L (.int j :: .ref a :: st) (Wd mu la ro et) = if j < 0 ∨ qAd a 0 ≤ j.toNatClampNeg then none else Rr X d MLa_law 290 L (.int (mu a j.toNatClampNeg) :: st) (Wd mu la ro et) := R_ialW d_MLa_law_289 hq
theorem r_MLa_law_289f {n : Nat} {f : Nat → Int32} {j : Int32} : Rr (XS n f) d MLa_law 289 L (.int j :: .float 0 :: st) h = if j < 0 ∨ n ≤ j.toNatClampNeg then none else Rr (XS n f) d MLa_law 290 L (.int (f j.toNatClampNeg) :: st) h := R_ialS d_MLa_law_289
theorem r_MLa_law_290 {l1 l2 l3 : Value} {x : Nat} : Rr X d MLa_law 290 [.ref x, l1, l2, l3] st h = Rr X d MLa_law 291 [.ref x, l1, l2, l3] (.ref x :: st) h := Rr_nx d_MLa_law_290 rfl
theorem r_MLa_law_290f {l1 l2 l3 : Value} {x : UInt32} : Rr X d MLa_law 290 [.float x, l1, l2, l3] st h = Rr X d MLa_law 291 [.float x, l1, l2, l3] (.float x :: st) h := Rr_nx d_MLa_law_290 rfl
theorem r_MLa_law_291 {l0 l1 l2 : Value} {x : Int32} : Rr X d MLa_law 291 [l0, l1, l2, .int x] st h = Rr X d MLa_law 292 [l0, l1, l2, .int x] (.int x :: st) h := Rr_nx d_MLa_law_291 rfl
theorem r_MLa_law_292 : Rr X d MLa_law 292 L st h = Rr X d MLa_law 293 L (.int (3) :: st) h := Rr_nx d_MLa_law_292 rfl
theorem r_MLa_law_293 {x y : Int32} : Rr X d MLa_law 293 L (.int y :: .int x :: st) h = Rr X d MLa_law 294 L (.int (x + y) :: st) h := Rr_nx d_MLa_law_293 rfl
theorem r_MLa_law_294 {a : Nat} {j : Int32} (hq : (qA a 0).isSome = true) : Rr X d MLa_law 294 L (.int j :: .ref a :: st) (Wd mu la ro et) = if j < 0 ∨ qAd a 0 ≤ j.toNatClampNeg then none else Rr X d MLa_law 295 L (.int (mu a j.toNatClampNeg) :: st) (Wd mu la ro et) := R_ialW d_MLa_law_294 hq
theorem r_MLa_law_294f {n : Nat} {f : Nat → Int32} {j : Int32} : Rr (XS n f) d MLa_law 294 L (.int j :: .float 0 :: st) h = if j < 0 ∨ n ≤ j.toNatClampNeg then none else Rr (XS n f) d MLa_law 295 L (.int (f j.toNatClampNeg) :: st) h := R_ialS d_MLa_law_294
theorem fc_11_27 : fC 11 27 = some (0, 9, 3, MTo_lump) := rfl
theorem r_MLa_law_295 {y0 : Int32} {y1 : Int32} {y2 : Int32} {a : Nat} (hO : qO a 9 = true) (hc : ckS st = true) : Rr X (d + 1) MLa_law 295 L (.int y2 :: .int y1 :: .int y0 :: .ref a :: st) (Wd mu la ro et) = (Rr X d MTo_lump 0 [.ref a, .int y0, .int y1, .int y2, mkU] [] (Wd mu la ro et)).bind fun q => Rr X (d + 1) MLa_law 298 L (psh q.1 st) q.2 := R_iv (av := [.int y2, .int y1, .int y0]) d_MLa_law_295 fc_11_27 hO (ckS_le hc) rfl (Nat.le_of_ble_eq_true rfl) (Nat.le_of_ble_eq_true rfl)
theorem r_MLa_law_298 {x : Int32} : Rr X d MLa_law 298 L (.int x :: st) h = Rr X d MLa_law 299 L st h := Rr_nx d_MLa_law_298 rfl
theorem r_MLa_law_299 {l0 l1 l3 : Value} {x : Nat} : Rr X d MLa_law 299 [l0, l1, .ref x, l3] st h = Rr X d MLa_law 300 [l0, l1, .ref x, l3] (.ref x :: st) h := Rr_nx d_MLa_law_299 rfl
theorem r_MLa_law_299n {l0 l1 l3 : Value} : Rr X d MLa_law 299 [l0, l1, .null, l3] st h = Rr X d MLa_law 300 [l0, l1, .null, l3] (.null :: st) h := Rr_nx d_MLa_law_299 rfl
theorem r_MLa_law_300 {l1 l2 l3 : Value} {x : Nat} : Rr X d MLa_law 300 [.ref x, l1, l2, l3] st h = Rr X d MLa_law 301 [.ref x, l1, l2, l3] (.ref x :: st) h := Rr_nx d_MLa_law_300 rfl
theorem r_MLa_law_300f {l1 l2 l3 : Value} {x : UInt32} : Rr X d MLa_law 300 [.float x, l1, l2, l3] st h = Rr X d MLa_law 301 [.float x, l1, l2, l3] (.float x :: st) h := Rr_nx d_MLa_law_300 rfl
theorem r_MLa_law_301 {l0 l1 l2 : Value} {x : Int32} : Rr X d MLa_law 301 [l0, l1, l2, .int x] st h = Rr X d MLa_law 302 [l0, l1, l2, .int x] (.int x :: st) h := Rr_nx d_MLa_law_301 rfl
theorem r_MLa_law_302 : Rr X d MLa_law 302 L st h = Rr X d MLa_law 303 L (.int (1) :: st) h := Rr_nx d_MLa_law_302 rfl
theorem r_MLa_law_303 {x y : Int32} : Rr X d MLa_law 303 L (.int y :: .int x :: st) h = Rr X d MLa_law 304 L (.int (x + y) :: st) h := Rr_nx d_MLa_law_303 rfl
theorem r_MLa_law_304 {a : Nat} {j : Int32} (hq : (qA a 0).isSome = true) : Rr X d MLa_law 304 L (.int j :: .ref a :: st) (Wd mu la ro et) = if j < 0 ∨ qAd a 0 ≤ j.toNatClampNeg then none else Rr X d MLa_law 305 L (.int (mu a j.toNatClampNeg) :: st) (Wd mu la ro et) := R_ialW d_MLa_law_304 hq
theorem r_MLa_law_304f {n : Nat} {f : Nat → Int32} {j : Int32} : Rr (XS n f) d MLa_law 304 L (.int j :: .float 0 :: st) h = if j < 0 ∨ n ≤ j.toNatClampNeg then none else Rr (XS n f) d MLa_law 305 L (.int (f j.toNatClampNeg) :: st) h := R_ialS d_MLa_law_304
theorem r_MLa_law_305 {l1 l2 l3 : Value} {x : Nat} : Rr X d MLa_law 305 [.ref x, l1, l2, l3] st h = Rr X d MLa_law 306 [.ref x, l1, l2, l3] (.ref x :: st) h := Rr_nx d_MLa_law_305 rfl
theorem r_MLa_law_305f {l1 l2 l3 : Value} {x : UInt32} : Rr X d MLa_law 305 [.float x, l1, l2, l3] st h = Rr X d MLa_law 306 [.float x, l1, l2, l3] (.float x :: st) h := Rr_nx d_MLa_law_305 rfl
theorem r_MLa_law_306 {l0 l1 l2 : Value} {x : Int32} : Rr X d MLa_law 306 [l0, l1, l2, .int x] st h = Rr X d MLa_law 307 [l0, l1, l2, .int x] (.int x :: st) h := Rr_nx d_MLa_law_306 rfl
theorem r_MLa_law_307 : Rr X d MLa_law 307 L st h = Rr X d MLa_law 308 L (.int (2) :: st) h := Rr_nx d_MLa_law_307 rfl
theorem r_MLa_law_308 {x y : Int32} : Rr X d MLa_law 308 L (.int y :: .int x :: st) h = Rr X d MLa_law 309 L (.int (x + y) :: st) h := Rr_nx d_MLa_law_308 rfl
theorem r_MLa_law_309 {a : Nat} {j : Int32} (hq : (qA a 0).isSome = true) : Rr X d MLa_law 309 L (.int j :: .ref a :: st) (Wd mu la ro et) = if j < 0 ∨ qAd a 0 ≤ j.toNatClampNeg then none else Rr X d MLa_law 310 L (.int (mu a j.toNatClampNeg) :: st) (Wd mu la ro et) := R_ialW d_MLa_law_309 hq
theorem r_MLa_law_309f {n : Nat} {f : Nat → Int32} {j : Int32} : Rr (XS n f) d MLa_law 309 L (.int j :: .float 0 :: st) h = if j < 0 ∨ n ≤ j.toNatClampNeg then none else Rr (XS n f) d MLa_law 310 L (.int (f j.toNatClampNeg) :: st) h := R_ialS d_MLa_law_309
theorem r_MLa_law_310 {l1 l2 l3 : Value} {x : Nat} : Rr X d MLa_law 310 [.ref x, l1, l2, l3] st h = Rr X d MLa_law 311 [.ref x, l1, l2, l3] (.ref x :: st) h := Rr_nx d_MLa_law_310 rfl
theorem r_MLa_law_310f {l1 l2 l3 : Value} {x : UInt32} : Rr X d MLa_law 310 [.float x, l1, l2, l3] st h = Rr X d MLa_law 311 [.float x, l1, l2, l3] (.float x :: st) h := Rr_nx d_MLa_law_310 rfl
theorem r_MLa_law_311 {l0 l1 l2 : Value} {x : Int32} : Rr X d MLa_law 311 [l0, l1, l2, .int x] st h = Rr X d MLa_law 312 [l0, l1, l2, .int x] (.int x :: st) h := Rr_nx d_MLa_law_311 rfl
theorem r_MLa_law_312 : Rr X d MLa_law 312 L st h = Rr X d MLa_law 313 L (.int (3) :: st) h := Rr_nx d_MLa_law_312 rfl
theorem r_MLa_law_313 {x y : Int32} : Rr X d MLa_law 313 L (.int y :: .int x :: st) h = Rr X d MLa_law 314 L (.int (x + y) :: st) h := Rr_nx d_MLa_law_313 rfl
theorem r_MLa_law_314 {a : Nat} {j : Int32} (hq : (qA a 0).isSome = true) : Rr X d MLa_law 314 L (.int j :: .ref a :: st) (Wd mu la ro et) = if j < 0 ∨ qAd a 0 ≤ j.toNatClampNeg then none else Rr X d MLa_law 315 L (.int (mu a j.toNatClampNeg) :: st) (Wd mu la ro et) := R_ialW d_MLa_law_314 hq
theorem r_MLa_law_314f {n : Nat} {f : Nat → Int32} {j : Int32} : Rr (XS n f) d MLa_law 314 L (.int j :: .float 0 :: st) h = if j < 0 ∨ n ≤ j.toNatClampNeg then none else Rr (XS n f) d MLa_law 315 L (.int (f j.toNatClampNeg) :: st) h := R_ialS d_MLa_law_314
theorem fc_11_31 : fC 11 31 = some (0, 10, 3, MRm_lump) := rfl
theorem r_MLa_law_315 {y0 : Int32} {y1 : Int32} {y2 : Int32} {a : Nat} (hO : qO a 10 = true) (hc : ckS st = true) : Rr X (d + 1) MLa_law 315 L (.int y2 :: .int y1 :: .int y0 :: .ref a :: st) (Wd mu la ro et) = (Rr X d MRm_lump 0 [.ref a, .int y0, .int y1, .int y2, mkU] [] (Wd mu la ro et)).bind fun q => Rr X (d + 1) MLa_law 318 L (psh q.1 st) q.2 := R_iv (av := [.int y2, .int y1, .int y0]) d_MLa_law_315 fc_11_31 hO (ckS_le hc) rfl (Nat.le_of_ble_eq_true rfl) (Nat.le_of_ble_eq_true rfl)
theorem r_MLa_law_318 {x : Int32} : Rr X d MLa_law 318 L (.int x :: st) h = Rr X d MLa_law 319 L st h := Rr_nx d_MLa_law_318 rfl
theorem r_MLa_law_319 : Rr X d MLa_law 319 L st h = Rr X d MLa_law 1544 L st h := R_goto d_MLa_law_319 (by decide)
theorem r_MLa_law_322 {l0 l2 l3 : Value} {x : Nat} : Rr X d MLa_law 322 [l0, .ref x, l2, l3] st h = Rr X d MLa_law 323 [l0, .ref x, l2, l3] (.ref x :: st) h := Rr_nx d_MLa_law_322 rfl
theorem r_MLa_law_322n {l0 l2 l3 : Value} : Rr X d MLa_law 322 [l0, .null, l2, l3] st h = Rr X d MLa_law 323 [l0, .null, l2, l3] (.null :: st) h := Rr_nx d_MLa_law_322 rfl
theorem r_MLa_law_323 {l1 l2 l3 : Value} {x : Nat} : Rr X d MLa_law 323 [.ref x, l1, l2, l3] st h = Rr X d MLa_law 324 [.ref x, l1, l2, l3] (.ref x :: st) h := Rr_nx d_MLa_law_323 rfl
theorem r_MLa_law_323f {l1 l2 l3 : Value} {x : UInt32} : Rr X d MLa_law 323 [.float x, l1, l2, l3] st h = Rr X d MLa_law 324 [.float x, l1, l2, l3] (.float x :: st) h := Rr_nx d_MLa_law_323 rfl
theorem r_MLa_law_324 {l0 l1 l2 : Value} {x : Int32} : Rr X d MLa_law 324 [l0, l1, l2, .int x] st h = Rr X d MLa_law 325 [l0, l1, l2, .int x] (.int x :: st) h := Rr_nx d_MLa_law_324 rfl
theorem r_MLa_law_325 : Rr X d MLa_law 325 L st h = Rr X d MLa_law 326 L (.int (1) :: st) h := Rr_nx d_MLa_law_325 rfl
theorem r_MLa_law_326 {x y : Int32} : Rr X d MLa_law 326 L (.int y :: .int x :: st) h = Rr X d MLa_law 327 L (.int (x + y) :: st) h := Rr_nx d_MLa_law_326 rfl
theorem r_MLa_law_327 {a : Nat} {j : Int32} (hq : (qA a 0).isSome = true) : Rr X d MLa_law 327 L (.int j :: .ref a :: st) (Wd mu la ro et) = if j < 0 ∨ qAd a 0 ≤ j.toNatClampNeg then none else Rr X d MLa_law 328 L (.int (mu a j.toNatClampNeg) :: st) (Wd mu la ro et) := R_ialW d_MLa_law_327 hq
theorem r_MLa_law_327f {n : Nat} {f : Nat → Int32} {j : Int32} : Rr (XS n f) d MLa_law 327 L (.int j :: .float 0 :: st) h = if j < 0 ∨ n ≤ j.toNatClampNeg then none else Rr (XS n f) d MLa_law 328 L (.int (f j.toNatClampNeg) :: st) h := R_ialS d_MLa_law_327
theorem r_MLa_law_328 {l1 l2 l3 : Value} {x : Nat} : Rr X d MLa_law 328 [.ref x, l1, l2, l3] st h = Rr X d MLa_law 329 [.ref x, l1, l2, l3] (.ref x :: st) h := Rr_nx d_MLa_law_328 rfl
theorem r_MLa_law_328f {l1 l2 l3 : Value} {x : UInt32} : Rr X d MLa_law 328 [.float x, l1, l2, l3] st h = Rr X d MLa_law 329 [.float x, l1, l2, l3] (.float x :: st) h := Rr_nx d_MLa_law_328 rfl
theorem r_MLa_law_329 {l0 l1 l2 : Value} {x : Int32} : Rr X d MLa_law 329 [l0, l1, l2, .int x] st h = Rr X d MLa_law 330 [l0, l1, l2, .int x] (.int x :: st) h := Rr_nx d_MLa_law_329 rfl
theorem r_MLa_law_330 : Rr X d MLa_law 330 L st h = Rr X d MLa_law 331 L (.int (2) :: st) h := Rr_nx d_MLa_law_330 rfl
theorem r_MLa_law_331 {x y : Int32} : Rr X d MLa_law 331 L (.int y :: .int x :: st) h = Rr X d MLa_law 332 L (.int (x + y) :: st) h := Rr_nx d_MLa_law_331 rfl
theorem r_MLa_law_332 {a : Nat} {j : Int32} (hq : (qA a 0).isSome = true) : Rr X d MLa_law 332 L (.int j :: .ref a :: st) (Wd mu la ro et) = if j < 0 ∨ qAd a 0 ≤ j.toNatClampNeg then none else Rr X d MLa_law 333 L (.int (mu a j.toNatClampNeg) :: st) (Wd mu la ro et) := R_ialW d_MLa_law_332 hq
theorem r_MLa_law_332f {n : Nat} {f : Nat → Int32} {j : Int32} : Rr (XS n f) d MLa_law 332 L (.int j :: .float 0 :: st) h = if j < 0 ∨ n ≤ j.toNatClampNeg then none else Rr (XS n f) d MLa_law 333 L (.int (f j.toNatClampNeg) :: st) h := R_ialS d_MLa_law_332
theorem r_MLa_law_333 {l1 l2 l3 : Value} {x : Nat} : Rr X d MLa_law 333 [.ref x, l1, l2, l3] st h = Rr X d MLa_law 334 [.ref x, l1, l2, l3] (.ref x :: st) h := Rr_nx d_MLa_law_333 rfl
theorem r_MLa_law_333f {l1 l2 l3 : Value} {x : UInt32} : Rr X d MLa_law 333 [.float x, l1, l2, l3] st h = Rr X d MLa_law 334 [.float x, l1, l2, l3] (.float x :: st) h := Rr_nx d_MLa_law_333 rfl
theorem r_MLa_law_334 {l0 l1 l2 : Value} {x : Int32} : Rr X d MLa_law 334 [l0, l1, l2, .int x] st h = Rr X d MLa_law 335 [l0, l1, l2, .int x] (.int x :: st) h := Rr_nx d_MLa_law_334 rfl
theorem r_MLa_law_335 : Rr X d MLa_law 335 L st h = Rr X d MLa_law 336 L (.int (3) :: st) h := Rr_nx d_MLa_law_335 rfl
theorem r_MLa_law_336 {x y : Int32} : Rr X d MLa_law 336 L (.int y :: .int x :: st) h = Rr X d MLa_law 337 L (.int (x + y) :: st) h := Rr_nx d_MLa_law_336 rfl
theorem r_MLa_law_337 {a : Nat} {j : Int32} (hq : (qA a 0).isSome = true) : Rr X d MLa_law 337 L (.int j :: .ref a :: st) (Wd mu la ro et) = if j < 0 ∨ qAd a 0 ≤ j.toNatClampNeg then none else Rr X d MLa_law 338 L (.int (mu a j.toNatClampNeg) :: st) (Wd mu la ro et) := R_ialW d_MLa_law_337 hq
theorem r_MLa_law_337f {n : Nat} {f : Nat → Int32} {j : Int32} : Rr (XS n f) d MLa_law 337 L (.int j :: .float 0 :: st) h = if j < 0 ∨ n ≤ j.toNatClampNeg then none else Rr (XS n f) d MLa_law 338 L (.int (f j.toNatClampNeg) :: st) h := R_ialS d_MLa_law_337
theorem fc_11_32 : fC 11 32 = some (0, 9, 3, MTo_set) := rfl
theorem r_MLa_law_338 {y0 : Int32} {y1 : Int32} {y2 : Int32} {a : Nat} (hO : qO a 9 = true) (hc : ckS st = true) : Rr X (d + 1) MLa_law 338 L (.int y2 :: .int y1 :: .int y0 :: .ref a :: st) (Wd mu la ro et) = (Rr X d MTo_set 0 [.ref a, .int y0, .int y1, .int y2, mkU, mkU] [] (Wd mu la ro et)).bind fun q => Rr X (d + 1) MLa_law 341 L (psh q.1 st) q.2 := R_iv (av := [.int y2, .int y1, .int y0]) d_MLa_law_338 fc_11_32 hO (ckS_le hc) rfl (Nat.le_of_ble_eq_true rfl) (Nat.le_of_ble_eq_true rfl)
theorem r_MLa_law_341 {x : Int32} : Rr X d MLa_law 341 L (.int x :: st) h = Rr X d MLa_law 342 L st h := Rr_nx d_MLa_law_341 rfl
theorem r_MLa_law_342 {l0 l1 l3 : Value} {x : Nat} : Rr X d MLa_law 342 [l0, l1, .ref x, l3] st h = Rr X d MLa_law 343 [l0, l1, .ref x, l3] (.ref x :: st) h := Rr_nx d_MLa_law_342 rfl
theorem r_MLa_law_342n {l0 l1 l3 : Value} : Rr X d MLa_law 342 [l0, l1, .null, l3] st h = Rr X d MLa_law 343 [l0, l1, .null, l3] (.null :: st) h := Rr_nx d_MLa_law_342 rfl
theorem r_MLa_law_343 {l1 l2 l3 : Value} {x : Nat} : Rr X d MLa_law 343 [.ref x, l1, l2, l3] st h = Rr X d MLa_law 344 [.ref x, l1, l2, l3] (.ref x :: st) h := Rr_nx d_MLa_law_343 rfl
theorem r_MLa_law_343f {l1 l2 l3 : Value} {x : UInt32} : Rr X d MLa_law 343 [.float x, l1, l2, l3] st h = Rr X d MLa_law 344 [.float x, l1, l2, l3] (.float x :: st) h := Rr_nx d_MLa_law_343 rfl
theorem r_MLa_law_344 {l0 l1 l2 : Value} {x : Int32} : Rr X d MLa_law 344 [l0, l1, l2, .int x] st h = Rr X d MLa_law 345 [l0, l1, l2, .int x] (.int x :: st) h := Rr_nx d_MLa_law_344 rfl
theorem r_MLa_law_345 : Rr X d MLa_law 345 L st h = Rr X d MLa_law 346 L (.int (1) :: st) h := Rr_nx d_MLa_law_345 rfl
theorem r_MLa_law_346 {x y : Int32} : Rr X d MLa_law 346 L (.int y :: .int x :: st) h = Rr X d MLa_law 347 L (.int (x + y) :: st) h := Rr_nx d_MLa_law_346 rfl
theorem r_MLa_law_347 {a : Nat} {j : Int32} (hq : (qA a 0).isSome = true) : Rr X d MLa_law 347 L (.int j :: .ref a :: st) (Wd mu la ro et) = if j < 0 ∨ qAd a 0 ≤ j.toNatClampNeg then none else Rr X d MLa_law 348 L (.int (mu a j.toNatClampNeg) :: st) (Wd mu la ro et) := R_ialW d_MLa_law_347 hq
theorem r_MLa_law_347f {n : Nat} {f : Nat → Int32} {j : Int32} : Rr (XS n f) d MLa_law 347 L (.int j :: .float 0 :: st) h = if j < 0 ∨ n ≤ j.toNatClampNeg then none else Rr (XS n f) d MLa_law 348 L (.int (f j.toNatClampNeg) :: st) h := R_ialS d_MLa_law_347
theorem r_MLa_law_348 {l1 l2 l3 : Value} {x : Nat} : Rr X d MLa_law 348 [.ref x, l1, l2, l3] st h = Rr X d MLa_law 349 [.ref x, l1, l2, l3] (.ref x :: st) h := Rr_nx d_MLa_law_348 rfl
theorem r_MLa_law_348f {l1 l2 l3 : Value} {x : UInt32} : Rr X d MLa_law 348 [.float x, l1, l2, l3] st h = Rr X d MLa_law 349 [.float x, l1, l2, l3] (.float x :: st) h := Rr_nx d_MLa_law_348 rfl
theorem r_MLa_law_349 {l0 l1 l2 : Value} {x : Int32} : Rr X d MLa_law 349 [l0, l1, l2, .int x] st h = Rr X d MLa_law 350 [l0, l1, l2, .int x] (.int x :: st) h := Rr_nx d_MLa_law_349 rfl
theorem r_MLa_law_350 : Rr X d MLa_law 350 L st h = Rr X d MLa_law 351 L (.int (2) :: st) h := Rr_nx d_MLa_law_350 rfl
theorem r_MLa_law_351 {x y : Int32} : Rr X d MLa_law 351 L (.int y :: .int x :: st) h = Rr X d MLa_law 352 L (.int (x + y) :: st) h := Rr_nx d_MLa_law_351 rfl
theorem r_MLa_law_352 {a : Nat} {j : Int32} (hq : (qA a 0).isSome = true) : Rr X d MLa_law 352 L (.int j :: .ref a :: st) (Wd mu la ro et) = if j < 0 ∨ qAd a 0 ≤ j.toNatClampNeg then none else Rr X d MLa_law 353 L (.int (mu a j.toNatClampNeg) :: st) (Wd mu la ro et) := R_ialW d_MLa_law_352 hq
theorem r_MLa_law_352f {n : Nat} {f : Nat → Int32} {j : Int32} : Rr (XS n f) d MLa_law 352 L (.int j :: .float 0 :: st) h = if j < 0 ∨ n ≤ j.toNatClampNeg then none else Rr (XS n f) d MLa_law 353 L (.int (f j.toNatClampNeg) :: st) h := R_ialS d_MLa_law_352
theorem r_MLa_law_353 {l1 l2 l3 : Value} {x : Nat} : Rr X d MLa_law 353 [.ref x, l1, l2, l3] st h = Rr X d MLa_law 354 [.ref x, l1, l2, l3] (.ref x :: st) h := Rr_nx d_MLa_law_353 rfl
theorem r_MLa_law_353f {l1 l2 l3 : Value} {x : UInt32} : Rr X d MLa_law 353 [.float x, l1, l2, l3] st h = Rr X d MLa_law 354 [.float x, l1, l2, l3] (.float x :: st) h := Rr_nx d_MLa_law_353 rfl
theorem r_MLa_law_354 {l0 l1 l2 : Value} {x : Int32} : Rr X d MLa_law 354 [l0, l1, l2, .int x] st h = Rr X d MLa_law 355 [l0, l1, l2, .int x] (.int x :: st) h := Rr_nx d_MLa_law_354 rfl
theorem r_MLa_law_355 : Rr X d MLa_law 355 L st h = Rr X d MLa_law 356 L (.int (3) :: st) h := Rr_nx d_MLa_law_355 rfl
theorem r_MLa_law_356 {x y : Int32} : Rr X d MLa_law 356 L (.int y :: .int x :: st) h = Rr X d MLa_law 357 L (.int (x + y) :: st) h := Rr_nx d_MLa_law_356 rfl
theorem r_MLa_law_357 {a : Nat} {j : Int32} (hq : (qA a 0).isSome = true) : Rr X d MLa_law 357 L (.int j :: .ref a :: st) (Wd mu la ro et) = if j < 0 ∨ qAd a 0 ≤ j.toNatClampNeg then none else Rr X d MLa_law 358 L (.int (mu a j.toNatClampNeg) :: st) (Wd mu la ro et) := R_ialW d_MLa_law_357 hq
theorem r_MLa_law_357f {n : Nat} {f : Nat → Int32} {j : Int32} : Rr (XS n f) d MLa_law 357 L (.int j :: .float 0 :: st) h = if j < 0 ∨ n ≤ j.toNatClampNeg then none else Rr (XS n f) d MLa_law 358 L (.int (f j.toNatClampNeg) :: st) h := R_ialS d_MLa_law_357
theorem fc_11_35 : fC 11 35 = some (0, 10, 3, MRm_set) := rfl
theorem r_MLa_law_358 {y0 : Int32} {y1 : Int32} {y2 : Int32} {a : Nat} (hO : qO a 10 = true) (hc : ckS st = true) : Rr X (d + 1) MLa_law 358 L (.int y2 :: .int y1 :: .int y0 :: .ref a :: st) (Wd mu la ro et) = (Rr X d MRm_set 0 [.ref a, .int y0, .int y1, .int y2] [] (Wd mu la ro et)).bind fun q => Rr X (d + 1) MLa_law 361 L (psh q.1 st) q.2 := R_iv (av := [.int y2, .int y1, .int y0]) d_MLa_law_358 fc_11_35 hO (ckS_le hc) rfl (Nat.le_of_ble_eq_true rfl) (Nat.le_of_ble_eq_true rfl)
theorem r_MLa_law_361 {x : Int32} : Rr X d MLa_law 361 L (.int x :: st) h = Rr X d MLa_law 362 L st h := Rr_nx d_MLa_law_361 rfl
theorem r_MLa_law_362 : Rr X d MLa_law 362 L st h = Rr X d MLa_law 1544 L st h := R_goto d_MLa_law_362 (by decide)
theorem r_MLa_law_365 {l0 l2 l3 : Value} {x : Nat} : Rr X d MLa_law 365 [l0, .ref x, l2, l3] st h = Rr X d MLa_law 366 [l0, .ref x, l2, l3] (.ref x :: st) h := Rr_nx d_MLa_law_365 rfl
theorem r_MLa_law_365n {l0 l2 l3 : Value} : Rr X d MLa_law 365 [l0, .null, l2, l3] st h = Rr X d MLa_law 366 [l0, .null, l2, l3] (.null :: st) h := Rr_nx d_MLa_law_365 rfl
theorem fc_11_36 : fC 11 36 = some (0, 9, 0, MTo_floor) := rfl
theorem r_MLa_law_366 {a : Nat} (hO : qO a 9 = true) (hc : ckS st = true) : Rr X (d + 1) MLa_law 366 L (.ref a :: st) (Wd mu la ro et) = (Rr X d MTo_floor 0 [.ref a, mkU] [] (Wd mu la ro et)).bind fun q => Rr X (d + 1) MLa_law 369 L (psh q.1 st) q.2 := R_iv (av := []) d_MLa_law_366 fc_11_36 hO (ckS_le hc) rfl (Nat.le_of_ble_eq_true rfl) (Nat.le_of_ble_eq_true rfl)
theorem r_MLa_law_369 {x : Int32} : Rr X d MLa_law 369 L (.int x :: st) h = Rr X d MLa_law 370 L st h := Rr_nx d_MLa_law_369 rfl
theorem r_MLa_law_370 {l0 l1 l3 : Value} {x : Nat} : Rr X d MLa_law 370 [l0, l1, .ref x, l3] st h = Rr X d MLa_law 371 [l0, l1, .ref x, l3] (.ref x :: st) h := Rr_nx d_MLa_law_370 rfl
theorem r_MLa_law_370n {l0 l1 l3 : Value} : Rr X d MLa_law 370 [l0, l1, .null, l3] st h = Rr X d MLa_law 371 [l0, l1, .null, l3] (.null :: st) h := Rr_nx d_MLa_law_370 rfl
theorem fc_11_39 : fC 11 39 = some (0, 10, 0, MRm_floor) := rfl
theorem r_MLa_law_371 {a : Nat} (hO : qO a 10 = true) (hc : ckS st = true) : Rr X (d + 1) MLa_law 371 L (.ref a :: st) (Wd mu la ro et) = (Rr X d MRm_floor 0 [.ref a, mkU] [] (Wd mu la ro et)).bind fun q => Rr X (d + 1) MLa_law 374 L (psh q.1 st) q.2 := R_iv (av := []) d_MLa_law_371 fc_11_39 hO (ckS_le hc) rfl (Nat.le_of_ble_eq_true rfl) (Nat.le_of_ble_eq_true rfl)
theorem r_MLa_law_374 {x : Int32} : Rr X d MLa_law 374 L (.int x :: st) h = Rr X d MLa_law 375 L st h := Rr_nx d_MLa_law_374 rfl
theorem r_MLa_law_375 : Rr X d MLa_law 375 L st h = Rr X d MLa_law 1544 L st h := R_goto d_MLa_law_375 (by decide)
theorem r_MLa_law_378 {l0 l2 l3 : Value} {x : Nat} : Rr X d MLa_law 378 [l0, .ref x, l2, l3] st h = Rr X d MLa_law 379 [l0, .ref x, l2, l3] (.ref x :: st) h := Rr_nx d_MLa_law_378 rfl
theorem r_MLa_law_378n {l0 l2 l3 : Value} : Rr X d MLa_law 378 [l0, .null, l2, l3] st h = Rr X d MLa_law 379 [l0, .null, l2, l3] (.null :: st) h := Rr_nx d_MLa_law_378 rfl
theorem r_MLa_law_379 {l1 l2 l3 : Value} {x : Nat} : Rr X d MLa_law 379 [.ref x, l1, l2, l3] st h = Rr X d MLa_law 380 [.ref x, l1, l2, l3] (.ref x :: st) h := Rr_nx d_MLa_law_379 rfl
theorem r_MLa_law_379f {l1 l2 l3 : Value} {x : UInt32} : Rr X d MLa_law 379 [.float x, l1, l2, l3] st h = Rr X d MLa_law 380 [.float x, l1, l2, l3] (.float x :: st) h := Rr_nx d_MLa_law_379 rfl
theorem r_MLa_law_380 {l0 l1 l2 : Value} {x : Int32} : Rr X d MLa_law 380 [l0, l1, l2, .int x] st h = Rr X d MLa_law 381 [l0, l1, l2, .int x] (.int x :: st) h := Rr_nx d_MLa_law_380 rfl
theorem r_MLa_law_381 : Rr X d MLa_law 381 L st h = Rr X d MLa_law 382 L (.int (1) :: st) h := Rr_nx d_MLa_law_381 rfl
theorem r_MLa_law_382 {x y : Int32} : Rr X d MLa_law 382 L (.int y :: .int x :: st) h = Rr X d MLa_law 383 L (.int (x + y) :: st) h := Rr_nx d_MLa_law_382 rfl
theorem r_MLa_law_383 {a : Nat} {j : Int32} (hq : (qA a 0).isSome = true) : Rr X d MLa_law 383 L (.int j :: .ref a :: st) (Wd mu la ro et) = if j < 0 ∨ qAd a 0 ≤ j.toNatClampNeg then none else Rr X d MLa_law 384 L (.int (mu a j.toNatClampNeg) :: st) (Wd mu la ro et) := R_ialW d_MLa_law_383 hq
theorem r_MLa_law_383f {n : Nat} {f : Nat → Int32} {j : Int32} : Rr (XS n f) d MLa_law 383 L (.int j :: .float 0 :: st) h = if j < 0 ∨ n ≤ j.toNatClampNeg then none else Rr (XS n f) d MLa_law 384 L (.int (f j.toNatClampNeg) :: st) h := R_ialS d_MLa_law_383
theorem r_MLa_law_384 {l1 l2 l3 : Value} {x : Nat} : Rr X d MLa_law 384 [.ref x, l1, l2, l3] st h = Rr X d MLa_law 385 [.ref x, l1, l2, l3] (.ref x :: st) h := Rr_nx d_MLa_law_384 rfl
theorem r_MLa_law_384f {l1 l2 l3 : Value} {x : UInt32} : Rr X d MLa_law 384 [.float x, l1, l2, l3] st h = Rr X d MLa_law 385 [.float x, l1, l2, l3] (.float x :: st) h := Rr_nx d_MLa_law_384 rfl
theorem r_MLa_law_385 {l0 l1 l2 : Value} {x : Int32} : Rr X d MLa_law 385 [l0, l1, l2, .int x] st h = Rr X d MLa_law 386 [l0, l1, l2, .int x] (.int x :: st) h := Rr_nx d_MLa_law_385 rfl
theorem r_MLa_law_386 : Rr X d MLa_law 386 L st h = Rr X d MLa_law 387 L (.int (2) :: st) h := Rr_nx d_MLa_law_386 rfl
theorem r_MLa_law_387 {x y : Int32} : Rr X d MLa_law 387 L (.int y :: .int x :: st) h = Rr X d MLa_law 388 L (.int (x + y) :: st) h := Rr_nx d_MLa_law_387 rfl
theorem r_MLa_law_388 {a : Nat} {j : Int32} (hq : (qA a 0).isSome = true) : Rr X d MLa_law 388 L (.int j :: .ref a :: st) (Wd mu la ro et) = if j < 0 ∨ qAd a 0 ≤ j.toNatClampNeg then none else Rr X d MLa_law 389 L (.int (mu a j.toNatClampNeg) :: st) (Wd mu la ro et) := R_ialW d_MLa_law_388 hq
theorem r_MLa_law_388f {n : Nat} {f : Nat → Int32} {j : Int32} : Rr (XS n f) d MLa_law 388 L (.int j :: .float 0 :: st) h = if j < 0 ∨ n ≤ j.toNatClampNeg then none else Rr (XS n f) d MLa_law 389 L (.int (f j.toNatClampNeg) :: st) h := R_ialS d_MLa_law_388
theorem fc_11_40 : fC 11 40 = some (0, 9, 2, MTo_grows) := rfl
theorem r_MLa_law_389 {y0 : Int32} {y1 : Int32} {a : Nat} (hO : qO a 9 = true) (hc : ckS st = true) : Rr X (d + 1) MLa_law 389 L (.int y1 :: .int y0 :: .ref a :: st) (Wd mu la ro et) = (Rr X d MTo_grows 0 [.ref a, .int y0, .int y1, mkU, mkU] [] (Wd mu la ro et)).bind fun q => Rr X (d + 1) MLa_law 392 L (psh q.1 st) q.2 := R_iv (av := [.int y1, .int y0]) d_MLa_law_389 fc_11_40 hO (ckS_le hc) rfl (Nat.le_of_ble_eq_true rfl) (Nat.le_of_ble_eq_true rfl)
theorem r_MLa_law_392 {x : Int32} : Rr X d MLa_law 392 L (.int x :: st) h = Rr X d MLa_law 393 L st h := Rr_nx d_MLa_law_392 rfl
theorem r_MLa_law_393 {l0 l1 l3 : Value} {x : Nat} : Rr X d MLa_law 393 [l0, l1, .ref x, l3] st h = Rr X d MLa_law 394 [l0, l1, .ref x, l3] (.ref x :: st) h := Rr_nx d_MLa_law_393 rfl
theorem r_MLa_law_393n {l0 l1 l3 : Value} : Rr X d MLa_law 393 [l0, l1, .null, l3] st h = Rr X d MLa_law 394 [l0, l1, .null, l3] (.null :: st) h := Rr_nx d_MLa_law_393 rfl
theorem r_MLa_law_394 {l1 l2 l3 : Value} {x : Nat} : Rr X d MLa_law 394 [.ref x, l1, l2, l3] st h = Rr X d MLa_law 395 [.ref x, l1, l2, l3] (.ref x :: st) h := Rr_nx d_MLa_law_394 rfl
theorem r_MLa_law_394f {l1 l2 l3 : Value} {x : UInt32} : Rr X d MLa_law 394 [.float x, l1, l2, l3] st h = Rr X d MLa_law 395 [.float x, l1, l2, l3] (.float x :: st) h := Rr_nx d_MLa_law_394 rfl
theorem r_MLa_law_395 {l0 l1 l2 : Value} {x : Int32} : Rr X d MLa_law 395 [l0, l1, l2, .int x] st h = Rr X d MLa_law 396 [l0, l1, l2, .int x] (.int x :: st) h := Rr_nx d_MLa_law_395 rfl
theorem r_MLa_law_396 : Rr X d MLa_law 396 L st h = Rr X d MLa_law 397 L (.int (1) :: st) h := Rr_nx d_MLa_law_396 rfl
theorem r_MLa_law_397 {x y : Int32} : Rr X d MLa_law 397 L (.int y :: .int x :: st) h = Rr X d MLa_law 398 L (.int (x + y) :: st) h := Rr_nx d_MLa_law_397 rfl
theorem r_MLa_law_398 {a : Nat} {j : Int32} (hq : (qA a 0).isSome = true) : Rr X d MLa_law 398 L (.int j :: .ref a :: st) (Wd mu la ro et) = if j < 0 ∨ qAd a 0 ≤ j.toNatClampNeg then none else Rr X d MLa_law 399 L (.int (mu a j.toNatClampNeg) :: st) (Wd mu la ro et) := R_ialW d_MLa_law_398 hq
theorem r_MLa_law_398f {n : Nat} {f : Nat → Int32} {j : Int32} : Rr (XS n f) d MLa_law 398 L (.int j :: .float 0 :: st) h = if j < 0 ∨ n ≤ j.toNatClampNeg then none else Rr (XS n f) d MLa_law 399 L (.int (f j.toNatClampNeg) :: st) h := R_ialS d_MLa_law_398
theorem r_MLa_law_399 {l1 l2 l3 : Value} {x : Nat} : Rr X d MLa_law 399 [.ref x, l1, l2, l3] st h = Rr X d MLa_law 400 [.ref x, l1, l2, l3] (.ref x :: st) h := Rr_nx d_MLa_law_399 rfl
theorem r_MLa_law_399f {l1 l2 l3 : Value} {x : UInt32} : Rr X d MLa_law 399 [.float x, l1, l2, l3] st h = Rr X d MLa_law 400 [.float x, l1, l2, l3] (.float x :: st) h := Rr_nx d_MLa_law_399 rfl
theorem r_MLa_law_400 {l0 l1 l2 : Value} {x : Int32} : Rr X d MLa_law 400 [l0, l1, l2, .int x] st h = Rr X d MLa_law 401 [l0, l1, l2, .int x] (.int x :: st) h := Rr_nx d_MLa_law_400 rfl
theorem r_MLa_law_401 : Rr X d MLa_law 401 L st h = Rr X d MLa_law 402 L (.int (2) :: st) h := Rr_nx d_MLa_law_401 rfl
theorem r_MLa_law_402 {x y : Int32} : Rr X d MLa_law 402 L (.int y :: .int x :: st) h = Rr X d MLa_law 403 L (.int (x + y) :: st) h := Rr_nx d_MLa_law_402 rfl
theorem r_MLa_law_403 {a : Nat} {j : Int32} (hq : (qA a 0).isSome = true) : Rr X d MLa_law 403 L (.int j :: .ref a :: st) (Wd mu la ro et) = if j < 0 ∨ qAd a 0 ≤ j.toNatClampNeg then none else Rr X d MLa_law 404 L (.int (mu a j.toNatClampNeg) :: st) (Wd mu la ro et) := R_ialW d_MLa_law_403 hq
theorem r_MLa_law_403f {n : Nat} {f : Nat → Int32} {j : Int32} : Rr (XS n f) d MLa_law 403 L (.int j :: .float 0 :: st) h = if j < 0 ∨ n ≤ j.toNatClampNeg then none else Rr (XS n f) d MLa_law 404 L (.int (f j.toNatClampNeg) :: st) h := R_ialS d_MLa_law_403
theorem fc_11_43 : fC 11 43 = some (0, 10, 2, MRm_grows) := rfl
theorem r_MLa_law_404 {y0 : Int32} {y1 : Int32} {a : Nat} (hO : qO a 10 = true) (hc : ckS st = true) : Rr X (d + 1) MLa_law 404 L (.int y1 :: .int y0 :: .ref a :: st) (Wd mu la ro et) = (Rr X d MRm_grows 0 [.ref a, .int y0, .int y1, mkU] [] (Wd mu la ro et)).bind fun q => Rr X (d + 1) MLa_law 407 L (psh q.1 st) q.2 := R_iv (av := [.int y1, .int y0]) d_MLa_law_404 fc_11_43 hO (ckS_le hc) rfl (Nat.le_of_ble_eq_true rfl) (Nat.le_of_ble_eq_true rfl)
theorem r_MLa_law_407 {x : Int32} : Rr X d MLa_law 407 L (.int x :: st) h = Rr X d MLa_law 408 L st h := Rr_nx d_MLa_law_407 rfl
theorem r_MLa_law_408 : Rr X d MLa_law 408 L st h = Rr X d MLa_law 1544 L st h := R_goto d_MLa_law_408 (by decide)
theorem r_MLa_law_411 {l0 l2 l3 : Value} {x : Nat} : Rr X d MLa_law 411 [l0, .ref x, l2, l3] st h = Rr X d MLa_law 412 [l0, .ref x, l2, l3] (.ref x :: st) h := Rr_nx d_MLa_law_411 rfl
theorem r_MLa_law_411n {l0 l2 l3 : Value} : Rr X d MLa_law 411 [l0, .null, l2, l3] st h = Rr X d MLa_law 412 [l0, .null, l2, l3] (.null :: st) h := Rr_nx d_MLa_law_411 rfl
theorem r_MLa_law_412 {l1 l2 l3 : Value} {x : Nat} : Rr X d MLa_law 412 [.ref x, l1, l2, l3] st h = Rr X d MLa_law 413 [.ref x, l1, l2, l3] (.ref x :: st) h := Rr_nx d_MLa_law_412 rfl
theorem r_MLa_law_412f {l1 l2 l3 : Value} {x : UInt32} : Rr X d MLa_law 412 [.float x, l1, l2, l3] st h = Rr X d MLa_law 413 [.float x, l1, l2, l3] (.float x :: st) h := Rr_nx d_MLa_law_412 rfl
theorem r_MLa_law_413 {l0 l1 l2 : Value} {x : Int32} : Rr X d MLa_law 413 [l0, l1, l2, .int x] st h = Rr X d MLa_law 414 [l0, l1, l2, .int x] (.int x :: st) h := Rr_nx d_MLa_law_413 rfl
theorem r_MLa_law_414 : Rr X d MLa_law 414 L st h = Rr X d MLa_law 415 L (.int (1) :: st) h := Rr_nx d_MLa_law_414 rfl
theorem r_MLa_law_415 {x y : Int32} : Rr X d MLa_law 415 L (.int y :: .int x :: st) h = Rr X d MLa_law 416 L (.int (x + y) :: st) h := Rr_nx d_MLa_law_415 rfl
theorem r_MLa_law_416 {a : Nat} {j : Int32} (hq : (qA a 0).isSome = true) : Rr X d MLa_law 416 L (.int j :: .ref a :: st) (Wd mu la ro et) = if j < 0 ∨ qAd a 0 ≤ j.toNatClampNeg then none else Rr X d MLa_law 417 L (.int (mu a j.toNatClampNeg) :: st) (Wd mu la ro et) := R_ialW d_MLa_law_416 hq
theorem r_MLa_law_416f {n : Nat} {f : Nat → Int32} {j : Int32} : Rr (XS n f) d MLa_law 416 L (.int j :: .float 0 :: st) h = if j < 0 ∨ n ≤ j.toNatClampNeg then none else Rr (XS n f) d MLa_law 417 L (.int (f j.toNatClampNeg) :: st) h := R_ialS d_MLa_law_416
theorem r_MLa_law_417 {l1 l2 l3 : Value} {x : Nat} : Rr X d MLa_law 417 [.ref x, l1, l2, l3] st h = Rr X d MLa_law 418 [.ref x, l1, l2, l3] (.ref x :: st) h := Rr_nx d_MLa_law_417 rfl
theorem r_MLa_law_417f {l1 l2 l3 : Value} {x : UInt32} : Rr X d MLa_law 417 [.float x, l1, l2, l3] st h = Rr X d MLa_law 418 [.float x, l1, l2, l3] (.float x :: st) h := Rr_nx d_MLa_law_417 rfl
theorem r_MLa_law_418 {l0 l1 l2 : Value} {x : Int32} : Rr X d MLa_law 418 [l0, l1, l2, .int x] st h = Rr X d MLa_law 419 [l0, l1, l2, .int x] (.int x :: st) h := Rr_nx d_MLa_law_418 rfl
theorem r_MLa_law_419 : Rr X d MLa_law 419 L st h = Rr X d MLa_law 420 L (.int (2) :: st) h := Rr_nx d_MLa_law_419 rfl
theorem r_MLa_law_420 {x y : Int32} : Rr X d MLa_law 420 L (.int y :: .int x :: st) h = Rr X d MLa_law 421 L (.int (x + y) :: st) h := Rr_nx d_MLa_law_420 rfl
theorem r_MLa_law_421 {a : Nat} {j : Int32} (hq : (qA a 0).isSome = true) : Rr X d MLa_law 421 L (.int j :: .ref a :: st) (Wd mu la ro et) = if j < 0 ∨ qAd a 0 ≤ j.toNatClampNeg then none else Rr X d MLa_law 422 L (.int (mu a j.toNatClampNeg) :: st) (Wd mu la ro et) := R_ialW d_MLa_law_421 hq
theorem r_MLa_law_421f {n : Nat} {f : Nat → Int32} {j : Int32} : Rr (XS n f) d MLa_law 421 L (.int j :: .float 0 :: st) h = if j < 0 ∨ n ≤ j.toNatClampNeg then none else Rr (XS n f) d MLa_law 422 L (.int (f j.toNatClampNeg) :: st) h := R_ialS d_MLa_law_421
theorem r_MLa_law_422 {l1 l2 l3 : Value} {x : Nat} : Rr X d MLa_law 422 [.ref x, l1, l2, l3] st h = Rr X d MLa_law 423 [.ref x, l1, l2, l3] (.ref x :: st) h := Rr_nx d_MLa_law_422 rfl
theorem r_MLa_law_422f {l1 l2 l3 : Value} {x : UInt32} : Rr X d MLa_law 422 [.float x, l1, l2, l3] st h = Rr X d MLa_law 423 [.float x, l1, l2, l3] (.float x :: st) h := Rr_nx d_MLa_law_422 rfl
theorem r_MLa_law_423 {l0 l1 l2 : Value} {x : Int32} : Rr X d MLa_law 423 [l0, l1, l2, .int x] st h = Rr X d MLa_law 424 [l0, l1, l2, .int x] (.int x :: st) h := Rr_nx d_MLa_law_423 rfl
theorem r_MLa_law_424 : Rr X d MLa_law 424 L st h = Rr X d MLa_law 425 L (.int (3) :: st) h := Rr_nx d_MLa_law_424 rfl
theorem r_MLa_law_425 {x y : Int32} : Rr X d MLa_law 425 L (.int y :: .int x :: st) h = Rr X d MLa_law 426 L (.int (x + y) :: st) h := Rr_nx d_MLa_law_425 rfl
theorem r_MLa_law_426 {a : Nat} {j : Int32} (hq : (qA a 0).isSome = true) : Rr X d MLa_law 426 L (.int j :: .ref a :: st) (Wd mu la ro et) = if j < 0 ∨ qAd a 0 ≤ j.toNatClampNeg then none else Rr X d MLa_law 427 L (.int (mu a j.toNatClampNeg) :: st) (Wd mu la ro et) := R_ialW d_MLa_law_426 hq
theorem r_MLa_law_426f {n : Nat} {f : Nat → Int32} {j : Int32} : Rr (XS n f) d MLa_law 426 L (.int j :: .float 0 :: st) h = if j < 0 ∨ n ≤ j.toNatClampNeg then none else Rr (XS n f) d MLa_law 427 L (.int (f j.toNatClampNeg) :: st) h := R_ialS d_MLa_law_426
theorem r_MLa_law_427 {l1 l2 l3 : Value} {x : Nat} : Rr X d MLa_law 427 [.ref x, l1, l2, l3] st h = Rr X d MLa_law 428 [.ref x, l1, l2, l3] (.ref x :: st) h := Rr_nx d_MLa_law_427 rfl
theorem r_MLa_law_427f {l1 l2 l3 : Value} {x : UInt32} : Rr X d MLa_law 427 [.float x, l1, l2, l3] st h = Rr X d MLa_law 428 [.float x, l1, l2, l3] (.float x :: st) h := Rr_nx d_MLa_law_427 rfl
theorem r_MLa_law_428 {l0 l1 l2 : Value} {x : Int32} : Rr X d MLa_law 428 [l0, l1, l2, .int x] st h = Rr X d MLa_law 429 [l0, l1, l2, .int x] (.int x :: st) h := Rr_nx d_MLa_law_428 rfl
theorem r_MLa_law_429 : Rr X d MLa_law 429 L st h = Rr X d MLa_law 430 L (.int (4) :: st) h := Rr_nx d_MLa_law_429 rfl
theorem r_MLa_law_430 {x y : Int32} : Rr X d MLa_law 430 L (.int y :: .int x :: st) h = Rr X d MLa_law 431 L (.int (x + y) :: st) h := Rr_nx d_MLa_law_430 rfl
theorem r_MLa_law_431 {a : Nat} {j : Int32} (hq : (qA a 0).isSome = true) : Rr X d MLa_law 431 L (.int j :: .ref a :: st) (Wd mu la ro et) = if j < 0 ∨ qAd a 0 ≤ j.toNatClampNeg then none else Rr X d MLa_law 432 L (.int (mu a j.toNatClampNeg) :: st) (Wd mu la ro et) := R_ialW d_MLa_law_431 hq
theorem r_MLa_law_431f {n : Nat} {f : Nat → Int32} {j : Int32} : Rr (XS n f) d MLa_law 431 L (.int j :: .float 0 :: st) h = if j < 0 ∨ n ≤ j.toNatClampNeg then none else Rr (XS n f) d MLa_law 432 L (.int (f j.toNatClampNeg) :: st) h := R_ialS d_MLa_law_431
theorem fc_11_44 : fC 11 44 = some (0, 9, 4, MTo_roll) := rfl
theorem r_MLa_law_432 {y0 : Int32} {y1 : Int32} {y2 : Int32} {y3 : Int32} {a : Nat} (hO : qO a 9 = true) (hc : ckS st = true) : Rr X (d + 1) MLa_law 432 L (.int y3 :: .int y2 :: .int y1 :: .int y0 :: .ref a :: st) (Wd mu la ro et) = (Rr X d MTo_roll 0 [.ref a, .int y0, .int y1, .int y2, .int y3] [] (Wd mu la ro et)).bind fun q => Rr X (d + 1) MLa_law 435 L (psh q.1 st) q.2 := R_iv (av := [.int y3, .int y2, .int y1, .int y0]) d_MLa_law_432 fc_11_44 hO (ckS_le hc) rfl (Nat.le_of_ble_eq_true rfl) (Nat.le_of_ble_eq_true rfl)
theorem r_MLa_law_435 {x : Int32} : Rr X d MLa_law 435 L (.int x :: st) h = Rr X d MLa_law 436 L st h := Rr_nx d_MLa_law_435 rfl
theorem r_MLa_law_436 {l0 l1 l3 : Value} {x : Nat} : Rr X d MLa_law 436 [l0, l1, .ref x, l3] st h = Rr X d MLa_law 437 [l0, l1, .ref x, l3] (.ref x :: st) h := Rr_nx d_MLa_law_436 rfl
theorem r_MLa_law_436n {l0 l1 l3 : Value} : Rr X d MLa_law 436 [l0, l1, .null, l3] st h = Rr X d MLa_law 437 [l0, l1, .null, l3] (.null :: st) h := Rr_nx d_MLa_law_436 rfl
theorem r_MLa_law_437 {l1 l2 l3 : Value} {x : Nat} : Rr X d MLa_law 437 [.ref x, l1, l2, l3] st h = Rr X d MLa_law 438 [.ref x, l1, l2, l3] (.ref x :: st) h := Rr_nx d_MLa_law_437 rfl
theorem r_MLa_law_437f {l1 l2 l3 : Value} {x : UInt32} : Rr X d MLa_law 437 [.float x, l1, l2, l3] st h = Rr X d MLa_law 438 [.float x, l1, l2, l3] (.float x :: st) h := Rr_nx d_MLa_law_437 rfl
theorem r_MLa_law_438 {l0 l1 l2 : Value} {x : Int32} : Rr X d MLa_law 438 [l0, l1, l2, .int x] st h = Rr X d MLa_law 439 [l0, l1, l2, .int x] (.int x :: st) h := Rr_nx d_MLa_law_438 rfl
theorem r_MLa_law_439 : Rr X d MLa_law 439 L st h = Rr X d MLa_law 440 L (.int (1) :: st) h := Rr_nx d_MLa_law_439 rfl
theorem r_MLa_law_440 {x y : Int32} : Rr X d MLa_law 440 L (.int y :: .int x :: st) h = Rr X d MLa_law 441 L (.int (x + y) :: st) h := Rr_nx d_MLa_law_440 rfl
theorem r_MLa_law_441 {a : Nat} {j : Int32} (hq : (qA a 0).isSome = true) : Rr X d MLa_law 441 L (.int j :: .ref a :: st) (Wd mu la ro et) = if j < 0 ∨ qAd a 0 ≤ j.toNatClampNeg then none else Rr X d MLa_law 442 L (.int (mu a j.toNatClampNeg) :: st) (Wd mu la ro et) := R_ialW d_MLa_law_441 hq
theorem r_MLa_law_441f {n : Nat} {f : Nat → Int32} {j : Int32} : Rr (XS n f) d MLa_law 441 L (.int j :: .float 0 :: st) h = if j < 0 ∨ n ≤ j.toNatClampNeg then none else Rr (XS n f) d MLa_law 442 L (.int (f j.toNatClampNeg) :: st) h := R_ialS d_MLa_law_441
theorem r_MLa_law_442 {l1 l2 l3 : Value} {x : Nat} : Rr X d MLa_law 442 [.ref x, l1, l2, l3] st h = Rr X d MLa_law 443 [.ref x, l1, l2, l3] (.ref x :: st) h := Rr_nx d_MLa_law_442 rfl
theorem r_MLa_law_442f {l1 l2 l3 : Value} {x : UInt32} : Rr X d MLa_law 442 [.float x, l1, l2, l3] st h = Rr X d MLa_law 443 [.float x, l1, l2, l3] (.float x :: st) h := Rr_nx d_MLa_law_442 rfl
theorem r_MLa_law_443 {l0 l1 l2 : Value} {x : Int32} : Rr X d MLa_law 443 [l0, l1, l2, .int x] st h = Rr X d MLa_law 444 [l0, l1, l2, .int x] (.int x :: st) h := Rr_nx d_MLa_law_443 rfl
theorem r_MLa_law_444 : Rr X d MLa_law 444 L st h = Rr X d MLa_law 445 L (.int (2) :: st) h := Rr_nx d_MLa_law_444 rfl
theorem r_MLa_law_445 {x y : Int32} : Rr X d MLa_law 445 L (.int y :: .int x :: st) h = Rr X d MLa_law 446 L (.int (x + y) :: st) h := Rr_nx d_MLa_law_445 rfl
theorem r_MLa_law_446 {a : Nat} {j : Int32} (hq : (qA a 0).isSome = true) : Rr X d MLa_law 446 L (.int j :: .ref a :: st) (Wd mu la ro et) = if j < 0 ∨ qAd a 0 ≤ j.toNatClampNeg then none else Rr X d MLa_law 447 L (.int (mu a j.toNatClampNeg) :: st) (Wd mu la ro et) := R_ialW d_MLa_law_446 hq
theorem r_MLa_law_446f {n : Nat} {f : Nat → Int32} {j : Int32} : Rr (XS n f) d MLa_law 446 L (.int j :: .float 0 :: st) h = if j < 0 ∨ n ≤ j.toNatClampNeg then none else Rr (XS n f) d MLa_law 447 L (.int (f j.toNatClampNeg) :: st) h := R_ialS d_MLa_law_446
theorem r_MLa_law_447 {l1 l2 l3 : Value} {x : Nat} : Rr X d MLa_law 447 [.ref x, l1, l2, l3] st h = Rr X d MLa_law 448 [.ref x, l1, l2, l3] (.ref x :: st) h := Rr_nx d_MLa_law_447 rfl
theorem r_MLa_law_447f {l1 l2 l3 : Value} {x : UInt32} : Rr X d MLa_law 447 [.float x, l1, l2, l3] st h = Rr X d MLa_law 448 [.float x, l1, l2, l3] (.float x :: st) h := Rr_nx d_MLa_law_447 rfl
theorem r_MLa_law_448 {l0 l1 l2 : Value} {x : Int32} : Rr X d MLa_law 448 [l0, l1, l2, .int x] st h = Rr X d MLa_law 449 [l0, l1, l2, .int x] (.int x :: st) h := Rr_nx d_MLa_law_448 rfl
theorem r_MLa_law_449 : Rr X d MLa_law 449 L st h = Rr X d MLa_law 450 L (.int (3) :: st) h := Rr_nx d_MLa_law_449 rfl
theorem r_MLa_law_450 {x y : Int32} : Rr X d MLa_law 450 L (.int y :: .int x :: st) h = Rr X d MLa_law 451 L (.int (x + y) :: st) h := Rr_nx d_MLa_law_450 rfl
theorem r_MLa_law_451 {a : Nat} {j : Int32} (hq : (qA a 0).isSome = true) : Rr X d MLa_law 451 L (.int j :: .ref a :: st) (Wd mu la ro et) = if j < 0 ∨ qAd a 0 ≤ j.toNatClampNeg then none else Rr X d MLa_law 452 L (.int (mu a j.toNatClampNeg) :: st) (Wd mu la ro et) := R_ialW d_MLa_law_451 hq
theorem r_MLa_law_451f {n : Nat} {f : Nat → Int32} {j : Int32} : Rr (XS n f) d MLa_law 451 L (.int j :: .float 0 :: st) h = if j < 0 ∨ n ≤ j.toNatClampNeg then none else Rr (XS n f) d MLa_law 452 L (.int (f j.toNatClampNeg) :: st) h := R_ialS d_MLa_law_451
theorem r_MLa_law_452 {l1 l2 l3 : Value} {x : Nat} : Rr X d MLa_law 452 [.ref x, l1, l2, l3] st h = Rr X d MLa_law 453 [.ref x, l1, l2, l3] (.ref x :: st) h := Rr_nx d_MLa_law_452 rfl
theorem r_MLa_law_452f {l1 l2 l3 : Value} {x : UInt32} : Rr X d MLa_law 452 [.float x, l1, l2, l3] st h = Rr X d MLa_law 453 [.float x, l1, l2, l3] (.float x :: st) h := Rr_nx d_MLa_law_452 rfl
theorem r_MLa_law_453 {l0 l1 l2 : Value} {x : Int32} : Rr X d MLa_law 453 [l0, l1, l2, .int x] st h = Rr X d MLa_law 454 [l0, l1, l2, .int x] (.int x :: st) h := Rr_nx d_MLa_law_453 rfl
theorem r_MLa_law_454 : Rr X d MLa_law 454 L st h = Rr X d MLa_law 455 L (.int (4) :: st) h := Rr_nx d_MLa_law_454 rfl
theorem r_MLa_law_455 {x y : Int32} : Rr X d MLa_law 455 L (.int y :: .int x :: st) h = Rr X d MLa_law 456 L (.int (x + y) :: st) h := Rr_nx d_MLa_law_455 rfl
theorem r_MLa_law_456 {a : Nat} {j : Int32} (hq : (qA a 0).isSome = true) : Rr X d MLa_law 456 L (.int j :: .ref a :: st) (Wd mu la ro et) = if j < 0 ∨ qAd a 0 ≤ j.toNatClampNeg then none else Rr X d MLa_law 457 L (.int (mu a j.toNatClampNeg) :: st) (Wd mu la ro et) := R_ialW d_MLa_law_456 hq
theorem r_MLa_law_456f {n : Nat} {f : Nat → Int32} {j : Int32} : Rr (XS n f) d MLa_law 456 L (.int j :: .float 0 :: st) h = if j < 0 ∨ n ≤ j.toNatClampNeg then none else Rr (XS n f) d MLa_law 457 L (.int (f j.toNatClampNeg) :: st) h := R_ialS d_MLa_law_456
theorem fc_11_48 : fC 11 48 = some (0, 10, 4, MRm_roll) := rfl
theorem r_MLa_law_457 {y0 : Int32} {y1 : Int32} {y2 : Int32} {y3 : Int32} {a : Nat} (hO : qO a 10 = true) (hc : ckS st = true) : Rr X (d + 1) MLa_law 457 L (.int y3 :: .int y2 :: .int y1 :: .int y0 :: .ref a :: st) (Wd mu la ro et) = (Rr X d MRm_roll 0 [.ref a, .int y0, .int y1, .int y2, .int y3, mkU, mkU] [] (Wd mu la ro et)).bind fun q => Rr X (d + 1) MLa_law 460 L (psh q.1 st) q.2 := R_iv (av := [.int y3, .int y2, .int y1, .int y0]) d_MLa_law_457 fc_11_48 hO (ckS_le hc) rfl (Nat.le_of_ble_eq_true rfl) (Nat.le_of_ble_eq_true rfl)
theorem r_MLa_law_460 {x : Int32} : Rr X d MLa_law 460 L (.int x :: st) h = Rr X d MLa_law 461 L st h := Rr_nx d_MLa_law_460 rfl
theorem r_MLa_law_461 : Rr X d MLa_law 461 L st h = Rr X d MLa_law 1544 L st h := R_goto d_MLa_law_461 (by decide)
theorem r_MLa_law_464 {l0 l2 l3 : Value} {x : Nat} : Rr X d MLa_law 464 [l0, .ref x, l2, l3] st h = Rr X d MLa_law 465 [l0, .ref x, l2, l3] (.ref x :: st) h := Rr_nx d_MLa_law_464 rfl
theorem r_MLa_law_464n {l0 l2 l3 : Value} : Rr X d MLa_law 464 [l0, .null, l2, l3] st h = Rr X d MLa_law 465 [l0, .null, l2, l3] (.null :: st) h := Rr_nx d_MLa_law_464 rfl
theorem r_MLa_law_465 {l1 l2 l3 : Value} {x : Nat} : Rr X d MLa_law 465 [.ref x, l1, l2, l3] st h = Rr X d MLa_law 466 [.ref x, l1, l2, l3] (.ref x :: st) h := Rr_nx d_MLa_law_465 rfl
theorem r_MLa_law_465f {l1 l2 l3 : Value} {x : UInt32} : Rr X d MLa_law 465 [.float x, l1, l2, l3] st h = Rr X d MLa_law 466 [.float x, l1, l2, l3] (.float x :: st) h := Rr_nx d_MLa_law_465 rfl
theorem r_MLa_law_466 {l0 l1 l2 : Value} {x : Int32} : Rr X d MLa_law 466 [l0, l1, l2, .int x] st h = Rr X d MLa_law 467 [l0, l1, l2, .int x] (.int x :: st) h := Rr_nx d_MLa_law_466 rfl
theorem r_MLa_law_467 : Rr X d MLa_law 467 L st h = Rr X d MLa_law 468 L (.int (1) :: st) h := Rr_nx d_MLa_law_467 rfl
theorem r_MLa_law_468 {x y : Int32} : Rr X d MLa_law 468 L (.int y :: .int x :: st) h = Rr X d MLa_law 469 L (.int (x + y) :: st) h := Rr_nx d_MLa_law_468 rfl
theorem r_MLa_law_469 {a : Nat} {j : Int32} (hq : (qA a 0).isSome = true) : Rr X d MLa_law 469 L (.int j :: .ref a :: st) (Wd mu la ro et) = if j < 0 ∨ qAd a 0 ≤ j.toNatClampNeg then none else Rr X d MLa_law 470 L (.int (mu a j.toNatClampNeg) :: st) (Wd mu la ro et) := R_ialW d_MLa_law_469 hq
theorem r_MLa_law_469f {n : Nat} {f : Nat → Int32} {j : Int32} : Rr (XS n f) d MLa_law 469 L (.int j :: .float 0 :: st) h = if j < 0 ∨ n ≤ j.toNatClampNeg then none else Rr (XS n f) d MLa_law 470 L (.int (f j.toNatClampNeg) :: st) h := R_ialS d_MLa_law_469
theorem r_MLa_law_470 {l1 l2 l3 : Value} {x : Nat} : Rr X d MLa_law 470 [.ref x, l1, l2, l3] st h = Rr X d MLa_law 471 [.ref x, l1, l2, l3] (.ref x :: st) h := Rr_nx d_MLa_law_470 rfl
theorem r_MLa_law_470f {l1 l2 l3 : Value} {x : UInt32} : Rr X d MLa_law 470 [.float x, l1, l2, l3] st h = Rr X d MLa_law 471 [.float x, l1, l2, l3] (.float x :: st) h := Rr_nx d_MLa_law_470 rfl
theorem r_MLa_law_471 {l0 l1 l2 : Value} {x : Int32} : Rr X d MLa_law 471 [l0, l1, l2, .int x] st h = Rr X d MLa_law 472 [l0, l1, l2, .int x] (.int x :: st) h := Rr_nx d_MLa_law_471 rfl
theorem r_MLa_law_472 : Rr X d MLa_law 472 L st h = Rr X d MLa_law 473 L (.int (2) :: st) h := Rr_nx d_MLa_law_472 rfl
theorem r_MLa_law_473 {x y : Int32} : Rr X d MLa_law 473 L (.int y :: .int x :: st) h = Rr X d MLa_law 474 L (.int (x + y) :: st) h := Rr_nx d_MLa_law_473 rfl
theorem r_MLa_law_474 {a : Nat} {j : Int32} (hq : (qA a 0).isSome = true) : Rr X d MLa_law 474 L (.int j :: .ref a :: st) (Wd mu la ro et) = if j < 0 ∨ qAd a 0 ≤ j.toNatClampNeg then none else Rr X d MLa_law 475 L (.int (mu a j.toNatClampNeg) :: st) (Wd mu la ro et) := R_ialW d_MLa_law_474 hq
theorem r_MLa_law_474f {n : Nat} {f : Nat → Int32} {j : Int32} : Rr (XS n f) d MLa_law 474 L (.int j :: .float 0 :: st) h = if j < 0 ∨ n ≤ j.toNatClampNeg then none else Rr (XS n f) d MLa_law 475 L (.int (f j.toNatClampNeg) :: st) h := R_ialS d_MLa_law_474
theorem fc_11_49 : fC 11 49 = some (0, 9, 2, MTo_going) := rfl
theorem r_MLa_law_475 {y0 : Int32} {y1 : Int32} {a : Nat} (hO : qO a 9 = true) (hc : ckS st = true) : Rr X (d + 1) MLa_law 475 L (.int y1 :: .int y0 :: .ref a :: st) (Wd mu la ro et) = (Rr X d MTo_going 0 [.ref a, .int y0, .int y1] [] (Wd mu la ro et)).bind fun q => Rr X (d + 1) MLa_law 478 L (psh q.1 st) q.2 := R_iv (av := [.int y1, .int y0]) d_MLa_law_475 fc_11_49 hO (ckS_le hc) rfl (Nat.le_of_ble_eq_true rfl) (Nat.le_of_ble_eq_true rfl)
theorem r_MLa_law_478 {x : Int32} : Rr X d MLa_law 478 L (.int x :: st) h = Rr X d MLa_law 479 L st h := Rr_nx d_MLa_law_478 rfl
theorem r_MLa_law_479 {l0 l1 l3 : Value} {x : Nat} : Rr X d MLa_law 479 [l0, l1, .ref x, l3] st h = Rr X d MLa_law 480 [l0, l1, .ref x, l3] (.ref x :: st) h := Rr_nx d_MLa_law_479 rfl
theorem r_MLa_law_479n {l0 l1 l3 : Value} : Rr X d MLa_law 479 [l0, l1, .null, l3] st h = Rr X d MLa_law 480 [l0, l1, .null, l3] (.null :: st) h := Rr_nx d_MLa_law_479 rfl
theorem r_MLa_law_480 {l1 l2 l3 : Value} {x : Nat} : Rr X d MLa_law 480 [.ref x, l1, l2, l3] st h = Rr X d MLa_law 481 [.ref x, l1, l2, l3] (.ref x :: st) h := Rr_nx d_MLa_law_480 rfl
theorem r_MLa_law_480f {l1 l2 l3 : Value} {x : UInt32} : Rr X d MLa_law 480 [.float x, l1, l2, l3] st h = Rr X d MLa_law 481 [.float x, l1, l2, l3] (.float x :: st) h := Rr_nx d_MLa_law_480 rfl
theorem r_MLa_law_481 {l0 l1 l2 : Value} {x : Int32} : Rr X d MLa_law 481 [l0, l1, l2, .int x] st h = Rr X d MLa_law 482 [l0, l1, l2, .int x] (.int x :: st) h := Rr_nx d_MLa_law_481 rfl
theorem r_MLa_law_482 : Rr X d MLa_law 482 L st h = Rr X d MLa_law 483 L (.int (1) :: st) h := Rr_nx d_MLa_law_482 rfl
theorem r_MLa_law_483 {x y : Int32} : Rr X d MLa_law 483 L (.int y :: .int x :: st) h = Rr X d MLa_law 484 L (.int (x + y) :: st) h := Rr_nx d_MLa_law_483 rfl
theorem r_MLa_law_484 {a : Nat} {j : Int32} (hq : (qA a 0).isSome = true) : Rr X d MLa_law 484 L (.int j :: .ref a :: st) (Wd mu la ro et) = if j < 0 ∨ qAd a 0 ≤ j.toNatClampNeg then none else Rr X d MLa_law 485 L (.int (mu a j.toNatClampNeg) :: st) (Wd mu la ro et) := R_ialW d_MLa_law_484 hq
theorem r_MLa_law_484f {n : Nat} {f : Nat → Int32} {j : Int32} : Rr (XS n f) d MLa_law 484 L (.int j :: .float 0 :: st) h = if j < 0 ∨ n ≤ j.toNatClampNeg then none else Rr (XS n f) d MLa_law 485 L (.int (f j.toNatClampNeg) :: st) h := R_ialS d_MLa_law_484
theorem r_MLa_law_485 {l1 l2 l3 : Value} {x : Nat} : Rr X d MLa_law 485 [.ref x, l1, l2, l3] st h = Rr X d MLa_law 486 [.ref x, l1, l2, l3] (.ref x :: st) h := Rr_nx d_MLa_law_485 rfl
theorem r_MLa_law_485f {l1 l2 l3 : Value} {x : UInt32} : Rr X d MLa_law 485 [.float x, l1, l2, l3] st h = Rr X d MLa_law 486 [.float x, l1, l2, l3] (.float x :: st) h := Rr_nx d_MLa_law_485 rfl
theorem r_MLa_law_486 {l0 l1 l2 : Value} {x : Int32} : Rr X d MLa_law 486 [l0, l1, l2, .int x] st h = Rr X d MLa_law 487 [l0, l1, l2, .int x] (.int x :: st) h := Rr_nx d_MLa_law_486 rfl
theorem r_MLa_law_487 : Rr X d MLa_law 487 L st h = Rr X d MLa_law 488 L (.int (2) :: st) h := Rr_nx d_MLa_law_487 rfl
theorem r_MLa_law_488 {x y : Int32} : Rr X d MLa_law 488 L (.int y :: .int x :: st) h = Rr X d MLa_law 489 L (.int (x + y) :: st) h := Rr_nx d_MLa_law_488 rfl
theorem r_MLa_law_489 {a : Nat} {j : Int32} (hq : (qA a 0).isSome = true) : Rr X d MLa_law 489 L (.int j :: .ref a :: st) (Wd mu la ro et) = if j < 0 ∨ qAd a 0 ≤ j.toNatClampNeg then none else Rr X d MLa_law 490 L (.int (mu a j.toNatClampNeg) :: st) (Wd mu la ro et) := R_ialW d_MLa_law_489 hq
theorem r_MLa_law_489f {n : Nat} {f : Nat → Int32} {j : Int32} : Rr (XS n f) d MLa_law 489 L (.int j :: .float 0 :: st) h = if j < 0 ∨ n ≤ j.toNatClampNeg then none else Rr (XS n f) d MLa_law 490 L (.int (f j.toNatClampNeg) :: st) h := R_ialS d_MLa_law_489
theorem fc_11_52 : fC 11 52 = some (0, 10, 2, MRm_going) := rfl
theorem r_MLa_law_490 {y0 : Int32} {y1 : Int32} {a : Nat} (hO : qO a 10 = true) (hc : ckS st = true) : Rr X (d + 1) MLa_law 490 L (.int y1 :: .int y0 :: .ref a :: st) (Wd mu la ro et) = (Rr X d MRm_going 0 [.ref a, .int y0, .int y1] [] (Wd mu la ro et)).bind fun q => Rr X (d + 1) MLa_law 493 L (psh q.1 st) q.2 := R_iv (av := [.int y1, .int y0]) d_MLa_law_490 fc_11_52 hO (ckS_le hc) rfl (Nat.le_of_ble_eq_true rfl) (Nat.le_of_ble_eq_true rfl)
theorem r_MLa_law_493 {x : Int32} : Rr X d MLa_law 493 L (.int x :: st) h = Rr X d MLa_law 494 L st h := Rr_nx d_MLa_law_493 rfl
theorem r_MLa_law_494 : Rr X d MLa_law 494 L st h = Rr X d MLa_law 1544 L st h := R_goto d_MLa_law_494 (by decide)
theorem r_MLa_law_497 {l0 l2 l3 : Value} {x : Nat} : Rr X d MLa_law 497 [l0, .ref x, l2, l3] st h = Rr X d MLa_law 498 [l0, .ref x, l2, l3] (.ref x :: st) h := Rr_nx d_MLa_law_497 rfl
theorem r_MLa_law_497n {l0 l2 l3 : Value} : Rr X d MLa_law 497 [l0, .null, l2, l3] st h = Rr X d MLa_law 498 [l0, .null, l2, l3] (.null :: st) h := Rr_nx d_MLa_law_497 rfl
theorem r_MLa_law_498 {l1 l2 l3 : Value} {x : Nat} : Rr X d MLa_law 498 [.ref x, l1, l2, l3] st h = Rr X d MLa_law 499 [.ref x, l1, l2, l3] (.ref x :: st) h := Rr_nx d_MLa_law_498 rfl
theorem r_MLa_law_498f {l1 l2 l3 : Value} {x : UInt32} : Rr X d MLa_law 498 [.float x, l1, l2, l3] st h = Rr X d MLa_law 499 [.float x, l1, l2, l3] (.float x :: st) h := Rr_nx d_MLa_law_498 rfl
theorem r_MLa_law_499 {l0 l1 l2 : Value} {x : Int32} : Rr X d MLa_law 499 [l0, l1, l2, .int x] st h = Rr X d MLa_law 500 [l0, l1, l2, .int x] (.int x :: st) h := Rr_nx d_MLa_law_499 rfl
theorem r_MLa_law_500 : Rr X d MLa_law 500 L st h = Rr X d MLa_law 501 L (.int (1) :: st) h := Rr_nx d_MLa_law_500 rfl
theorem r_MLa_law_501 {x y : Int32} : Rr X d MLa_law 501 L (.int y :: .int x :: st) h = Rr X d MLa_law 502 L (.int (x + y) :: st) h := Rr_nx d_MLa_law_501 rfl
theorem r_MLa_law_502 {a : Nat} {j : Int32} (hq : (qA a 0).isSome = true) : Rr X d MLa_law 502 L (.int j :: .ref a :: st) (Wd mu la ro et) = if j < 0 ∨ qAd a 0 ≤ j.toNatClampNeg then none else Rr X d MLa_law 503 L (.int (mu a j.toNatClampNeg) :: st) (Wd mu la ro et) := R_ialW d_MLa_law_502 hq
theorem r_MLa_law_502f {n : Nat} {f : Nat → Int32} {j : Int32} : Rr (XS n f) d MLa_law 502 L (.int j :: .float 0 :: st) h = if j < 0 ∨ n ≤ j.toNatClampNeg then none else Rr (XS n f) d MLa_law 503 L (.int (f j.toNatClampNeg) :: st) h := R_ialS d_MLa_law_502
theorem fc_11_53 : fC 11 53 = some (0, 9, 1, MTo_back) := rfl
theorem r_MLa_law_503 {y0 : Int32} {a : Nat} (hO : qO a 9 = true) (hc : ckS st = true) : Rr X (d + 1) MLa_law 503 L (.int y0 :: .ref a :: st) (Wd mu la ro et) = (Rr X d MTo_back 0 [.ref a, .int y0] [] (Wd mu la ro et)).bind fun q => Rr X (d + 1) MLa_law 506 L (psh q.1 st) q.2 := R_iv (av := [.int y0]) d_MLa_law_503 fc_11_53 hO (ckS_le hc) rfl (Nat.le_of_ble_eq_true rfl) (Nat.le_of_ble_eq_true rfl)
theorem r_MLa_law_506 {x : Int32} : Rr X d MLa_law 506 L (.int x :: st) h = Rr X d MLa_law 507 L st h := Rr_nx d_MLa_law_506 rfl
theorem r_MLa_law_507 {l0 l1 l3 : Value} {x : Nat} : Rr X d MLa_law 507 [l0, l1, .ref x, l3] st h = Rr X d MLa_law 508 [l0, l1, .ref x, l3] (.ref x :: st) h := Rr_nx d_MLa_law_507 rfl
theorem r_MLa_law_507n {l0 l1 l3 : Value} : Rr X d MLa_law 507 [l0, l1, .null, l3] st h = Rr X d MLa_law 508 [l0, l1, .null, l3] (.null :: st) h := Rr_nx d_MLa_law_507 rfl
theorem r_MLa_law_508 {l1 l2 l3 : Value} {x : Nat} : Rr X d MLa_law 508 [.ref x, l1, l2, l3] st h = Rr X d MLa_law 509 [.ref x, l1, l2, l3] (.ref x :: st) h := Rr_nx d_MLa_law_508 rfl
theorem r_MLa_law_508f {l1 l2 l3 : Value} {x : UInt32} : Rr X d MLa_law 508 [.float x, l1, l2, l3] st h = Rr X d MLa_law 509 [.float x, l1, l2, l3] (.float x :: st) h := Rr_nx d_MLa_law_508 rfl
theorem r_MLa_law_509 {l0 l1 l2 : Value} {x : Int32} : Rr X d MLa_law 509 [l0, l1, l2, .int x] st h = Rr X d MLa_law 510 [l0, l1, l2, .int x] (.int x :: st) h := Rr_nx d_MLa_law_509 rfl
theorem r_MLa_law_510 : Rr X d MLa_law 510 L st h = Rr X d MLa_law 511 L (.int (1) :: st) h := Rr_nx d_MLa_law_510 rfl
theorem r_MLa_law_511 {x y : Int32} : Rr X d MLa_law 511 L (.int y :: .int x :: st) h = Rr X d MLa_law 512 L (.int (x + y) :: st) h := Rr_nx d_MLa_law_511 rfl
theorem r_MLa_law_512 {a : Nat} {j : Int32} (hq : (qA a 0).isSome = true) : Rr X d MLa_law 512 L (.int j :: .ref a :: st) (Wd mu la ro et) = if j < 0 ∨ qAd a 0 ≤ j.toNatClampNeg then none else Rr X d MLa_law 513 L (.int (mu a j.toNatClampNeg) :: st) (Wd mu la ro et) := R_ialW d_MLa_law_512 hq
theorem r_MLa_law_512f {n : Nat} {f : Nat → Int32} {j : Int32} : Rr (XS n f) d MLa_law 512 L (.int j :: .float 0 :: st) h = if j < 0 ∨ n ≤ j.toNatClampNeg then none else Rr (XS n f) d MLa_law 513 L (.int (f j.toNatClampNeg) :: st) h := R_ialS d_MLa_law_512
theorem fc_11_57 : fC 11 57 = some (0, 10, 1, MRm_back) := rfl
theorem r_MLa_law_513 {y0 : Int32} {a : Nat} (hO : qO a 10 = true) (hc : ckS st = true) : Rr X (d + 1) MLa_law 513 L (.int y0 :: .ref a :: st) (Wd mu la ro et) = (Rr X d MRm_back 0 [.ref a, .int y0, mkU, mkU, mkU, mkU] [] (Wd mu la ro et)).bind fun q => Rr X (d + 1) MLa_law 516 L (psh q.1 st) q.2 := R_iv (av := [.int y0]) d_MLa_law_513 fc_11_57 hO (ckS_le hc) rfl (Nat.le_of_ble_eq_true rfl) (Nat.le_of_ble_eq_true rfl)
theorem r_MLa_law_516 {x : Int32} : Rr X d MLa_law 516 L (.int x :: st) h = Rr X d MLa_law 517 L st h := Rr_nx d_MLa_law_516 rfl
theorem r_MLa_law_517 : Rr X d MLa_law 517 L st h = Rr X d MLa_law 1544 L st h := R_goto d_MLa_law_517 (by decide)
theorem r_MLa_law_520 {l0 l2 l3 : Value} {x : Nat} : Rr X d MLa_law 520 [l0, .ref x, l2, l3] st h = Rr X d MLa_law 521 [l0, .ref x, l2, l3] (.ref x :: st) h := Rr_nx d_MLa_law_520 rfl
theorem r_MLa_law_520n {l0 l2 l3 : Value} : Rr X d MLa_law 520 [l0, .null, l2, l3] st h = Rr X d MLa_law 521 [l0, .null, l2, l3] (.null :: st) h := Rr_nx d_MLa_law_520 rfl
theorem r_MLa_law_521 {l1 l2 l3 : Value} {x : Nat} : Rr X d MLa_law 521 [.ref x, l1, l2, l3] st h = Rr X d MLa_law 522 [.ref x, l1, l2, l3] (.ref x :: st) h := Rr_nx d_MLa_law_521 rfl
theorem r_MLa_law_521f {l1 l2 l3 : Value} {x : UInt32} : Rr X d MLa_law 521 [.float x, l1, l2, l3] st h = Rr X d MLa_law 522 [.float x, l1, l2, l3] (.float x :: st) h := Rr_nx d_MLa_law_521 rfl
theorem r_MLa_law_522 {l0 l1 l2 : Value} {x : Int32} : Rr X d MLa_law 522 [l0, l1, l2, .int x] st h = Rr X d MLa_law 523 [l0, l1, l2, .int x] (.int x :: st) h := Rr_nx d_MLa_law_522 rfl
theorem r_MLa_law_523 : Rr X d MLa_law 523 L st h = Rr X d MLa_law 524 L (.int (1) :: st) h := Rr_nx d_MLa_law_523 rfl
theorem r_MLa_law_524 {x y : Int32} : Rr X d MLa_law 524 L (.int y :: .int x :: st) h = Rr X d MLa_law 525 L (.int (x + y) :: st) h := Rr_nx d_MLa_law_524 rfl
theorem r_MLa_law_525 {a : Nat} {j : Int32} (hq : (qA a 0).isSome = true) : Rr X d MLa_law 525 L (.int j :: .ref a :: st) (Wd mu la ro et) = if j < 0 ∨ qAd a 0 ≤ j.toNatClampNeg then none else Rr X d MLa_law 526 L (.int (mu a j.toNatClampNeg) :: st) (Wd mu la ro et) := R_ialW d_MLa_law_525 hq
theorem r_MLa_law_525f {n : Nat} {f : Nat → Int32} {j : Int32} : Rr (XS n f) d MLa_law 525 L (.int j :: .float 0 :: st) h = if j < 0 ∨ n ≤ j.toNatClampNeg then none else Rr (XS n f) d MLa_law 526 L (.int (f j.toNatClampNeg) :: st) h := R_ialS d_MLa_law_525
theorem fc_11_58 : fC 11 58 = some (0, 9, 1, MTo_told) := rfl
theorem r_MLa_law_526 {y0 : Int32} {a : Nat} (hO : qO a 9 = true) (hc : ckS st = true) : Rr X (d + 1) MLa_law 526 L (.int y0 :: .ref a :: st) (Wd mu la ro et) = (Rr X d MTo_told 0 [.ref a, .int y0] [] (Wd mu la ro et)).bind fun q => Rr X (d + 1) MLa_law 529 L (psh q.1 st) q.2 := R_iv (av := [.int y0]) d_MLa_law_526 fc_11_58 hO (ckS_le hc) rfl (Nat.le_of_ble_eq_true rfl) (Nat.le_of_ble_eq_true rfl)
theorem r_MLa_law_529 {x : Int32} : Rr X d MLa_law 529 L (.int x :: st) h = Rr X d MLa_law 530 L st h := Rr_nx d_MLa_law_529 rfl
theorem r_MLa_law_530 {l0 l1 l3 : Value} {x : Nat} : Rr X d MLa_law 530 [l0, l1, .ref x, l3] st h = Rr X d MLa_law 531 [l0, l1, .ref x, l3] (.ref x :: st) h := Rr_nx d_MLa_law_530 rfl
theorem r_MLa_law_530n {l0 l1 l3 : Value} : Rr X d MLa_law 530 [l0, l1, .null, l3] st h = Rr X d MLa_law 531 [l0, l1, .null, l3] (.null :: st) h := Rr_nx d_MLa_law_530 rfl
theorem r_MLa_law_531 {l1 l2 l3 : Value} {x : Nat} : Rr X d MLa_law 531 [.ref x, l1, l2, l3] st h = Rr X d MLa_law 532 [.ref x, l1, l2, l3] (.ref x :: st) h := Rr_nx d_MLa_law_531 rfl
theorem r_MLa_law_531f {l1 l2 l3 : Value} {x : UInt32} : Rr X d MLa_law 531 [.float x, l1, l2, l3] st h = Rr X d MLa_law 532 [.float x, l1, l2, l3] (.float x :: st) h := Rr_nx d_MLa_law_531 rfl
theorem r_MLa_law_532 {l0 l1 l2 : Value} {x : Int32} : Rr X d MLa_law 532 [l0, l1, l2, .int x] st h = Rr X d MLa_law 533 [l0, l1, l2, .int x] (.int x :: st) h := Rr_nx d_MLa_law_532 rfl
theorem r_MLa_law_533 : Rr X d MLa_law 533 L st h = Rr X d MLa_law 534 L (.int (1) :: st) h := Rr_nx d_MLa_law_533 rfl
theorem r_MLa_law_534 {x y : Int32} : Rr X d MLa_law 534 L (.int y :: .int x :: st) h = Rr X d MLa_law 535 L (.int (x + y) :: st) h := Rr_nx d_MLa_law_534 rfl
theorem r_MLa_law_535 {a : Nat} {j : Int32} (hq : (qA a 0).isSome = true) : Rr X d MLa_law 535 L (.int j :: .ref a :: st) (Wd mu la ro et) = if j < 0 ∨ qAd a 0 ≤ j.toNatClampNeg then none else Rr X d MLa_law 536 L (.int (mu a j.toNatClampNeg) :: st) (Wd mu la ro et) := R_ialW d_MLa_law_535 hq
theorem r_MLa_law_535f {n : Nat} {f : Nat → Int32} {j : Int32} : Rr (XS n f) d MLa_law 535 L (.int j :: .float 0 :: st) h = if j < 0 ∨ n ≤ j.toNatClampNeg then none else Rr (XS n f) d MLa_law 536 L (.int (f j.toNatClampNeg) :: st) h := R_ialS d_MLa_law_535
theorem fc_11_61 : fC 11 61 = some (0, 10, 1, MRm_told) := rfl
theorem r_MLa_law_536 {y0 : Int32} {a : Nat} (hO : qO a 10 = true) (hc : ckS st = true) : Rr X (d + 1) MLa_law 536 L (.int y0 :: .ref a :: st) (Wd mu la ro et) = (Rr X d MRm_told 0 [.ref a, .int y0, mkU, mkU] [] (Wd mu la ro et)).bind fun q => Rr X (d + 1) MLa_law 539 L (psh q.1 st) q.2 := R_iv (av := [.int y0]) d_MLa_law_536 fc_11_61 hO (ckS_le hc) rfl (Nat.le_of_ble_eq_true rfl) (Nat.le_of_ble_eq_true rfl)
theorem r_MLa_law_539 {x : Int32} : Rr X d MLa_law 539 L (.int x :: st) h = Rr X d MLa_law 540 L st h := Rr_nx d_MLa_law_539 rfl
theorem r_MLa_law_540 : Rr X d MLa_law 540 L st h = Rr X d MLa_law 1544 L st h := R_goto d_MLa_law_540 (by decide)
theorem r_MLa_law_543 {l0 l2 l3 : Value} {x : Nat} : Rr X d MLa_law 543 [l0, .ref x, l2, l3] st h = Rr X d MLa_law 544 [l0, .ref x, l2, l3] (.ref x :: st) h := Rr_nx d_MLa_law_543 rfl
theorem r_MLa_law_543n {l0 l2 l3 : Value} : Rr X d MLa_law 543 [l0, .null, l2, l3] st h = Rr X d MLa_law 544 [l0, .null, l2, l3] (.null :: st) h := Rr_nx d_MLa_law_543 rfl
theorem r_MLa_law_544 {l1 l2 l3 : Value} {x : Nat} : Rr X d MLa_law 544 [.ref x, l1, l2, l3] st h = Rr X d MLa_law 545 [.ref x, l1, l2, l3] (.ref x :: st) h := Rr_nx d_MLa_law_544 rfl
theorem r_MLa_law_544f {l1 l2 l3 : Value} {x : UInt32} : Rr X d MLa_law 544 [.float x, l1, l2, l3] st h = Rr X d MLa_law 545 [.float x, l1, l2, l3] (.float x :: st) h := Rr_nx d_MLa_law_544 rfl
theorem r_MLa_law_545 {l0 l1 l2 : Value} {x : Int32} : Rr X d MLa_law 545 [l0, l1, l2, .int x] st h = Rr X d MLa_law 546 [l0, l1, l2, .int x] (.int x :: st) h := Rr_nx d_MLa_law_545 rfl
theorem r_MLa_law_546 : Rr X d MLa_law 546 L st h = Rr X d MLa_law 547 L (.int (1) :: st) h := Rr_nx d_MLa_law_546 rfl
theorem r_MLa_law_547 {x y : Int32} : Rr X d MLa_law 547 L (.int y :: .int x :: st) h = Rr X d MLa_law 548 L (.int (x + y) :: st) h := Rr_nx d_MLa_law_547 rfl
theorem r_MLa_law_548 {a : Nat} {j : Int32} (hq : (qA a 0).isSome = true) : Rr X d MLa_law 548 L (.int j :: .ref a :: st) (Wd mu la ro et) = if j < 0 ∨ qAd a 0 ≤ j.toNatClampNeg then none else Rr X d MLa_law 549 L (.int (mu a j.toNatClampNeg) :: st) (Wd mu la ro et) := R_ialW d_MLa_law_548 hq
theorem r_MLa_law_548f {n : Nat} {f : Nat → Int32} {j : Int32} : Rr (XS n f) d MLa_law 548 L (.int j :: .float 0 :: st) h = if j < 0 ∨ n ≤ j.toNatClampNeg then none else Rr (XS n f) d MLa_law 549 L (.int (f j.toNatClampNeg) :: st) h := R_ialS d_MLa_law_548
theorem r_MLa_law_549 {l1 l2 l3 : Value} {x : Nat} : Rr X d MLa_law 549 [.ref x, l1, l2, l3] st h = Rr X d MLa_law 550 [.ref x, l1, l2, l3] (.ref x :: st) h := Rr_nx d_MLa_law_549 rfl
theorem r_MLa_law_549f {l1 l2 l3 : Value} {x : UInt32} : Rr X d MLa_law 549 [.float x, l1, l2, l3] st h = Rr X d MLa_law 550 [.float x, l1, l2, l3] (.float x :: st) h := Rr_nx d_MLa_law_549 rfl
theorem r_MLa_law_550 {l0 l1 l2 : Value} {x : Int32} : Rr X d MLa_law 550 [l0, l1, l2, .int x] st h = Rr X d MLa_law 551 [l0, l1, l2, .int x] (.int x :: st) h := Rr_nx d_MLa_law_550 rfl
theorem r_MLa_law_551 : Rr X d MLa_law 551 L st h = Rr X d MLa_law 552 L (.int (2) :: st) h := Rr_nx d_MLa_law_551 rfl
theorem r_MLa_law_552 {x y : Int32} : Rr X d MLa_law 552 L (.int y :: .int x :: st) h = Rr X d MLa_law 553 L (.int (x + y) :: st) h := Rr_nx d_MLa_law_552 rfl
theorem r_MLa_law_553 {a : Nat} {j : Int32} (hq : (qA a 0).isSome = true) : Rr X d MLa_law 553 L (.int j :: .ref a :: st) (Wd mu la ro et) = if j < 0 ∨ qAd a 0 ≤ j.toNatClampNeg then none else Rr X d MLa_law 554 L (.int (mu a j.toNatClampNeg) :: st) (Wd mu la ro et) := R_ialW d_MLa_law_553 hq
theorem r_MLa_law_553f {n : Nat} {f : Nat → Int32} {j : Int32} : Rr (XS n f) d MLa_law 553 L (.int j :: .float 0 :: st) h = if j < 0 ∨ n ≤ j.toNatClampNeg then none else Rr (XS n f) d MLa_law 554 L (.int (f j.toNatClampNeg) :: st) h := R_ialS d_MLa_law_553
theorem r_MLa_law_554 {l1 l2 l3 : Value} {x : Nat} : Rr X d MLa_law 554 [.ref x, l1, l2, l3] st h = Rr X d MLa_law 555 [.ref x, l1, l2, l3] (.ref x :: st) h := Rr_nx d_MLa_law_554 rfl
theorem r_MLa_law_554f {l1 l2 l3 : Value} {x : UInt32} : Rr X d MLa_law 554 [.float x, l1, l2, l3] st h = Rr X d MLa_law 555 [.float x, l1, l2, l3] (.float x :: st) h := Rr_nx d_MLa_law_554 rfl
theorem r_MLa_law_555 {l0 l1 l2 : Value} {x : Int32} : Rr X d MLa_law 555 [l0, l1, l2, .int x] st h = Rr X d MLa_law 556 [l0, l1, l2, .int x] (.int x :: st) h := Rr_nx d_MLa_law_555 rfl
theorem r_MLa_law_556 : Rr X d MLa_law 556 L st h = Rr X d MLa_law 557 L (.int (3) :: st) h := Rr_nx d_MLa_law_556 rfl
theorem r_MLa_law_557 {x y : Int32} : Rr X d MLa_law 557 L (.int y :: .int x :: st) h = Rr X d MLa_law 558 L (.int (x + y) :: st) h := Rr_nx d_MLa_law_557 rfl
theorem r_MLa_law_558 {a : Nat} {j : Int32} (hq : (qA a 0).isSome = true) : Rr X d MLa_law 558 L (.int j :: .ref a :: st) (Wd mu la ro et) = if j < 0 ∨ qAd a 0 ≤ j.toNatClampNeg then none else Rr X d MLa_law 559 L (.int (mu a j.toNatClampNeg) :: st) (Wd mu la ro et) := R_ialW d_MLa_law_558 hq
theorem r_MLa_law_558f {n : Nat} {f : Nat → Int32} {j : Int32} : Rr (XS n f) d MLa_law 558 L (.int j :: .float 0 :: st) h = if j < 0 ∨ n ≤ j.toNatClampNeg then none else Rr (XS n f) d MLa_law 559 L (.int (f j.toNatClampNeg) :: st) h := R_ialS d_MLa_law_558
theorem r_MLa_law_559 {l1 l2 l3 : Value} {x : Nat} : Rr X d MLa_law 559 [.ref x, l1, l2, l3] st h = Rr X d MLa_law 560 [.ref x, l1, l2, l3] (.ref x :: st) h := Rr_nx d_MLa_law_559 rfl
theorem r_MLa_law_559f {l1 l2 l3 : Value} {x : UInt32} : Rr X d MLa_law 559 [.float x, l1, l2, l3] st h = Rr X d MLa_law 560 [.float x, l1, l2, l3] (.float x :: st) h := Rr_nx d_MLa_law_559 rfl
theorem r_MLa_law_560 {l0 l1 l2 : Value} {x : Int32} : Rr X d MLa_law 560 [l0, l1, l2, .int x] st h = Rr X d MLa_law 561 [l0, l1, l2, .int x] (.int x :: st) h := Rr_nx d_MLa_law_560 rfl
theorem r_MLa_law_561 : Rr X d MLa_law 561 L st h = Rr X d MLa_law 562 L (.int (4) :: st) h := Rr_nx d_MLa_law_561 rfl
theorem r_MLa_law_562 {x y : Int32} : Rr X d MLa_law 562 L (.int y :: .int x :: st) h = Rr X d MLa_law 563 L (.int (x + y) :: st) h := Rr_nx d_MLa_law_562 rfl
theorem r_MLa_law_563 {a : Nat} {j : Int32} (hq : (qA a 0).isSome = true) : Rr X d MLa_law 563 L (.int j :: .ref a :: st) (Wd mu la ro et) = if j < 0 ∨ qAd a 0 ≤ j.toNatClampNeg then none else Rr X d MLa_law 564 L (.int (mu a j.toNatClampNeg) :: st) (Wd mu la ro et) := R_ialW d_MLa_law_563 hq
theorem r_MLa_law_563f {n : Nat} {f : Nat → Int32} {j : Int32} : Rr (XS n f) d MLa_law 563 L (.int j :: .float 0 :: st) h = if j < 0 ∨ n ≤ j.toNatClampNeg then none else Rr (XS n f) d MLa_law 564 L (.int (f j.toNatClampNeg) :: st) h := R_ialS d_MLa_law_563
theorem fc_11_62 : fC 11 62 = some (0, 9, 4, MTo_even) := rfl
theorem r_MLa_law_564 {y0 : Int32} {y1 : Int32} {y2 : Int32} {y3 : Int32} {a : Nat} (hO : qO a 9 = true) (hc : ckS st = true) : Rr X (d + 1) MLa_law 564 L (.int y3 :: .int y2 :: .int y1 :: .int y0 :: .ref a :: st) (Wd mu la ro et) = (Rr X d MTo_even 0 [.ref a, .int y0, .int y1, .int y2, .int y3, mkU] [] (Wd mu la ro et)).bind fun q => Rr X (d + 1) MLa_law 567 L (psh q.1 st) q.2 := R_iv (av := [.int y3, .int y2, .int y1, .int y0]) d_MLa_law_564 fc_11_62 hO (ckS_le hc) rfl (Nat.le_of_ble_eq_true rfl) (Nat.le_of_ble_eq_true rfl)
theorem r_MLa_law_567 {x : Int32} : Rr X d MLa_law 567 L (.int x :: st) h = Rr X d MLa_law 568 L st h := Rr_nx d_MLa_law_567 rfl
theorem r_MLa_law_568 {l0 l1 l3 : Value} {x : Nat} : Rr X d MLa_law 568 [l0, l1, .ref x, l3] st h = Rr X d MLa_law 569 [l0, l1, .ref x, l3] (.ref x :: st) h := Rr_nx d_MLa_law_568 rfl
theorem r_MLa_law_568n {l0 l1 l3 : Value} : Rr X d MLa_law 568 [l0, l1, .null, l3] st h = Rr X d MLa_law 569 [l0, l1, .null, l3] (.null :: st) h := Rr_nx d_MLa_law_568 rfl
theorem r_MLa_law_569 {l1 l2 l3 : Value} {x : Nat} : Rr X d MLa_law 569 [.ref x, l1, l2, l3] st h = Rr X d MLa_law 570 [.ref x, l1, l2, l3] (.ref x :: st) h := Rr_nx d_MLa_law_569 rfl
theorem r_MLa_law_569f {l1 l2 l3 : Value} {x : UInt32} : Rr X d MLa_law 569 [.float x, l1, l2, l3] st h = Rr X d MLa_law 570 [.float x, l1, l2, l3] (.float x :: st) h := Rr_nx d_MLa_law_569 rfl
theorem r_MLa_law_570 {l0 l1 l2 : Value} {x : Int32} : Rr X d MLa_law 570 [l0, l1, l2, .int x] st h = Rr X d MLa_law 571 [l0, l1, l2, .int x] (.int x :: st) h := Rr_nx d_MLa_law_570 rfl
theorem r_MLa_law_571 : Rr X d MLa_law 571 L st h = Rr X d MLa_law 572 L (.int (1) :: st) h := Rr_nx d_MLa_law_571 rfl
theorem r_MLa_law_572 {x y : Int32} : Rr X d MLa_law 572 L (.int y :: .int x :: st) h = Rr X d MLa_law 573 L (.int (x + y) :: st) h := Rr_nx d_MLa_law_572 rfl
theorem r_MLa_law_573 {a : Nat} {j : Int32} (hq : (qA a 0).isSome = true) : Rr X d MLa_law 573 L (.int j :: .ref a :: st) (Wd mu la ro et) = if j < 0 ∨ qAd a 0 ≤ j.toNatClampNeg then none else Rr X d MLa_law 574 L (.int (mu a j.toNatClampNeg) :: st) (Wd mu la ro et) := R_ialW d_MLa_law_573 hq
theorem r_MLa_law_573f {n : Nat} {f : Nat → Int32} {j : Int32} : Rr (XS n f) d MLa_law 573 L (.int j :: .float 0 :: st) h = if j < 0 ∨ n ≤ j.toNatClampNeg then none else Rr (XS n f) d MLa_law 574 L (.int (f j.toNatClampNeg) :: st) h := R_ialS d_MLa_law_573
theorem r_MLa_law_574 {l1 l2 l3 : Value} {x : Nat} : Rr X d MLa_law 574 [.ref x, l1, l2, l3] st h = Rr X d MLa_law 575 [.ref x, l1, l2, l3] (.ref x :: st) h := Rr_nx d_MLa_law_574 rfl
theorem r_MLa_law_574f {l1 l2 l3 : Value} {x : UInt32} : Rr X d MLa_law 574 [.float x, l1, l2, l3] st h = Rr X d MLa_law 575 [.float x, l1, l2, l3] (.float x :: st) h := Rr_nx d_MLa_law_574 rfl
theorem r_MLa_law_575 {l0 l1 l2 : Value} {x : Int32} : Rr X d MLa_law 575 [l0, l1, l2, .int x] st h = Rr X d MLa_law 576 [l0, l1, l2, .int x] (.int x :: st) h := Rr_nx d_MLa_law_575 rfl
theorem r_MLa_law_576 : Rr X d MLa_law 576 L st h = Rr X d MLa_law 577 L (.int (2) :: st) h := Rr_nx d_MLa_law_576 rfl
theorem r_MLa_law_577 {x y : Int32} : Rr X d MLa_law 577 L (.int y :: .int x :: st) h = Rr X d MLa_law 578 L (.int (x + y) :: st) h := Rr_nx d_MLa_law_577 rfl
theorem r_MLa_law_578 {a : Nat} {j : Int32} (hq : (qA a 0).isSome = true) : Rr X d MLa_law 578 L (.int j :: .ref a :: st) (Wd mu la ro et) = if j < 0 ∨ qAd a 0 ≤ j.toNatClampNeg then none else Rr X d MLa_law 579 L (.int (mu a j.toNatClampNeg) :: st) (Wd mu la ro et) := R_ialW d_MLa_law_578 hq
theorem r_MLa_law_578f {n : Nat} {f : Nat → Int32} {j : Int32} : Rr (XS n f) d MLa_law 578 L (.int j :: .float 0 :: st) h = if j < 0 ∨ n ≤ j.toNatClampNeg then none else Rr (XS n f) d MLa_law 579 L (.int (f j.toNatClampNeg) :: st) h := R_ialS d_MLa_law_578
theorem r_MLa_law_579 {l1 l2 l3 : Value} {x : Nat} : Rr X d MLa_law 579 [.ref x, l1, l2, l3] st h = Rr X d MLa_law 580 [.ref x, l1, l2, l3] (.ref x :: st) h := Rr_nx d_MLa_law_579 rfl
theorem r_MLa_law_579f {l1 l2 l3 : Value} {x : UInt32} : Rr X d MLa_law 579 [.float x, l1, l2, l3] st h = Rr X d MLa_law 580 [.float x, l1, l2, l3] (.float x :: st) h := Rr_nx d_MLa_law_579 rfl
theorem r_MLa_law_580 {l0 l1 l2 : Value} {x : Int32} : Rr X d MLa_law 580 [l0, l1, l2, .int x] st h = Rr X d MLa_law 581 [l0, l1, l2, .int x] (.int x :: st) h := Rr_nx d_MLa_law_580 rfl
theorem r_MLa_law_581 : Rr X d MLa_law 581 L st h = Rr X d MLa_law 582 L (.int (3) :: st) h := Rr_nx d_MLa_law_581 rfl
theorem r_MLa_law_582 {x y : Int32} : Rr X d MLa_law 582 L (.int y :: .int x :: st) h = Rr X d MLa_law 583 L (.int (x + y) :: st) h := Rr_nx d_MLa_law_582 rfl
theorem r_MLa_law_583 {a : Nat} {j : Int32} (hq : (qA a 0).isSome = true) : Rr X d MLa_law 583 L (.int j :: .ref a :: st) (Wd mu la ro et) = if j < 0 ∨ qAd a 0 ≤ j.toNatClampNeg then none else Rr X d MLa_law 584 L (.int (mu a j.toNatClampNeg) :: st) (Wd mu la ro et) := R_ialW d_MLa_law_583 hq
theorem r_MLa_law_583f {n : Nat} {f : Nat → Int32} {j : Int32} : Rr (XS n f) d MLa_law 583 L (.int j :: .float 0 :: st) h = if j < 0 ∨ n ≤ j.toNatClampNeg then none else Rr (XS n f) d MLa_law 584 L (.int (f j.toNatClampNeg) :: st) h := R_ialS d_MLa_law_583
theorem r_MLa_law_584 {l1 l2 l3 : Value} {x : Nat} : Rr X d MLa_law 584 [.ref x, l1, l2, l3] st h = Rr X d MLa_law 585 [.ref x, l1, l2, l3] (.ref x :: st) h := Rr_nx d_MLa_law_584 rfl
theorem r_MLa_law_584f {l1 l2 l3 : Value} {x : UInt32} : Rr X d MLa_law 584 [.float x, l1, l2, l3] st h = Rr X d MLa_law 585 [.float x, l1, l2, l3] (.float x :: st) h := Rr_nx d_MLa_law_584 rfl
theorem r_MLa_law_585 {l0 l1 l2 : Value} {x : Int32} : Rr X d MLa_law 585 [l0, l1, l2, .int x] st h = Rr X d MLa_law 586 [l0, l1, l2, .int x] (.int x :: st) h := Rr_nx d_MLa_law_585 rfl
theorem r_MLa_law_586 : Rr X d MLa_law 586 L st h = Rr X d MLa_law 587 L (.int (4) :: st) h := Rr_nx d_MLa_law_586 rfl
theorem r_MLa_law_587 {x y : Int32} : Rr X d MLa_law 587 L (.int y :: .int x :: st) h = Rr X d MLa_law 588 L (.int (x + y) :: st) h := Rr_nx d_MLa_law_587 rfl
theorem r_MLa_law_588 {a : Nat} {j : Int32} (hq : (qA a 0).isSome = true) : Rr X d MLa_law 588 L (.int j :: .ref a :: st) (Wd mu la ro et) = if j < 0 ∨ qAd a 0 ≤ j.toNatClampNeg then none else Rr X d MLa_law 589 L (.int (mu a j.toNatClampNeg) :: st) (Wd mu la ro et) := R_ialW d_MLa_law_588 hq
theorem r_MLa_law_588f {n : Nat} {f : Nat → Int32} {j : Int32} : Rr (XS n f) d MLa_law 588 L (.int j :: .float 0 :: st) h = if j < 0 ∨ n ≤ j.toNatClampNeg then none else Rr (XS n f) d MLa_law 589 L (.int (f j.toNatClampNeg) :: st) h := R_ialS d_MLa_law_588
theorem fc_11_65 : fC 11 65 = some (0, 10, 4, MRm_even) := rfl
theorem r_MLa_law_589 {y0 : Int32} {y1 : Int32} {y2 : Int32} {y3 : Int32} {a : Nat} (hO : qO a 10 = true) (hc : ckS st = true) : Rr X (d + 1) MLa_law 589 L (.int y3 :: .int y2 :: .int y1 :: .int y0 :: .ref a :: st) (Wd mu la ro et) = (Rr X d MRm_even 0 [.ref a, .int y0, .int y1, .int y2, .int y3] [] (Wd mu la ro et)).bind fun q => Rr X (d + 1) MLa_law 592 L (psh q.1 st) q.2 := R_iv (av := [.int y3, .int y2, .int y1, .int y0]) d_MLa_law_589 fc_11_65 hO (ckS_le hc) rfl (Nat.le_of_ble_eq_true rfl) (Nat.le_of_ble_eq_true rfl)
theorem r_MLa_law_592 {x : Int32} : Rr X d MLa_law 592 L (.int x :: st) h = Rr X d MLa_law 593 L st h := Rr_nx d_MLa_law_592 rfl
theorem r_MLa_law_593 : Rr X d MLa_law 593 L st h = Rr X d MLa_law 1544 L st h := R_goto d_MLa_law_593 (by decide)
theorem r_MLa_law_596 {l0 l2 l3 : Value} {x : Nat} : Rr X d MLa_law 596 [l0, .ref x, l2, l3] st h = Rr X d MLa_law 597 [l0, .ref x, l2, l3] (.ref x :: st) h := Rr_nx d_MLa_law_596 rfl
theorem r_MLa_law_596n {l0 l2 l3 : Value} : Rr X d MLa_law 596 [l0, .null, l2, l3] st h = Rr X d MLa_law 597 [l0, .null, l2, l3] (.null :: st) h := Rr_nx d_MLa_law_596 rfl
theorem r_MLa_law_597 {l1 l2 l3 : Value} {x : Nat} : Rr X d MLa_law 597 [.ref x, l1, l2, l3] st h = Rr X d MLa_law 598 [.ref x, l1, l2, l3] (.ref x :: st) h := Rr_nx d_MLa_law_597 rfl
theorem r_MLa_law_597f {l1 l2 l3 : Value} {x : UInt32} : Rr X d MLa_law 597 [.float x, l1, l2, l3] st h = Rr X d MLa_law 598 [.float x, l1, l2, l3] (.float x :: st) h := Rr_nx d_MLa_law_597 rfl
theorem r_MLa_law_598 {l0 l1 l2 : Value} {x : Int32} : Rr X d MLa_law 598 [l0, l1, l2, .int x] st h = Rr X d MLa_law 599 [l0, l1, l2, .int x] (.int x :: st) h := Rr_nx d_MLa_law_598 rfl
theorem r_MLa_law_599 : Rr X d MLa_law 599 L st h = Rr X d MLa_law 600 L (.int (1) :: st) h := Rr_nx d_MLa_law_599 rfl
theorem r_MLa_law_600 {x y : Int32} : Rr X d MLa_law 600 L (.int y :: .int x :: st) h = Rr X d MLa_law 601 L (.int (x + y) :: st) h := Rr_nx d_MLa_law_600 rfl
theorem r_MLa_law_601 {a : Nat} {j : Int32} (hq : (qA a 0).isSome = true) : Rr X d MLa_law 601 L (.int j :: .ref a :: st) (Wd mu la ro et) = if j < 0 ∨ qAd a 0 ≤ j.toNatClampNeg then none else Rr X d MLa_law 602 L (.int (mu a j.toNatClampNeg) :: st) (Wd mu la ro et) := R_ialW d_MLa_law_601 hq
theorem r_MLa_law_601f {n : Nat} {f : Nat → Int32} {j : Int32} : Rr (XS n f) d MLa_law 601 L (.int j :: .float 0 :: st) h = if j < 0 ∨ n ≤ j.toNatClampNeg then none else Rr (XS n f) d MLa_law 602 L (.int (f j.toNatClampNeg) :: st) h := R_ialS d_MLa_law_601
theorem r_MLa_law_602 {l1 l2 l3 : Value} {x : Nat} : Rr X d MLa_law 602 [.ref x, l1, l2, l3] st h = Rr X d MLa_law 603 [.ref x, l1, l2, l3] (.ref x :: st) h := Rr_nx d_MLa_law_602 rfl
theorem r_MLa_law_602f {l1 l2 l3 : Value} {x : UInt32} : Rr X d MLa_law 602 [.float x, l1, l2, l3] st h = Rr X d MLa_law 603 [.float x, l1, l2, l3] (.float x :: st) h := Rr_nx d_MLa_law_602 rfl
theorem r_MLa_law_603 {l0 l1 l2 : Value} {x : Int32} : Rr X d MLa_law 603 [l0, l1, l2, .int x] st h = Rr X d MLa_law 604 [l0, l1, l2, .int x] (.int x :: st) h := Rr_nx d_MLa_law_603 rfl
theorem r_MLa_law_604 : Rr X d MLa_law 604 L st h = Rr X d MLa_law 605 L (.int (2) :: st) h := Rr_nx d_MLa_law_604 rfl
theorem r_MLa_law_605 {x y : Int32} : Rr X d MLa_law 605 L (.int y :: .int x :: st) h = Rr X d MLa_law 606 L (.int (x + y) :: st) h := Rr_nx d_MLa_law_605 rfl
theorem r_MLa_law_606 {a : Nat} {j : Int32} (hq : (qA a 0).isSome = true) : Rr X d MLa_law 606 L (.int j :: .ref a :: st) (Wd mu la ro et) = if j < 0 ∨ qAd a 0 ≤ j.toNatClampNeg then none else Rr X d MLa_law 607 L (.int (mu a j.toNatClampNeg) :: st) (Wd mu la ro et) := R_ialW d_MLa_law_606 hq
theorem r_MLa_law_606f {n : Nat} {f : Nat → Int32} {j : Int32} : Rr (XS n f) d MLa_law 606 L (.int j :: .float 0 :: st) h = if j < 0 ∨ n ≤ j.toNatClampNeg then none else Rr (XS n f) d MLa_law 607 L (.int (f j.toNatClampNeg) :: st) h := R_ialS d_MLa_law_606
theorem r_MLa_law_607 {l1 l2 l3 : Value} {x : Nat} : Rr X d MLa_law 607 [.ref x, l1, l2, l3] st h = Rr X d MLa_law 608 [.ref x, l1, l2, l3] (.ref x :: st) h := Rr_nx d_MLa_law_607 rfl
theorem r_MLa_law_607f {l1 l2 l3 : Value} {x : UInt32} : Rr X d MLa_law 607 [.float x, l1, l2, l3] st h = Rr X d MLa_law 608 [.float x, l1, l2, l3] (.float x :: st) h := Rr_nx d_MLa_law_607 rfl
theorem r_MLa_law_608 {l0 l1 l2 : Value} {x : Int32} : Rr X d MLa_law 608 [l0, l1, l2, .int x] st h = Rr X d MLa_law 609 [l0, l1, l2, .int x] (.int x :: st) h := Rr_nx d_MLa_law_608 rfl
theorem r_MLa_law_609 : Rr X d MLa_law 609 L st h = Rr X d MLa_law 610 L (.int (3) :: st) h := Rr_nx d_MLa_law_609 rfl
theorem r_MLa_law_610 {x y : Int32} : Rr X d MLa_law 610 L (.int y :: .int x :: st) h = Rr X d MLa_law 611 L (.int (x + y) :: st) h := Rr_nx d_MLa_law_610 rfl
theorem r_MLa_law_611 {a : Nat} {j : Int32} (hq : (qA a 0).isSome = true) : Rr X d MLa_law 611 L (.int j :: .ref a :: st) (Wd mu la ro et) = if j < 0 ∨ qAd a 0 ≤ j.toNatClampNeg then none else Rr X d MLa_law 612 L (.int (mu a j.toNatClampNeg) :: st) (Wd mu la ro et) := R_ialW d_MLa_law_611 hq
theorem r_MLa_law_611f {n : Nat} {f : Nat → Int32} {j : Int32} : Rr (XS n f) d MLa_law 611 L (.int j :: .float 0 :: st) h = if j < 0 ∨ n ≤ j.toNatClampNeg then none else Rr (XS n f) d MLa_law 612 L (.int (f j.toNatClampNeg) :: st) h := R_ialS d_MLa_law_611
theorem r_MLa_law_612 {l1 l2 l3 : Value} {x : Nat} : Rr X d MLa_law 612 [.ref x, l1, l2, l3] st h = Rr X d MLa_law 613 [.ref x, l1, l2, l3] (.ref x :: st) h := Rr_nx d_MLa_law_612 rfl
theorem r_MLa_law_612f {l1 l2 l3 : Value} {x : UInt32} : Rr X d MLa_law 612 [.float x, l1, l2, l3] st h = Rr X d MLa_law 613 [.float x, l1, l2, l3] (.float x :: st) h := Rr_nx d_MLa_law_612 rfl
theorem r_MLa_law_613 {l0 l1 l2 : Value} {x : Int32} : Rr X d MLa_law 613 [l0, l1, l2, .int x] st h = Rr X d MLa_law 614 [l0, l1, l2, .int x] (.int x :: st) h := Rr_nx d_MLa_law_613 rfl
theorem r_MLa_law_614 : Rr X d MLa_law 614 L st h = Rr X d MLa_law 615 L (.int (4) :: st) h := Rr_nx d_MLa_law_614 rfl
theorem r_MLa_law_615 {x y : Int32} : Rr X d MLa_law 615 L (.int y :: .int x :: st) h = Rr X d MLa_law 616 L (.int (x + y) :: st) h := Rr_nx d_MLa_law_615 rfl
theorem r_MLa_law_616 {a : Nat} {j : Int32} (hq : (qA a 0).isSome = true) : Rr X d MLa_law 616 L (.int j :: .ref a :: st) (Wd mu la ro et) = if j < 0 ∨ qAd a 0 ≤ j.toNatClampNeg then none else Rr X d MLa_law 617 L (.int (mu a j.toNatClampNeg) :: st) (Wd mu la ro et) := R_ialW d_MLa_law_616 hq
theorem r_MLa_law_616f {n : Nat} {f : Nat → Int32} {j : Int32} : Rr (XS n f) d MLa_law 616 L (.int j :: .float 0 :: st) h = if j < 0 ∨ n ≤ j.toNatClampNeg then none else Rr (XS n f) d MLa_law 617 L (.int (f j.toNatClampNeg) :: st) h := R_ialS d_MLa_law_616
theorem fc_11_66 : fC 11 66 = some (0, 9, 4, MTo_soonest) := rfl
theorem r_MLa_law_617 {y0 : Int32} {y1 : Int32} {y2 : Int32} {y3 : Int32} {a : Nat} (hO : qO a 9 = true) (hc : ckS st = true) : Rr X (d + 1) MLa_law 617 L (.int y3 :: .int y2 :: .int y1 :: .int y0 :: .ref a :: st) (Wd mu la ro et) = (Rr X d MTo_soonest 0 [.ref a, .int y0, .int y1, .int y2, .int y3, mkU, mkU, mkU, mkU] [] (Wd mu la ro et)).bind fun q => Rr X (d + 1) MLa_law 620 L (psh q.1 st) q.2 := R_iv (av := [.int y3, .int y2, .int y1, .int y0]) d_MLa_law_617 fc_11_66 hO (ckS_le hc) rfl (Nat.le_of_ble_eq_true rfl) (Nat.le_of_ble_eq_true rfl)
theorem r_MLa_law_620 {x : Int32} : Rr X d MLa_law 620 L (.int x :: st) h = Rr X d MLa_law 621 L st h := Rr_nx d_MLa_law_620 rfl
theorem r_MLa_law_621 {l0 l1 l3 : Value} {x : Nat} : Rr X d MLa_law 621 [l0, l1, .ref x, l3] st h = Rr X d MLa_law 622 [l0, l1, .ref x, l3] (.ref x :: st) h := Rr_nx d_MLa_law_621 rfl
theorem r_MLa_law_621n {l0 l1 l3 : Value} : Rr X d MLa_law 621 [l0, l1, .null, l3] st h = Rr X d MLa_law 622 [l0, l1, .null, l3] (.null :: st) h := Rr_nx d_MLa_law_621 rfl
theorem r_MLa_law_622 {l1 l2 l3 : Value} {x : Nat} : Rr X d MLa_law 622 [.ref x, l1, l2, l3] st h = Rr X d MLa_law 623 [.ref x, l1, l2, l3] (.ref x :: st) h := Rr_nx d_MLa_law_622 rfl
theorem r_MLa_law_622f {l1 l2 l3 : Value} {x : UInt32} : Rr X d MLa_law 622 [.float x, l1, l2, l3] st h = Rr X d MLa_law 623 [.float x, l1, l2, l3] (.float x :: st) h := Rr_nx d_MLa_law_622 rfl
theorem r_MLa_law_623 {l0 l1 l2 : Value} {x : Int32} : Rr X d MLa_law 623 [l0, l1, l2, .int x] st h = Rr X d MLa_law 624 [l0, l1, l2, .int x] (.int x :: st) h := Rr_nx d_MLa_law_623 rfl
theorem r_MLa_law_624 : Rr X d MLa_law 624 L st h = Rr X d MLa_law 625 L (.int (1) :: st) h := Rr_nx d_MLa_law_624 rfl
theorem r_MLa_law_625 {x y : Int32} : Rr X d MLa_law 625 L (.int y :: .int x :: st) h = Rr X d MLa_law 626 L (.int (x + y) :: st) h := Rr_nx d_MLa_law_625 rfl
theorem r_MLa_law_626 {a : Nat} {j : Int32} (hq : (qA a 0).isSome = true) : Rr X d MLa_law 626 L (.int j :: .ref a :: st) (Wd mu la ro et) = if j < 0 ∨ qAd a 0 ≤ j.toNatClampNeg then none else Rr X d MLa_law 627 L (.int (mu a j.toNatClampNeg) :: st) (Wd mu la ro et) := R_ialW d_MLa_law_626 hq
theorem r_MLa_law_626f {n : Nat} {f : Nat → Int32} {j : Int32} : Rr (XS n f) d MLa_law 626 L (.int j :: .float 0 :: st) h = if j < 0 ∨ n ≤ j.toNatClampNeg then none else Rr (XS n f) d MLa_law 627 L (.int (f j.toNatClampNeg) :: st) h := R_ialS d_MLa_law_626
theorem r_MLa_law_627 {l1 l2 l3 : Value} {x : Nat} : Rr X d MLa_law 627 [.ref x, l1, l2, l3] st h = Rr X d MLa_law 628 [.ref x, l1, l2, l3] (.ref x :: st) h := Rr_nx d_MLa_law_627 rfl
theorem r_MLa_law_627f {l1 l2 l3 : Value} {x : UInt32} : Rr X d MLa_law 627 [.float x, l1, l2, l3] st h = Rr X d MLa_law 628 [.float x, l1, l2, l3] (.float x :: st) h := Rr_nx d_MLa_law_627 rfl
theorem r_MLa_law_628 {l0 l1 l2 : Value} {x : Int32} : Rr X d MLa_law 628 [l0, l1, l2, .int x] st h = Rr X d MLa_law 629 [l0, l1, l2, .int x] (.int x :: st) h := Rr_nx d_MLa_law_628 rfl
theorem r_MLa_law_629 : Rr X d MLa_law 629 L st h = Rr X d MLa_law 630 L (.int (2) :: st) h := Rr_nx d_MLa_law_629 rfl
theorem r_MLa_law_630 {x y : Int32} : Rr X d MLa_law 630 L (.int y :: .int x :: st) h = Rr X d MLa_law 631 L (.int (x + y) :: st) h := Rr_nx d_MLa_law_630 rfl
theorem r_MLa_law_631 {a : Nat} {j : Int32} (hq : (qA a 0).isSome = true) : Rr X d MLa_law 631 L (.int j :: .ref a :: st) (Wd mu la ro et) = if j < 0 ∨ qAd a 0 ≤ j.toNatClampNeg then none else Rr X d MLa_law 632 L (.int (mu a j.toNatClampNeg) :: st) (Wd mu la ro et) := R_ialW d_MLa_law_631 hq
theorem r_MLa_law_631f {n : Nat} {f : Nat → Int32} {j : Int32} : Rr (XS n f) d MLa_law 631 L (.int j :: .float 0 :: st) h = if j < 0 ∨ n ≤ j.toNatClampNeg then none else Rr (XS n f) d MLa_law 632 L (.int (f j.toNatClampNeg) :: st) h := R_ialS d_MLa_law_631
theorem r_MLa_law_632 {l1 l2 l3 : Value} {x : Nat} : Rr X d MLa_law 632 [.ref x, l1, l2, l3] st h = Rr X d MLa_law 633 [.ref x, l1, l2, l3] (.ref x :: st) h := Rr_nx d_MLa_law_632 rfl
theorem r_MLa_law_632f {l1 l2 l3 : Value} {x : UInt32} : Rr X d MLa_law 632 [.float x, l1, l2, l3] st h = Rr X d MLa_law 633 [.float x, l1, l2, l3] (.float x :: st) h := Rr_nx d_MLa_law_632 rfl
theorem r_MLa_law_633 {l0 l1 l2 : Value} {x : Int32} : Rr X d MLa_law 633 [l0, l1, l2, .int x] st h = Rr X d MLa_law 634 [l0, l1, l2, .int x] (.int x :: st) h := Rr_nx d_MLa_law_633 rfl
theorem r_MLa_law_634 : Rr X d MLa_law 634 L st h = Rr X d MLa_law 635 L (.int (3) :: st) h := Rr_nx d_MLa_law_634 rfl
theorem r_MLa_law_635 {x y : Int32} : Rr X d MLa_law 635 L (.int y :: .int x :: st) h = Rr X d MLa_law 636 L (.int (x + y) :: st) h := Rr_nx d_MLa_law_635 rfl
theorem r_MLa_law_636 {a : Nat} {j : Int32} (hq : (qA a 0).isSome = true) : Rr X d MLa_law 636 L (.int j :: .ref a :: st) (Wd mu la ro et) = if j < 0 ∨ qAd a 0 ≤ j.toNatClampNeg then none else Rr X d MLa_law 637 L (.int (mu a j.toNatClampNeg) :: st) (Wd mu la ro et) := R_ialW d_MLa_law_636 hq
theorem r_MLa_law_636f {n : Nat} {f : Nat → Int32} {j : Int32} : Rr (XS n f) d MLa_law 636 L (.int j :: .float 0 :: st) h = if j < 0 ∨ n ≤ j.toNatClampNeg then none else Rr (XS n f) d MLa_law 637 L (.int (f j.toNatClampNeg) :: st) h := R_ialS d_MLa_law_636
theorem r_MLa_law_637 {l1 l2 l3 : Value} {x : Nat} : Rr X d MLa_law 637 [.ref x, l1, l2, l3] st h = Rr X d MLa_law 638 [.ref x, l1, l2, l3] (.ref x :: st) h := Rr_nx d_MLa_law_637 rfl
theorem r_MLa_law_637f {l1 l2 l3 : Value} {x : UInt32} : Rr X d MLa_law 637 [.float x, l1, l2, l3] st h = Rr X d MLa_law 638 [.float x, l1, l2, l3] (.float x :: st) h := Rr_nx d_MLa_law_637 rfl
theorem r_MLa_law_638 {l0 l1 l2 : Value} {x : Int32} : Rr X d MLa_law 638 [l0, l1, l2, .int x] st h = Rr X d MLa_law 639 [l0, l1, l2, .int x] (.int x :: st) h := Rr_nx d_MLa_law_638 rfl
theorem r_MLa_law_639 : Rr X d MLa_law 639 L st h = Rr X d MLa_law 640 L (.int (4) :: st) h := Rr_nx d_MLa_law_639 rfl
theorem r_MLa_law_640 {x y : Int32} : Rr X d MLa_law 640 L (.int y :: .int x :: st) h = Rr X d MLa_law 641 L (.int (x + y) :: st) h := Rr_nx d_MLa_law_640 rfl
theorem r_MLa_law_641 {a : Nat} {j : Int32} (hq : (qA a 0).isSome = true) : Rr X d MLa_law 641 L (.int j :: .ref a :: st) (Wd mu la ro et) = if j < 0 ∨ qAd a 0 ≤ j.toNatClampNeg then none else Rr X d MLa_law 642 L (.int (mu a j.toNatClampNeg) :: st) (Wd mu la ro et) := R_ialW d_MLa_law_641 hq
theorem r_MLa_law_641f {n : Nat} {f : Nat → Int32} {j : Int32} : Rr (XS n f) d MLa_law 641 L (.int j :: .float 0 :: st) h = if j < 0 ∨ n ≤ j.toNatClampNeg then none else Rr (XS n f) d MLa_law 642 L (.int (f j.toNatClampNeg) :: st) h := R_ialS d_MLa_law_641
theorem fc_11_69 : fC 11 69 = some (0, 10, 4, MRm_soonest) := rfl
theorem r_MLa_law_642 {y0 : Int32} {y1 : Int32} {y2 : Int32} {y3 : Int32} {a : Nat} (hO : qO a 10 = true) (hc : ckS st = true) : Rr X (d + 1) MLa_law 642 L (.int y3 :: .int y2 :: .int y1 :: .int y0 :: .ref a :: st) (Wd mu la ro et) = (Rr X d MRm_soonest 0 [.ref a, .int y0, .int y1, .int y2, .int y3, mkU, mkU, mkU] [] (Wd mu la ro et)).bind fun q => Rr X (d + 1) MLa_law 645 L (psh q.1 st) q.2 := R_iv (av := [.int y3, .int y2, .int y1, .int y0]) d_MLa_law_642 fc_11_69 hO (ckS_le hc) rfl (Nat.le_of_ble_eq_true rfl) (Nat.le_of_ble_eq_true rfl)
theorem r_MLa_law_645 {x : Int32} : Rr X d MLa_law 645 L (.int x :: st) h = Rr X d MLa_law 646 L st h := Rr_nx d_MLa_law_645 rfl
theorem r_MLa_law_646 : Rr X d MLa_law 646 L st h = Rr X d MLa_law 1544 L st h := R_goto d_MLa_law_646 (by decide)
theorem r_MLa_law_649 {l0 l2 l3 : Value} {x : Nat} : Rr X d MLa_law 649 [l0, .ref x, l2, l3] st h = Rr X d MLa_law 650 [l0, .ref x, l2, l3] (.ref x :: st) h := Rr_nx d_MLa_law_649 rfl
theorem r_MLa_law_649n {l0 l2 l3 : Value} : Rr X d MLa_law 649 [l0, .null, l2, l3] st h = Rr X d MLa_law 650 [l0, .null, l2, l3] (.null :: st) h := Rr_nx d_MLa_law_649 rfl
theorem r_MLa_law_650 {l1 l2 l3 : Value} {x : Nat} : Rr X d MLa_law 650 [.ref x, l1, l2, l3] st h = Rr X d MLa_law 651 [.ref x, l1, l2, l3] (.ref x :: st) h := Rr_nx d_MLa_law_650 rfl
theorem r_MLa_law_650f {l1 l2 l3 : Value} {x : UInt32} : Rr X d MLa_law 650 [.float x, l1, l2, l3] st h = Rr X d MLa_law 651 [.float x, l1, l2, l3] (.float x :: st) h := Rr_nx d_MLa_law_650 rfl
theorem r_MLa_law_651 {l0 l1 l2 : Value} {x : Int32} : Rr X d MLa_law 651 [l0, l1, l2, .int x] st h = Rr X d MLa_law 652 [l0, l1, l2, .int x] (.int x :: st) h := Rr_nx d_MLa_law_651 rfl
theorem r_MLa_law_652 : Rr X d MLa_law 652 L st h = Rr X d MLa_law 653 L (.int (1) :: st) h := Rr_nx d_MLa_law_652 rfl
theorem r_MLa_law_653 {x y : Int32} : Rr X d MLa_law 653 L (.int y :: .int x :: st) h = Rr X d MLa_law 654 L (.int (x + y) :: st) h := Rr_nx d_MLa_law_653 rfl
theorem r_MLa_law_654 {a : Nat} {j : Int32} (hq : (qA a 0).isSome = true) : Rr X d MLa_law 654 L (.int j :: .ref a :: st) (Wd mu la ro et) = if j < 0 ∨ qAd a 0 ≤ j.toNatClampNeg then none else Rr X d MLa_law 655 L (.int (mu a j.toNatClampNeg) :: st) (Wd mu la ro et) := R_ialW d_MLa_law_654 hq
theorem r_MLa_law_654f {n : Nat} {f : Nat → Int32} {j : Int32} : Rr (XS n f) d MLa_law 654 L (.int j :: .float 0 :: st) h = if j < 0 ∨ n ≤ j.toNatClampNeg then none else Rr (XS n f) d MLa_law 655 L (.int (f j.toNatClampNeg) :: st) h := R_ialS d_MLa_law_654
theorem r_MLa_law_655 {l1 l2 l3 : Value} {x : Nat} : Rr X d MLa_law 655 [.ref x, l1, l2, l3] st h = Rr X d MLa_law 656 [.ref x, l1, l2, l3] (.ref x :: st) h := Rr_nx d_MLa_law_655 rfl
theorem r_MLa_law_655f {l1 l2 l3 : Value} {x : UInt32} : Rr X d MLa_law 655 [.float x, l1, l2, l3] st h = Rr X d MLa_law 656 [.float x, l1, l2, l3] (.float x :: st) h := Rr_nx d_MLa_law_655 rfl
theorem r_MLa_law_656 {l0 l1 l2 : Value} {x : Int32} : Rr X d MLa_law 656 [l0, l1, l2, .int x] st h = Rr X d MLa_law 657 [l0, l1, l2, .int x] (.int x :: st) h := Rr_nx d_MLa_law_656 rfl
theorem r_MLa_law_657 : Rr X d MLa_law 657 L st h = Rr X d MLa_law 658 L (.int (2) :: st) h := Rr_nx d_MLa_law_657 rfl
theorem r_MLa_law_658 {x y : Int32} : Rr X d MLa_law 658 L (.int y :: .int x :: st) h = Rr X d MLa_law 659 L (.int (x + y) :: st) h := Rr_nx d_MLa_law_658 rfl
theorem r_MLa_law_659 {a : Nat} {j : Int32} (hq : (qA a 0).isSome = true) : Rr X d MLa_law 659 L (.int j :: .ref a :: st) (Wd mu la ro et) = if j < 0 ∨ qAd a 0 ≤ j.toNatClampNeg then none else Rr X d MLa_law 660 L (.int (mu a j.toNatClampNeg) :: st) (Wd mu la ro et) := R_ialW d_MLa_law_659 hq
theorem r_MLa_law_659f {n : Nat} {f : Nat → Int32} {j : Int32} : Rr (XS n f) d MLa_law 659 L (.int j :: .float 0 :: st) h = if j < 0 ∨ n ≤ j.toNatClampNeg then none else Rr (XS n f) d MLa_law 660 L (.int (f j.toNatClampNeg) :: st) h := R_ialS d_MLa_law_659
theorem r_MLa_law_660 {l1 l2 l3 : Value} {x : Nat} : Rr X d MLa_law 660 [.ref x, l1, l2, l3] st h = Rr X d MLa_law 661 [.ref x, l1, l2, l3] (.ref x :: st) h := Rr_nx d_MLa_law_660 rfl
theorem r_MLa_law_660f {l1 l2 l3 : Value} {x : UInt32} : Rr X d MLa_law 660 [.float x, l1, l2, l3] st h = Rr X d MLa_law 661 [.float x, l1, l2, l3] (.float x :: st) h := Rr_nx d_MLa_law_660 rfl
theorem r_MLa_law_661 {l0 l1 l2 : Value} {x : Int32} : Rr X d MLa_law 661 [l0, l1, l2, .int x] st h = Rr X d MLa_law 662 [l0, l1, l2, .int x] (.int x :: st) h := Rr_nx d_MLa_law_661 rfl
theorem r_MLa_law_662 : Rr X d MLa_law 662 L st h = Rr X d MLa_law 663 L (.int (3) :: st) h := Rr_nx d_MLa_law_662 rfl
theorem r_MLa_law_663 {x y : Int32} : Rr X d MLa_law 663 L (.int y :: .int x :: st) h = Rr X d MLa_law 664 L (.int (x + y) :: st) h := Rr_nx d_MLa_law_663 rfl
theorem r_MLa_law_664 {a : Nat} {j : Int32} (hq : (qA a 0).isSome = true) : Rr X d MLa_law 664 L (.int j :: .ref a :: st) (Wd mu la ro et) = if j < 0 ∨ qAd a 0 ≤ j.toNatClampNeg then none else Rr X d MLa_law 665 L (.int (mu a j.toNatClampNeg) :: st) (Wd mu la ro et) := R_ialW d_MLa_law_664 hq
theorem r_MLa_law_664f {n : Nat} {f : Nat → Int32} {j : Int32} : Rr (XS n f) d MLa_law 664 L (.int j :: .float 0 :: st) h = if j < 0 ∨ n ≤ j.toNatClampNeg then none else Rr (XS n f) d MLa_law 665 L (.int (f j.toNatClampNeg) :: st) h := R_ialS d_MLa_law_664
theorem fc_11_70 : fC 11 70 = some (0, 9, 3, MTo_screws) := rfl
theorem r_MLa_law_665 {y0 : Int32} {y1 : Int32} {y2 : Int32} {a : Nat} (hO : qO a 9 = true) (hc : ckS st = true) : Rr X (d + 1) MLa_law 665 L (.int y2 :: .int y1 :: .int y0 :: .ref a :: st) (Wd mu la ro et) = (Rr X d MTo_screws 0 [.ref a, .int y0, .int y1, .int y2, mkU] [] (Wd mu la ro et)).bind fun q => Rr X (d + 1) MLa_law 668 L (psh q.1 st) q.2 := R_iv (av := [.int y2, .int y1, .int y0]) d_MLa_law_665 fc_11_70 hO (ckS_le hc) rfl (Nat.le_of_ble_eq_true rfl) (Nat.le_of_ble_eq_true rfl)
theorem r_MLa_law_668 {x : Int32} : Rr X d MLa_law 668 L (.int x :: st) h = Rr X d MLa_law 669 L st h := Rr_nx d_MLa_law_668 rfl
theorem r_MLa_law_669 {l0 l1 l3 : Value} {x : Nat} : Rr X d MLa_law 669 [l0, l1, .ref x, l3] st h = Rr X d MLa_law 670 [l0, l1, .ref x, l3] (.ref x :: st) h := Rr_nx d_MLa_law_669 rfl
theorem r_MLa_law_669n {l0 l1 l3 : Value} : Rr X d MLa_law 669 [l0, l1, .null, l3] st h = Rr X d MLa_law 670 [l0, l1, .null, l3] (.null :: st) h := Rr_nx d_MLa_law_669 rfl
theorem r_MLa_law_670 {l1 l2 l3 : Value} {x : Nat} : Rr X d MLa_law 670 [.ref x, l1, l2, l3] st h = Rr X d MLa_law 671 [.ref x, l1, l2, l3] (.ref x :: st) h := Rr_nx d_MLa_law_670 rfl
theorem r_MLa_law_670f {l1 l2 l3 : Value} {x : UInt32} : Rr X d MLa_law 670 [.float x, l1, l2, l3] st h = Rr X d MLa_law 671 [.float x, l1, l2, l3] (.float x :: st) h := Rr_nx d_MLa_law_670 rfl
theorem r_MLa_law_671 {l0 l1 l2 : Value} {x : Int32} : Rr X d MLa_law 671 [l0, l1, l2, .int x] st h = Rr X d MLa_law 672 [l0, l1, l2, .int x] (.int x :: st) h := Rr_nx d_MLa_law_671 rfl
theorem r_MLa_law_672 : Rr X d MLa_law 672 L st h = Rr X d MLa_law 673 L (.int (1) :: st) h := Rr_nx d_MLa_law_672 rfl
theorem r_MLa_law_673 {x y : Int32} : Rr X d MLa_law 673 L (.int y :: .int x :: st) h = Rr X d MLa_law 674 L (.int (x + y) :: st) h := Rr_nx d_MLa_law_673 rfl
theorem r_MLa_law_674 {a : Nat} {j : Int32} (hq : (qA a 0).isSome = true) : Rr X d MLa_law 674 L (.int j :: .ref a :: st) (Wd mu la ro et) = if j < 0 ∨ qAd a 0 ≤ j.toNatClampNeg then none else Rr X d MLa_law 675 L (.int (mu a j.toNatClampNeg) :: st) (Wd mu la ro et) := R_ialW d_MLa_law_674 hq
theorem r_MLa_law_674f {n : Nat} {f : Nat → Int32} {j : Int32} : Rr (XS n f) d MLa_law 674 L (.int j :: .float 0 :: st) h = if j < 0 ∨ n ≤ j.toNatClampNeg then none else Rr (XS n f) d MLa_law 675 L (.int (f j.toNatClampNeg) :: st) h := R_ialS d_MLa_law_674
theorem r_MLa_law_675 {l1 l2 l3 : Value} {x : Nat} : Rr X d MLa_law 675 [.ref x, l1, l2, l3] st h = Rr X d MLa_law 676 [.ref x, l1, l2, l3] (.ref x :: st) h := Rr_nx d_MLa_law_675 rfl
theorem r_MLa_law_675f {l1 l2 l3 : Value} {x : UInt32} : Rr X d MLa_law 675 [.float x, l1, l2, l3] st h = Rr X d MLa_law 676 [.float x, l1, l2, l3] (.float x :: st) h := Rr_nx d_MLa_law_675 rfl
theorem r_MLa_law_676 {l0 l1 l2 : Value} {x : Int32} : Rr X d MLa_law 676 [l0, l1, l2, .int x] st h = Rr X d MLa_law 677 [l0, l1, l2, .int x] (.int x :: st) h := Rr_nx d_MLa_law_676 rfl
theorem r_MLa_law_677 : Rr X d MLa_law 677 L st h = Rr X d MLa_law 678 L (.int (2) :: st) h := Rr_nx d_MLa_law_677 rfl
theorem r_MLa_law_678 {x y : Int32} : Rr X d MLa_law 678 L (.int y :: .int x :: st) h = Rr X d MLa_law 679 L (.int (x + y) :: st) h := Rr_nx d_MLa_law_678 rfl
theorem r_MLa_law_679 {a : Nat} {j : Int32} (hq : (qA a 0).isSome = true) : Rr X d MLa_law 679 L (.int j :: .ref a :: st) (Wd mu la ro et) = if j < 0 ∨ qAd a 0 ≤ j.toNatClampNeg then none else Rr X d MLa_law 680 L (.int (mu a j.toNatClampNeg) :: st) (Wd mu la ro et) := R_ialW d_MLa_law_679 hq
theorem r_MLa_law_679f {n : Nat} {f : Nat → Int32} {j : Int32} : Rr (XS n f) d MLa_law 679 L (.int j :: .float 0 :: st) h = if j < 0 ∨ n ≤ j.toNatClampNeg then none else Rr (XS n f) d MLa_law 680 L (.int (f j.toNatClampNeg) :: st) h := R_ialS d_MLa_law_679
theorem r_MLa_law_680 {l1 l2 l3 : Value} {x : Nat} : Rr X d MLa_law 680 [.ref x, l1, l2, l3] st h = Rr X d MLa_law 681 [.ref x, l1, l2, l3] (.ref x :: st) h := Rr_nx d_MLa_law_680 rfl
theorem r_MLa_law_680f {l1 l2 l3 : Value} {x : UInt32} : Rr X d MLa_law 680 [.float x, l1, l2, l3] st h = Rr X d MLa_law 681 [.float x, l1, l2, l3] (.float x :: st) h := Rr_nx d_MLa_law_680 rfl
theorem r_MLa_law_681 {l0 l1 l2 : Value} {x : Int32} : Rr X d MLa_law 681 [l0, l1, l2, .int x] st h = Rr X d MLa_law 682 [l0, l1, l2, .int x] (.int x :: st) h := Rr_nx d_MLa_law_681 rfl
theorem r_MLa_law_682 : Rr X d MLa_law 682 L st h = Rr X d MLa_law 683 L (.int (3) :: st) h := Rr_nx d_MLa_law_682 rfl
theorem r_MLa_law_683 {x y : Int32} : Rr X d MLa_law 683 L (.int y :: .int x :: st) h = Rr X d MLa_law 684 L (.int (x + y) :: st) h := Rr_nx d_MLa_law_683 rfl
theorem r_MLa_law_684 {a : Nat} {j : Int32} (hq : (qA a 0).isSome = true) : Rr X d MLa_law 684 L (.int j :: .ref a :: st) (Wd mu la ro et) = if j < 0 ∨ qAd a 0 ≤ j.toNatClampNeg then none else Rr X d MLa_law 685 L (.int (mu a j.toNatClampNeg) :: st) (Wd mu la ro et) := R_ialW d_MLa_law_684 hq
theorem r_MLa_law_684f {n : Nat} {f : Nat → Int32} {j : Int32} : Rr (XS n f) d MLa_law 684 L (.int j :: .float 0 :: st) h = if j < 0 ∨ n ≤ j.toNatClampNeg then none else Rr (XS n f) d MLa_law 685 L (.int (f j.toNatClampNeg) :: st) h := R_ialS d_MLa_law_684
theorem fc_11_73 : fC 11 73 = some (0, 10, 3, MRm_screws) := rfl
theorem r_MLa_law_685 {y0 : Int32} {y1 : Int32} {y2 : Int32} {a : Nat} (hO : qO a 10 = true) (hc : ckS st = true) : Rr X (d + 1) MLa_law 685 L (.int y2 :: .int y1 :: .int y0 :: .ref a :: st) (Wd mu la ro et) = (Rr X d MRm_screws 0 [.ref a, .int y0, .int y1, .int y2] [] (Wd mu la ro et)).bind fun q => Rr X (d + 1) MLa_law 688 L (psh q.1 st) q.2 := R_iv (av := [.int y2, .int y1, .int y0]) d_MLa_law_685 fc_11_73 hO (ckS_le hc) rfl (Nat.le_of_ble_eq_true rfl) (Nat.le_of_ble_eq_true rfl)
theorem r_MLa_law_688 {x : Int32} : Rr X d MLa_law 688 L (.int x :: st) h = Rr X d MLa_law 689 L st h := Rr_nx d_MLa_law_688 rfl
theorem r_MLa_law_689 : Rr X d MLa_law 689 L st h = Rr X d MLa_law 1544 L st h := R_goto d_MLa_law_689 (by decide)
theorem r_MLa_law_692 {l0 l2 l3 : Value} {x : Nat} : Rr X d MLa_law 692 [l0, .ref x, l2, l3] st h = Rr X d MLa_law 693 [l0, .ref x, l2, l3] (.ref x :: st) h := Rr_nx d_MLa_law_692 rfl
theorem r_MLa_law_692n {l0 l2 l3 : Value} : Rr X d MLa_law 692 [l0, .null, l2, l3] st h = Rr X d MLa_law 693 [l0, .null, l2, l3] (.null :: st) h := Rr_nx d_MLa_law_692 rfl
theorem r_MLa_law_693 {l1 l2 l3 : Value} {x : Nat} : Rr X d MLa_law 693 [.ref x, l1, l2, l3] st h = Rr X d MLa_law 694 [.ref x, l1, l2, l3] (.ref x :: st) h := Rr_nx d_MLa_law_693 rfl
theorem r_MLa_law_693f {l1 l2 l3 : Value} {x : UInt32} : Rr X d MLa_law 693 [.float x, l1, l2, l3] st h = Rr X d MLa_law 694 [.float x, l1, l2, l3] (.float x :: st) h := Rr_nx d_MLa_law_693 rfl
theorem r_MLa_law_694 {l0 l1 l2 : Value} {x : Int32} : Rr X d MLa_law 694 [l0, l1, l2, .int x] st h = Rr X d MLa_law 695 [l0, l1, l2, .int x] (.int x :: st) h := Rr_nx d_MLa_law_694 rfl
theorem r_MLa_law_695 : Rr X d MLa_law 695 L st h = Rr X d MLa_law 696 L (.int (1) :: st) h := Rr_nx d_MLa_law_695 rfl
theorem r_MLa_law_696 {x y : Int32} : Rr X d MLa_law 696 L (.int y :: .int x :: st) h = Rr X d MLa_law 697 L (.int (x + y) :: st) h := Rr_nx d_MLa_law_696 rfl
theorem r_MLa_law_697 {a : Nat} {j : Int32} (hq : (qA a 0).isSome = true) : Rr X d MLa_law 697 L (.int j :: .ref a :: st) (Wd mu la ro et) = if j < 0 ∨ qAd a 0 ≤ j.toNatClampNeg then none else Rr X d MLa_law 698 L (.int (mu a j.toNatClampNeg) :: st) (Wd mu la ro et) := R_ialW d_MLa_law_697 hq
theorem r_MLa_law_697f {n : Nat} {f : Nat → Int32} {j : Int32} : Rr (XS n f) d MLa_law 697 L (.int j :: .float 0 :: st) h = if j < 0 ∨ n ≤ j.toNatClampNeg then none else Rr (XS n f) d MLa_law 698 L (.int (f j.toNatClampNeg) :: st) h := R_ialS d_MLa_law_697
theorem r_MLa_law_698 {l1 l2 l3 : Value} {x : Nat} : Rr X d MLa_law 698 [.ref x, l1, l2, l3] st h = Rr X d MLa_law 699 [.ref x, l1, l2, l3] (.ref x :: st) h := Rr_nx d_MLa_law_698 rfl
theorem r_MLa_law_698f {l1 l2 l3 : Value} {x : UInt32} : Rr X d MLa_law 698 [.float x, l1, l2, l3] st h = Rr X d MLa_law 699 [.float x, l1, l2, l3] (.float x :: st) h := Rr_nx d_MLa_law_698 rfl
theorem r_MLa_law_699 {l0 l1 l2 : Value} {x : Int32} : Rr X d MLa_law 699 [l0, l1, l2, .int x] st h = Rr X d MLa_law 700 [l0, l1, l2, .int x] (.int x :: st) h := Rr_nx d_MLa_law_699 rfl
theorem r_MLa_law_700 : Rr X d MLa_law 700 L st h = Rr X d MLa_law 701 L (.int (2) :: st) h := Rr_nx d_MLa_law_700 rfl
theorem r_MLa_law_701 {x y : Int32} : Rr X d MLa_law 701 L (.int y :: .int x :: st) h = Rr X d MLa_law 702 L (.int (x + y) :: st) h := Rr_nx d_MLa_law_701 rfl
theorem r_MLa_law_702 {a : Nat} {j : Int32} (hq : (qA a 0).isSome = true) : Rr X d MLa_law 702 L (.int j :: .ref a :: st) (Wd mu la ro et) = if j < 0 ∨ qAd a 0 ≤ j.toNatClampNeg then none else Rr X d MLa_law 703 L (.int (mu a j.toNatClampNeg) :: st) (Wd mu la ro et) := R_ialW d_MLa_law_702 hq
theorem r_MLa_law_702f {n : Nat} {f : Nat → Int32} {j : Int32} : Rr (XS n f) d MLa_law 702 L (.int j :: .float 0 :: st) h = if j < 0 ∨ n ≤ j.toNatClampNeg then none else Rr (XS n f) d MLa_law 703 L (.int (f j.toNatClampNeg) :: st) h := R_ialS d_MLa_law_702
theorem fc_11_74 : fC 11 74 = some (0, 9, 2, MTo_lightest) := rfl
theorem r_MLa_law_703 {y0 : Int32} {y1 : Int32} {a : Nat} (hO : qO a 9 = true) (hc : ckS st = true) : Rr X (d + 1) MLa_law 703 L (.int y1 :: .int y0 :: .ref a :: st) (Wd mu la ro et) = (Rr X d MTo_lightest 0 [.ref a, .int y0, .int y1, mkU, mkU] [] (Wd mu la ro et)).bind fun q => Rr X (d + 1) MLa_law 706 L (psh q.1 st) q.2 := R_iv (av := [.int y1, .int y0]) d_MLa_law_703 fc_11_74 hO (ckS_le hc) rfl (Nat.le_of_ble_eq_true rfl) (Nat.le_of_ble_eq_true rfl)
theorem r_MLa_law_706 {x : Int32} : Rr X d MLa_law 706 L (.int x :: st) h = Rr X d MLa_law 707 L st h := Rr_nx d_MLa_law_706 rfl
theorem r_MLa_law_707 {l0 l1 l3 : Value} {x : Nat} : Rr X d MLa_law 707 [l0, l1, .ref x, l3] st h = Rr X d MLa_law 708 [l0, l1, .ref x, l3] (.ref x :: st) h := Rr_nx d_MLa_law_707 rfl
theorem r_MLa_law_707n {l0 l1 l3 : Value} : Rr X d MLa_law 707 [l0, l1, .null, l3] st h = Rr X d MLa_law 708 [l0, l1, .null, l3] (.null :: st) h := Rr_nx d_MLa_law_707 rfl
theorem r_MLa_law_708 {l1 l2 l3 : Value} {x : Nat} : Rr X d MLa_law 708 [.ref x, l1, l2, l3] st h = Rr X d MLa_law 709 [.ref x, l1, l2, l3] (.ref x :: st) h := Rr_nx d_MLa_law_708 rfl
theorem r_MLa_law_708f {l1 l2 l3 : Value} {x : UInt32} : Rr X d MLa_law 708 [.float x, l1, l2, l3] st h = Rr X d MLa_law 709 [.float x, l1, l2, l3] (.float x :: st) h := Rr_nx d_MLa_law_708 rfl
theorem r_MLa_law_709 {l0 l1 l2 : Value} {x : Int32} : Rr X d MLa_law 709 [l0, l1, l2, .int x] st h = Rr X d MLa_law 710 [l0, l1, l2, .int x] (.int x :: st) h := Rr_nx d_MLa_law_709 rfl
theorem r_MLa_law_710 : Rr X d MLa_law 710 L st h = Rr X d MLa_law 711 L (.int (1) :: st) h := Rr_nx d_MLa_law_710 rfl
theorem r_MLa_law_711 {x y : Int32} : Rr X d MLa_law 711 L (.int y :: .int x :: st) h = Rr X d MLa_law 712 L (.int (x + y) :: st) h := Rr_nx d_MLa_law_711 rfl
theorem r_MLa_law_712 {a : Nat} {j : Int32} (hq : (qA a 0).isSome = true) : Rr X d MLa_law 712 L (.int j :: .ref a :: st) (Wd mu la ro et) = if j < 0 ∨ qAd a 0 ≤ j.toNatClampNeg then none else Rr X d MLa_law 713 L (.int (mu a j.toNatClampNeg) :: st) (Wd mu la ro et) := R_ialW d_MLa_law_712 hq
theorem r_MLa_law_712f {n : Nat} {f : Nat → Int32} {j : Int32} : Rr (XS n f) d MLa_law 712 L (.int j :: .float 0 :: st) h = if j < 0 ∨ n ≤ j.toNatClampNeg then none else Rr (XS n f) d MLa_law 713 L (.int (f j.toNatClampNeg) :: st) h := R_ialS d_MLa_law_712
theorem r_MLa_law_713 {l1 l2 l3 : Value} {x : Nat} : Rr X d MLa_law 713 [.ref x, l1, l2, l3] st h = Rr X d MLa_law 714 [.ref x, l1, l2, l3] (.ref x :: st) h := Rr_nx d_MLa_law_713 rfl
theorem r_MLa_law_713f {l1 l2 l3 : Value} {x : UInt32} : Rr X d MLa_law 713 [.float x, l1, l2, l3] st h = Rr X d MLa_law 714 [.float x, l1, l2, l3] (.float x :: st) h := Rr_nx d_MLa_law_713 rfl
theorem r_MLa_law_714 {l0 l1 l2 : Value} {x : Int32} : Rr X d MLa_law 714 [l0, l1, l2, .int x] st h = Rr X d MLa_law 715 [l0, l1, l2, .int x] (.int x :: st) h := Rr_nx d_MLa_law_714 rfl
theorem r_MLa_law_715 : Rr X d MLa_law 715 L st h = Rr X d MLa_law 716 L (.int (2) :: st) h := Rr_nx d_MLa_law_715 rfl
theorem r_MLa_law_716 {x y : Int32} : Rr X d MLa_law 716 L (.int y :: .int x :: st) h = Rr X d MLa_law 717 L (.int (x + y) :: st) h := Rr_nx d_MLa_law_716 rfl
theorem r_MLa_law_717 {a : Nat} {j : Int32} (hq : (qA a 0).isSome = true) : Rr X d MLa_law 717 L (.int j :: .ref a :: st) (Wd mu la ro et) = if j < 0 ∨ qAd a 0 ≤ j.toNatClampNeg then none else Rr X d MLa_law 718 L (.int (mu a j.toNatClampNeg) :: st) (Wd mu la ro et) := R_ialW d_MLa_law_717 hq
theorem r_MLa_law_717f {n : Nat} {f : Nat → Int32} {j : Int32} : Rr (XS n f) d MLa_law 717 L (.int j :: .float 0 :: st) h = if j < 0 ∨ n ≤ j.toNatClampNeg then none else Rr (XS n f) d MLa_law 718 L (.int (f j.toNatClampNeg) :: st) h := R_ialS d_MLa_law_717
theorem fc_11_77 : fC 11 77 = some (0, 10, 2, MRm_lightest) := rfl
theorem r_MLa_law_718 {y0 : Int32} {y1 : Int32} {a : Nat} (hO : qO a 10 = true) (hc : ckS st = true) : Rr X (d + 1) MLa_law 718 L (.int y1 :: .int y0 :: .ref a :: st) (Wd mu la ro et) = (Rr X d MRm_lightest 0 [.ref a, .int y0, .int y1, mkU] [] (Wd mu la ro et)).bind fun q => Rr X (d + 1) MLa_law 721 L (psh q.1 st) q.2 := R_iv (av := [.int y1, .int y0]) d_MLa_law_718 fc_11_77 hO (ckS_le hc) rfl (Nat.le_of_ble_eq_true rfl) (Nat.le_of_ble_eq_true rfl)
theorem r_MLa_law_721 {x : Int32} : Rr X d MLa_law 721 L (.int x :: st) h = Rr X d MLa_law 722 L st h := Rr_nx d_MLa_law_721 rfl
theorem r_MLa_law_722 : Rr X d MLa_law 722 L st h = Rr X d MLa_law 1544 L st h := R_goto d_MLa_law_722 (by decide)
theorem r_MLa_law_725 {l0 l2 l3 : Value} {x : Nat} : Rr X d MLa_law 725 [l0, .ref x, l2, l3] st h = Rr X d MLa_law 726 [l0, .ref x, l2, l3] (.ref x :: st) h := Rr_nx d_MLa_law_725 rfl
theorem r_MLa_law_725n {l0 l2 l3 : Value} : Rr X d MLa_law 725 [l0, .null, l2, l3] st h = Rr X d MLa_law 726 [l0, .null, l2, l3] (.null :: st) h := Rr_nx d_MLa_law_725 rfl
theorem r_MLa_law_726 {l1 l2 l3 : Value} {x : Nat} : Rr X d MLa_law 726 [.ref x, l1, l2, l3] st h = Rr X d MLa_law 727 [.ref x, l1, l2, l3] (.ref x :: st) h := Rr_nx d_MLa_law_726 rfl
theorem r_MLa_law_726f {l1 l2 l3 : Value} {x : UInt32} : Rr X d MLa_law 726 [.float x, l1, l2, l3] st h = Rr X d MLa_law 727 [.float x, l1, l2, l3] (.float x :: st) h := Rr_nx d_MLa_law_726 rfl
theorem r_MLa_law_727 {l0 l1 l2 : Value} {x : Int32} : Rr X d MLa_law 727 [l0, l1, l2, .int x] st h = Rr X d MLa_law 728 [l0, l1, l2, .int x] (.int x :: st) h := Rr_nx d_MLa_law_727 rfl
theorem r_MLa_law_728 : Rr X d MLa_law 728 L st h = Rr X d MLa_law 729 L (.int (1) :: st) h := Rr_nx d_MLa_law_728 rfl
theorem r_MLa_law_729 {x y : Int32} : Rr X d MLa_law 729 L (.int y :: .int x :: st) h = Rr X d MLa_law 730 L (.int (x + y) :: st) h := Rr_nx d_MLa_law_729 rfl
theorem r_MLa_law_730 {a : Nat} {j : Int32} (hq : (qA a 0).isSome = true) : Rr X d MLa_law 730 L (.int j :: .ref a :: st) (Wd mu la ro et) = if j < 0 ∨ qAd a 0 ≤ j.toNatClampNeg then none else Rr X d MLa_law 731 L (.int (mu a j.toNatClampNeg) :: st) (Wd mu la ro et) := R_ialW d_MLa_law_730 hq
theorem r_MLa_law_730f {n : Nat} {f : Nat → Int32} {j : Int32} : Rr (XS n f) d MLa_law 730 L (.int j :: .float 0 :: st) h = if j < 0 ∨ n ≤ j.toNatClampNeg then none else Rr (XS n f) d MLa_law 731 L (.int (f j.toNatClampNeg) :: st) h := R_ialS d_MLa_law_730
theorem r_MLa_law_731 {l1 l2 l3 : Value} {x : Nat} : Rr X d MLa_law 731 [.ref x, l1, l2, l3] st h = Rr X d MLa_law 732 [.ref x, l1, l2, l3] (.ref x :: st) h := Rr_nx d_MLa_law_731 rfl
theorem r_MLa_law_731f {l1 l2 l3 : Value} {x : UInt32} : Rr X d MLa_law 731 [.float x, l1, l2, l3] st h = Rr X d MLa_law 732 [.float x, l1, l2, l3] (.float x :: st) h := Rr_nx d_MLa_law_731 rfl
theorem r_MLa_law_732 {l0 l1 l2 : Value} {x : Int32} : Rr X d MLa_law 732 [l0, l1, l2, .int x] st h = Rr X d MLa_law 733 [l0, l1, l2, .int x] (.int x :: st) h := Rr_nx d_MLa_law_732 rfl
theorem r_MLa_law_733 : Rr X d MLa_law 733 L st h = Rr X d MLa_law 734 L (.int (2) :: st) h := Rr_nx d_MLa_law_733 rfl
theorem r_MLa_law_734 {x y : Int32} : Rr X d MLa_law 734 L (.int y :: .int x :: st) h = Rr X d MLa_law 735 L (.int (x + y) :: st) h := Rr_nx d_MLa_law_734 rfl
theorem r_MLa_law_735 {a : Nat} {j : Int32} (hq : (qA a 0).isSome = true) : Rr X d MLa_law 735 L (.int j :: .ref a :: st) (Wd mu la ro et) = if j < 0 ∨ qAd a 0 ≤ j.toNatClampNeg then none else Rr X d MLa_law 736 L (.int (mu a j.toNatClampNeg) :: st) (Wd mu la ro et) := R_ialW d_MLa_law_735 hq
theorem r_MLa_law_735f {n : Nat} {f : Nat → Int32} {j : Int32} : Rr (XS n f) d MLa_law 735 L (.int j :: .float 0 :: st) h = if j < 0 ∨ n ≤ j.toNatClampNeg then none else Rr (XS n f) d MLa_law 736 L (.int (f j.toNatClampNeg) :: st) h := R_ialS d_MLa_law_735
theorem r_MLa_law_736 {l1 l2 l3 : Value} {x : Nat} : Rr X d MLa_law 736 [.ref x, l1, l2, l3] st h = Rr X d MLa_law 737 [.ref x, l1, l2, l3] (.ref x :: st) h := Rr_nx d_MLa_law_736 rfl
theorem r_MLa_law_736f {l1 l2 l3 : Value} {x : UInt32} : Rr X d MLa_law 736 [.float x, l1, l2, l3] st h = Rr X d MLa_law 737 [.float x, l1, l2, l3] (.float x :: st) h := Rr_nx d_MLa_law_736 rfl
theorem r_MLa_law_737 {l0 l1 l2 : Value} {x : Int32} : Rr X d MLa_law 737 [l0, l1, l2, .int x] st h = Rr X d MLa_law 738 [l0, l1, l2, .int x] (.int x :: st) h := Rr_nx d_MLa_law_737 rfl
theorem r_MLa_law_738 : Rr X d MLa_law 738 L st h = Rr X d MLa_law 739 L (.int (3) :: st) h := Rr_nx d_MLa_law_738 rfl
theorem r_MLa_law_739 {x y : Int32} : Rr X d MLa_law 739 L (.int y :: .int x :: st) h = Rr X d MLa_law 740 L (.int (x + y) :: st) h := Rr_nx d_MLa_law_739 rfl
theorem r_MLa_law_740 {a : Nat} {j : Int32} (hq : (qA a 0).isSome = true) : Rr X d MLa_law 740 L (.int j :: .ref a :: st) (Wd mu la ro et) = if j < 0 ∨ qAd a 0 ≤ j.toNatClampNeg then none else Rr X d MLa_law 741 L (.int (mu a j.toNatClampNeg) :: st) (Wd mu la ro et) := R_ialW d_MLa_law_740 hq
theorem r_MLa_law_740f {n : Nat} {f : Nat → Int32} {j : Int32} : Rr (XS n f) d MLa_law 740 L (.int j :: .float 0 :: st) h = if j < 0 ∨ n ≤ j.toNatClampNeg then none else Rr (XS n f) d MLa_law 741 L (.int (f j.toNatClampNeg) :: st) h := R_ialS d_MLa_law_740
theorem fc_11_78 : fC 11 78 = some (0, 9, 3, MTo_seen) := rfl
theorem r_MLa_law_741 {y0 : Int32} {y1 : Int32} {y2 : Int32} {a : Nat} (hO : qO a 9 = true) (hc : ckS st = true) : Rr X (d + 1) MLa_law 741 L (.int y2 :: .int y1 :: .int y0 :: .ref a :: st) (Wd mu la ro et) = (Rr X d MTo_seen 0 [.ref a, .int y0, .int y1, .int y2, mkU] [] (Wd mu la ro et)).bind fun q => Rr X (d + 1) MLa_law 744 L (psh q.1 st) q.2 := R_iv (av := [.int y2, .int y1, .int y0]) d_MLa_law_741 fc_11_78 hO (ckS_le hc) rfl (Nat.le_of_ble_eq_true rfl) (Nat.le_of_ble_eq_true rfl)
theorem r_MLa_law_744 {x : Int32} : Rr X d MLa_law 744 L (.int x :: st) h = Rr X d MLa_law 745 L st h := Rr_nx d_MLa_law_744 rfl
theorem r_MLa_law_745 {l0 l1 l3 : Value} {x : Nat} : Rr X d MLa_law 745 [l0, l1, .ref x, l3] st h = Rr X d MLa_law 746 [l0, l1, .ref x, l3] (.ref x :: st) h := Rr_nx d_MLa_law_745 rfl
theorem r_MLa_law_745n {l0 l1 l3 : Value} : Rr X d MLa_law 745 [l0, l1, .null, l3] st h = Rr X d MLa_law 746 [l0, l1, .null, l3] (.null :: st) h := Rr_nx d_MLa_law_745 rfl
theorem r_MLa_law_746 {l1 l2 l3 : Value} {x : Nat} : Rr X d MLa_law 746 [.ref x, l1, l2, l3] st h = Rr X d MLa_law 747 [.ref x, l1, l2, l3] (.ref x :: st) h := Rr_nx d_MLa_law_746 rfl
theorem r_MLa_law_746f {l1 l2 l3 : Value} {x : UInt32} : Rr X d MLa_law 746 [.float x, l1, l2, l3] st h = Rr X d MLa_law 747 [.float x, l1, l2, l3] (.float x :: st) h := Rr_nx d_MLa_law_746 rfl
theorem r_MLa_law_747 {l0 l1 l2 : Value} {x : Int32} : Rr X d MLa_law 747 [l0, l1, l2, .int x] st h = Rr X d MLa_law 748 [l0, l1, l2, .int x] (.int x :: st) h := Rr_nx d_MLa_law_747 rfl
theorem r_MLa_law_748 : Rr X d MLa_law 748 L st h = Rr X d MLa_law 749 L (.int (1) :: st) h := Rr_nx d_MLa_law_748 rfl
theorem r_MLa_law_749 {x y : Int32} : Rr X d MLa_law 749 L (.int y :: .int x :: st) h = Rr X d MLa_law 750 L (.int (x + y) :: st) h := Rr_nx d_MLa_law_749 rfl
theorem r_MLa_law_750 {a : Nat} {j : Int32} (hq : (qA a 0).isSome = true) : Rr X d MLa_law 750 L (.int j :: .ref a :: st) (Wd mu la ro et) = if j < 0 ∨ qAd a 0 ≤ j.toNatClampNeg then none else Rr X d MLa_law 751 L (.int (mu a j.toNatClampNeg) :: st) (Wd mu la ro et) := R_ialW d_MLa_law_750 hq
theorem r_MLa_law_750f {n : Nat} {f : Nat → Int32} {j : Int32} : Rr (XS n f) d MLa_law 750 L (.int j :: .float 0 :: st) h = if j < 0 ∨ n ≤ j.toNatClampNeg then none else Rr (XS n f) d MLa_law 751 L (.int (f j.toNatClampNeg) :: st) h := R_ialS d_MLa_law_750
theorem r_MLa_law_751 {l1 l2 l3 : Value} {x : Nat} : Rr X d MLa_law 751 [.ref x, l1, l2, l3] st h = Rr X d MLa_law 752 [.ref x, l1, l2, l3] (.ref x :: st) h := Rr_nx d_MLa_law_751 rfl
theorem r_MLa_law_751f {l1 l2 l3 : Value} {x : UInt32} : Rr X d MLa_law 751 [.float x, l1, l2, l3] st h = Rr X d MLa_law 752 [.float x, l1, l2, l3] (.float x :: st) h := Rr_nx d_MLa_law_751 rfl
theorem r_MLa_law_752 {l0 l1 l2 : Value} {x : Int32} : Rr X d MLa_law 752 [l0, l1, l2, .int x] st h = Rr X d MLa_law 753 [l0, l1, l2, .int x] (.int x :: st) h := Rr_nx d_MLa_law_752 rfl
theorem r_MLa_law_753 : Rr X d MLa_law 753 L st h = Rr X d MLa_law 754 L (.int (2) :: st) h := Rr_nx d_MLa_law_753 rfl
theorem r_MLa_law_754 {x y : Int32} : Rr X d MLa_law 754 L (.int y :: .int x :: st) h = Rr X d MLa_law 755 L (.int (x + y) :: st) h := Rr_nx d_MLa_law_754 rfl
theorem r_MLa_law_755 {a : Nat} {j : Int32} (hq : (qA a 0).isSome = true) : Rr X d MLa_law 755 L (.int j :: .ref a :: st) (Wd mu la ro et) = if j < 0 ∨ qAd a 0 ≤ j.toNatClampNeg then none else Rr X d MLa_law 756 L (.int (mu a j.toNatClampNeg) :: st) (Wd mu la ro et) := R_ialW d_MLa_law_755 hq
theorem r_MLa_law_755f {n : Nat} {f : Nat → Int32} {j : Int32} : Rr (XS n f) d MLa_law 755 L (.int j :: .float 0 :: st) h = if j < 0 ∨ n ≤ j.toNatClampNeg then none else Rr (XS n f) d MLa_law 756 L (.int (f j.toNatClampNeg) :: st) h := R_ialS d_MLa_law_755
theorem r_MLa_law_756 {l1 l2 l3 : Value} {x : Nat} : Rr X d MLa_law 756 [.ref x, l1, l2, l3] st h = Rr X d MLa_law 757 [.ref x, l1, l2, l3] (.ref x :: st) h := Rr_nx d_MLa_law_756 rfl
theorem r_MLa_law_756f {l1 l2 l3 : Value} {x : UInt32} : Rr X d MLa_law 756 [.float x, l1, l2, l3] st h = Rr X d MLa_law 757 [.float x, l1, l2, l3] (.float x :: st) h := Rr_nx d_MLa_law_756 rfl
theorem r_MLa_law_757 {l0 l1 l2 : Value} {x : Int32} : Rr X d MLa_law 757 [l0, l1, l2, .int x] st h = Rr X d MLa_law 758 [l0, l1, l2, .int x] (.int x :: st) h := Rr_nx d_MLa_law_757 rfl
theorem r_MLa_law_758 : Rr X d MLa_law 758 L st h = Rr X d MLa_law 759 L (.int (3) :: st) h := Rr_nx d_MLa_law_758 rfl
theorem r_MLa_law_759 {x y : Int32} : Rr X d MLa_law 759 L (.int y :: .int x :: st) h = Rr X d MLa_law 760 L (.int (x + y) :: st) h := Rr_nx d_MLa_law_759 rfl
theorem r_MLa_law_760 {a : Nat} {j : Int32} (hq : (qA a 0).isSome = true) : Rr X d MLa_law 760 L (.int j :: .ref a :: st) (Wd mu la ro et) = if j < 0 ∨ qAd a 0 ≤ j.toNatClampNeg then none else Rr X d MLa_law 761 L (.int (mu a j.toNatClampNeg) :: st) (Wd mu la ro et) := R_ialW d_MLa_law_760 hq
theorem r_MLa_law_760f {n : Nat} {f : Nat → Int32} {j : Int32} : Rr (XS n f) d MLa_law 760 L (.int j :: .float 0 :: st) h = if j < 0 ∨ n ≤ j.toNatClampNeg then none else Rr (XS n f) d MLa_law 761 L (.int (f j.toNatClampNeg) :: st) h := R_ialS d_MLa_law_760
theorem fc_11_81 : fC 11 81 = some (0, 10, 3, MRm_seen) := rfl
theorem r_MLa_law_761 {y0 : Int32} {y1 : Int32} {y2 : Int32} {a : Nat} (hO : qO a 10 = true) (hc : ckS st = true) : Rr X (d + 1) MLa_law 761 L (.int y2 :: .int y1 :: .int y0 :: .ref a :: st) (Wd mu la ro et) = (Rr X d MRm_seen 0 [.ref a, .int y0, .int y1, .int y2, mkU] [] (Wd mu la ro et)).bind fun q => Rr X (d + 1) MLa_law 764 L (psh q.1 st) q.2 := R_iv (av := [.int y2, .int y1, .int y0]) d_MLa_law_761 fc_11_81 hO (ckS_le hc) rfl (Nat.le_of_ble_eq_true rfl) (Nat.le_of_ble_eq_true rfl)
theorem r_MLa_law_764 {x : Int32} : Rr X d MLa_law 764 L (.int x :: st) h = Rr X d MLa_law 765 L st h := Rr_nx d_MLa_law_764 rfl
theorem r_MLa_law_765 : Rr X d MLa_law 765 L st h = Rr X d MLa_law 1544 L st h := R_goto d_MLa_law_765 (by decide)
theorem r_MLa_law_768 {l0 l2 l3 : Value} {x : Nat} : Rr X d MLa_law 768 [l0, .ref x, l2, l3] st h = Rr X d MLa_law 769 [l0, .ref x, l2, l3] (.ref x :: st) h := Rr_nx d_MLa_law_768 rfl
theorem r_MLa_law_768n {l0 l2 l3 : Value} : Rr X d MLa_law 768 [l0, .null, l2, l3] st h = Rr X d MLa_law 769 [l0, .null, l2, l3] (.null :: st) h := Rr_nx d_MLa_law_768 rfl
theorem r_MLa_law_769 {l1 l2 l3 : Value} {x : Nat} : Rr X d MLa_law 769 [.ref x, l1, l2, l3] st h = Rr X d MLa_law 770 [.ref x, l1, l2, l3] (.ref x :: st) h := Rr_nx d_MLa_law_769 rfl
theorem r_MLa_law_769f {l1 l2 l3 : Value} {x : UInt32} : Rr X d MLa_law 769 [.float x, l1, l2, l3] st h = Rr X d MLa_law 770 [.float x, l1, l2, l3] (.float x :: st) h := Rr_nx d_MLa_law_769 rfl
theorem r_MLa_law_770 {l0 l1 l2 : Value} {x : Int32} : Rr X d MLa_law 770 [l0, l1, l2, .int x] st h = Rr X d MLa_law 771 [l0, l1, l2, .int x] (.int x :: st) h := Rr_nx d_MLa_law_770 rfl
theorem r_MLa_law_771 : Rr X d MLa_law 771 L st h = Rr X d MLa_law 772 L (.int (1) :: st) h := Rr_nx d_MLa_law_771 rfl
theorem r_MLa_law_772 {x y : Int32} : Rr X d MLa_law 772 L (.int y :: .int x :: st) h = Rr X d MLa_law 773 L (.int (x + y) :: st) h := Rr_nx d_MLa_law_772 rfl
theorem r_MLa_law_773 {a : Nat} {j : Int32} (hq : (qA a 0).isSome = true) : Rr X d MLa_law 773 L (.int j :: .ref a :: st) (Wd mu la ro et) = if j < 0 ∨ qAd a 0 ≤ j.toNatClampNeg then none else Rr X d MLa_law 774 L (.int (mu a j.toNatClampNeg) :: st) (Wd mu la ro et) := R_ialW d_MLa_law_773 hq
theorem r_MLa_law_773f {n : Nat} {f : Nat → Int32} {j : Int32} : Rr (XS n f) d MLa_law 773 L (.int j :: .float 0 :: st) h = if j < 0 ∨ n ≤ j.toNatClampNeg then none else Rr (XS n f) d MLa_law 774 L (.int (f j.toNatClampNeg) :: st) h := R_ialS d_MLa_law_773
theorem r_MLa_law_774 {l1 l2 l3 : Value} {x : Nat} : Rr X d MLa_law 774 [.ref x, l1, l2, l3] st h = Rr X d MLa_law 775 [.ref x, l1, l2, l3] (.ref x :: st) h := Rr_nx d_MLa_law_774 rfl
theorem r_MLa_law_774f {l1 l2 l3 : Value} {x : UInt32} : Rr X d MLa_law 774 [.float x, l1, l2, l3] st h = Rr X d MLa_law 775 [.float x, l1, l2, l3] (.float x :: st) h := Rr_nx d_MLa_law_774 rfl
theorem r_MLa_law_775 {l0 l1 l2 : Value} {x : Int32} : Rr X d MLa_law 775 [l0, l1, l2, .int x] st h = Rr X d MLa_law 776 [l0, l1, l2, .int x] (.int x :: st) h := Rr_nx d_MLa_law_775 rfl
theorem r_MLa_law_776 : Rr X d MLa_law 776 L st h = Rr X d MLa_law 777 L (.int (2) :: st) h := Rr_nx d_MLa_law_776 rfl
theorem r_MLa_law_777 {x y : Int32} : Rr X d MLa_law 777 L (.int y :: .int x :: st) h = Rr X d MLa_law 778 L (.int (x + y) :: st) h := Rr_nx d_MLa_law_777 rfl
theorem r_MLa_law_778 {a : Nat} {j : Int32} (hq : (qA a 0).isSome = true) : Rr X d MLa_law 778 L (.int j :: .ref a :: st) (Wd mu la ro et) = if j < 0 ∨ qAd a 0 ≤ j.toNatClampNeg then none else Rr X d MLa_law 779 L (.int (mu a j.toNatClampNeg) :: st) (Wd mu la ro et) := R_ialW d_MLa_law_778 hq
theorem r_MLa_law_778f {n : Nat} {f : Nat → Int32} {j : Int32} : Rr (XS n f) d MLa_law 778 L (.int j :: .float 0 :: st) h = if j < 0 ∨ n ≤ j.toNatClampNeg then none else Rr (XS n f) d MLa_law 779 L (.int (f j.toNatClampNeg) :: st) h := R_ialS d_MLa_law_778
theorem fc_11_82 : fC 11 82 = some (0, 9, 2, MTo_pressed) := rfl
theorem r_MLa_law_779 {y0 : Int32} {y1 : Int32} {a : Nat} (hO : qO a 9 = true) (hc : ckS st = true) : Rr X (d + 1) MLa_law 779 L (.int y1 :: .int y0 :: .ref a :: st) (Wd mu la ro et) = (Rr X d MTo_pressed 0 [.ref a, .int y0, .int y1] [] (Wd mu la ro et)).bind fun q => Rr X (d + 1) MLa_law 782 L (psh q.1 st) q.2 := R_iv (av := [.int y1, .int y0]) d_MLa_law_779 fc_11_82 hO (ckS_le hc) rfl (Nat.le_of_ble_eq_true rfl) (Nat.le_of_ble_eq_true rfl)
theorem r_MLa_law_782 {x : Int32} : Rr X d MLa_law 782 L (.int x :: st) h = Rr X d MLa_law 783 L st h := Rr_nx d_MLa_law_782 rfl
theorem r_MLa_law_783 {l0 l1 l3 : Value} {x : Nat} : Rr X d MLa_law 783 [l0, l1, .ref x, l3] st h = Rr X d MLa_law 784 [l0, l1, .ref x, l3] (.ref x :: st) h := Rr_nx d_MLa_law_783 rfl
theorem r_MLa_law_783n {l0 l1 l3 : Value} : Rr X d MLa_law 783 [l0, l1, .null, l3] st h = Rr X d MLa_law 784 [l0, l1, .null, l3] (.null :: st) h := Rr_nx d_MLa_law_783 rfl
theorem r_MLa_law_784 {l1 l2 l3 : Value} {x : Nat} : Rr X d MLa_law 784 [.ref x, l1, l2, l3] st h = Rr X d MLa_law 785 [.ref x, l1, l2, l3] (.ref x :: st) h := Rr_nx d_MLa_law_784 rfl
theorem r_MLa_law_784f {l1 l2 l3 : Value} {x : UInt32} : Rr X d MLa_law 784 [.float x, l1, l2, l3] st h = Rr X d MLa_law 785 [.float x, l1, l2, l3] (.float x :: st) h := Rr_nx d_MLa_law_784 rfl
theorem r_MLa_law_785 {l0 l1 l2 : Value} {x : Int32} : Rr X d MLa_law 785 [l0, l1, l2, .int x] st h = Rr X d MLa_law 786 [l0, l1, l2, .int x] (.int x :: st) h := Rr_nx d_MLa_law_785 rfl
theorem r_MLa_law_786 : Rr X d MLa_law 786 L st h = Rr X d MLa_law 787 L (.int (1) :: st) h := Rr_nx d_MLa_law_786 rfl
theorem r_MLa_law_787 {x y : Int32} : Rr X d MLa_law 787 L (.int y :: .int x :: st) h = Rr X d MLa_law 788 L (.int (x + y) :: st) h := Rr_nx d_MLa_law_787 rfl
theorem r_MLa_law_788 {a : Nat} {j : Int32} (hq : (qA a 0).isSome = true) : Rr X d MLa_law 788 L (.int j :: .ref a :: st) (Wd mu la ro et) = if j < 0 ∨ qAd a 0 ≤ j.toNatClampNeg then none else Rr X d MLa_law 789 L (.int (mu a j.toNatClampNeg) :: st) (Wd mu la ro et) := R_ialW d_MLa_law_788 hq
theorem r_MLa_law_788f {n : Nat} {f : Nat → Int32} {j : Int32} : Rr (XS n f) d MLa_law 788 L (.int j :: .float 0 :: st) h = if j < 0 ∨ n ≤ j.toNatClampNeg then none else Rr (XS n f) d MLa_law 789 L (.int (f j.toNatClampNeg) :: st) h := R_ialS d_MLa_law_788
theorem r_MLa_law_789 {l1 l2 l3 : Value} {x : Nat} : Rr X d MLa_law 789 [.ref x, l1, l2, l3] st h = Rr X d MLa_law 790 [.ref x, l1, l2, l3] (.ref x :: st) h := Rr_nx d_MLa_law_789 rfl
theorem r_MLa_law_789f {l1 l2 l3 : Value} {x : UInt32} : Rr X d MLa_law 789 [.float x, l1, l2, l3] st h = Rr X d MLa_law 790 [.float x, l1, l2, l3] (.float x :: st) h := Rr_nx d_MLa_law_789 rfl
theorem r_MLa_law_790 {l0 l1 l2 : Value} {x : Int32} : Rr X d MLa_law 790 [l0, l1, l2, .int x] st h = Rr X d MLa_law 791 [l0, l1, l2, .int x] (.int x :: st) h := Rr_nx d_MLa_law_790 rfl
theorem r_MLa_law_791 : Rr X d MLa_law 791 L st h = Rr X d MLa_law 792 L (.int (2) :: st) h := Rr_nx d_MLa_law_791 rfl
theorem r_MLa_law_792 {x y : Int32} : Rr X d MLa_law 792 L (.int y :: .int x :: st) h = Rr X d MLa_law 793 L (.int (x + y) :: st) h := Rr_nx d_MLa_law_792 rfl
theorem r_MLa_law_793 {a : Nat} {j : Int32} (hq : (qA a 0).isSome = true) : Rr X d MLa_law 793 L (.int j :: .ref a :: st) (Wd mu la ro et) = if j < 0 ∨ qAd a 0 ≤ j.toNatClampNeg then none else Rr X d MLa_law 794 L (.int (mu a j.toNatClampNeg) :: st) (Wd mu la ro et) := R_ialW d_MLa_law_793 hq
theorem r_MLa_law_793f {n : Nat} {f : Nat → Int32} {j : Int32} : Rr (XS n f) d MLa_law 793 L (.int j :: .float 0 :: st) h = if j < 0 ∨ n ≤ j.toNatClampNeg then none else Rr (XS n f) d MLa_law 794 L (.int (f j.toNatClampNeg) :: st) h := R_ialS d_MLa_law_793
theorem fc_11_85 : fC 11 85 = some (0, 10, 2, MRm_pressed) := rfl
theorem r_MLa_law_794 {y0 : Int32} {y1 : Int32} {a : Nat} (hO : qO a 10 = true) (hc : ckS st = true) : Rr X (d + 1) MLa_law 794 L (.int y1 :: .int y0 :: .ref a :: st) (Wd mu la ro et) = (Rr X d MRm_pressed 0 [.ref a, .int y0, .int y1, mkU, mkU, mkU] [] (Wd mu la ro et)).bind fun q => Rr X (d + 1) MLa_law 797 L (psh q.1 st) q.2 := R_iv (av := [.int y1, .int y0]) d_MLa_law_794 fc_11_85 hO (ckS_le hc) rfl (Nat.le_of_ble_eq_true rfl) (Nat.le_of_ble_eq_true rfl)
theorem r_MLa_law_797 {x : Int32} : Rr X d MLa_law 797 L (.int x :: st) h = Rr X d MLa_law 798 L st h := Rr_nx d_MLa_law_797 rfl
theorem r_MLa_law_798 : Rr X d MLa_law 798 L st h = Rr X d MLa_law 1544 L st h := R_goto d_MLa_law_798 (by decide)
theorem r_MLa_law_801 {l0 l2 l3 : Value} {x : Nat} : Rr X d MLa_law 801 [l0, .ref x, l2, l3] st h = Rr X d MLa_law 802 [l0, .ref x, l2, l3] (.ref x :: st) h := Rr_nx d_MLa_law_801 rfl
theorem r_MLa_law_801n {l0 l2 l3 : Value} : Rr X d MLa_law 801 [l0, .null, l2, l3] st h = Rr X d MLa_law 802 [l0, .null, l2, l3] (.null :: st) h := Rr_nx d_MLa_law_801 rfl
theorem r_MLa_law_802 {l1 l2 l3 : Value} {x : Nat} : Rr X d MLa_law 802 [.ref x, l1, l2, l3] st h = Rr X d MLa_law 803 [.ref x, l1, l2, l3] (.ref x :: st) h := Rr_nx d_MLa_law_802 rfl
theorem r_MLa_law_802f {l1 l2 l3 : Value} {x : UInt32} : Rr X d MLa_law 802 [.float x, l1, l2, l3] st h = Rr X d MLa_law 803 [.float x, l1, l2, l3] (.float x :: st) h := Rr_nx d_MLa_law_802 rfl
theorem r_MLa_law_803 {l0 l1 l2 : Value} {x : Int32} : Rr X d MLa_law 803 [l0, l1, l2, .int x] st h = Rr X d MLa_law 804 [l0, l1, l2, .int x] (.int x :: st) h := Rr_nx d_MLa_law_803 rfl
theorem r_MLa_law_804 : Rr X d MLa_law 804 L st h = Rr X d MLa_law 805 L (.int (1) :: st) h := Rr_nx d_MLa_law_804 rfl
theorem r_MLa_law_805 {x y : Int32} : Rr X d MLa_law 805 L (.int y :: .int x :: st) h = Rr X d MLa_law 806 L (.int (x + y) :: st) h := Rr_nx d_MLa_law_805 rfl
theorem r_MLa_law_806 {a : Nat} {j : Int32} (hq : (qA a 0).isSome = true) : Rr X d MLa_law 806 L (.int j :: .ref a :: st) (Wd mu la ro et) = if j < 0 ∨ qAd a 0 ≤ j.toNatClampNeg then none else Rr X d MLa_law 807 L (.int (mu a j.toNatClampNeg) :: st) (Wd mu la ro et) := R_ialW d_MLa_law_806 hq
theorem r_MLa_law_806f {n : Nat} {f : Nat → Int32} {j : Int32} : Rr (XS n f) d MLa_law 806 L (.int j :: .float 0 :: st) h = if j < 0 ∨ n ≤ j.toNatClampNeg then none else Rr (XS n f) d MLa_law 807 L (.int (f j.toNatClampNeg) :: st) h := R_ialS d_MLa_law_806
theorem r_MLa_law_807 {l1 l2 l3 : Value} {x : Nat} : Rr X d MLa_law 807 [.ref x, l1, l2, l3] st h = Rr X d MLa_law 808 [.ref x, l1, l2, l3] (.ref x :: st) h := Rr_nx d_MLa_law_807 rfl
theorem r_MLa_law_807f {l1 l2 l3 : Value} {x : UInt32} : Rr X d MLa_law 807 [.float x, l1, l2, l3] st h = Rr X d MLa_law 808 [.float x, l1, l2, l3] (.float x :: st) h := Rr_nx d_MLa_law_807 rfl
theorem r_MLa_law_808 {l0 l1 l2 : Value} {x : Int32} : Rr X d MLa_law 808 [l0, l1, l2, .int x] st h = Rr X d MLa_law 809 [l0, l1, l2, .int x] (.int x :: st) h := Rr_nx d_MLa_law_808 rfl
theorem r_MLa_law_809 : Rr X d MLa_law 809 L st h = Rr X d MLa_law 810 L (.int (2) :: st) h := Rr_nx d_MLa_law_809 rfl
theorem r_MLa_law_810 {x y : Int32} : Rr X d MLa_law 810 L (.int y :: .int x :: st) h = Rr X d MLa_law 811 L (.int (x + y) :: st) h := Rr_nx d_MLa_law_810 rfl
theorem r_MLa_law_811 {a : Nat} {j : Int32} (hq : (qA a 0).isSome = true) : Rr X d MLa_law 811 L (.int j :: .ref a :: st) (Wd mu la ro et) = if j < 0 ∨ qAd a 0 ≤ j.toNatClampNeg then none else Rr X d MLa_law 812 L (.int (mu a j.toNatClampNeg) :: st) (Wd mu la ro et) := R_ialW d_MLa_law_811 hq
theorem r_MLa_law_811f {n : Nat} {f : Nat → Int32} {j : Int32} : Rr (XS n f) d MLa_law 811 L (.int j :: .float 0 :: st) h = if j < 0 ∨ n ≤ j.toNatClampNeg then none else Rr (XS n f) d MLa_law 812 L (.int (f j.toNatClampNeg) :: st) h := R_ialS d_MLa_law_811
theorem r_MLa_law_812 {l1 l2 l3 : Value} {x : Nat} : Rr X d MLa_law 812 [.ref x, l1, l2, l3] st h = Rr X d MLa_law 813 [.ref x, l1, l2, l3] (.ref x :: st) h := Rr_nx d_MLa_law_812 rfl
theorem r_MLa_law_812f {l1 l2 l3 : Value} {x : UInt32} : Rr X d MLa_law 812 [.float x, l1, l2, l3] st h = Rr X d MLa_law 813 [.float x, l1, l2, l3] (.float x :: st) h := Rr_nx d_MLa_law_812 rfl
theorem r_MLa_law_813 {l0 l1 l2 : Value} {x : Int32} : Rr X d MLa_law 813 [l0, l1, l2, .int x] st h = Rr X d MLa_law 814 [l0, l1, l2, .int x] (.int x :: st) h := Rr_nx d_MLa_law_813 rfl
theorem r_MLa_law_814 : Rr X d MLa_law 814 L st h = Rr X d MLa_law 815 L (.int (3) :: st) h := Rr_nx d_MLa_law_814 rfl
theorem r_MLa_law_815 {x y : Int32} : Rr X d MLa_law 815 L (.int y :: .int x :: st) h = Rr X d MLa_law 816 L (.int (x + y) :: st) h := Rr_nx d_MLa_law_815 rfl
theorem r_MLa_law_816 {a : Nat} {j : Int32} (hq : (qA a 0).isSome = true) : Rr X d MLa_law 816 L (.int j :: .ref a :: st) (Wd mu la ro et) = if j < 0 ∨ qAd a 0 ≤ j.toNatClampNeg then none else Rr X d MLa_law 817 L (.int (mu a j.toNatClampNeg) :: st) (Wd mu la ro et) := R_ialW d_MLa_law_816 hq
theorem r_MLa_law_816f {n : Nat} {f : Nat → Int32} {j : Int32} : Rr (XS n f) d MLa_law 816 L (.int j :: .float 0 :: st) h = if j < 0 ∨ n ≤ j.toNatClampNeg then none else Rr (XS n f) d MLa_law 817 L (.int (f j.toNatClampNeg) :: st) h := R_ialS d_MLa_law_816
theorem fc_11_86 : fC 11 86 = some (0, 9, 3, MTo_hands) := rfl
theorem r_MLa_law_817 {y0 : Int32} {y1 : Int32} {y2 : Int32} {a : Nat} (hO : qO a 9 = true) (hc : ckS st = true) : Rr X (d + 1) MLa_law 817 L (.int y2 :: .int y1 :: .int y0 :: .ref a :: st) (Wd mu la ro et) = (Rr X d MTo_hands 0 [.ref a, .int y0, .int y1, .int y2, mkU, mkU, mkU, mkU, mkU, mkU] [] (Wd mu la ro et)).bind fun q => Rr X (d + 1) MLa_law 820 L (psh q.1 st) q.2 := R_iv (av := [.int y2, .int y1, .int y0]) d_MLa_law_817 fc_11_86 hO (ckS_le hc) rfl (Nat.le_of_ble_eq_true rfl) (Nat.le_of_ble_eq_true rfl)
theorem r_MLa_law_820 {x : Int32} : Rr X d MLa_law 820 L (.int x :: st) h = Rr X d MLa_law 821 L st h := Rr_nx d_MLa_law_820 rfl
theorem r_MLa_law_821 {l0 l1 l3 : Value} {x : Nat} : Rr X d MLa_law 821 [l0, l1, .ref x, l3] st h = Rr X d MLa_law 822 [l0, l1, .ref x, l3] (.ref x :: st) h := Rr_nx d_MLa_law_821 rfl
theorem r_MLa_law_821n {l0 l1 l3 : Value} : Rr X d MLa_law 821 [l0, l1, .null, l3] st h = Rr X d MLa_law 822 [l0, l1, .null, l3] (.null :: st) h := Rr_nx d_MLa_law_821 rfl
theorem r_MLa_law_822 {l1 l2 l3 : Value} {x : Nat} : Rr X d MLa_law 822 [.ref x, l1, l2, l3] st h = Rr X d MLa_law 823 [.ref x, l1, l2, l3] (.ref x :: st) h := Rr_nx d_MLa_law_822 rfl
theorem r_MLa_law_822f {l1 l2 l3 : Value} {x : UInt32} : Rr X d MLa_law 822 [.float x, l1, l2, l3] st h = Rr X d MLa_law 823 [.float x, l1, l2, l3] (.float x :: st) h := Rr_nx d_MLa_law_822 rfl
theorem r_MLa_law_823 {l0 l1 l2 : Value} {x : Int32} : Rr X d MLa_law 823 [l0, l1, l2, .int x] st h = Rr X d MLa_law 824 [l0, l1, l2, .int x] (.int x :: st) h := Rr_nx d_MLa_law_823 rfl
theorem r_MLa_law_824 : Rr X d MLa_law 824 L st h = Rr X d MLa_law 825 L (.int (1) :: st) h := Rr_nx d_MLa_law_824 rfl
theorem r_MLa_law_825 {x y : Int32} : Rr X d MLa_law 825 L (.int y :: .int x :: st) h = Rr X d MLa_law 826 L (.int (x + y) :: st) h := Rr_nx d_MLa_law_825 rfl
theorem r_MLa_law_826 {a : Nat} {j : Int32} (hq : (qA a 0).isSome = true) : Rr X d MLa_law 826 L (.int j :: .ref a :: st) (Wd mu la ro et) = if j < 0 ∨ qAd a 0 ≤ j.toNatClampNeg then none else Rr X d MLa_law 827 L (.int (mu a j.toNatClampNeg) :: st) (Wd mu la ro et) := R_ialW d_MLa_law_826 hq
theorem r_MLa_law_826f {n : Nat} {f : Nat → Int32} {j : Int32} : Rr (XS n f) d MLa_law 826 L (.int j :: .float 0 :: st) h = if j < 0 ∨ n ≤ j.toNatClampNeg then none else Rr (XS n f) d MLa_law 827 L (.int (f j.toNatClampNeg) :: st) h := R_ialS d_MLa_law_826
theorem r_MLa_law_827 {l1 l2 l3 : Value} {x : Nat} : Rr X d MLa_law 827 [.ref x, l1, l2, l3] st h = Rr X d MLa_law 828 [.ref x, l1, l2, l3] (.ref x :: st) h := Rr_nx d_MLa_law_827 rfl
theorem r_MLa_law_827f {l1 l2 l3 : Value} {x : UInt32} : Rr X d MLa_law 827 [.float x, l1, l2, l3] st h = Rr X d MLa_law 828 [.float x, l1, l2, l3] (.float x :: st) h := Rr_nx d_MLa_law_827 rfl
theorem r_MLa_law_828 {l0 l1 l2 : Value} {x : Int32} : Rr X d MLa_law 828 [l0, l1, l2, .int x] st h = Rr X d MLa_law 829 [l0, l1, l2, .int x] (.int x :: st) h := Rr_nx d_MLa_law_828 rfl
theorem r_MLa_law_829 : Rr X d MLa_law 829 L st h = Rr X d MLa_law 830 L (.int (2) :: st) h := Rr_nx d_MLa_law_829 rfl
theorem r_MLa_law_830 {x y : Int32} : Rr X d MLa_law 830 L (.int y :: .int x :: st) h = Rr X d MLa_law 831 L (.int (x + y) :: st) h := Rr_nx d_MLa_law_830 rfl
theorem r_MLa_law_831 {a : Nat} {j : Int32} (hq : (qA a 0).isSome = true) : Rr X d MLa_law 831 L (.int j :: .ref a :: st) (Wd mu la ro et) = if j < 0 ∨ qAd a 0 ≤ j.toNatClampNeg then none else Rr X d MLa_law 832 L (.int (mu a j.toNatClampNeg) :: st) (Wd mu la ro et) := R_ialW d_MLa_law_831 hq
theorem r_MLa_law_831f {n : Nat} {f : Nat → Int32} {j : Int32} : Rr (XS n f) d MLa_law 831 L (.int j :: .float 0 :: st) h = if j < 0 ∨ n ≤ j.toNatClampNeg then none else Rr (XS n f) d MLa_law 832 L (.int (f j.toNatClampNeg) :: st) h := R_ialS d_MLa_law_831
theorem r_MLa_law_832 {l1 l2 l3 : Value} {x : Nat} : Rr X d MLa_law 832 [.ref x, l1, l2, l3] st h = Rr X d MLa_law 833 [.ref x, l1, l2, l3] (.ref x :: st) h := Rr_nx d_MLa_law_832 rfl
theorem r_MLa_law_832f {l1 l2 l3 : Value} {x : UInt32} : Rr X d MLa_law 832 [.float x, l1, l2, l3] st h = Rr X d MLa_law 833 [.float x, l1, l2, l3] (.float x :: st) h := Rr_nx d_MLa_law_832 rfl
theorem r_MLa_law_833 {l0 l1 l2 : Value} {x : Int32} : Rr X d MLa_law 833 [l0, l1, l2, .int x] st h = Rr X d MLa_law 834 [l0, l1, l2, .int x] (.int x :: st) h := Rr_nx d_MLa_law_833 rfl
theorem r_MLa_law_834 : Rr X d MLa_law 834 L st h = Rr X d MLa_law 835 L (.int (3) :: st) h := Rr_nx d_MLa_law_834 rfl
theorem r_MLa_law_835 {x y : Int32} : Rr X d MLa_law 835 L (.int y :: .int x :: st) h = Rr X d MLa_law 836 L (.int (x + y) :: st) h := Rr_nx d_MLa_law_835 rfl
theorem r_MLa_law_836 {a : Nat} {j : Int32} (hq : (qA a 0).isSome = true) : Rr X d MLa_law 836 L (.int j :: .ref a :: st) (Wd mu la ro et) = if j < 0 ∨ qAd a 0 ≤ j.toNatClampNeg then none else Rr X d MLa_law 837 L (.int (mu a j.toNatClampNeg) :: st) (Wd mu la ro et) := R_ialW d_MLa_law_836 hq
theorem r_MLa_law_836f {n : Nat} {f : Nat → Int32} {j : Int32} : Rr (XS n f) d MLa_law 836 L (.int j :: .float 0 :: st) h = if j < 0 ∨ n ≤ j.toNatClampNeg then none else Rr (XS n f) d MLa_law 837 L (.int (f j.toNatClampNeg) :: st) h := R_ialS d_MLa_law_836
theorem fc_11_89 : fC 11 89 = some (0, 10, 3, MRm_hands) := rfl
theorem r_MLa_law_837 {y0 : Int32} {y1 : Int32} {y2 : Int32} {a : Nat} (hO : qO a 10 = true) (hc : ckS st = true) : Rr X (d + 1) MLa_law 837 L (.int y2 :: .int y1 :: .int y0 :: .ref a :: st) (Wd mu la ro et) = (Rr X d MRm_hands 0 [.ref a, .int y0, .int y1, .int y2, mkU, mkU, mkU, mkU, mkU] [] (Wd mu la ro et)).bind fun q => Rr X (d + 1) MLa_law 840 L (psh q.1 st) q.2 := R_iv (av := [.int y2, .int y1, .int y0]) d_MLa_law_837 fc_11_89 hO (ckS_le hc) rfl (Nat.le_of_ble_eq_true rfl) (Nat.le_of_ble_eq_true rfl)
theorem r_MLa_law_840 {x : Int32} : Rr X d MLa_law 840 L (.int x :: st) h = Rr X d MLa_law 841 L st h := Rr_nx d_MLa_law_840 rfl
theorem r_MLa_law_841 : Rr X d MLa_law 841 L st h = Rr X d MLa_law 1544 L st h := R_goto d_MLa_law_841 (by decide)
theorem r_MLa_law_844 {l0 l2 l3 : Value} {x : Nat} : Rr X d MLa_law 844 [l0, .ref x, l2, l3] st h = Rr X d MLa_law 845 [l0, .ref x, l2, l3] (.ref x :: st) h := Rr_nx d_MLa_law_844 rfl
theorem r_MLa_law_844n {l0 l2 l3 : Value} : Rr X d MLa_law 844 [l0, .null, l2, l3] st h = Rr X d MLa_law 845 [l0, .null, l2, l3] (.null :: st) h := Rr_nx d_MLa_law_844 rfl
theorem r_MLa_law_845 {l1 l2 l3 : Value} {x : Nat} : Rr X d MLa_law 845 [.ref x, l1, l2, l3] st h = Rr X d MLa_law 846 [.ref x, l1, l2, l3] (.ref x :: st) h := Rr_nx d_MLa_law_845 rfl
theorem r_MLa_law_845f {l1 l2 l3 : Value} {x : UInt32} : Rr X d MLa_law 845 [.float x, l1, l2, l3] st h = Rr X d MLa_law 846 [.float x, l1, l2, l3] (.float x :: st) h := Rr_nx d_MLa_law_845 rfl
theorem r_MLa_law_846 {l0 l1 l2 : Value} {x : Int32} : Rr X d MLa_law 846 [l0, l1, l2, .int x] st h = Rr X d MLa_law 847 [l0, l1, l2, .int x] (.int x :: st) h := Rr_nx d_MLa_law_846 rfl
theorem r_MLa_law_847 : Rr X d MLa_law 847 L st h = Rr X d MLa_law 848 L (.int (1) :: st) h := Rr_nx d_MLa_law_847 rfl
theorem r_MLa_law_848 {x y : Int32} : Rr X d MLa_law 848 L (.int y :: .int x :: st) h = Rr X d MLa_law 849 L (.int (x + y) :: st) h := Rr_nx d_MLa_law_848 rfl
theorem r_MLa_law_849 {a : Nat} {j : Int32} (hq : (qA a 0).isSome = true) : Rr X d MLa_law 849 L (.int j :: .ref a :: st) (Wd mu la ro et) = if j < 0 ∨ qAd a 0 ≤ j.toNatClampNeg then none else Rr X d MLa_law 850 L (.int (mu a j.toNatClampNeg) :: st) (Wd mu la ro et) := R_ialW d_MLa_law_849 hq
theorem r_MLa_law_849f {n : Nat} {f : Nat → Int32} {j : Int32} : Rr (XS n f) d MLa_law 849 L (.int j :: .float 0 :: st) h = if j < 0 ∨ n ≤ j.toNatClampNeg then none else Rr (XS n f) d MLa_law 850 L (.int (f j.toNatClampNeg) :: st) h := R_ialS d_MLa_law_849
theorem r_MLa_law_850 {l1 l2 l3 : Value} {x : Nat} : Rr X d MLa_law 850 [.ref x, l1, l2, l3] st h = Rr X d MLa_law 851 [.ref x, l1, l2, l3] (.ref x :: st) h := Rr_nx d_MLa_law_850 rfl
theorem r_MLa_law_850f {l1 l2 l3 : Value} {x : UInt32} : Rr X d MLa_law 850 [.float x, l1, l2, l3] st h = Rr X d MLa_law 851 [.float x, l1, l2, l3] (.float x :: st) h := Rr_nx d_MLa_law_850 rfl
theorem r_MLa_law_851 {l0 l1 l2 : Value} {x : Int32} : Rr X d MLa_law 851 [l0, l1, l2, .int x] st h = Rr X d MLa_law 852 [l0, l1, l2, .int x] (.int x :: st) h := Rr_nx d_MLa_law_851 rfl
theorem r_MLa_law_852 : Rr X d MLa_law 852 L st h = Rr X d MLa_law 853 L (.int (2) :: st) h := Rr_nx d_MLa_law_852 rfl
theorem r_MLa_law_853 {x y : Int32} : Rr X d MLa_law 853 L (.int y :: .int x :: st) h = Rr X d MLa_law 854 L (.int (x + y) :: st) h := Rr_nx d_MLa_law_853 rfl
theorem r_MLa_law_854 {a : Nat} {j : Int32} (hq : (qA a 0).isSome = true) : Rr X d MLa_law 854 L (.int j :: .ref a :: st) (Wd mu la ro et) = if j < 0 ∨ qAd a 0 ≤ j.toNatClampNeg then none else Rr X d MLa_law 855 L (.int (mu a j.toNatClampNeg) :: st) (Wd mu la ro et) := R_ialW d_MLa_law_854 hq
theorem r_MLa_law_854f {n : Nat} {f : Nat → Int32} {j : Int32} : Rr (XS n f) d MLa_law 854 L (.int j :: .float 0 :: st) h = if j < 0 ∨ n ≤ j.toNatClampNeg then none else Rr (XS n f) d MLa_law 855 L (.int (f j.toNatClampNeg) :: st) h := R_ialS d_MLa_law_854
theorem fc_11_90 : fC 11 90 = some (0, 9, 2, MTo_frame) := rfl
theorem r_MLa_law_855 {y0 : Int32} {y1 : Int32} {a : Nat} (hO : qO a 9 = true) (hc : ckS st = true) : Rr X (d + 1) MLa_law 855 L (.int y1 :: .int y0 :: .ref a :: st) (Wd mu la ro et) = (Rr X d MTo_frame 0 [.ref a, .int y0, .int y1] [] (Wd mu la ro et)).bind fun q => Rr X (d + 1) MLa_law 858 L (psh q.1 st) q.2 := R_iv (av := [.int y1, .int y0]) d_MLa_law_855 fc_11_90 hO (ckS_le hc) rfl (Nat.le_of_ble_eq_true rfl) (Nat.le_of_ble_eq_true rfl)
theorem r_MLa_law_858 {x : Int32} : Rr X d MLa_law 858 L (.int x :: st) h = Rr X d MLa_law 859 L st h := Rr_nx d_MLa_law_858 rfl
theorem r_MLa_law_859 {l0 l1 l3 : Value} {x : Nat} : Rr X d MLa_law 859 [l0, l1, .ref x, l3] st h = Rr X d MLa_law 860 [l0, l1, .ref x, l3] (.ref x :: st) h := Rr_nx d_MLa_law_859 rfl
theorem r_MLa_law_859n {l0 l1 l3 : Value} : Rr X d MLa_law 859 [l0, l1, .null, l3] st h = Rr X d MLa_law 860 [l0, l1, .null, l3] (.null :: st) h := Rr_nx d_MLa_law_859 rfl
theorem r_MLa_law_860 {l1 l2 l3 : Value} {x : Nat} : Rr X d MLa_law 860 [.ref x, l1, l2, l3] st h = Rr X d MLa_law 861 [.ref x, l1, l2, l3] (.ref x :: st) h := Rr_nx d_MLa_law_860 rfl
theorem r_MLa_law_860f {l1 l2 l3 : Value} {x : UInt32} : Rr X d MLa_law 860 [.float x, l1, l2, l3] st h = Rr X d MLa_law 861 [.float x, l1, l2, l3] (.float x :: st) h := Rr_nx d_MLa_law_860 rfl
theorem r_MLa_law_861 {l0 l1 l2 : Value} {x : Int32} : Rr X d MLa_law 861 [l0, l1, l2, .int x] st h = Rr X d MLa_law 862 [l0, l1, l2, .int x] (.int x :: st) h := Rr_nx d_MLa_law_861 rfl
theorem r_MLa_law_862 : Rr X d MLa_law 862 L st h = Rr X d MLa_law 863 L (.int (1) :: st) h := Rr_nx d_MLa_law_862 rfl
theorem r_MLa_law_863 {x y : Int32} : Rr X d MLa_law 863 L (.int y :: .int x :: st) h = Rr X d MLa_law 864 L (.int (x + y) :: st) h := Rr_nx d_MLa_law_863 rfl
theorem r_MLa_law_864 {a : Nat} {j : Int32} (hq : (qA a 0).isSome = true) : Rr X d MLa_law 864 L (.int j :: .ref a :: st) (Wd mu la ro et) = if j < 0 ∨ qAd a 0 ≤ j.toNatClampNeg then none else Rr X d MLa_law 865 L (.int (mu a j.toNatClampNeg) :: st) (Wd mu la ro et) := R_ialW d_MLa_law_864 hq
theorem r_MLa_law_864f {n : Nat} {f : Nat → Int32} {j : Int32} : Rr (XS n f) d MLa_law 864 L (.int j :: .float 0 :: st) h = if j < 0 ∨ n ≤ j.toNatClampNeg then none else Rr (XS n f) d MLa_law 865 L (.int (f j.toNatClampNeg) :: st) h := R_ialS d_MLa_law_864
theorem r_MLa_law_865 {l1 l2 l3 : Value} {x : Nat} : Rr X d MLa_law 865 [.ref x, l1, l2, l3] st h = Rr X d MLa_law 866 [.ref x, l1, l2, l3] (.ref x :: st) h := Rr_nx d_MLa_law_865 rfl
theorem r_MLa_law_865f {l1 l2 l3 : Value} {x : UInt32} : Rr X d MLa_law 865 [.float x, l1, l2, l3] st h = Rr X d MLa_law 866 [.float x, l1, l2, l3] (.float x :: st) h := Rr_nx d_MLa_law_865 rfl
theorem r_MLa_law_866 {l0 l1 l2 : Value} {x : Int32} : Rr X d MLa_law 866 [l0, l1, l2, .int x] st h = Rr X d MLa_law 867 [l0, l1, l2, .int x] (.int x :: st) h := Rr_nx d_MLa_law_866 rfl
theorem r_MLa_law_867 : Rr X d MLa_law 867 L st h = Rr X d MLa_law 868 L (.int (2) :: st) h := Rr_nx d_MLa_law_867 rfl
theorem r_MLa_law_868 {x y : Int32} : Rr X d MLa_law 868 L (.int y :: .int x :: st) h = Rr X d MLa_law 869 L (.int (x + y) :: st) h := Rr_nx d_MLa_law_868 rfl
theorem r_MLa_law_869 {a : Nat} {j : Int32} (hq : (qA a 0).isSome = true) : Rr X d MLa_law 869 L (.int j :: .ref a :: st) (Wd mu la ro et) = if j < 0 ∨ qAd a 0 ≤ j.toNatClampNeg then none else Rr X d MLa_law 870 L (.int (mu a j.toNatClampNeg) :: st) (Wd mu la ro et) := R_ialW d_MLa_law_869 hq
theorem r_MLa_law_869f {n : Nat} {f : Nat → Int32} {j : Int32} : Rr (XS n f) d MLa_law 869 L (.int j :: .float 0 :: st) h = if j < 0 ∨ n ≤ j.toNatClampNeg then none else Rr (XS n f) d MLa_law 870 L (.int (f j.toNatClampNeg) :: st) h := R_ialS d_MLa_law_869
theorem fc_11_93 : fC 11 93 = some (0, 10, 2, MRm_frame) := rfl
theorem r_MLa_law_870 {y0 : Int32} {y1 : Int32} {a : Nat} (hO : qO a 10 = true) (hc : ckS st = true) : Rr X (d + 1) MLa_law 870 L (.int y1 :: .int y0 :: .ref a :: st) (Wd mu la ro et) = (Rr X d MRm_frame 0 [.ref a, .int y0, .int y1] [] (Wd mu la ro et)).bind fun q => Rr X (d + 1) MLa_law 873 L (psh q.1 st) q.2 := R_iv (av := [.int y1, .int y0]) d_MLa_law_870 fc_11_93 hO (ckS_le hc) rfl (Nat.le_of_ble_eq_true rfl) (Nat.le_of_ble_eq_true rfl)
theorem r_MLa_law_873 {x : Int32} : Rr X d MLa_law 873 L (.int x :: st) h = Rr X d MLa_law 874 L st h := Rr_nx d_MLa_law_873 rfl
theorem r_MLa_law_874 : Rr X d MLa_law 874 L st h = Rr X d MLa_law 1544 L st h := R_goto d_MLa_law_874 (by decide)
theorem r_MLa_law_877 {l0 l2 l3 : Value} {x : Nat} : Rr X d MLa_law 877 [l0, .ref x, l2, l3] st h = Rr X d MLa_law 878 [l0, .ref x, l2, l3] (.ref x :: st) h := Rr_nx d_MLa_law_877 rfl
theorem r_MLa_law_877n {l0 l2 l3 : Value} : Rr X d MLa_law 877 [l0, .null, l2, l3] st h = Rr X d MLa_law 878 [l0, .null, l2, l3] (.null :: st) h := Rr_nx d_MLa_law_877 rfl
theorem r_MLa_law_878 {l1 l2 l3 : Value} {x : Nat} : Rr X d MLa_law 878 [.ref x, l1, l2, l3] st h = Rr X d MLa_law 879 [.ref x, l1, l2, l3] (.ref x :: st) h := Rr_nx d_MLa_law_878 rfl
theorem r_MLa_law_878f {l1 l2 l3 : Value} {x : UInt32} : Rr X d MLa_law 878 [.float x, l1, l2, l3] st h = Rr X d MLa_law 879 [.float x, l1, l2, l3] (.float x :: st) h := Rr_nx d_MLa_law_878 rfl
theorem r_MLa_law_879 {l0 l1 l2 : Value} {x : Int32} : Rr X d MLa_law 879 [l0, l1, l2, .int x] st h = Rr X d MLa_law 880 [l0, l1, l2, .int x] (.int x :: st) h := Rr_nx d_MLa_law_879 rfl
theorem r_MLa_law_880 : Rr X d MLa_law 880 L st h = Rr X d MLa_law 881 L (.int (1) :: st) h := Rr_nx d_MLa_law_880 rfl
theorem r_MLa_law_881 {x y : Int32} : Rr X d MLa_law 881 L (.int y :: .int x :: st) h = Rr X d MLa_law 882 L (.int (x + y) :: st) h := Rr_nx d_MLa_law_881 rfl
theorem r_MLa_law_882 {a : Nat} {j : Int32} (hq : (qA a 0).isSome = true) : Rr X d MLa_law 882 L (.int j :: .ref a :: st) (Wd mu la ro et) = if j < 0 ∨ qAd a 0 ≤ j.toNatClampNeg then none else Rr X d MLa_law 883 L (.int (mu a j.toNatClampNeg) :: st) (Wd mu la ro et) := R_ialW d_MLa_law_882 hq
theorem r_MLa_law_882f {n : Nat} {f : Nat → Int32} {j : Int32} : Rr (XS n f) d MLa_law 882 L (.int j :: .float 0 :: st) h = if j < 0 ∨ n ≤ j.toNatClampNeg then none else Rr (XS n f) d MLa_law 883 L (.int (f j.toNatClampNeg) :: st) h := R_ialS d_MLa_law_882
theorem r_MLa_law_883 {l1 l2 l3 : Value} {x : Nat} : Rr X d MLa_law 883 [.ref x, l1, l2, l3] st h = Rr X d MLa_law 884 [.ref x, l1, l2, l3] (.ref x :: st) h := Rr_nx d_MLa_law_883 rfl
theorem r_MLa_law_883f {l1 l2 l3 : Value} {x : UInt32} : Rr X d MLa_law 883 [.float x, l1, l2, l3] st h = Rr X d MLa_law 884 [.float x, l1, l2, l3] (.float x :: st) h := Rr_nx d_MLa_law_883 rfl
theorem r_MLa_law_884 {l0 l1 l2 : Value} {x : Int32} : Rr X d MLa_law 884 [l0, l1, l2, .int x] st h = Rr X d MLa_law 885 [l0, l1, l2, .int x] (.int x :: st) h := Rr_nx d_MLa_law_884 rfl
theorem r_MLa_law_885 : Rr X d MLa_law 885 L st h = Rr X d MLa_law 886 L (.int (2) :: st) h := Rr_nx d_MLa_law_885 rfl
theorem r_MLa_law_886 {x y : Int32} : Rr X d MLa_law 886 L (.int y :: .int x :: st) h = Rr X d MLa_law 887 L (.int (x + y) :: st) h := Rr_nx d_MLa_law_886 rfl
theorem r_MLa_law_887 {a : Nat} {j : Int32} (hq : (qA a 0).isSome = true) : Rr X d MLa_law 887 L (.int j :: .ref a :: st) (Wd mu la ro et) = if j < 0 ∨ qAd a 0 ≤ j.toNatClampNeg then none else Rr X d MLa_law 888 L (.int (mu a j.toNatClampNeg) :: st) (Wd mu la ro et) := R_ialW d_MLa_law_887 hq
theorem r_MLa_law_887f {n : Nat} {f : Nat → Int32} {j : Int32} : Rr (XS n f) d MLa_law 887 L (.int j :: .float 0 :: st) h = if j < 0 ∨ n ≤ j.toNatClampNeg then none else Rr (XS n f) d MLa_law 888 L (.int (f j.toNatClampNeg) :: st) h := R_ialS d_MLa_law_887
theorem r_MLa_law_888 {l1 l2 l3 : Value} {x : Nat} : Rr X d MLa_law 888 [.ref x, l1, l2, l3] st h = Rr X d MLa_law 889 [.ref x, l1, l2, l3] (.ref x :: st) h := Rr_nx d_MLa_law_888 rfl
theorem r_MLa_law_888f {l1 l2 l3 : Value} {x : UInt32} : Rr X d MLa_law 888 [.float x, l1, l2, l3] st h = Rr X d MLa_law 889 [.float x, l1, l2, l3] (.float x :: st) h := Rr_nx d_MLa_law_888 rfl
theorem r_MLa_law_889 {l0 l1 l2 : Value} {x : Int32} : Rr X d MLa_law 889 [l0, l1, l2, .int x] st h = Rr X d MLa_law 890 [l0, l1, l2, .int x] (.int x :: st) h := Rr_nx d_MLa_law_889 rfl
theorem r_MLa_law_890 : Rr X d MLa_law 890 L st h = Rr X d MLa_law 891 L (.int (3) :: st) h := Rr_nx d_MLa_law_890 rfl
theorem r_MLa_law_891 {x y : Int32} : Rr X d MLa_law 891 L (.int y :: .int x :: st) h = Rr X d MLa_law 892 L (.int (x + y) :: st) h := Rr_nx d_MLa_law_891 rfl
theorem r_MLa_law_892 {a : Nat} {j : Int32} (hq : (qA a 0).isSome = true) : Rr X d MLa_law 892 L (.int j :: .ref a :: st) (Wd mu la ro et) = if j < 0 ∨ qAd a 0 ≤ j.toNatClampNeg then none else Rr X d MLa_law 893 L (.int (mu a j.toNatClampNeg) :: st) (Wd mu la ro et) := R_ialW d_MLa_law_892 hq
theorem r_MLa_law_892f {n : Nat} {f : Nat → Int32} {j : Int32} : Rr (XS n f) d MLa_law 892 L (.int j :: .float 0 :: st) h = if j < 0 ∨ n ≤ j.toNatClampNeg then none else Rr (XS n f) d MLa_law 893 L (.int (f j.toNatClampNeg) :: st) h := R_ialS d_MLa_law_892
theorem fc_11_94 : fC 11 94 = some (0, 9, 3, MTo_frames) := rfl
theorem r_MLa_law_893 {y0 : Int32} {y1 : Int32} {y2 : Int32} {a : Nat} (hO : qO a 9 = true) (hc : ckS st = true) : Rr X (d + 1) MLa_law 893 L (.int y2 :: .int y1 :: .int y0 :: .ref a :: st) (Wd mu la ro et) = (Rr X d MTo_frames 0 [.ref a, .int y0, .int y1, .int y2, mkU] [] (Wd mu la ro et)).bind fun q => Rr X (d + 1) MLa_law 896 L (psh q.1 st) q.2 := R_iv (av := [.int y2, .int y1, .int y0]) d_MLa_law_893 fc_11_94 hO (ckS_le hc) rfl (Nat.le_of_ble_eq_true rfl) (Nat.le_of_ble_eq_true rfl)
theorem r_MLa_law_896 {x : Int32} : Rr X d MLa_law 896 L (.int x :: st) h = Rr X d MLa_law 897 L st h := Rr_nx d_MLa_law_896 rfl
theorem r_MLa_law_897 {l0 l1 l3 : Value} {x : Nat} : Rr X d MLa_law 897 [l0, l1, .ref x, l3] st h = Rr X d MLa_law 898 [l0, l1, .ref x, l3] (.ref x :: st) h := Rr_nx d_MLa_law_897 rfl
theorem r_MLa_law_897n {l0 l1 l3 : Value} : Rr X d MLa_law 897 [l0, l1, .null, l3] st h = Rr X d MLa_law 898 [l0, l1, .null, l3] (.null :: st) h := Rr_nx d_MLa_law_897 rfl
theorem r_MLa_law_898 {l1 l2 l3 : Value} {x : Nat} : Rr X d MLa_law 898 [.ref x, l1, l2, l3] st h = Rr X d MLa_law 899 [.ref x, l1, l2, l3] (.ref x :: st) h := Rr_nx d_MLa_law_898 rfl
theorem r_MLa_law_898f {l1 l2 l3 : Value} {x : UInt32} : Rr X d MLa_law 898 [.float x, l1, l2, l3] st h = Rr X d MLa_law 899 [.float x, l1, l2, l3] (.float x :: st) h := Rr_nx d_MLa_law_898 rfl
theorem r_MLa_law_899 {l0 l1 l2 : Value} {x : Int32} : Rr X d MLa_law 899 [l0, l1, l2, .int x] st h = Rr X d MLa_law 900 [l0, l1, l2, .int x] (.int x :: st) h := Rr_nx d_MLa_law_899 rfl
theorem r_MLa_law_900 : Rr X d MLa_law 900 L st h = Rr X d MLa_law 901 L (.int (1) :: st) h := Rr_nx d_MLa_law_900 rfl
theorem r_MLa_law_901 {x y : Int32} : Rr X d MLa_law 901 L (.int y :: .int x :: st) h = Rr X d MLa_law 902 L (.int (x + y) :: st) h := Rr_nx d_MLa_law_901 rfl
theorem r_MLa_law_902 {a : Nat} {j : Int32} (hq : (qA a 0).isSome = true) : Rr X d MLa_law 902 L (.int j :: .ref a :: st) (Wd mu la ro et) = if j < 0 ∨ qAd a 0 ≤ j.toNatClampNeg then none else Rr X d MLa_law 903 L (.int (mu a j.toNatClampNeg) :: st) (Wd mu la ro et) := R_ialW d_MLa_law_902 hq
theorem r_MLa_law_902f {n : Nat} {f : Nat → Int32} {j : Int32} : Rr (XS n f) d MLa_law 902 L (.int j :: .float 0 :: st) h = if j < 0 ∨ n ≤ j.toNatClampNeg then none else Rr (XS n f) d MLa_law 903 L (.int (f j.toNatClampNeg) :: st) h := R_ialS d_MLa_law_902
theorem r_MLa_law_903 {l1 l2 l3 : Value} {x : Nat} : Rr X d MLa_law 903 [.ref x, l1, l2, l3] st h = Rr X d MLa_law 904 [.ref x, l1, l2, l3] (.ref x :: st) h := Rr_nx d_MLa_law_903 rfl
theorem r_MLa_law_903f {l1 l2 l3 : Value} {x : UInt32} : Rr X d MLa_law 903 [.float x, l1, l2, l3] st h = Rr X d MLa_law 904 [.float x, l1, l2, l3] (.float x :: st) h := Rr_nx d_MLa_law_903 rfl
theorem r_MLa_law_904 {l0 l1 l2 : Value} {x : Int32} : Rr X d MLa_law 904 [l0, l1, l2, .int x] st h = Rr X d MLa_law 905 [l0, l1, l2, .int x] (.int x :: st) h := Rr_nx d_MLa_law_904 rfl
theorem r_MLa_law_905 : Rr X d MLa_law 905 L st h = Rr X d MLa_law 906 L (.int (2) :: st) h := Rr_nx d_MLa_law_905 rfl
theorem r_MLa_law_906 {x y : Int32} : Rr X d MLa_law 906 L (.int y :: .int x :: st) h = Rr X d MLa_law 907 L (.int (x + y) :: st) h := Rr_nx d_MLa_law_906 rfl
theorem r_MLa_law_907 {a : Nat} {j : Int32} (hq : (qA a 0).isSome = true) : Rr X d MLa_law 907 L (.int j :: .ref a :: st) (Wd mu la ro et) = if j < 0 ∨ qAd a 0 ≤ j.toNatClampNeg then none else Rr X d MLa_law 908 L (.int (mu a j.toNatClampNeg) :: st) (Wd mu la ro et) := R_ialW d_MLa_law_907 hq
theorem r_MLa_law_907f {n : Nat} {f : Nat → Int32} {j : Int32} : Rr (XS n f) d MLa_law 907 L (.int j :: .float 0 :: st) h = if j < 0 ∨ n ≤ j.toNatClampNeg then none else Rr (XS n f) d MLa_law 908 L (.int (f j.toNatClampNeg) :: st) h := R_ialS d_MLa_law_907
theorem r_MLa_law_908 {l1 l2 l3 : Value} {x : Nat} : Rr X d MLa_law 908 [.ref x, l1, l2, l3] st h = Rr X d MLa_law 909 [.ref x, l1, l2, l3] (.ref x :: st) h := Rr_nx d_MLa_law_908 rfl
theorem r_MLa_law_908f {l1 l2 l3 : Value} {x : UInt32} : Rr X d MLa_law 908 [.float x, l1, l2, l3] st h = Rr X d MLa_law 909 [.float x, l1, l2, l3] (.float x :: st) h := Rr_nx d_MLa_law_908 rfl
theorem r_MLa_law_909 {l0 l1 l2 : Value} {x : Int32} : Rr X d MLa_law 909 [l0, l1, l2, .int x] st h = Rr X d MLa_law 910 [l0, l1, l2, .int x] (.int x :: st) h := Rr_nx d_MLa_law_909 rfl
theorem r_MLa_law_910 : Rr X d MLa_law 910 L st h = Rr X d MLa_law 911 L (.int (3) :: st) h := Rr_nx d_MLa_law_910 rfl
theorem r_MLa_law_911 {x y : Int32} : Rr X d MLa_law 911 L (.int y :: .int x :: st) h = Rr X d MLa_law 912 L (.int (x + y) :: st) h := Rr_nx d_MLa_law_911 rfl
theorem r_MLa_law_912 {a : Nat} {j : Int32} (hq : (qA a 0).isSome = true) : Rr X d MLa_law 912 L (.int j :: .ref a :: st) (Wd mu la ro et) = if j < 0 ∨ qAd a 0 ≤ j.toNatClampNeg then none else Rr X d MLa_law 913 L (.int (mu a j.toNatClampNeg) :: st) (Wd mu la ro et) := R_ialW d_MLa_law_912 hq
theorem r_MLa_law_912f {n : Nat} {f : Nat → Int32} {j : Int32} : Rr (XS n f) d MLa_law 912 L (.int j :: .float 0 :: st) h = if j < 0 ∨ n ≤ j.toNatClampNeg then none else Rr (XS n f) d MLa_law 913 L (.int (f j.toNatClampNeg) :: st) h := R_ialS d_MLa_law_912
theorem fc_11_97 : fC 11 97 = some (0, 10, 3, MRm_frames) := rfl
theorem r_MLa_law_913 {y0 : Int32} {y1 : Int32} {y2 : Int32} {a : Nat} (hO : qO a 10 = true) (hc : ckS st = true) : Rr X (d + 1) MLa_law 913 L (.int y2 :: .int y1 :: .int y0 :: .ref a :: st) (Wd mu la ro et) = (Rr X d MRm_frames 0 [.ref a, .int y0, .int y1, .int y2, mkU, mkU, mkU, mkU] [] (Wd mu la ro et)).bind fun q => Rr X (d + 1) MLa_law 916 L (psh q.1 st) q.2 := R_iv (av := [.int y2, .int y1, .int y0]) d_MLa_law_913 fc_11_97 hO (ckS_le hc) rfl (Nat.le_of_ble_eq_true rfl) (Nat.le_of_ble_eq_true rfl)
theorem r_MLa_law_916 {x : Int32} : Rr X d MLa_law 916 L (.int x :: st) h = Rr X d MLa_law 917 L st h := Rr_nx d_MLa_law_916 rfl
theorem r_MLa_law_917 : Rr X d MLa_law 917 L st h = Rr X d MLa_law 1544 L st h := R_goto d_MLa_law_917 (by decide)
theorem r_MLa_law_920 {l0 l2 l3 : Value} {x : Nat} : Rr X d MLa_law 920 [l0, .ref x, l2, l3] st h = Rr X d MLa_law 921 [l0, .ref x, l2, l3] (.ref x :: st) h := Rr_nx d_MLa_law_920 rfl
theorem r_MLa_law_920n {l0 l2 l3 : Value} : Rr X d MLa_law 920 [l0, .null, l2, l3] st h = Rr X d MLa_law 921 [l0, .null, l2, l3] (.null :: st) h := Rr_nx d_MLa_law_920 rfl
theorem fc_11_98 : fC 11 98 = some (0, 9, 0, MTo_cut) := rfl
theorem r_MLa_law_921 {a : Nat} (hO : qO a 9 = true) (hc : ckS st = true) : Rr X (d + 1) MLa_law 921 L (.ref a :: st) (Wd mu la ro et) = (Rr X d MTo_cut 0 [.ref a, mkU] [] (Wd mu la ro et)).bind fun q => Rr X (d + 1) MLa_law 924 L (psh q.1 st) q.2 := R_iv (av := []) d_MLa_law_921 fc_11_98 hO (ckS_le hc) rfl (Nat.le_of_ble_eq_true rfl) (Nat.le_of_ble_eq_true rfl)
theorem r_MLa_law_924 {x : Int32} : Rr X d MLa_law 924 L (.int x :: st) h = Rr X d MLa_law 925 L st h := Rr_nx d_MLa_law_924 rfl
theorem r_MLa_law_925 {l0 l1 l3 : Value} {x : Nat} : Rr X d MLa_law 925 [l0, l1, .ref x, l3] st h = Rr X d MLa_law 926 [l0, l1, .ref x, l3] (.ref x :: st) h := Rr_nx d_MLa_law_925 rfl
theorem r_MLa_law_925n {l0 l1 l3 : Value} : Rr X d MLa_law 925 [l0, l1, .null, l3] st h = Rr X d MLa_law 926 [l0, l1, .null, l3] (.null :: st) h := Rr_nx d_MLa_law_925 rfl
theorem fc_11_101 : fC 11 101 = some (0, 10, 0, MRm_cut) := rfl
theorem r_MLa_law_926 {a : Nat} (hO : qO a 10 = true) (hc : ckS st = true) : Rr X (d + 1) MLa_law 926 L (.ref a :: st) (Wd mu la ro et) = (Rr X d MRm_cut 0 [.ref a, mkU] [] (Wd mu la ro et)).bind fun q => Rr X (d + 1) MLa_law 929 L (psh q.1 st) q.2 := R_iv (av := []) d_MLa_law_926 fc_11_101 hO (ckS_le hc) rfl (Nat.le_of_ble_eq_true rfl) (Nat.le_of_ble_eq_true rfl)
theorem r_MLa_law_929 {x : Int32} : Rr X d MLa_law 929 L (.int x :: st) h = Rr X d MLa_law 930 L st h := Rr_nx d_MLa_law_929 rfl
theorem r_MLa_law_930 : Rr X d MLa_law 930 L st h = Rr X d MLa_law 1544 L st h := R_goto d_MLa_law_930 (by decide)
theorem r_MLa_law_933 {l0 l2 l3 : Value} {x : Nat} : Rr X d MLa_law 933 [l0, .ref x, l2, l3] st h = Rr X d MLa_law 934 [l0, .ref x, l2, l3] (.ref x :: st) h := Rr_nx d_MLa_law_933 rfl
theorem r_MLa_law_933n {l0 l2 l3 : Value} : Rr X d MLa_law 933 [l0, .null, l2, l3] st h = Rr X d MLa_law 934 [l0, .null, l2, l3] (.null :: st) h := Rr_nx d_MLa_law_933 rfl
theorem r_MLa_law_934 {l1 l2 l3 : Value} {x : Nat} : Rr X d MLa_law 934 [.ref x, l1, l2, l3] st h = Rr X d MLa_law 935 [.ref x, l1, l2, l3] (.ref x :: st) h := Rr_nx d_MLa_law_934 rfl
theorem r_MLa_law_934f {l1 l2 l3 : Value} {x : UInt32} : Rr X d MLa_law 934 [.float x, l1, l2, l3] st h = Rr X d MLa_law 935 [.float x, l1, l2, l3] (.float x :: st) h := Rr_nx d_MLa_law_934 rfl
theorem r_MLa_law_935 {l0 l1 l2 : Value} {x : Int32} : Rr X d MLa_law 935 [l0, l1, l2, .int x] st h = Rr X d MLa_law 936 [l0, l1, l2, .int x] (.int x :: st) h := Rr_nx d_MLa_law_935 rfl
theorem r_MLa_law_936 : Rr X d MLa_law 936 L st h = Rr X d MLa_law 937 L (.int (1) :: st) h := Rr_nx d_MLa_law_936 rfl
theorem r_MLa_law_937 {x y : Int32} : Rr X d MLa_law 937 L (.int y :: .int x :: st) h = Rr X d MLa_law 938 L (.int (x + y) :: st) h := Rr_nx d_MLa_law_937 rfl
theorem r_MLa_law_938 {a : Nat} {j : Int32} (hq : (qA a 0).isSome = true) : Rr X d MLa_law 938 L (.int j :: .ref a :: st) (Wd mu la ro et) = if j < 0 ∨ qAd a 0 ≤ j.toNatClampNeg then none else Rr X d MLa_law 939 L (.int (mu a j.toNatClampNeg) :: st) (Wd mu la ro et) := R_ialW d_MLa_law_938 hq
theorem r_MLa_law_938f {n : Nat} {f : Nat → Int32} {j : Int32} : Rr (XS n f) d MLa_law 938 L (.int j :: .float 0 :: st) h = if j < 0 ∨ n ≤ j.toNatClampNeg then none else Rr (XS n f) d MLa_law 939 L (.int (f j.toNatClampNeg) :: st) h := R_ialS d_MLa_law_938
theorem r_MLa_law_939 {l1 l2 l3 : Value} {x : Nat} : Rr X d MLa_law 939 [.ref x, l1, l2, l3] st h = Rr X d MLa_law 940 [.ref x, l1, l2, l3] (.ref x :: st) h := Rr_nx d_MLa_law_939 rfl
theorem r_MLa_law_939f {l1 l2 l3 : Value} {x : UInt32} : Rr X d MLa_law 939 [.float x, l1, l2, l3] st h = Rr X d MLa_law 940 [.float x, l1, l2, l3] (.float x :: st) h := Rr_nx d_MLa_law_939 rfl
theorem r_MLa_law_940 {l0 l1 l2 : Value} {x : Int32} : Rr X d MLa_law 940 [l0, l1, l2, .int x] st h = Rr X d MLa_law 941 [l0, l1, l2, .int x] (.int x :: st) h := Rr_nx d_MLa_law_940 rfl
theorem r_MLa_law_941 : Rr X d MLa_law 941 L st h = Rr X d MLa_law 942 L (.int (2) :: st) h := Rr_nx d_MLa_law_941 rfl
theorem r_MLa_law_942 {x y : Int32} : Rr X d MLa_law 942 L (.int y :: .int x :: st) h = Rr X d MLa_law 943 L (.int (x + y) :: st) h := Rr_nx d_MLa_law_942 rfl
theorem r_MLa_law_943 {a : Nat} {j : Int32} (hq : (qA a 0).isSome = true) : Rr X d MLa_law 943 L (.int j :: .ref a :: st) (Wd mu la ro et) = if j < 0 ∨ qAd a 0 ≤ j.toNatClampNeg then none else Rr X d MLa_law 944 L (.int (mu a j.toNatClampNeg) :: st) (Wd mu la ro et) := R_ialW d_MLa_law_943 hq
theorem r_MLa_law_943f {n : Nat} {f : Nat → Int32} {j : Int32} : Rr (XS n f) d MLa_law 943 L (.int j :: .float 0 :: st) h = if j < 0 ∨ n ≤ j.toNatClampNeg then none else Rr (XS n f) d MLa_law 944 L (.int (f j.toNatClampNeg) :: st) h := R_ialS d_MLa_law_943
theorem r_MLa_law_944 {l1 l2 l3 : Value} {x : Nat} : Rr X d MLa_law 944 [.ref x, l1, l2, l3] st h = Rr X d MLa_law 945 [.ref x, l1, l2, l3] (.ref x :: st) h := Rr_nx d_MLa_law_944 rfl
theorem r_MLa_law_944f {l1 l2 l3 : Value} {x : UInt32} : Rr X d MLa_law 944 [.float x, l1, l2, l3] st h = Rr X d MLa_law 945 [.float x, l1, l2, l3] (.float x :: st) h := Rr_nx d_MLa_law_944 rfl
theorem r_MLa_law_945 {l0 l1 l2 : Value} {x : Int32} : Rr X d MLa_law 945 [l0, l1, l2, .int x] st h = Rr X d MLa_law 946 [l0, l1, l2, .int x] (.int x :: st) h := Rr_nx d_MLa_law_945 rfl
theorem r_MLa_law_946 : Rr X d MLa_law 946 L st h = Rr X d MLa_law 947 L (.int (3) :: st) h := Rr_nx d_MLa_law_946 rfl
theorem r_MLa_law_947 {x y : Int32} : Rr X d MLa_law 947 L (.int y :: .int x :: st) h = Rr X d MLa_law 948 L (.int (x + y) :: st) h := Rr_nx d_MLa_law_947 rfl
theorem r_MLa_law_948 {a : Nat} {j : Int32} (hq : (qA a 0).isSome = true) : Rr X d MLa_law 948 L (.int j :: .ref a :: st) (Wd mu la ro et) = if j < 0 ∨ qAd a 0 ≤ j.toNatClampNeg then none else Rr X d MLa_law 949 L (.int (mu a j.toNatClampNeg) :: st) (Wd mu la ro et) := R_ialW d_MLa_law_948 hq
theorem r_MLa_law_948f {n : Nat} {f : Nat → Int32} {j : Int32} : Rr (XS n f) d MLa_law 948 L (.int j :: .float 0 :: st) h = if j < 0 ∨ n ≤ j.toNatClampNeg then none else Rr (XS n f) d MLa_law 949 L (.int (f j.toNatClampNeg) :: st) h := R_ialS d_MLa_law_948
theorem fc_11_102 : fC 11 102 = some (0, 9, 3, MTo_off) := rfl
theorem r_MLa_law_949 {y0 : Int32} {y1 : Int32} {y2 : Int32} {a : Nat} (hO : qO a 9 = true) (hc : ckS st = true) : Rr X (d + 1) MLa_law 949 L (.int y2 :: .int y1 :: .int y0 :: .ref a :: st) (Wd mu la ro et) = (Rr X d MTo_off 0 [.ref a, .int y0, .int y1, .int y2] [] (Wd mu la ro et)).bind fun q => Rr X (d + 1) MLa_law 952 L (psh q.1 st) q.2 := R_iv (av := [.int y2, .int y1, .int y0]) d_MLa_law_949 fc_11_102 hO (ckS_le hc) rfl (Nat.le_of_ble_eq_true rfl) (Nat.le_of_ble_eq_true rfl)
theorem r_MLa_law_952 {x : Int32} : Rr X d MLa_law 952 L (.int x :: st) h = Rr X d MLa_law 953 L st h := Rr_nx d_MLa_law_952 rfl
theorem r_MLa_law_953 {l0 l1 l3 : Value} {x : Nat} : Rr X d MLa_law 953 [l0, l1, .ref x, l3] st h = Rr X d MLa_law 954 [l0, l1, .ref x, l3] (.ref x :: st) h := Rr_nx d_MLa_law_953 rfl
theorem r_MLa_law_953n {l0 l1 l3 : Value} : Rr X d MLa_law 953 [l0, l1, .null, l3] st h = Rr X d MLa_law 954 [l0, l1, .null, l3] (.null :: st) h := Rr_nx d_MLa_law_953 rfl
theorem r_MLa_law_954 {l1 l2 l3 : Value} {x : Nat} : Rr X d MLa_law 954 [.ref x, l1, l2, l3] st h = Rr X d MLa_law 955 [.ref x, l1, l2, l3] (.ref x :: st) h := Rr_nx d_MLa_law_954 rfl
theorem r_MLa_law_954f {l1 l2 l3 : Value} {x : UInt32} : Rr X d MLa_law 954 [.float x, l1, l2, l3] st h = Rr X d MLa_law 955 [.float x, l1, l2, l3] (.float x :: st) h := Rr_nx d_MLa_law_954 rfl
theorem r_MLa_law_955 {l0 l1 l2 : Value} {x : Int32} : Rr X d MLa_law 955 [l0, l1, l2, .int x] st h = Rr X d MLa_law 956 [l0, l1, l2, .int x] (.int x :: st) h := Rr_nx d_MLa_law_955 rfl
theorem r_MLa_law_956 : Rr X d MLa_law 956 L st h = Rr X d MLa_law 957 L (.int (1) :: st) h := Rr_nx d_MLa_law_956 rfl
theorem r_MLa_law_957 {x y : Int32} : Rr X d MLa_law 957 L (.int y :: .int x :: st) h = Rr X d MLa_law 958 L (.int (x + y) :: st) h := Rr_nx d_MLa_law_957 rfl
theorem r_MLa_law_958 {a : Nat} {j : Int32} (hq : (qA a 0).isSome = true) : Rr X d MLa_law 958 L (.int j :: .ref a :: st) (Wd mu la ro et) = if j < 0 ∨ qAd a 0 ≤ j.toNatClampNeg then none else Rr X d MLa_law 959 L (.int (mu a j.toNatClampNeg) :: st) (Wd mu la ro et) := R_ialW d_MLa_law_958 hq
theorem r_MLa_law_958f {n : Nat} {f : Nat → Int32} {j : Int32} : Rr (XS n f) d MLa_law 958 L (.int j :: .float 0 :: st) h = if j < 0 ∨ n ≤ j.toNatClampNeg then none else Rr (XS n f) d MLa_law 959 L (.int (f j.toNatClampNeg) :: st) h := R_ialS d_MLa_law_958
theorem r_MLa_law_959 {l1 l2 l3 : Value} {x : Nat} : Rr X d MLa_law 959 [.ref x, l1, l2, l3] st h = Rr X d MLa_law 960 [.ref x, l1, l2, l3] (.ref x :: st) h := Rr_nx d_MLa_law_959 rfl
theorem r_MLa_law_959f {l1 l2 l3 : Value} {x : UInt32} : Rr X d MLa_law 959 [.float x, l1, l2, l3] st h = Rr X d MLa_law 960 [.float x, l1, l2, l3] (.float x :: st) h := Rr_nx d_MLa_law_959 rfl
theorem r_MLa_law_960 {l0 l1 l2 : Value} {x : Int32} : Rr X d MLa_law 960 [l0, l1, l2, .int x] st h = Rr X d MLa_law 961 [l0, l1, l2, .int x] (.int x :: st) h := Rr_nx d_MLa_law_960 rfl
theorem r_MLa_law_961 : Rr X d MLa_law 961 L st h = Rr X d MLa_law 962 L (.int (2) :: st) h := Rr_nx d_MLa_law_961 rfl
theorem r_MLa_law_962 {x y : Int32} : Rr X d MLa_law 962 L (.int y :: .int x :: st) h = Rr X d MLa_law 963 L (.int (x + y) :: st) h := Rr_nx d_MLa_law_962 rfl
theorem r_MLa_law_963 {a : Nat} {j : Int32} (hq : (qA a 0).isSome = true) : Rr X d MLa_law 963 L (.int j :: .ref a :: st) (Wd mu la ro et) = if j < 0 ∨ qAd a 0 ≤ j.toNatClampNeg then none else Rr X d MLa_law 964 L (.int (mu a j.toNatClampNeg) :: st) (Wd mu la ro et) := R_ialW d_MLa_law_963 hq
theorem r_MLa_law_963f {n : Nat} {f : Nat → Int32} {j : Int32} : Rr (XS n f) d MLa_law 963 L (.int j :: .float 0 :: st) h = if j < 0 ∨ n ≤ j.toNatClampNeg then none else Rr (XS n f) d MLa_law 964 L (.int (f j.toNatClampNeg) :: st) h := R_ialS d_MLa_law_963
theorem r_MLa_law_964 {l1 l2 l3 : Value} {x : Nat} : Rr X d MLa_law 964 [.ref x, l1, l2, l3] st h = Rr X d MLa_law 965 [.ref x, l1, l2, l3] (.ref x :: st) h := Rr_nx d_MLa_law_964 rfl
theorem r_MLa_law_964f {l1 l2 l3 : Value} {x : UInt32} : Rr X d MLa_law 964 [.float x, l1, l2, l3] st h = Rr X d MLa_law 965 [.float x, l1, l2, l3] (.float x :: st) h := Rr_nx d_MLa_law_964 rfl
theorem r_MLa_law_965 {l0 l1 l2 : Value} {x : Int32} : Rr X d MLa_law 965 [l0, l1, l2, .int x] st h = Rr X d MLa_law 966 [l0, l1, l2, .int x] (.int x :: st) h := Rr_nx d_MLa_law_965 rfl
theorem r_MLa_law_966 : Rr X d MLa_law 966 L st h = Rr X d MLa_law 967 L (.int (3) :: st) h := Rr_nx d_MLa_law_966 rfl
theorem r_MLa_law_967 {x y : Int32} : Rr X d MLa_law 967 L (.int y :: .int x :: st) h = Rr X d MLa_law 968 L (.int (x + y) :: st) h := Rr_nx d_MLa_law_967 rfl
theorem r_MLa_law_968 {a : Nat} {j : Int32} (hq : (qA a 0).isSome = true) : Rr X d MLa_law 968 L (.int j :: .ref a :: st) (Wd mu la ro et) = if j < 0 ∨ qAd a 0 ≤ j.toNatClampNeg then none else Rr X d MLa_law 969 L (.int (mu a j.toNatClampNeg) :: st) (Wd mu la ro et) := R_ialW d_MLa_law_968 hq
theorem r_MLa_law_968f {n : Nat} {f : Nat → Int32} {j : Int32} : Rr (XS n f) d MLa_law 968 L (.int j :: .float 0 :: st) h = if j < 0 ∨ n ≤ j.toNatClampNeg then none else Rr (XS n f) d MLa_law 969 L (.int (f j.toNatClampNeg) :: st) h := R_ialS d_MLa_law_968
theorem fc_11_105 : fC 11 105 = some (0, 10, 3, MRm_off) := rfl
theorem r_MLa_law_969 {y0 : Int32} {y1 : Int32} {y2 : Int32} {a : Nat} (hO : qO a 10 = true) (hc : ckS st = true) : Rr X (d + 1) MLa_law 969 L (.int y2 :: .int y1 :: .int y0 :: .ref a :: st) (Wd mu la ro et) = (Rr X d MRm_off 0 [.ref a, .int y0, .int y1, .int y2] [] (Wd mu la ro et)).bind fun q => Rr X (d + 1) MLa_law 972 L (psh q.1 st) q.2 := R_iv (av := [.int y2, .int y1, .int y0]) d_MLa_law_969 fc_11_105 hO (ckS_le hc) rfl (Nat.le_of_ble_eq_true rfl) (Nat.le_of_ble_eq_true rfl)
theorem r_MLa_law_972 {x : Int32} : Rr X d MLa_law 972 L (.int x :: st) h = Rr X d MLa_law 973 L st h := Rr_nx d_MLa_law_972 rfl
theorem r_MLa_law_973 : Rr X d MLa_law 973 L st h = Rr X d MLa_law 1544 L st h := R_goto d_MLa_law_973 (by decide)
theorem r_MLa_law_976 {l0 l2 l3 : Value} {x : Nat} : Rr X d MLa_law 976 [l0, .ref x, l2, l3] st h = Rr X d MLa_law 977 [l0, .ref x, l2, l3] (.ref x :: st) h := Rr_nx d_MLa_law_976 rfl
theorem r_MLa_law_976n {l0 l2 l3 : Value} : Rr X d MLa_law 976 [l0, .null, l2, l3] st h = Rr X d MLa_law 977 [l0, .null, l2, l3] (.null :: st) h := Rr_nx d_MLa_law_976 rfl
theorem r_MLa_law_977 {l1 l2 l3 : Value} {x : Nat} : Rr X d MLa_law 977 [.ref x, l1, l2, l3] st h = Rr X d MLa_law 978 [.ref x, l1, l2, l3] (.ref x :: st) h := Rr_nx d_MLa_law_977 rfl
theorem r_MLa_law_977f {l1 l2 l3 : Value} {x : UInt32} : Rr X d MLa_law 977 [.float x, l1, l2, l3] st h = Rr X d MLa_law 978 [.float x, l1, l2, l3] (.float x :: st) h := Rr_nx d_MLa_law_977 rfl
theorem r_MLa_law_978 {l0 l1 l2 : Value} {x : Int32} : Rr X d MLa_law 978 [l0, l1, l2, .int x] st h = Rr X d MLa_law 979 [l0, l1, l2, .int x] (.int x :: st) h := Rr_nx d_MLa_law_978 rfl
theorem r_MLa_law_979 : Rr X d MLa_law 979 L st h = Rr X d MLa_law 980 L (.int (1) :: st) h := Rr_nx d_MLa_law_979 rfl
theorem r_MLa_law_980 {x y : Int32} : Rr X d MLa_law 980 L (.int y :: .int x :: st) h = Rr X d MLa_law 981 L (.int (x + y) :: st) h := Rr_nx d_MLa_law_980 rfl
theorem r_MLa_law_981 {a : Nat} {j : Int32} (hq : (qA a 0).isSome = true) : Rr X d MLa_law 981 L (.int j :: .ref a :: st) (Wd mu la ro et) = if j < 0 ∨ qAd a 0 ≤ j.toNatClampNeg then none else Rr X d MLa_law 982 L (.int (mu a j.toNatClampNeg) :: st) (Wd mu la ro et) := R_ialW d_MLa_law_981 hq
theorem r_MLa_law_981f {n : Nat} {f : Nat → Int32} {j : Int32} : Rr (XS n f) d MLa_law 981 L (.int j :: .float 0 :: st) h = if j < 0 ∨ n ≤ j.toNatClampNeg then none else Rr (XS n f) d MLa_law 982 L (.int (f j.toNatClampNeg) :: st) h := R_ialS d_MLa_law_981
theorem r_MLa_law_982 {l1 l2 l3 : Value} {x : Nat} : Rr X d MLa_law 982 [.ref x, l1, l2, l3] st h = Rr X d MLa_law 983 [.ref x, l1, l2, l3] (.ref x :: st) h := Rr_nx d_MLa_law_982 rfl
theorem r_MLa_law_982f {l1 l2 l3 : Value} {x : UInt32} : Rr X d MLa_law 982 [.float x, l1, l2, l3] st h = Rr X d MLa_law 983 [.float x, l1, l2, l3] (.float x :: st) h := Rr_nx d_MLa_law_982 rfl
theorem r_MLa_law_983 {l0 l1 l2 : Value} {x : Int32} : Rr X d MLa_law 983 [l0, l1, l2, .int x] st h = Rr X d MLa_law 984 [l0, l1, l2, .int x] (.int x :: st) h := Rr_nx d_MLa_law_983 rfl
theorem r_MLa_law_984 : Rr X d MLa_law 984 L st h = Rr X d MLa_law 985 L (.int (2) :: st) h := Rr_nx d_MLa_law_984 rfl
theorem r_MLa_law_985 {x y : Int32} : Rr X d MLa_law 985 L (.int y :: .int x :: st) h = Rr X d MLa_law 986 L (.int (x + y) :: st) h := Rr_nx d_MLa_law_985 rfl
theorem r_MLa_law_986 {a : Nat} {j : Int32} (hq : (qA a 0).isSome = true) : Rr X d MLa_law 986 L (.int j :: .ref a :: st) (Wd mu la ro et) = if j < 0 ∨ qAd a 0 ≤ j.toNatClampNeg then none else Rr X d MLa_law 987 L (.int (mu a j.toNatClampNeg) :: st) (Wd mu la ro et) := R_ialW d_MLa_law_986 hq
theorem r_MLa_law_986f {n : Nat} {f : Nat → Int32} {j : Int32} : Rr (XS n f) d MLa_law 986 L (.int j :: .float 0 :: st) h = if j < 0 ∨ n ≤ j.toNatClampNeg then none else Rr (XS n f) d MLa_law 987 L (.int (f j.toNatClampNeg) :: st) h := R_ialS d_MLa_law_986
theorem r_MLa_law_987 {l1 l2 l3 : Value} {x : Nat} : Rr X d MLa_law 987 [.ref x, l1, l2, l3] st h = Rr X d MLa_law 988 [.ref x, l1, l2, l3] (.ref x :: st) h := Rr_nx d_MLa_law_987 rfl
theorem r_MLa_law_987f {l1 l2 l3 : Value} {x : UInt32} : Rr X d MLa_law 987 [.float x, l1, l2, l3] st h = Rr X d MLa_law 988 [.float x, l1, l2, l3] (.float x :: st) h := Rr_nx d_MLa_law_987 rfl
theorem r_MLa_law_988 {l0 l1 l2 : Value} {x : Int32} : Rr X d MLa_law 988 [l0, l1, l2, .int x] st h = Rr X d MLa_law 989 [l0, l1, l2, .int x] (.int x :: st) h := Rr_nx d_MLa_law_988 rfl
theorem r_MLa_law_989 : Rr X d MLa_law 989 L st h = Rr X d MLa_law 990 L (.int (3) :: st) h := Rr_nx d_MLa_law_989 rfl
theorem r_MLa_law_990 {x y : Int32} : Rr X d MLa_law 990 L (.int y :: .int x :: st) h = Rr X d MLa_law 991 L (.int (x + y) :: st) h := Rr_nx d_MLa_law_990 rfl
theorem r_MLa_law_991 {a : Nat} {j : Int32} (hq : (qA a 0).isSome = true) : Rr X d MLa_law 991 L (.int j :: .ref a :: st) (Wd mu la ro et) = if j < 0 ∨ qAd a 0 ≤ j.toNatClampNeg then none else Rr X d MLa_law 992 L (.int (mu a j.toNatClampNeg) :: st) (Wd mu la ro et) := R_ialW d_MLa_law_991 hq
theorem r_MLa_law_991f {n : Nat} {f : Nat → Int32} {j : Int32} : Rr (XS n f) d MLa_law 991 L (.int j :: .float 0 :: st) h = if j < 0 ∨ n ≤ j.toNatClampNeg then none else Rr (XS n f) d MLa_law 992 L (.int (f j.toNatClampNeg) :: st) h := R_ialS d_MLa_law_991
theorem fc_11_106 : fC 11 106 = some (0, 9, 3, MTo_shape) := rfl
theorem r_MLa_law_992 {y0 : Int32} {y1 : Int32} {y2 : Int32} {a : Nat} (hO : qO a 9 = true) (hc : ckS st = true) : Rr X (d + 1) MLa_law 992 L (.int y2 :: .int y1 :: .int y0 :: .ref a :: st) (Wd mu la ro et) = (Rr X d MTo_shape 0 [.ref a, .int y0, .int y1, .int y2, mkU, mkU, mkU, mkU] [] (Wd mu la ro et)).bind fun q => Rr X (d + 1) MLa_law 995 L (psh q.1 st) q.2 := R_iv (av := [.int y2, .int y1, .int y0]) d_MLa_law_992 fc_11_106 hO (ckS_le hc) rfl (Nat.le_of_ble_eq_true rfl) (Nat.le_of_ble_eq_true rfl)
theorem r_MLa_law_995 {x : Int32} : Rr X d MLa_law 995 L (.int x :: st) h = Rr X d MLa_law 996 L st h := Rr_nx d_MLa_law_995 rfl
theorem r_MLa_law_996 {l0 l1 l3 : Value} {x : Nat} : Rr X d MLa_law 996 [l0, l1, .ref x, l3] st h = Rr X d MLa_law 997 [l0, l1, .ref x, l3] (.ref x :: st) h := Rr_nx d_MLa_law_996 rfl
theorem r_MLa_law_996n {l0 l1 l3 : Value} : Rr X d MLa_law 996 [l0, l1, .null, l3] st h = Rr X d MLa_law 997 [l0, l1, .null, l3] (.null :: st) h := Rr_nx d_MLa_law_996 rfl
theorem r_MLa_law_997 {l1 l2 l3 : Value} {x : Nat} : Rr X d MLa_law 997 [.ref x, l1, l2, l3] st h = Rr X d MLa_law 998 [.ref x, l1, l2, l3] (.ref x :: st) h := Rr_nx d_MLa_law_997 rfl
theorem r_MLa_law_997f {l1 l2 l3 : Value} {x : UInt32} : Rr X d MLa_law 997 [.float x, l1, l2, l3] st h = Rr X d MLa_law 998 [.float x, l1, l2, l3] (.float x :: st) h := Rr_nx d_MLa_law_997 rfl
theorem r_MLa_law_998 {l0 l1 l2 : Value} {x : Int32} : Rr X d MLa_law 998 [l0, l1, l2, .int x] st h = Rr X d MLa_law 999 [l0, l1, l2, .int x] (.int x :: st) h := Rr_nx d_MLa_law_998 rfl
theorem r_MLa_law_999 : Rr X d MLa_law 999 L st h = Rr X d MLa_law 1000 L (.int (1) :: st) h := Rr_nx d_MLa_law_999 rfl
theorem r_MLa_law_1000 {x y : Int32} : Rr X d MLa_law 1000 L (.int y :: .int x :: st) h = Rr X d MLa_law 1001 L (.int (x + y) :: st) h := Rr_nx d_MLa_law_1000 rfl
theorem r_MLa_law_1001 {a : Nat} {j : Int32} (hq : (qA a 0).isSome = true) : Rr X d MLa_law 1001 L (.int j :: .ref a :: st) (Wd mu la ro et) = if j < 0 ∨ qAd a 0 ≤ j.toNatClampNeg then none else Rr X d MLa_law 1002 L (.int (mu a j.toNatClampNeg) :: st) (Wd mu la ro et) := R_ialW d_MLa_law_1001 hq
theorem r_MLa_law_1001f {n : Nat} {f : Nat → Int32} {j : Int32} : Rr (XS n f) d MLa_law 1001 L (.int j :: .float 0 :: st) h = if j < 0 ∨ n ≤ j.toNatClampNeg then none else Rr (XS n f) d MLa_law 1002 L (.int (f j.toNatClampNeg) :: st) h := R_ialS d_MLa_law_1001
theorem r_MLa_law_1002 {l1 l2 l3 : Value} {x : Nat} : Rr X d MLa_law 1002 [.ref x, l1, l2, l3] st h = Rr X d MLa_law 1003 [.ref x, l1, l2, l3] (.ref x :: st) h := Rr_nx d_MLa_law_1002 rfl
theorem r_MLa_law_1002f {l1 l2 l3 : Value} {x : UInt32} : Rr X d MLa_law 1002 [.float x, l1, l2, l3] st h = Rr X d MLa_law 1003 [.float x, l1, l2, l3] (.float x :: st) h := Rr_nx d_MLa_law_1002 rfl
theorem r_MLa_law_1003 {l0 l1 l2 : Value} {x : Int32} : Rr X d MLa_law 1003 [l0, l1, l2, .int x] st h = Rr X d MLa_law 1004 [l0, l1, l2, .int x] (.int x :: st) h := Rr_nx d_MLa_law_1003 rfl
theorem r_MLa_law_1004 : Rr X d MLa_law 1004 L st h = Rr X d MLa_law 1005 L (.int (2) :: st) h := Rr_nx d_MLa_law_1004 rfl
theorem r_MLa_law_1005 {x y : Int32} : Rr X d MLa_law 1005 L (.int y :: .int x :: st) h = Rr X d MLa_law 1006 L (.int (x + y) :: st) h := Rr_nx d_MLa_law_1005 rfl
theorem r_MLa_law_1006 {a : Nat} {j : Int32} (hq : (qA a 0).isSome = true) : Rr X d MLa_law 1006 L (.int j :: .ref a :: st) (Wd mu la ro et) = if j < 0 ∨ qAd a 0 ≤ j.toNatClampNeg then none else Rr X d MLa_law 1007 L (.int (mu a j.toNatClampNeg) :: st) (Wd mu la ro et) := R_ialW d_MLa_law_1006 hq
theorem r_MLa_law_1006f {n : Nat} {f : Nat → Int32} {j : Int32} : Rr (XS n f) d MLa_law 1006 L (.int j :: .float 0 :: st) h = if j < 0 ∨ n ≤ j.toNatClampNeg then none else Rr (XS n f) d MLa_law 1007 L (.int (f j.toNatClampNeg) :: st) h := R_ialS d_MLa_law_1006
theorem r_MLa_law_1007 {l1 l2 l3 : Value} {x : Nat} : Rr X d MLa_law 1007 [.ref x, l1, l2, l3] st h = Rr X d MLa_law 1008 [.ref x, l1, l2, l3] (.ref x :: st) h := Rr_nx d_MLa_law_1007 rfl
theorem r_MLa_law_1007f {l1 l2 l3 : Value} {x : UInt32} : Rr X d MLa_law 1007 [.float x, l1, l2, l3] st h = Rr X d MLa_law 1008 [.float x, l1, l2, l3] (.float x :: st) h := Rr_nx d_MLa_law_1007 rfl
theorem r_MLa_law_1008 {l0 l1 l2 : Value} {x : Int32} : Rr X d MLa_law 1008 [l0, l1, l2, .int x] st h = Rr X d MLa_law 1009 [l0, l1, l2, .int x] (.int x :: st) h := Rr_nx d_MLa_law_1008 rfl
theorem r_MLa_law_1009 : Rr X d MLa_law 1009 L st h = Rr X d MLa_law 1010 L (.int (3) :: st) h := Rr_nx d_MLa_law_1009 rfl
theorem r_MLa_law_1010 {x y : Int32} : Rr X d MLa_law 1010 L (.int y :: .int x :: st) h = Rr X d MLa_law 1011 L (.int (x + y) :: st) h := Rr_nx d_MLa_law_1010 rfl
theorem r_MLa_law_1011 {a : Nat} {j : Int32} (hq : (qA a 0).isSome = true) : Rr X d MLa_law 1011 L (.int j :: .ref a :: st) (Wd mu la ro et) = if j < 0 ∨ qAd a 0 ≤ j.toNatClampNeg then none else Rr X d MLa_law 1012 L (.int (mu a j.toNatClampNeg) :: st) (Wd mu la ro et) := R_ialW d_MLa_law_1011 hq
theorem r_MLa_law_1011f {n : Nat} {f : Nat → Int32} {j : Int32} : Rr (XS n f) d MLa_law 1011 L (.int j :: .float 0 :: st) h = if j < 0 ∨ n ≤ j.toNatClampNeg then none else Rr (XS n f) d MLa_law 1012 L (.int (f j.toNatClampNeg) :: st) h := R_ialS d_MLa_law_1011
theorem fc_11_109 : fC 11 109 = some (0, 10, 3, MRm_shape) := rfl
theorem r_MLa_law_1012 {y0 : Int32} {y1 : Int32} {y2 : Int32} {a : Nat} (hO : qO a 10 = true) (hc : ckS st = true) : Rr X (d + 1) MLa_law 1012 L (.int y2 :: .int y1 :: .int y0 :: .ref a :: st) (Wd mu la ro et) = (Rr X d MRm_shape 0 [.ref a, .int y0, .int y1, .int y2, mkU, mkU, mkU, mkU] [] (Wd mu la ro et)).bind fun q => Rr X (d + 1) MLa_law 1015 L (psh q.1 st) q.2 := R_iv (av := [.int y2, .int y1, .int y0]) d_MLa_law_1012 fc_11_109 hO (ckS_le hc) rfl (Nat.le_of_ble_eq_true rfl) (Nat.le_of_ble_eq_true rfl)
theorem r_MLa_law_1015 {x : Int32} : Rr X d MLa_law 1015 L (.int x :: st) h = Rr X d MLa_law 1016 L st h := Rr_nx d_MLa_law_1015 rfl
theorem r_MLa_law_1016 : Rr X d MLa_law 1016 L st h = Rr X d MLa_law 1544 L st h := R_goto d_MLa_law_1016 (by decide)
theorem r_MLa_law_1019 {l0 l2 l3 : Value} {x : Nat} : Rr X d MLa_law 1019 [l0, .ref x, l2, l3] st h = Rr X d MLa_law 1020 [l0, .ref x, l2, l3] (.ref x :: st) h := Rr_nx d_MLa_law_1019 rfl
theorem r_MLa_law_1019n {l0 l2 l3 : Value} : Rr X d MLa_law 1019 [l0, .null, l2, l3] st h = Rr X d MLa_law 1020 [l0, .null, l2, l3] (.null :: st) h := Rr_nx d_MLa_law_1019 rfl
theorem r_MLa_law_1020 {l1 l2 l3 : Value} {x : Nat} : Rr X d MLa_law 1020 [.ref x, l1, l2, l3] st h = Rr X d MLa_law 1021 [.ref x, l1, l2, l3] (.ref x :: st) h := Rr_nx d_MLa_law_1020 rfl
theorem r_MLa_law_1020f {l1 l2 l3 : Value} {x : UInt32} : Rr X d MLa_law 1020 [.float x, l1, l2, l3] st h = Rr X d MLa_law 1021 [.float x, l1, l2, l3] (.float x :: st) h := Rr_nx d_MLa_law_1020 rfl
theorem r_MLa_law_1021 {l0 l1 l2 : Value} {x : Int32} : Rr X d MLa_law 1021 [l0, l1, l2, .int x] st h = Rr X d MLa_law 1022 [l0, l1, l2, .int x] (.int x :: st) h := Rr_nx d_MLa_law_1021 rfl
theorem r_MLa_law_1022 : Rr X d MLa_law 1022 L st h = Rr X d MLa_law 1023 L (.int (1) :: st) h := Rr_nx d_MLa_law_1022 rfl
theorem r_MLa_law_1023 {x y : Int32} : Rr X d MLa_law 1023 L (.int y :: .int x :: st) h = Rr X d MLa_law 1024 L (.int (x + y) :: st) h := Rr_nx d_MLa_law_1023 rfl
theorem r_MLa_law_1024 {a : Nat} {j : Int32} (hq : (qA a 0).isSome = true) : Rr X d MLa_law 1024 L (.int j :: .ref a :: st) (Wd mu la ro et) = if j < 0 ∨ qAd a 0 ≤ j.toNatClampNeg then none else Rr X d MLa_law 1025 L (.int (mu a j.toNatClampNeg) :: st) (Wd mu la ro et) := R_ialW d_MLa_law_1024 hq
theorem r_MLa_law_1024f {n : Nat} {f : Nat → Int32} {j : Int32} : Rr (XS n f) d MLa_law 1024 L (.int j :: .float 0 :: st) h = if j < 0 ∨ n ≤ j.toNatClampNeg then none else Rr (XS n f) d MLa_law 1025 L (.int (f j.toNatClampNeg) :: st) h := R_ialS d_MLa_law_1024
theorem r_MLa_law_1025 {l1 l2 l3 : Value} {x : Nat} : Rr X d MLa_law 1025 [.ref x, l1, l2, l3] st h = Rr X d MLa_law 1026 [.ref x, l1, l2, l3] (.ref x :: st) h := Rr_nx d_MLa_law_1025 rfl
theorem r_MLa_law_1025f {l1 l2 l3 : Value} {x : UInt32} : Rr X d MLa_law 1025 [.float x, l1, l2, l3] st h = Rr X d MLa_law 1026 [.float x, l1, l2, l3] (.float x :: st) h := Rr_nx d_MLa_law_1025 rfl
theorem r_MLa_law_1026 {l0 l1 l2 : Value} {x : Int32} : Rr X d MLa_law 1026 [l0, l1, l2, .int x] st h = Rr X d MLa_law 1027 [l0, l1, l2, .int x] (.int x :: st) h := Rr_nx d_MLa_law_1026 rfl
theorem r_MLa_law_1027 : Rr X d MLa_law 1027 L st h = Rr X d MLa_law 1028 L (.int (2) :: st) h := Rr_nx d_MLa_law_1027 rfl
theorem r_MLa_law_1028 {x y : Int32} : Rr X d MLa_law 1028 L (.int y :: .int x :: st) h = Rr X d MLa_law 1029 L (.int (x + y) :: st) h := Rr_nx d_MLa_law_1028 rfl
theorem r_MLa_law_1029 {a : Nat} {j : Int32} (hq : (qA a 0).isSome = true) : Rr X d MLa_law 1029 L (.int j :: .ref a :: st) (Wd mu la ro et) = if j < 0 ∨ qAd a 0 ≤ j.toNatClampNeg then none else Rr X d MLa_law 1030 L (.int (mu a j.toNatClampNeg) :: st) (Wd mu la ro et) := R_ialW d_MLa_law_1029 hq
theorem r_MLa_law_1029f {n : Nat} {f : Nat → Int32} {j : Int32} : Rr (XS n f) d MLa_law 1029 L (.int j :: .float 0 :: st) h = if j < 0 ∨ n ≤ j.toNatClampNeg then none else Rr (XS n f) d MLa_law 1030 L (.int (f j.toNatClampNeg) :: st) h := R_ialS d_MLa_law_1029
theorem r_MLa_law_1030 {l1 l2 l3 : Value} {x : Nat} : Rr X d MLa_law 1030 [.ref x, l1, l2, l3] st h = Rr X d MLa_law 1031 [.ref x, l1, l2, l3] (.ref x :: st) h := Rr_nx d_MLa_law_1030 rfl
theorem r_MLa_law_1030f {l1 l2 l3 : Value} {x : UInt32} : Rr X d MLa_law 1030 [.float x, l1, l2, l3] st h = Rr X d MLa_law 1031 [.float x, l1, l2, l3] (.float x :: st) h := Rr_nx d_MLa_law_1030 rfl
theorem r_MLa_law_1031 {l0 l1 l2 : Value} {x : Int32} : Rr X d MLa_law 1031 [l0, l1, l2, .int x] st h = Rr X d MLa_law 1032 [l0, l1, l2, .int x] (.int x :: st) h := Rr_nx d_MLa_law_1031 rfl
theorem r_MLa_law_1032 : Rr X d MLa_law 1032 L st h = Rr X d MLa_law 1033 L (.int (3) :: st) h := Rr_nx d_MLa_law_1032 rfl
theorem r_MLa_law_1033 {x y : Int32} : Rr X d MLa_law 1033 L (.int y :: .int x :: st) h = Rr X d MLa_law 1034 L (.int (x + y) :: st) h := Rr_nx d_MLa_law_1033 rfl
theorem r_MLa_law_1034 {a : Nat} {j : Int32} (hq : (qA a 0).isSome = true) : Rr X d MLa_law 1034 L (.int j :: .ref a :: st) (Wd mu la ro et) = if j < 0 ∨ qAd a 0 ≤ j.toNatClampNeg then none else Rr X d MLa_law 1035 L (.int (mu a j.toNatClampNeg) :: st) (Wd mu la ro et) := R_ialW d_MLa_law_1034 hq
theorem r_MLa_law_1034f {n : Nat} {f : Nat → Int32} {j : Int32} : Rr (XS n f) d MLa_law 1034 L (.int j :: .float 0 :: st) h = if j < 0 ∨ n ≤ j.toNatClampNeg then none else Rr (XS n f) d MLa_law 1035 L (.int (f j.toNatClampNeg) :: st) h := R_ialS d_MLa_law_1034
theorem fc_11_110 : fC 11 110 = some (0, 9, 3, MTo_span) := rfl
theorem r_MLa_law_1035 {y0 : Int32} {y1 : Int32} {y2 : Int32} {a : Nat} (hO : qO a 9 = true) (hc : ckS st = true) : Rr X (d + 1) MLa_law 1035 L (.int y2 :: .int y1 :: .int y0 :: .ref a :: st) (Wd mu la ro et) = (Rr X d MTo_span 0 [.ref a, .int y0, .int y1, .int y2, mkU, mkU] [] (Wd mu la ro et)).bind fun q => Rr X (d + 1) MLa_law 1038 L (psh q.1 st) q.2 := R_iv (av := [.int y2, .int y1, .int y0]) d_MLa_law_1035 fc_11_110 hO (ckS_le hc) rfl (Nat.le_of_ble_eq_true rfl) (Nat.le_of_ble_eq_true rfl)
theorem r_MLa_law_1038 {x : Int32} : Rr X d MLa_law 1038 L (.int x :: st) h = Rr X d MLa_law 1039 L st h := Rr_nx d_MLa_law_1038 rfl
theorem r_MLa_law_1039 {l0 l1 l3 : Value} {x : Nat} : Rr X d MLa_law 1039 [l0, l1, .ref x, l3] st h = Rr X d MLa_law 1040 [l0, l1, .ref x, l3] (.ref x :: st) h := Rr_nx d_MLa_law_1039 rfl
theorem r_MLa_law_1039n {l0 l1 l3 : Value} : Rr X d MLa_law 1039 [l0, l1, .null, l3] st h = Rr X d MLa_law 1040 [l0, l1, .null, l3] (.null :: st) h := Rr_nx d_MLa_law_1039 rfl
theorem r_MLa_law_1040 {l1 l2 l3 : Value} {x : Nat} : Rr X d MLa_law 1040 [.ref x, l1, l2, l3] st h = Rr X d MLa_law 1041 [.ref x, l1, l2, l3] (.ref x :: st) h := Rr_nx d_MLa_law_1040 rfl
theorem r_MLa_law_1040f {l1 l2 l3 : Value} {x : UInt32} : Rr X d MLa_law 1040 [.float x, l1, l2, l3] st h = Rr X d MLa_law 1041 [.float x, l1, l2, l3] (.float x :: st) h := Rr_nx d_MLa_law_1040 rfl
theorem r_MLa_law_1041 {l0 l1 l2 : Value} {x : Int32} : Rr X d MLa_law 1041 [l0, l1, l2, .int x] st h = Rr X d MLa_law 1042 [l0, l1, l2, .int x] (.int x :: st) h := Rr_nx d_MLa_law_1041 rfl
theorem r_MLa_law_1042 : Rr X d MLa_law 1042 L st h = Rr X d MLa_law 1043 L (.int (1) :: st) h := Rr_nx d_MLa_law_1042 rfl
theorem r_MLa_law_1043 {x y : Int32} : Rr X d MLa_law 1043 L (.int y :: .int x :: st) h = Rr X d MLa_law 1044 L (.int (x + y) :: st) h := Rr_nx d_MLa_law_1043 rfl
theorem r_MLa_law_1044 {a : Nat} {j : Int32} (hq : (qA a 0).isSome = true) : Rr X d MLa_law 1044 L (.int j :: .ref a :: st) (Wd mu la ro et) = if j < 0 ∨ qAd a 0 ≤ j.toNatClampNeg then none else Rr X d MLa_law 1045 L (.int (mu a j.toNatClampNeg) :: st) (Wd mu la ro et) := R_ialW d_MLa_law_1044 hq
theorem r_MLa_law_1044f {n : Nat} {f : Nat → Int32} {j : Int32} : Rr (XS n f) d MLa_law 1044 L (.int j :: .float 0 :: st) h = if j < 0 ∨ n ≤ j.toNatClampNeg then none else Rr (XS n f) d MLa_law 1045 L (.int (f j.toNatClampNeg) :: st) h := R_ialS d_MLa_law_1044
theorem r_MLa_law_1045 {l1 l2 l3 : Value} {x : Nat} : Rr X d MLa_law 1045 [.ref x, l1, l2, l3] st h = Rr X d MLa_law 1046 [.ref x, l1, l2, l3] (.ref x :: st) h := Rr_nx d_MLa_law_1045 rfl
theorem r_MLa_law_1045f {l1 l2 l3 : Value} {x : UInt32} : Rr X d MLa_law 1045 [.float x, l1, l2, l3] st h = Rr X d MLa_law 1046 [.float x, l1, l2, l3] (.float x :: st) h := Rr_nx d_MLa_law_1045 rfl
theorem r_MLa_law_1046 {l0 l1 l2 : Value} {x : Int32} : Rr X d MLa_law 1046 [l0, l1, l2, .int x] st h = Rr X d MLa_law 1047 [l0, l1, l2, .int x] (.int x :: st) h := Rr_nx d_MLa_law_1046 rfl
theorem r_MLa_law_1047 : Rr X d MLa_law 1047 L st h = Rr X d MLa_law 1048 L (.int (2) :: st) h := Rr_nx d_MLa_law_1047 rfl
theorem r_MLa_law_1048 {x y : Int32} : Rr X d MLa_law 1048 L (.int y :: .int x :: st) h = Rr X d MLa_law 1049 L (.int (x + y) :: st) h := Rr_nx d_MLa_law_1048 rfl
theorem r_MLa_law_1049 {a : Nat} {j : Int32} (hq : (qA a 0).isSome = true) : Rr X d MLa_law 1049 L (.int j :: .ref a :: st) (Wd mu la ro et) = if j < 0 ∨ qAd a 0 ≤ j.toNatClampNeg then none else Rr X d MLa_law 1050 L (.int (mu a j.toNatClampNeg) :: st) (Wd mu la ro et) := R_ialW d_MLa_law_1049 hq
theorem r_MLa_law_1049f {n : Nat} {f : Nat → Int32} {j : Int32} : Rr (XS n f) d MLa_law 1049 L (.int j :: .float 0 :: st) h = if j < 0 ∨ n ≤ j.toNatClampNeg then none else Rr (XS n f) d MLa_law 1050 L (.int (f j.toNatClampNeg) :: st) h := R_ialS d_MLa_law_1049
theorem r_MLa_law_1050 {l1 l2 l3 : Value} {x : Nat} : Rr X d MLa_law 1050 [.ref x, l1, l2, l3] st h = Rr X d MLa_law 1051 [.ref x, l1, l2, l3] (.ref x :: st) h := Rr_nx d_MLa_law_1050 rfl
theorem r_MLa_law_1050f {l1 l2 l3 : Value} {x : UInt32} : Rr X d MLa_law 1050 [.float x, l1, l2, l3] st h = Rr X d MLa_law 1051 [.float x, l1, l2, l3] (.float x :: st) h := Rr_nx d_MLa_law_1050 rfl
theorem r_MLa_law_1051 {l0 l1 l2 : Value} {x : Int32} : Rr X d MLa_law 1051 [l0, l1, l2, .int x] st h = Rr X d MLa_law 1052 [l0, l1, l2, .int x] (.int x :: st) h := Rr_nx d_MLa_law_1051 rfl
theorem r_MLa_law_1052 : Rr X d MLa_law 1052 L st h = Rr X d MLa_law 1053 L (.int (3) :: st) h := Rr_nx d_MLa_law_1052 rfl
theorem r_MLa_law_1053 {x y : Int32} : Rr X d MLa_law 1053 L (.int y :: .int x :: st) h = Rr X d MLa_law 1054 L (.int (x + y) :: st) h := Rr_nx d_MLa_law_1053 rfl
theorem r_MLa_law_1054 {a : Nat} {j : Int32} (hq : (qA a 0).isSome = true) : Rr X d MLa_law 1054 L (.int j :: .ref a :: st) (Wd mu la ro et) = if j < 0 ∨ qAd a 0 ≤ j.toNatClampNeg then none else Rr X d MLa_law 1055 L (.int (mu a j.toNatClampNeg) :: st) (Wd mu la ro et) := R_ialW d_MLa_law_1054 hq
theorem r_MLa_law_1054f {n : Nat} {f : Nat → Int32} {j : Int32} : Rr (XS n f) d MLa_law 1054 L (.int j :: .float 0 :: st) h = if j < 0 ∨ n ≤ j.toNatClampNeg then none else Rr (XS n f) d MLa_law 1055 L (.int (f j.toNatClampNeg) :: st) h := R_ialS d_MLa_law_1054
theorem fc_11_113 : fC 11 113 = some (0, 10, 3, MRm_span) := rfl
theorem r_MLa_law_1055 {y0 : Int32} {y1 : Int32} {y2 : Int32} {a : Nat} (hO : qO a 10 = true) (hc : ckS st = true) : Rr X (d + 1) MLa_law 1055 L (.int y2 :: .int y1 :: .int y0 :: .ref a :: st) (Wd mu la ro et) = (Rr X d MRm_span 0 [.ref a, .int y0, .int y1, .int y2, mkU, mkU] [] (Wd mu la ro et)).bind fun q => Rr X (d + 1) MLa_law 1058 L (psh q.1 st) q.2 := R_iv (av := [.int y2, .int y1, .int y0]) d_MLa_law_1055 fc_11_113 hO (ckS_le hc) rfl (Nat.le_of_ble_eq_true rfl) (Nat.le_of_ble_eq_true rfl)
theorem r_MLa_law_1058 {x : Int32} : Rr X d MLa_law 1058 L (.int x :: st) h = Rr X d MLa_law 1059 L st h := Rr_nx d_MLa_law_1058 rfl
theorem r_MLa_law_1059 : Rr X d MLa_law 1059 L st h = Rr X d MLa_law 1544 L st h := R_goto d_MLa_law_1059 (by decide)
theorem r_MLa_law_1062 {l0 l2 l3 : Value} {x : Nat} : Rr X d MLa_law 1062 [l0, .ref x, l2, l3] st h = Rr X d MLa_law 1063 [l0, .ref x, l2, l3] (.ref x :: st) h := Rr_nx d_MLa_law_1062 rfl
theorem r_MLa_law_1062n {l0 l2 l3 : Value} : Rr X d MLa_law 1062 [l0, .null, l2, l3] st h = Rr X d MLa_law 1063 [l0, .null, l2, l3] (.null :: st) h := Rr_nx d_MLa_law_1062 rfl
theorem r_MLa_law_1063 {l1 l2 l3 : Value} {x : Nat} : Rr X d MLa_law 1063 [.ref x, l1, l2, l3] st h = Rr X d MLa_law 1064 [.ref x, l1, l2, l3] (.ref x :: st) h := Rr_nx d_MLa_law_1063 rfl
theorem r_MLa_law_1063f {l1 l2 l3 : Value} {x : UInt32} : Rr X d MLa_law 1063 [.float x, l1, l2, l3] st h = Rr X d MLa_law 1064 [.float x, l1, l2, l3] (.float x :: st) h := Rr_nx d_MLa_law_1063 rfl
theorem r_MLa_law_1064 {l0 l1 l2 : Value} {x : Int32} : Rr X d MLa_law 1064 [l0, l1, l2, .int x] st h = Rr X d MLa_law 1065 [l0, l1, l2, .int x] (.int x :: st) h := Rr_nx d_MLa_law_1064 rfl
theorem r_MLa_law_1065 : Rr X d MLa_law 1065 L st h = Rr X d MLa_law 1066 L (.int (1) :: st) h := Rr_nx d_MLa_law_1065 rfl
theorem r_MLa_law_1066 {x y : Int32} : Rr X d MLa_law 1066 L (.int y :: .int x :: st) h = Rr X d MLa_law 1067 L (.int (x + y) :: st) h := Rr_nx d_MLa_law_1066 rfl
theorem r_MLa_law_1067 {a : Nat} {j : Int32} (hq : (qA a 0).isSome = true) : Rr X d MLa_law 1067 L (.int j :: .ref a :: st) (Wd mu la ro et) = if j < 0 ∨ qAd a 0 ≤ j.toNatClampNeg then none else Rr X d MLa_law 1068 L (.int (mu a j.toNatClampNeg) :: st) (Wd mu la ro et) := R_ialW d_MLa_law_1067 hq
theorem r_MLa_law_1067f {n : Nat} {f : Nat → Int32} {j : Int32} : Rr (XS n f) d MLa_law 1067 L (.int j :: .float 0 :: st) h = if j < 0 ∨ n ≤ j.toNatClampNeg then none else Rr (XS n f) d MLa_law 1068 L (.int (f j.toNatClampNeg) :: st) h := R_ialS d_MLa_law_1067
theorem r_MLa_law_1068 {l1 l2 l3 : Value} {x : Nat} : Rr X d MLa_law 1068 [.ref x, l1, l2, l3] st h = Rr X d MLa_law 1069 [.ref x, l1, l2, l3] (.ref x :: st) h := Rr_nx d_MLa_law_1068 rfl
theorem r_MLa_law_1068f {l1 l2 l3 : Value} {x : UInt32} : Rr X d MLa_law 1068 [.float x, l1, l2, l3] st h = Rr X d MLa_law 1069 [.float x, l1, l2, l3] (.float x :: st) h := Rr_nx d_MLa_law_1068 rfl
theorem r_MLa_law_1069 {l0 l1 l2 : Value} {x : Int32} : Rr X d MLa_law 1069 [l0, l1, l2, .int x] st h = Rr X d MLa_law 1070 [l0, l1, l2, .int x] (.int x :: st) h := Rr_nx d_MLa_law_1069 rfl
theorem r_MLa_law_1070 : Rr X d MLa_law 1070 L st h = Rr X d MLa_law 1071 L (.int (2) :: st) h := Rr_nx d_MLa_law_1070 rfl
theorem r_MLa_law_1071 {x y : Int32} : Rr X d MLa_law 1071 L (.int y :: .int x :: st) h = Rr X d MLa_law 1072 L (.int (x + y) :: st) h := Rr_nx d_MLa_law_1071 rfl
theorem r_MLa_law_1072 {a : Nat} {j : Int32} (hq : (qA a 0).isSome = true) : Rr X d MLa_law 1072 L (.int j :: .ref a :: st) (Wd mu la ro et) = if j < 0 ∨ qAd a 0 ≤ j.toNatClampNeg then none else Rr X d MLa_law 1073 L (.int (mu a j.toNatClampNeg) :: st) (Wd mu la ro et) := R_ialW d_MLa_law_1072 hq
theorem r_MLa_law_1072f {n : Nat} {f : Nat → Int32} {j : Int32} : Rr (XS n f) d MLa_law 1072 L (.int j :: .float 0 :: st) h = if j < 0 ∨ n ≤ j.toNatClampNeg then none else Rr (XS n f) d MLa_law 1073 L (.int (f j.toNatClampNeg) :: st) h := R_ialS d_MLa_law_1072
theorem fc_11_114 : fC 11 114 = some (0, 9, 2, MTo_which) := rfl
theorem r_MLa_law_1073 {y0 : Int32} {y1 : Int32} {a : Nat} (hO : qO a 9 = true) (hc : ckS st = true) : Rr X (d + 1) MLa_law 1073 L (.int y1 :: .int y0 :: .ref a :: st) (Wd mu la ro et) = (Rr X d MTo_which 0 [.ref a, .int y0, .int y1, mkU, mkU, mkU, mkU, mkU, mkU] [] (Wd mu la ro et)).bind fun q => Rr X (d + 1) MLa_law 1076 L (psh q.1 st) q.2 := R_iv (av := [.int y1, .int y0]) d_MLa_law_1073 fc_11_114 hO (ckS_le hc) rfl (Nat.le_of_ble_eq_true rfl) (Nat.le_of_ble_eq_true rfl)
theorem r_MLa_law_1076 {x : Int32} : Rr X d MLa_law 1076 L (.int x :: st) h = Rr X d MLa_law 1077 L st h := Rr_nx d_MLa_law_1076 rfl
theorem r_MLa_law_1077 {l0 l1 l3 : Value} {x : Nat} : Rr X d MLa_law 1077 [l0, l1, .ref x, l3] st h = Rr X d MLa_law 1078 [l0, l1, .ref x, l3] (.ref x :: st) h := Rr_nx d_MLa_law_1077 rfl
theorem r_MLa_law_1077n {l0 l1 l3 : Value} : Rr X d MLa_law 1077 [l0, l1, .null, l3] st h = Rr X d MLa_law 1078 [l0, l1, .null, l3] (.null :: st) h := Rr_nx d_MLa_law_1077 rfl
theorem r_MLa_law_1078 {l1 l2 l3 : Value} {x : Nat} : Rr X d MLa_law 1078 [.ref x, l1, l2, l3] st h = Rr X d MLa_law 1079 [.ref x, l1, l2, l3] (.ref x :: st) h := Rr_nx d_MLa_law_1078 rfl
theorem r_MLa_law_1078f {l1 l2 l3 : Value} {x : UInt32} : Rr X d MLa_law 1078 [.float x, l1, l2, l3] st h = Rr X d MLa_law 1079 [.float x, l1, l2, l3] (.float x :: st) h := Rr_nx d_MLa_law_1078 rfl
theorem r_MLa_law_1079 {l0 l1 l2 : Value} {x : Int32} : Rr X d MLa_law 1079 [l0, l1, l2, .int x] st h = Rr X d MLa_law 1080 [l0, l1, l2, .int x] (.int x :: st) h := Rr_nx d_MLa_law_1079 rfl
theorem r_MLa_law_1080 : Rr X d MLa_law 1080 L st h = Rr X d MLa_law 1081 L (.int (1) :: st) h := Rr_nx d_MLa_law_1080 rfl
theorem r_MLa_law_1081 {x y : Int32} : Rr X d MLa_law 1081 L (.int y :: .int x :: st) h = Rr X d MLa_law 1082 L (.int (x + y) :: st) h := Rr_nx d_MLa_law_1081 rfl
theorem r_MLa_law_1082 {a : Nat} {j : Int32} (hq : (qA a 0).isSome = true) : Rr X d MLa_law 1082 L (.int j :: .ref a :: st) (Wd mu la ro et) = if j < 0 ∨ qAd a 0 ≤ j.toNatClampNeg then none else Rr X d MLa_law 1083 L (.int (mu a j.toNatClampNeg) :: st) (Wd mu la ro et) := R_ialW d_MLa_law_1082 hq
theorem r_MLa_law_1082f {n : Nat} {f : Nat → Int32} {j : Int32} : Rr (XS n f) d MLa_law 1082 L (.int j :: .float 0 :: st) h = if j < 0 ∨ n ≤ j.toNatClampNeg then none else Rr (XS n f) d MLa_law 1083 L (.int (f j.toNatClampNeg) :: st) h := R_ialS d_MLa_law_1082
theorem r_MLa_law_1083 {l1 l2 l3 : Value} {x : Nat} : Rr X d MLa_law 1083 [.ref x, l1, l2, l3] st h = Rr X d MLa_law 1084 [.ref x, l1, l2, l3] (.ref x :: st) h := Rr_nx d_MLa_law_1083 rfl
theorem r_MLa_law_1083f {l1 l2 l3 : Value} {x : UInt32} : Rr X d MLa_law 1083 [.float x, l1, l2, l3] st h = Rr X d MLa_law 1084 [.float x, l1, l2, l3] (.float x :: st) h := Rr_nx d_MLa_law_1083 rfl
theorem r_MLa_law_1084 {l0 l1 l2 : Value} {x : Int32} : Rr X d MLa_law 1084 [l0, l1, l2, .int x] st h = Rr X d MLa_law 1085 [l0, l1, l2, .int x] (.int x :: st) h := Rr_nx d_MLa_law_1084 rfl
theorem r_MLa_law_1085 : Rr X d MLa_law 1085 L st h = Rr X d MLa_law 1086 L (.int (2) :: st) h := Rr_nx d_MLa_law_1085 rfl
theorem r_MLa_law_1086 {x y : Int32} : Rr X d MLa_law 1086 L (.int y :: .int x :: st) h = Rr X d MLa_law 1087 L (.int (x + y) :: st) h := Rr_nx d_MLa_law_1086 rfl
theorem r_MLa_law_1087 {a : Nat} {j : Int32} (hq : (qA a 0).isSome = true) : Rr X d MLa_law 1087 L (.int j :: .ref a :: st) (Wd mu la ro et) = if j < 0 ∨ qAd a 0 ≤ j.toNatClampNeg then none else Rr X d MLa_law 1088 L (.int (mu a j.toNatClampNeg) :: st) (Wd mu la ro et) := R_ialW d_MLa_law_1087 hq
theorem r_MLa_law_1087f {n : Nat} {f : Nat → Int32} {j : Int32} : Rr (XS n f) d MLa_law 1087 L (.int j :: .float 0 :: st) h = if j < 0 ∨ n ≤ j.toNatClampNeg then none else Rr (XS n f) d MLa_law 1088 L (.int (f j.toNatClampNeg) :: st) h := R_ialS d_MLa_law_1087
theorem fc_11_117 : fC 11 117 = some (0, 10, 2, MRm_which) := rfl
theorem r_MLa_law_1088 {y0 : Int32} {y1 : Int32} {a : Nat} (hO : qO a 10 = true) (hc : ckS st = true) : Rr X (d + 1) MLa_law 1088 L (.int y1 :: .int y0 :: .ref a :: st) (Wd mu la ro et) = (Rr X d MRm_which 0 [.ref a, .int y0, .int y1, mkU, mkU, mkU, mkU] [] (Wd mu la ro et)).bind fun q => Rr X (d + 1) MLa_law 1091 L (psh q.1 st) q.2 := R_iv (av := [.int y1, .int y0]) d_MLa_law_1088 fc_11_117 hO (ckS_le hc) rfl (Nat.le_of_ble_eq_true rfl) (Nat.le_of_ble_eq_true rfl)
theorem r_MLa_law_1091 {x : Int32} : Rr X d MLa_law 1091 L (.int x :: st) h = Rr X d MLa_law 1092 L st h := Rr_nx d_MLa_law_1091 rfl
theorem r_MLa_law_1092 : Rr X d MLa_law 1092 L st h = Rr X d MLa_law 1544 L st h := R_goto d_MLa_law_1092 (by decide)
theorem r_MLa_law_1095 {l0 l2 l3 : Value} {x : Nat} : Rr X d MLa_law 1095 [l0, .ref x, l2, l3] st h = Rr X d MLa_law 1096 [l0, .ref x, l2, l3] (.ref x :: st) h := Rr_nx d_MLa_law_1095 rfl
theorem r_MLa_law_1095n {l0 l2 l3 : Value} : Rr X d MLa_law 1095 [l0, .null, l2, l3] st h = Rr X d MLa_law 1096 [l0, .null, l2, l3] (.null :: st) h := Rr_nx d_MLa_law_1095 rfl
theorem r_MLa_law_1096 {l1 l2 l3 : Value} {x : Nat} : Rr X d MLa_law 1096 [.ref x, l1, l2, l3] st h = Rr X d MLa_law 1097 [.ref x, l1, l2, l3] (.ref x :: st) h := Rr_nx d_MLa_law_1096 rfl
theorem r_MLa_law_1096f {l1 l2 l3 : Value} {x : UInt32} : Rr X d MLa_law 1096 [.float x, l1, l2, l3] st h = Rr X d MLa_law 1097 [.float x, l1, l2, l3] (.float x :: st) h := Rr_nx d_MLa_law_1096 rfl
theorem r_MLa_law_1097 {l0 l1 l2 : Value} {x : Int32} : Rr X d MLa_law 1097 [l0, l1, l2, .int x] st h = Rr X d MLa_law 1098 [l0, l1, l2, .int x] (.int x :: st) h := Rr_nx d_MLa_law_1097 rfl
theorem r_MLa_law_1098 : Rr X d MLa_law 1098 L st h = Rr X d MLa_law 1099 L (.int (1) :: st) h := Rr_nx d_MLa_law_1098 rfl
theorem r_MLa_law_1099 {x y : Int32} : Rr X d MLa_law 1099 L (.int y :: .int x :: st) h = Rr X d MLa_law 1100 L (.int (x + y) :: st) h := Rr_nx d_MLa_law_1099 rfl
theorem r_MLa_law_1100 {a : Nat} {j : Int32} (hq : (qA a 0).isSome = true) : Rr X d MLa_law 1100 L (.int j :: .ref a :: st) (Wd mu la ro et) = if j < 0 ∨ qAd a 0 ≤ j.toNatClampNeg then none else Rr X d MLa_law 1101 L (.int (mu a j.toNatClampNeg) :: st) (Wd mu la ro et) := R_ialW d_MLa_law_1100 hq
theorem r_MLa_law_1100f {n : Nat} {f : Nat → Int32} {j : Int32} : Rr (XS n f) d MLa_law 1100 L (.int j :: .float 0 :: st) h = if j < 0 ∨ n ≤ j.toNatClampNeg then none else Rr (XS n f) d MLa_law 1101 L (.int (f j.toNatClampNeg) :: st) h := R_ialS d_MLa_law_1100
theorem r_MLa_law_1101 {l1 l2 l3 : Value} {x : Nat} : Rr X d MLa_law 1101 [.ref x, l1, l2, l3] st h = Rr X d MLa_law 1102 [.ref x, l1, l2, l3] (.ref x :: st) h := Rr_nx d_MLa_law_1101 rfl
theorem r_MLa_law_1101f {l1 l2 l3 : Value} {x : UInt32} : Rr X d MLa_law 1101 [.float x, l1, l2, l3] st h = Rr X d MLa_law 1102 [.float x, l1, l2, l3] (.float x :: st) h := Rr_nx d_MLa_law_1101 rfl
theorem r_MLa_law_1102 {l0 l1 l2 : Value} {x : Int32} : Rr X d MLa_law 1102 [l0, l1, l2, .int x] st h = Rr X d MLa_law 1103 [l0, l1, l2, .int x] (.int x :: st) h := Rr_nx d_MLa_law_1102 rfl
theorem r_MLa_law_1103 : Rr X d MLa_law 1103 L st h = Rr X d MLa_law 1104 L (.int (2) :: st) h := Rr_nx d_MLa_law_1103 rfl
theorem r_MLa_law_1104 {x y : Int32} : Rr X d MLa_law 1104 L (.int y :: .int x :: st) h = Rr X d MLa_law 1105 L (.int (x + y) :: st) h := Rr_nx d_MLa_law_1104 rfl
theorem r_MLa_law_1105 {a : Nat} {j : Int32} (hq : (qA a 0).isSome = true) : Rr X d MLa_law 1105 L (.int j :: .ref a :: st) (Wd mu la ro et) = if j < 0 ∨ qAd a 0 ≤ j.toNatClampNeg then none else Rr X d MLa_law 1106 L (.int (mu a j.toNatClampNeg) :: st) (Wd mu la ro et) := R_ialW d_MLa_law_1105 hq
theorem r_MLa_law_1105f {n : Nat} {f : Nat → Int32} {j : Int32} : Rr (XS n f) d MLa_law 1105 L (.int j :: .float 0 :: st) h = if j < 0 ∨ n ≤ j.toNatClampNeg then none else Rr (XS n f) d MLa_law 1106 L (.int (f j.toNatClampNeg) :: st) h := R_ialS d_MLa_law_1105
theorem fc_11_118 : fC 11 118 = some (0, 9, 2, MTo_chance) := rfl
theorem r_MLa_law_1106 {y0 : Int32} {y1 : Int32} {a : Nat} (hO : qO a 9 = true) (hc : ckS st = true) : Rr X (d + 1) MLa_law 1106 L (.int y1 :: .int y0 :: .ref a :: st) (Wd mu la ro et) = (Rr X d MTo_chance 0 [.ref a, .int y0, .int y1, mkU, mkU, mkU, mkU, mkU, mkU] [] (Wd mu la ro et)).bind fun q => Rr X (d + 1) MLa_law 1109 L (psh q.1 st) q.2 := R_iv (av := [.int y1, .int y0]) d_MLa_law_1106 fc_11_118 hO (ckS_le hc) rfl (Nat.le_of_ble_eq_true rfl) (Nat.le_of_ble_eq_true rfl)
theorem r_MLa_law_1109 {x : Int32} : Rr X d MLa_law 1109 L (.int x :: st) h = Rr X d MLa_law 1110 L st h := Rr_nx d_MLa_law_1109 rfl
theorem r_MLa_law_1110 {l0 l1 l3 : Value} {x : Nat} : Rr X d MLa_law 1110 [l0, l1, .ref x, l3] st h = Rr X d MLa_law 1111 [l0, l1, .ref x, l3] (.ref x :: st) h := Rr_nx d_MLa_law_1110 rfl
theorem r_MLa_law_1110n {l0 l1 l3 : Value} : Rr X d MLa_law 1110 [l0, l1, .null, l3] st h = Rr X d MLa_law 1111 [l0, l1, .null, l3] (.null :: st) h := Rr_nx d_MLa_law_1110 rfl
theorem r_MLa_law_1111 {l1 l2 l3 : Value} {x : Nat} : Rr X d MLa_law 1111 [.ref x, l1, l2, l3] st h = Rr X d MLa_law 1112 [.ref x, l1, l2, l3] (.ref x :: st) h := Rr_nx d_MLa_law_1111 rfl
theorem r_MLa_law_1111f {l1 l2 l3 : Value} {x : UInt32} : Rr X d MLa_law 1111 [.float x, l1, l2, l3] st h = Rr X d MLa_law 1112 [.float x, l1, l2, l3] (.float x :: st) h := Rr_nx d_MLa_law_1111 rfl
theorem r_MLa_law_1112 {l0 l1 l2 : Value} {x : Int32} : Rr X d MLa_law 1112 [l0, l1, l2, .int x] st h = Rr X d MLa_law 1113 [l0, l1, l2, .int x] (.int x :: st) h := Rr_nx d_MLa_law_1112 rfl
theorem r_MLa_law_1113 : Rr X d MLa_law 1113 L st h = Rr X d MLa_law 1114 L (.int (1) :: st) h := Rr_nx d_MLa_law_1113 rfl
theorem r_MLa_law_1114 {x y : Int32} : Rr X d MLa_law 1114 L (.int y :: .int x :: st) h = Rr X d MLa_law 1115 L (.int (x + y) :: st) h := Rr_nx d_MLa_law_1114 rfl
theorem r_MLa_law_1115 {a : Nat} {j : Int32} (hq : (qA a 0).isSome = true) : Rr X d MLa_law 1115 L (.int j :: .ref a :: st) (Wd mu la ro et) = if j < 0 ∨ qAd a 0 ≤ j.toNatClampNeg then none else Rr X d MLa_law 1116 L (.int (mu a j.toNatClampNeg) :: st) (Wd mu la ro et) := R_ialW d_MLa_law_1115 hq
theorem r_MLa_law_1115f {n : Nat} {f : Nat → Int32} {j : Int32} : Rr (XS n f) d MLa_law 1115 L (.int j :: .float 0 :: st) h = if j < 0 ∨ n ≤ j.toNatClampNeg then none else Rr (XS n f) d MLa_law 1116 L (.int (f j.toNatClampNeg) :: st) h := R_ialS d_MLa_law_1115
theorem r_MLa_law_1116 {l1 l2 l3 : Value} {x : Nat} : Rr X d MLa_law 1116 [.ref x, l1, l2, l3] st h = Rr X d MLa_law 1117 [.ref x, l1, l2, l3] (.ref x :: st) h := Rr_nx d_MLa_law_1116 rfl
theorem r_MLa_law_1116f {l1 l2 l3 : Value} {x : UInt32} : Rr X d MLa_law 1116 [.float x, l1, l2, l3] st h = Rr X d MLa_law 1117 [.float x, l1, l2, l3] (.float x :: st) h := Rr_nx d_MLa_law_1116 rfl
theorem r_MLa_law_1117 {l0 l1 l2 : Value} {x : Int32} : Rr X d MLa_law 1117 [l0, l1, l2, .int x] st h = Rr X d MLa_law 1118 [l0, l1, l2, .int x] (.int x :: st) h := Rr_nx d_MLa_law_1117 rfl
theorem r_MLa_law_1118 : Rr X d MLa_law 1118 L st h = Rr X d MLa_law 1119 L (.int (2) :: st) h := Rr_nx d_MLa_law_1118 rfl
theorem r_MLa_law_1119 {x y : Int32} : Rr X d MLa_law 1119 L (.int y :: .int x :: st) h = Rr X d MLa_law 1120 L (.int (x + y) :: st) h := Rr_nx d_MLa_law_1119 rfl
theorem r_MLa_law_1120 {a : Nat} {j : Int32} (hq : (qA a 0).isSome = true) : Rr X d MLa_law 1120 L (.int j :: .ref a :: st) (Wd mu la ro et) = if j < 0 ∨ qAd a 0 ≤ j.toNatClampNeg then none else Rr X d MLa_law 1121 L (.int (mu a j.toNatClampNeg) :: st) (Wd mu la ro et) := R_ialW d_MLa_law_1120 hq
theorem r_MLa_law_1120f {n : Nat} {f : Nat → Int32} {j : Int32} : Rr (XS n f) d MLa_law 1120 L (.int j :: .float 0 :: st) h = if j < 0 ∨ n ≤ j.toNatClampNeg then none else Rr (XS n f) d MLa_law 1121 L (.int (f j.toNatClampNeg) :: st) h := R_ialS d_MLa_law_1120
theorem fc_11_121 : fC 11 121 = some (0, 10, 2, MRm_chance) := rfl
theorem r_MLa_law_1121 {y0 : Int32} {y1 : Int32} {a : Nat} (hO : qO a 10 = true) (hc : ckS st = true) : Rr X (d + 1) MLa_law 1121 L (.int y1 :: .int y0 :: .ref a :: st) (Wd mu la ro et) = (Rr X d MRm_chance 0 [.ref a, .int y0, .int y1, mkU, mkU, mkU, mkU, mkU, mkU] [] (Wd mu la ro et)).bind fun q => Rr X (d + 1) MLa_law 1124 L (psh q.1 st) q.2 := R_iv (av := [.int y1, .int y0]) d_MLa_law_1121 fc_11_121 hO (ckS_le hc) rfl (Nat.le_of_ble_eq_true rfl) (Nat.le_of_ble_eq_true rfl)
theorem r_MLa_law_1124 {x : Int32} : Rr X d MLa_law 1124 L (.int x :: st) h = Rr X d MLa_law 1125 L st h := Rr_nx d_MLa_law_1124 rfl
theorem r_MLa_law_1125 : Rr X d MLa_law 1125 L st h = Rr X d MLa_law 1544 L st h := R_goto d_MLa_law_1125 (by decide)
theorem r_MLa_law_1128 {l0 l2 l3 : Value} {x : Nat} : Rr X d MLa_law 1128 [l0, .ref x, l2, l3] st h = Rr X d MLa_law 1129 [l0, .ref x, l2, l3] (.ref x :: st) h := Rr_nx d_MLa_law_1128 rfl
theorem r_MLa_law_1128n {l0 l2 l3 : Value} : Rr X d MLa_law 1128 [l0, .null, l2, l3] st h = Rr X d MLa_law 1129 [l0, .null, l2, l3] (.null :: st) h := Rr_nx d_MLa_law_1128 rfl
theorem fc_11_122 : fC 11 122 = some (0, 9, 0, MTo_undo) := rfl
theorem r_MLa_law_1129 {a : Nat} (hO : qO a 9 = true) (hc : ckS st = true) : Rr X (d + 1) MLa_law 1129 L (.ref a :: st) (Wd mu la ro et) = (Rr X d MTo_undo 0 [.ref a] [] (Wd mu la ro et)).bind fun q => Rr X (d + 1) MLa_law 1132 L (psh q.1 st) q.2 := R_iv (av := []) d_MLa_law_1129 fc_11_122 hO (ckS_le hc) rfl (Nat.le_of_ble_eq_true rfl) (Nat.le_of_ble_eq_true rfl)
theorem r_MLa_law_1132 {x : Int32} : Rr X d MLa_law 1132 L (.int x :: st) h = Rr X d MLa_law 1133 L st h := Rr_nx d_MLa_law_1132 rfl
theorem r_MLa_law_1133 {l0 l1 l3 : Value} {x : Nat} : Rr X d MLa_law 1133 [l0, l1, .ref x, l3] st h = Rr X d MLa_law 1134 [l0, l1, .ref x, l3] (.ref x :: st) h := Rr_nx d_MLa_law_1133 rfl
theorem r_MLa_law_1133n {l0 l1 l3 : Value} : Rr X d MLa_law 1133 [l0, l1, .null, l3] st h = Rr X d MLa_law 1134 [l0, l1, .null, l3] (.null :: st) h := Rr_nx d_MLa_law_1133 rfl
theorem fc_11_125 : fC 11 125 = some (0, 10, 0, MRm_undo) := rfl
theorem r_MLa_law_1134 {a : Nat} (hO : qO a 10 = true) (hc : ckS st = true) : Rr X (d + 1) MLa_law 1134 L (.ref a :: st) (Wd mu la ro et) = (Rr X d MRm_undo 0 [.ref a] [] (Wd mu la ro et)).bind fun q => Rr X (d + 1) MLa_law 1137 L (psh q.1 st) q.2 := R_iv (av := []) d_MLa_law_1134 fc_11_125 hO (ckS_le hc) rfl (Nat.le_of_ble_eq_true rfl) (Nat.le_of_ble_eq_true rfl)
theorem r_MLa_law_1137 {x : Int32} : Rr X d MLa_law 1137 L (.int x :: st) h = Rr X d MLa_law 1138 L st h := Rr_nx d_MLa_law_1137 rfl
theorem r_MLa_law_1138 : Rr X d MLa_law 1138 L st h = Rr X d MLa_law 1544 L st h := R_goto d_MLa_law_1138 (by decide)
theorem r_MLa_law_1141 {l0 l2 l3 : Value} {x : Nat} : Rr X d MLa_law 1141 [l0, .ref x, l2, l3] st h = Rr X d MLa_law 1142 [l0, .ref x, l2, l3] (.ref x :: st) h := Rr_nx d_MLa_law_1141 rfl
theorem r_MLa_law_1141n {l0 l2 l3 : Value} : Rr X d MLa_law 1141 [l0, .null, l2, l3] st h = Rr X d MLa_law 1142 [l0, .null, l2, l3] (.null :: st) h := Rr_nx d_MLa_law_1141 rfl
theorem fc_11_126 : fC 11 126 = some (0, 9, 0, MTo_redo) := rfl
theorem r_MLa_law_1142 {a : Nat} (hO : qO a 9 = true) (hc : ckS st = true) : Rr X (d + 1) MLa_law 1142 L (.ref a :: st) (Wd mu la ro et) = (Rr X d MTo_redo 0 [.ref a] [] (Wd mu la ro et)).bind fun q => Rr X (d + 1) MLa_law 1145 L (psh q.1 st) q.2 := R_iv (av := []) d_MLa_law_1142 fc_11_126 hO (ckS_le hc) rfl (Nat.le_of_ble_eq_true rfl) (Nat.le_of_ble_eq_true rfl)
theorem r_MLa_law_1145 {l0 l1 l3 : Value} {x : Nat} : Rr X d MLa_law 1145 [l0, l1, .ref x, l3] st h = Rr X d MLa_law 1146 [l0, l1, .ref x, l3] (.ref x :: st) h := Rr_nx d_MLa_law_1145 rfl
theorem r_MLa_law_1145n {l0 l1 l3 : Value} : Rr X d MLa_law 1145 [l0, l1, .null, l3] st h = Rr X d MLa_law 1146 [l0, l1, .null, l3] (.null :: st) h := Rr_nx d_MLa_law_1145 rfl
theorem fc_11_129 : fC 11 129 = some (0, 10, 0, MRm_redo) := rfl
theorem r_MLa_law_1146 {a : Nat} (hO : qO a 10 = true) (hc : ckS st = true) : Rr X (d + 1) MLa_law 1146 L (.ref a :: st) (Wd mu la ro et) = (Rr X d MRm_redo 0 [.ref a] [] (Wd mu la ro et)).bind fun q => Rr X (d + 1) MLa_law 1149 L (psh q.1 st) q.2 := R_iv (av := []) d_MLa_law_1146 fc_11_129 hO (ckS_le hc) rfl (Nat.le_of_ble_eq_true rfl) (Nat.le_of_ble_eq_true rfl)
theorem r_MLa_law_1149 {x y : Int32} : Rr X d MLa_law 1149 L (.int y :: .int x :: st) h = if x = y then Rr X d MLa_law 1544 L st h else Rr X d MLa_law 1152 L st h := R_ic_eq d_MLa_law_1149 (by decide)
theorem r_MLa_law_1152 : Rr X d MLa_law 1152 L st h = Rr X d MLa_law 1153 L (.int (0) :: st) h := Rr_nx d_MLa_law_1152 rfl
theorem r_MLa_law_1153 {x : Int32} : Rr X d MLa_law 1153 L [.int x] h = if x = 0 ∨ x = 1 then some (some (.int x), h) else none := R_zr d_MLa_law_1153 rfl
theorem r_MLa_law_1154 {l0 l2 l3 : Value} {x : Nat} : Rr X d MLa_law 1154 [l0, .ref x, l2, l3] st h = Rr X d MLa_law 1155 [l0, .ref x, l2, l3] (.ref x :: st) h := Rr_nx d_MLa_law_1154 rfl
theorem r_MLa_law_1154n {l0 l2 l3 : Value} : Rr X d MLa_law 1154 [l0, .null, l2, l3] st h = Rr X d MLa_law 1155 [l0, .null, l2, l3] (.null :: st) h := Rr_nx d_MLa_law_1154 rfl
theorem r_MLa_law_1155 {l1 l2 l3 : Value} {x : Nat} : Rr X d MLa_law 1155 [.ref x, l1, l2, l3] st h = Rr X d MLa_law 1156 [.ref x, l1, l2, l3] (.ref x :: st) h := Rr_nx d_MLa_law_1155 rfl
theorem r_MLa_law_1155f {l1 l2 l3 : Value} {x : UInt32} : Rr X d MLa_law 1155 [.float x, l1, l2, l3] st h = Rr X d MLa_law 1156 [.float x, l1, l2, l3] (.float x :: st) h := Rr_nx d_MLa_law_1155 rfl
theorem r_MLa_law_1156 {l0 l1 l2 : Value} {x : Int32} : Rr X d MLa_law 1156 [l0, l1, l2, .int x] st h = Rr X d MLa_law 1157 [l0, l1, l2, .int x] (.int x :: st) h := Rr_nx d_MLa_law_1156 rfl
theorem r_MLa_law_1157 : Rr X d MLa_law 1157 L st h = Rr X d MLa_law 1158 L (.int (1) :: st) h := Rr_nx d_MLa_law_1157 rfl
theorem r_MLa_law_1158 {x y : Int32} : Rr X d MLa_law 1158 L (.int y :: .int x :: st) h = Rr X d MLa_law 1159 L (.int (x + y) :: st) h := Rr_nx d_MLa_law_1158 rfl
theorem r_MLa_law_1159 {a : Nat} {j : Int32} (hq : (qA a 0).isSome = true) : Rr X d MLa_law 1159 L (.int j :: .ref a :: st) (Wd mu la ro et) = if j < 0 ∨ qAd a 0 ≤ j.toNatClampNeg then none else Rr X d MLa_law 1160 L (.int (mu a j.toNatClampNeg) :: st) (Wd mu la ro et) := R_ialW d_MLa_law_1159 hq
theorem r_MLa_law_1159f {n : Nat} {f : Nat → Int32} {j : Int32} : Rr (XS n f) d MLa_law 1159 L (.int j :: .float 0 :: st) h = if j < 0 ∨ n ≤ j.toNatClampNeg then none else Rr (XS n f) d MLa_law 1160 L (.int (f j.toNatClampNeg) :: st) h := R_ialS d_MLa_law_1159
theorem fc_11_130 : fC 11 130 = some (0, 9, 1, MTo_body) := rfl
theorem r_MLa_law_1160 {y0 : Int32} {a : Nat} (hO : qO a 9 = true) (hc : ckS st = true) : Rr X (d + 1) MLa_law 1160 L (.int y0 :: .ref a :: st) (Wd mu la ro et) = (Rr X d MTo_body 0 [.ref a, .int y0] [] (Wd mu la ro et)).bind fun q => Rr X (d + 1) MLa_law 1163 L (psh q.1 st) q.2 := R_iv (av := [.int y0]) d_MLa_law_1160 fc_11_130 hO (ckS_le hc) rfl (Nat.le_of_ble_eq_true rfl) (Nat.le_of_ble_eq_true rfl)
theorem r_MLa_law_1163 {x : Int32} : Rr X d MLa_law 1163 L (.int x :: st) h = Rr X d MLa_law 1164 L st h := Rr_nx d_MLa_law_1163 rfl
theorem r_MLa_law_1164 {l0 l1 l3 : Value} {x : Nat} : Rr X d MLa_law 1164 [l0, l1, .ref x, l3] st h = Rr X d MLa_law 1165 [l0, l1, .ref x, l3] (.ref x :: st) h := Rr_nx d_MLa_law_1164 rfl
theorem r_MLa_law_1164n {l0 l1 l3 : Value} : Rr X d MLa_law 1164 [l0, l1, .null, l3] st h = Rr X d MLa_law 1165 [l0, l1, .null, l3] (.null :: st) h := Rr_nx d_MLa_law_1164 rfl
theorem r_MLa_law_1165 {l1 l2 l3 : Value} {x : Nat} : Rr X d MLa_law 1165 [.ref x, l1, l2, l3] st h = Rr X d MLa_law 1166 [.ref x, l1, l2, l3] (.ref x :: st) h := Rr_nx d_MLa_law_1165 rfl
theorem r_MLa_law_1165f {l1 l2 l3 : Value} {x : UInt32} : Rr X d MLa_law 1165 [.float x, l1, l2, l3] st h = Rr X d MLa_law 1166 [.float x, l1, l2, l3] (.float x :: st) h := Rr_nx d_MLa_law_1165 rfl
theorem r_MLa_law_1166 {l0 l1 l2 : Value} {x : Int32} : Rr X d MLa_law 1166 [l0, l1, l2, .int x] st h = Rr X d MLa_law 1167 [l0, l1, l2, .int x] (.int x :: st) h := Rr_nx d_MLa_law_1166 rfl
theorem r_MLa_law_1167 : Rr X d MLa_law 1167 L st h = Rr X d MLa_law 1168 L (.int (1) :: st) h := Rr_nx d_MLa_law_1167 rfl
theorem r_MLa_law_1168 {x y : Int32} : Rr X d MLa_law 1168 L (.int y :: .int x :: st) h = Rr X d MLa_law 1169 L (.int (x + y) :: st) h := Rr_nx d_MLa_law_1168 rfl
theorem r_MLa_law_1169 {a : Nat} {j : Int32} (hq : (qA a 0).isSome = true) : Rr X d MLa_law 1169 L (.int j :: .ref a :: st) (Wd mu la ro et) = if j < 0 ∨ qAd a 0 ≤ j.toNatClampNeg then none else Rr X d MLa_law 1170 L (.int (mu a j.toNatClampNeg) :: st) (Wd mu la ro et) := R_ialW d_MLa_law_1169 hq
theorem r_MLa_law_1169f {n : Nat} {f : Nat → Int32} {j : Int32} : Rr (XS n f) d MLa_law 1169 L (.int j :: .float 0 :: st) h = if j < 0 ∨ n ≤ j.toNatClampNeg then none else Rr (XS n f) d MLa_law 1170 L (.int (f j.toNatClampNeg) :: st) h := R_ialS d_MLa_law_1169
theorem fc_11_133 : fC 11 133 = some (0, 10, 1, MRm_body) := rfl
theorem r_MLa_law_1170 {y0 : Int32} {a : Nat} (hO : qO a 10 = true) (hc : ckS st = true) : Rr X (d + 1) MLa_law 1170 L (.int y0 :: .ref a :: st) (Wd mu la ro et) = (Rr X d MRm_body 0 [.ref a, .int y0] [] (Wd mu la ro et)).bind fun q => Rr X (d + 1) MLa_law 1173 L (psh q.1 st) q.2 := R_iv (av := [.int y0]) d_MLa_law_1170 fc_11_133 hO (ckS_le hc) rfl (Nat.le_of_ble_eq_true rfl) (Nat.le_of_ble_eq_true rfl)
theorem r_MLa_law_1173 {x : Int32} : Rr X d MLa_law 1173 L (.int x :: st) h = Rr X d MLa_law 1174 L st h := Rr_nx d_MLa_law_1173 rfl
theorem r_MLa_law_1174 : Rr X d MLa_law 1174 L st h = Rr X d MLa_law 1544 L st h := R_goto d_MLa_law_1174 (by decide)
theorem r_MLa_law_1177 {l0 l2 l3 : Value} {x : Nat} : Rr X d MLa_law 1177 [l0, .ref x, l2, l3] st h = Rr X d MLa_law 1178 [l0, .ref x, l2, l3] (.ref x :: st) h := Rr_nx d_MLa_law_1177 rfl
theorem r_MLa_law_1177n {l0 l2 l3 : Value} : Rr X d MLa_law 1177 [l0, .null, l2, l3] st h = Rr X d MLa_law 1178 [l0, .null, l2, l3] (.null :: st) h := Rr_nx d_MLa_law_1177 rfl
theorem r_MLa_law_1178 {l1 l2 l3 : Value} {x : Nat} : Rr X d MLa_law 1178 [.ref x, l1, l2, l3] st h = Rr X d MLa_law 1179 [.ref x, l1, l2, l3] (.ref x :: st) h := Rr_nx d_MLa_law_1178 rfl
theorem r_MLa_law_1178f {l1 l2 l3 : Value} {x : UInt32} : Rr X d MLa_law 1178 [.float x, l1, l2, l3] st h = Rr X d MLa_law 1179 [.float x, l1, l2, l3] (.float x :: st) h := Rr_nx d_MLa_law_1178 rfl
theorem r_MLa_law_1179 {l0 l1 l2 : Value} {x : Int32} : Rr X d MLa_law 1179 [l0, l1, l2, .int x] st h = Rr X d MLa_law 1180 [l0, l1, l2, .int x] (.int x :: st) h := Rr_nx d_MLa_law_1179 rfl
theorem r_MLa_law_1180 : Rr X d MLa_law 1180 L st h = Rr X d MLa_law 1181 L (.int (1) :: st) h := Rr_nx d_MLa_law_1180 rfl
theorem r_MLa_law_1181 {x y : Int32} : Rr X d MLa_law 1181 L (.int y :: .int x :: st) h = Rr X d MLa_law 1182 L (.int (x + y) :: st) h := Rr_nx d_MLa_law_1181 rfl
theorem r_MLa_law_1182 {a : Nat} {j : Int32} (hq : (qA a 0).isSome = true) : Rr X d MLa_law 1182 L (.int j :: .ref a :: st) (Wd mu la ro et) = if j < 0 ∨ qAd a 0 ≤ j.toNatClampNeg then none else Rr X d MLa_law 1183 L (.int (mu a j.toNatClampNeg) :: st) (Wd mu la ro et) := R_ialW d_MLa_law_1182 hq
theorem r_MLa_law_1182f {n : Nat} {f : Nat → Int32} {j : Int32} : Rr (XS n f) d MLa_law 1182 L (.int j :: .float 0 :: st) h = if j < 0 ∨ n ≤ j.toNatClampNeg then none else Rr (XS n f) d MLa_law 1183 L (.int (f j.toNatClampNeg) :: st) h := R_ialS d_MLa_law_1182
theorem r_MLa_law_1183 {l1 l2 l3 : Value} {x : Nat} : Rr X d MLa_law 1183 [.ref x, l1, l2, l3] st h = Rr X d MLa_law 1184 [.ref x, l1, l2, l3] (.ref x :: st) h := Rr_nx d_MLa_law_1183 rfl
theorem r_MLa_law_1183f {l1 l2 l3 : Value} {x : UInt32} : Rr X d MLa_law 1183 [.float x, l1, l2, l3] st h = Rr X d MLa_law 1184 [.float x, l1, l2, l3] (.float x :: st) h := Rr_nx d_MLa_law_1183 rfl
theorem r_MLa_law_1184 {l0 l1 l2 : Value} {x : Int32} : Rr X d MLa_law 1184 [l0, l1, l2, .int x] st h = Rr X d MLa_law 1185 [l0, l1, l2, .int x] (.int x :: st) h := Rr_nx d_MLa_law_1184 rfl
theorem r_MLa_law_1185 : Rr X d MLa_law 1185 L st h = Rr X d MLa_law 1186 L (.int (2) :: st) h := Rr_nx d_MLa_law_1185 rfl
theorem r_MLa_law_1186 {x y : Int32} : Rr X d MLa_law 1186 L (.int y :: .int x :: st) h = Rr X d MLa_law 1187 L (.int (x + y) :: st) h := Rr_nx d_MLa_law_1186 rfl
theorem r_MLa_law_1187 {a : Nat} {j : Int32} (hq : (qA a 0).isSome = true) : Rr X d MLa_law 1187 L (.int j :: .ref a :: st) (Wd mu la ro et) = if j < 0 ∨ qAd a 0 ≤ j.toNatClampNeg then none else Rr X d MLa_law 1188 L (.int (mu a j.toNatClampNeg) :: st) (Wd mu la ro et) := R_ialW d_MLa_law_1187 hq
theorem r_MLa_law_1187f {n : Nat} {f : Nat → Int32} {j : Int32} : Rr (XS n f) d MLa_law 1187 L (.int j :: .float 0 :: st) h = if j < 0 ∨ n ≤ j.toNatClampNeg then none else Rr (XS n f) d MLa_law 1188 L (.int (f j.toNatClampNeg) :: st) h := R_ialS d_MLa_law_1187
theorem r_MLa_law_1188 {l1 l2 l3 : Value} {x : Nat} : Rr X d MLa_law 1188 [.ref x, l1, l2, l3] st h = Rr X d MLa_law 1189 [.ref x, l1, l2, l3] (.ref x :: st) h := Rr_nx d_MLa_law_1188 rfl
theorem r_MLa_law_1188f {l1 l2 l3 : Value} {x : UInt32} : Rr X d MLa_law 1188 [.float x, l1, l2, l3] st h = Rr X d MLa_law 1189 [.float x, l1, l2, l3] (.float x :: st) h := Rr_nx d_MLa_law_1188 rfl
theorem r_MLa_law_1189 {l0 l1 l2 : Value} {x : Int32} : Rr X d MLa_law 1189 [l0, l1, l2, .int x] st h = Rr X d MLa_law 1190 [l0, l1, l2, .int x] (.int x :: st) h := Rr_nx d_MLa_law_1189 rfl
theorem r_MLa_law_1190 : Rr X d MLa_law 1190 L st h = Rr X d MLa_law 1191 L (.int (3) :: st) h := Rr_nx d_MLa_law_1190 rfl
theorem r_MLa_law_1191 {x y : Int32} : Rr X d MLa_law 1191 L (.int y :: .int x :: st) h = Rr X d MLa_law 1192 L (.int (x + y) :: st) h := Rr_nx d_MLa_law_1191 rfl
theorem r_MLa_law_1192 {a : Nat} {j : Int32} (hq : (qA a 0).isSome = true) : Rr X d MLa_law 1192 L (.int j :: .ref a :: st) (Wd mu la ro et) = if j < 0 ∨ qAd a 0 ≤ j.toNatClampNeg then none else Rr X d MLa_law 1193 L (.int (mu a j.toNatClampNeg) :: st) (Wd mu la ro et) := R_ialW d_MLa_law_1192 hq
theorem r_MLa_law_1192f {n : Nat} {f : Nat → Int32} {j : Int32} : Rr (XS n f) d MLa_law 1192 L (.int j :: .float 0 :: st) h = if j < 0 ∨ n ≤ j.toNatClampNeg then none else Rr (XS n f) d MLa_law 1193 L (.int (f j.toNatClampNeg) :: st) h := R_ialS d_MLa_law_1192
theorem fc_11_134 : fC 11 134 = some (0, 9, 3, MTo_act) := rfl
theorem r_MLa_law_1193 {y0 : Int32} {y1 : Int32} {y2 : Int32} {a : Nat} (hO : qO a 9 = true) (hc : ckS st = true) : Rr X (d + 1) MLa_law 1193 L (.int y2 :: .int y1 :: .int y0 :: .ref a :: st) (Wd mu la ro et) = (Rr X d MTo_act 0 [.ref a, .int y0, .int y1, .int y2] [] (Wd mu la ro et)).bind fun q => Rr X (d + 1) MLa_law 1196 L (psh q.1 st) q.2 := R_iv (av := [.int y2, .int y1, .int y0]) d_MLa_law_1193 fc_11_134 hO (ckS_le hc) rfl (Nat.le_of_ble_eq_true rfl) (Nat.le_of_ble_eq_true rfl)
theorem r_MLa_law_1196 {x : Int32} : Rr X d MLa_law 1196 L (.int x :: st) h = Rr X d MLa_law 1197 L st h := Rr_nx d_MLa_law_1196 rfl
theorem r_MLa_law_1197 {l0 l1 l3 : Value} {x : Nat} : Rr X d MLa_law 1197 [l0, l1, .ref x, l3] st h = Rr X d MLa_law 1198 [l0, l1, .ref x, l3] (.ref x :: st) h := Rr_nx d_MLa_law_1197 rfl
theorem r_MLa_law_1197n {l0 l1 l3 : Value} : Rr X d MLa_law 1197 [l0, l1, .null, l3] st h = Rr X d MLa_law 1198 [l0, l1, .null, l3] (.null :: st) h := Rr_nx d_MLa_law_1197 rfl
theorem r_MLa_law_1198 {l1 l2 l3 : Value} {x : Nat} : Rr X d MLa_law 1198 [.ref x, l1, l2, l3] st h = Rr X d MLa_law 1199 [.ref x, l1, l2, l3] (.ref x :: st) h := Rr_nx d_MLa_law_1198 rfl
theorem r_MLa_law_1198f {l1 l2 l3 : Value} {x : UInt32} : Rr X d MLa_law 1198 [.float x, l1, l2, l3] st h = Rr X d MLa_law 1199 [.float x, l1, l2, l3] (.float x :: st) h := Rr_nx d_MLa_law_1198 rfl
theorem r_MLa_law_1199 {l0 l1 l2 : Value} {x : Int32} : Rr X d MLa_law 1199 [l0, l1, l2, .int x] st h = Rr X d MLa_law 1200 [l0, l1, l2, .int x] (.int x :: st) h := Rr_nx d_MLa_law_1199 rfl
theorem r_MLa_law_1200 : Rr X d MLa_law 1200 L st h = Rr X d MLa_law 1201 L (.int (1) :: st) h := Rr_nx d_MLa_law_1200 rfl
theorem r_MLa_law_1201 {x y : Int32} : Rr X d MLa_law 1201 L (.int y :: .int x :: st) h = Rr X d MLa_law 1202 L (.int (x + y) :: st) h := Rr_nx d_MLa_law_1201 rfl
theorem r_MLa_law_1202 {a : Nat} {j : Int32} (hq : (qA a 0).isSome = true) : Rr X d MLa_law 1202 L (.int j :: .ref a :: st) (Wd mu la ro et) = if j < 0 ∨ qAd a 0 ≤ j.toNatClampNeg then none else Rr X d MLa_law 1203 L (.int (mu a j.toNatClampNeg) :: st) (Wd mu la ro et) := R_ialW d_MLa_law_1202 hq
theorem r_MLa_law_1202f {n : Nat} {f : Nat → Int32} {j : Int32} : Rr (XS n f) d MLa_law 1202 L (.int j :: .float 0 :: st) h = if j < 0 ∨ n ≤ j.toNatClampNeg then none else Rr (XS n f) d MLa_law 1203 L (.int (f j.toNatClampNeg) :: st) h := R_ialS d_MLa_law_1202
theorem r_MLa_law_1203 {l1 l2 l3 : Value} {x : Nat} : Rr X d MLa_law 1203 [.ref x, l1, l2, l3] st h = Rr X d MLa_law 1204 [.ref x, l1, l2, l3] (.ref x :: st) h := Rr_nx d_MLa_law_1203 rfl
theorem r_MLa_law_1203f {l1 l2 l3 : Value} {x : UInt32} : Rr X d MLa_law 1203 [.float x, l1, l2, l3] st h = Rr X d MLa_law 1204 [.float x, l1, l2, l3] (.float x :: st) h := Rr_nx d_MLa_law_1203 rfl
theorem r_MLa_law_1204 {l0 l1 l2 : Value} {x : Int32} : Rr X d MLa_law 1204 [l0, l1, l2, .int x] st h = Rr X d MLa_law 1205 [l0, l1, l2, .int x] (.int x :: st) h := Rr_nx d_MLa_law_1204 rfl
theorem r_MLa_law_1205 : Rr X d MLa_law 1205 L st h = Rr X d MLa_law 1206 L (.int (2) :: st) h := Rr_nx d_MLa_law_1205 rfl
theorem r_MLa_law_1206 {x y : Int32} : Rr X d MLa_law 1206 L (.int y :: .int x :: st) h = Rr X d MLa_law 1207 L (.int (x + y) :: st) h := Rr_nx d_MLa_law_1206 rfl
theorem r_MLa_law_1207 {a : Nat} {j : Int32} (hq : (qA a 0).isSome = true) : Rr X d MLa_law 1207 L (.int j :: .ref a :: st) (Wd mu la ro et) = if j < 0 ∨ qAd a 0 ≤ j.toNatClampNeg then none else Rr X d MLa_law 1208 L (.int (mu a j.toNatClampNeg) :: st) (Wd mu la ro et) := R_ialW d_MLa_law_1207 hq
theorem r_MLa_law_1207f {n : Nat} {f : Nat → Int32} {j : Int32} : Rr (XS n f) d MLa_law 1207 L (.int j :: .float 0 :: st) h = if j < 0 ∨ n ≤ j.toNatClampNeg then none else Rr (XS n f) d MLa_law 1208 L (.int (f j.toNatClampNeg) :: st) h := R_ialS d_MLa_law_1207
theorem r_MLa_law_1208 {l1 l2 l3 : Value} {x : Nat} : Rr X d MLa_law 1208 [.ref x, l1, l2, l3] st h = Rr X d MLa_law 1209 [.ref x, l1, l2, l3] (.ref x :: st) h := Rr_nx d_MLa_law_1208 rfl
theorem r_MLa_law_1208f {l1 l2 l3 : Value} {x : UInt32} : Rr X d MLa_law 1208 [.float x, l1, l2, l3] st h = Rr X d MLa_law 1209 [.float x, l1, l2, l3] (.float x :: st) h := Rr_nx d_MLa_law_1208 rfl
theorem r_MLa_law_1209 {l0 l1 l2 : Value} {x : Int32} : Rr X d MLa_law 1209 [l0, l1, l2, .int x] st h = Rr X d MLa_law 1210 [l0, l1, l2, .int x] (.int x :: st) h := Rr_nx d_MLa_law_1209 rfl
theorem r_MLa_law_1210 : Rr X d MLa_law 1210 L st h = Rr X d MLa_law 1211 L (.int (3) :: st) h := Rr_nx d_MLa_law_1210 rfl
theorem r_MLa_law_1211 {x y : Int32} : Rr X d MLa_law 1211 L (.int y :: .int x :: st) h = Rr X d MLa_law 1212 L (.int (x + y) :: st) h := Rr_nx d_MLa_law_1211 rfl
theorem r_MLa_law_1212 {a : Nat} {j : Int32} (hq : (qA a 0).isSome = true) : Rr X d MLa_law 1212 L (.int j :: .ref a :: st) (Wd mu la ro et) = if j < 0 ∨ qAd a 0 ≤ j.toNatClampNeg then none else Rr X d MLa_law 1213 L (.int (mu a j.toNatClampNeg) :: st) (Wd mu la ro et) := R_ialW d_MLa_law_1212 hq
theorem r_MLa_law_1212f {n : Nat} {f : Nat → Int32} {j : Int32} : Rr (XS n f) d MLa_law 1212 L (.int j :: .float 0 :: st) h = if j < 0 ∨ n ≤ j.toNatClampNeg then none else Rr (XS n f) d MLa_law 1213 L (.int (f j.toNatClampNeg) :: st) h := R_ialS d_MLa_law_1212
theorem fc_11_137 : fC 11 137 = some (0, 10, 3, MRm_act) := rfl
theorem r_MLa_law_1213 {y0 : Int32} {y1 : Int32} {y2 : Int32} {a : Nat} (hO : qO a 10 = true) (hc : ckS st = true) : Rr X (d + 1) MLa_law 1213 L (.int y2 :: .int y1 :: .int y0 :: .ref a :: st) (Wd mu la ro et) = (Rr X d MRm_act 0 [.ref a, .int y0, .int y1, .int y2] [] (Wd mu la ro et)).bind fun q => Rr X (d + 1) MLa_law 1216 L (psh q.1 st) q.2 := R_iv (av := [.int y2, .int y1, .int y0]) d_MLa_law_1213 fc_11_137 hO (ckS_le hc) rfl (Nat.le_of_ble_eq_true rfl) (Nat.le_of_ble_eq_true rfl)
theorem r_MLa_law_1216 {x : Int32} : Rr X d MLa_law 1216 L (.int x :: st) h = Rr X d MLa_law 1217 L st h := Rr_nx d_MLa_law_1216 rfl
theorem r_MLa_law_1217 : Rr X d MLa_law 1217 L st h = Rr X d MLa_law 1544 L st h := R_goto d_MLa_law_1217 (by decide)
theorem r_MLa_law_1220 {l0 l2 l3 : Value} {x : Nat} : Rr X d MLa_law 1220 [l0, .ref x, l2, l3] st h = Rr X d MLa_law 1221 [l0, .ref x, l2, l3] (.ref x :: st) h := Rr_nx d_MLa_law_1220 rfl
theorem r_MLa_law_1220n {l0 l2 l3 : Value} : Rr X d MLa_law 1220 [l0, .null, l2, l3] st h = Rr X d MLa_law 1221 [l0, .null, l2, l3] (.null :: st) h := Rr_nx d_MLa_law_1220 rfl
theorem r_MLa_law_1221 {l1 l2 l3 : Value} {x : Nat} : Rr X d MLa_law 1221 [.ref x, l1, l2, l3] st h = Rr X d MLa_law 1222 [.ref x, l1, l2, l3] (.ref x :: st) h := Rr_nx d_MLa_law_1221 rfl
theorem r_MLa_law_1221f {l1 l2 l3 : Value} {x : UInt32} : Rr X d MLa_law 1221 [.float x, l1, l2, l3] st h = Rr X d MLa_law 1222 [.float x, l1, l2, l3] (.float x :: st) h := Rr_nx d_MLa_law_1221 rfl
theorem r_MLa_law_1222 {l0 l1 l2 : Value} {x : Int32} : Rr X d MLa_law 1222 [l0, l1, l2, .int x] st h = Rr X d MLa_law 1223 [l0, l1, l2, .int x] (.int x :: st) h := Rr_nx d_MLa_law_1222 rfl
theorem r_MLa_law_1223 : Rr X d MLa_law 1223 L st h = Rr X d MLa_law 1224 L (.int (1) :: st) h := Rr_nx d_MLa_law_1223 rfl
theorem r_MLa_law_1224 {x y : Int32} : Rr X d MLa_law 1224 L (.int y :: .int x :: st) h = Rr X d MLa_law 1225 L (.int (x + y) :: st) h := Rr_nx d_MLa_law_1224 rfl
theorem r_MLa_law_1225 {a : Nat} {j : Int32} (hq : (qA a 0).isSome = true) : Rr X d MLa_law 1225 L (.int j :: .ref a :: st) (Wd mu la ro et) = if j < 0 ∨ qAd a 0 ≤ j.toNatClampNeg then none else Rr X d MLa_law 1226 L (.int (mu a j.toNatClampNeg) :: st) (Wd mu la ro et) := R_ialW d_MLa_law_1225 hq
theorem r_MLa_law_1225f {n : Nat} {f : Nat → Int32} {j : Int32} : Rr (XS n f) d MLa_law 1225 L (.int j :: .float 0 :: st) h = if j < 0 ∨ n ≤ j.toNatClampNeg then none else Rr (XS n f) d MLa_law 1226 L (.int (f j.toNatClampNeg) :: st) h := R_ialS d_MLa_law_1225
theorem fc_11_138 : fC 11 138 = some (0, 9, 1, MTo_trace) := rfl
theorem r_MLa_law_1226 {y0 : Int32} {a : Nat} (hO : qO a 9 = true) (hc : ckS st = true) : Rr X (d + 1) MLa_law 1226 L (.int y0 :: .ref a :: st) (Wd mu la ro et) = (Rr X d MTo_trace 0 [.ref a, .int y0] [] (Wd mu la ro et)).bind fun q => Rr X (d + 1) MLa_law 1229 L (psh q.1 st) q.2 := R_iv (av := [.int y0]) d_MLa_law_1226 fc_11_138 hO (ckS_le hc) rfl (Nat.le_of_ble_eq_true rfl) (Nat.le_of_ble_eq_true rfl)
theorem r_MLa_law_1229 {x : Int32} : Rr X d MLa_law 1229 L (.int x :: st) h = Rr X d MLa_law 1230 L st h := Rr_nx d_MLa_law_1229 rfl
theorem r_MLa_law_1230 {l0 l1 l3 : Value} {x : Nat} : Rr X d MLa_law 1230 [l0, l1, .ref x, l3] st h = Rr X d MLa_law 1231 [l0, l1, .ref x, l3] (.ref x :: st) h := Rr_nx d_MLa_law_1230 rfl
theorem r_MLa_law_1230n {l0 l1 l3 : Value} : Rr X d MLa_law 1230 [l0, l1, .null, l3] st h = Rr X d MLa_law 1231 [l0, l1, .null, l3] (.null :: st) h := Rr_nx d_MLa_law_1230 rfl
theorem r_MLa_law_1231 {l1 l2 l3 : Value} {x : Nat} : Rr X d MLa_law 1231 [.ref x, l1, l2, l3] st h = Rr X d MLa_law 1232 [.ref x, l1, l2, l3] (.ref x :: st) h := Rr_nx d_MLa_law_1231 rfl
theorem r_MLa_law_1231f {l1 l2 l3 : Value} {x : UInt32} : Rr X d MLa_law 1231 [.float x, l1, l2, l3] st h = Rr X d MLa_law 1232 [.float x, l1, l2, l3] (.float x :: st) h := Rr_nx d_MLa_law_1231 rfl
theorem r_MLa_law_1232 {l0 l1 l2 : Value} {x : Int32} : Rr X d MLa_law 1232 [l0, l1, l2, .int x] st h = Rr X d MLa_law 1233 [l0, l1, l2, .int x] (.int x :: st) h := Rr_nx d_MLa_law_1232 rfl
theorem r_MLa_law_1233 : Rr X d MLa_law 1233 L st h = Rr X d MLa_law 1234 L (.int (1) :: st) h := Rr_nx d_MLa_law_1233 rfl
theorem r_MLa_law_1234 {x y : Int32} : Rr X d MLa_law 1234 L (.int y :: .int x :: st) h = Rr X d MLa_law 1235 L (.int (x + y) :: st) h := Rr_nx d_MLa_law_1234 rfl
theorem r_MLa_law_1235 {a : Nat} {j : Int32} (hq : (qA a 0).isSome = true) : Rr X d MLa_law 1235 L (.int j :: .ref a :: st) (Wd mu la ro et) = if j < 0 ∨ qAd a 0 ≤ j.toNatClampNeg then none else Rr X d MLa_law 1236 L (.int (mu a j.toNatClampNeg) :: st) (Wd mu la ro et) := R_ialW d_MLa_law_1235 hq
theorem r_MLa_law_1235f {n : Nat} {f : Nat → Int32} {j : Int32} : Rr (XS n f) d MLa_law 1235 L (.int j :: .float 0 :: st) h = if j < 0 ∨ n ≤ j.toNatClampNeg then none else Rr (XS n f) d MLa_law 1236 L (.int (f j.toNatClampNeg) :: st) h := R_ialS d_MLa_law_1235
theorem fc_11_141 : fC 11 141 = some (0, 10, 1, MRm_trace) := rfl
theorem r_MLa_law_1236 {y0 : Int32} {a : Nat} (hO : qO a 10 = true) (hc : ckS st = true) : Rr X (d + 1) MLa_law 1236 L (.int y0 :: .ref a :: st) (Wd mu la ro et) = (Rr X d MRm_trace 0 [.ref a, .int y0] [] (Wd mu la ro et)).bind fun q => Rr X (d + 1) MLa_law 1239 L (psh q.1 st) q.2 := R_iv (av := [.int y0]) d_MLa_law_1236 fc_11_141 hO (ckS_le hc) rfl (Nat.le_of_ble_eq_true rfl) (Nat.le_of_ble_eq_true rfl)
theorem r_MLa_law_1239 {x : Int32} : Rr X d MLa_law 1239 L (.int x :: st) h = Rr X d MLa_law 1240 L st h := Rr_nx d_MLa_law_1239 rfl
theorem r_MLa_law_1240 : Rr X d MLa_law 1240 L st h = Rr X d MLa_law 1544 L st h := R_goto d_MLa_law_1240 (by decide)
theorem r_MLa_law_1243 {l0 l2 l3 : Value} {x : Nat} : Rr X d MLa_law 1243 [l0, .ref x, l2, l3] st h = Rr X d MLa_law 1244 [l0, .ref x, l2, l3] (.ref x :: st) h := Rr_nx d_MLa_law_1243 rfl
theorem r_MLa_law_1243n {l0 l2 l3 : Value} : Rr X d MLa_law 1243 [l0, .null, l2, l3] st h = Rr X d MLa_law 1244 [l0, .null, l2, l3] (.null :: st) h := Rr_nx d_MLa_law_1243 rfl
theorem r_MLa_law_1244 {l1 l2 l3 : Value} {x : Nat} : Rr X d MLa_law 1244 [.ref x, l1, l2, l3] st h = Rr X d MLa_law 1245 [.ref x, l1, l2, l3] (.ref x :: st) h := Rr_nx d_MLa_law_1244 rfl
theorem r_MLa_law_1244f {l1 l2 l3 : Value} {x : UInt32} : Rr X d MLa_law 1244 [.float x, l1, l2, l3] st h = Rr X d MLa_law 1245 [.float x, l1, l2, l3] (.float x :: st) h := Rr_nx d_MLa_law_1244 rfl
theorem r_MLa_law_1245 {l0 l1 l2 : Value} {x : Int32} : Rr X d MLa_law 1245 [l0, l1, l2, .int x] st h = Rr X d MLa_law 1246 [l0, l1, l2, .int x] (.int x :: st) h := Rr_nx d_MLa_law_1245 rfl
theorem r_MLa_law_1246 : Rr X d MLa_law 1246 L st h = Rr X d MLa_law 1247 L (.int (1) :: st) h := Rr_nx d_MLa_law_1246 rfl
theorem r_MLa_law_1247 {x y : Int32} : Rr X d MLa_law 1247 L (.int y :: .int x :: st) h = Rr X d MLa_law 1248 L (.int (x + y) :: st) h := Rr_nx d_MLa_law_1247 rfl
theorem r_MLa_law_1248 {a : Nat} {j : Int32} (hq : (qA a 0).isSome = true) : Rr X d MLa_law 1248 L (.int j :: .ref a :: st) (Wd mu la ro et) = if j < 0 ∨ qAd a 0 ≤ j.toNatClampNeg then none else Rr X d MLa_law 1249 L (.int (mu a j.toNatClampNeg) :: st) (Wd mu la ro et) := R_ialW d_MLa_law_1248 hq
theorem r_MLa_law_1248f {n : Nat} {f : Nat → Int32} {j : Int32} : Rr (XS n f) d MLa_law 1248 L (.int j :: .float 0 :: st) h = if j < 0 ∨ n ≤ j.toNatClampNeg then none else Rr (XS n f) d MLa_law 1249 L (.int (f j.toNatClampNeg) :: st) h := R_ialS d_MLa_law_1248
theorem r_MLa_law_1249 {l1 l2 l3 : Value} {x : Nat} : Rr X d MLa_law 1249 [.ref x, l1, l2, l3] st h = Rr X d MLa_law 1250 [.ref x, l1, l2, l3] (.ref x :: st) h := Rr_nx d_MLa_law_1249 rfl
theorem r_MLa_law_1249f {l1 l2 l3 : Value} {x : UInt32} : Rr X d MLa_law 1249 [.float x, l1, l2, l3] st h = Rr X d MLa_law 1250 [.float x, l1, l2, l3] (.float x :: st) h := Rr_nx d_MLa_law_1249 rfl
theorem r_MLa_law_1250 {l0 l1 l2 : Value} {x : Int32} : Rr X d MLa_law 1250 [l0, l1, l2, .int x] st h = Rr X d MLa_law 1251 [l0, l1, l2, .int x] (.int x :: st) h := Rr_nx d_MLa_law_1250 rfl
theorem r_MLa_law_1251 : Rr X d MLa_law 1251 L st h = Rr X d MLa_law 1252 L (.int (2) :: st) h := Rr_nx d_MLa_law_1251 rfl
theorem r_MLa_law_1252 {x y : Int32} : Rr X d MLa_law 1252 L (.int y :: .int x :: st) h = Rr X d MLa_law 1253 L (.int (x + y) :: st) h := Rr_nx d_MLa_law_1252 rfl
theorem r_MLa_law_1253 {a : Nat} {j : Int32} (hq : (qA a 0).isSome = true) : Rr X d MLa_law 1253 L (.int j :: .ref a :: st) (Wd mu la ro et) = if j < 0 ∨ qAd a 0 ≤ j.toNatClampNeg then none else Rr X d MLa_law 1254 L (.int (mu a j.toNatClampNeg) :: st) (Wd mu la ro et) := R_ialW d_MLa_law_1253 hq
theorem r_MLa_law_1253f {n : Nat} {f : Nat → Int32} {j : Int32} : Rr (XS n f) d MLa_law 1253 L (.int j :: .float 0 :: st) h = if j < 0 ∨ n ≤ j.toNatClampNeg then none else Rr (XS n f) d MLa_law 1254 L (.int (f j.toNatClampNeg) :: st) h := R_ialS d_MLa_law_1253
theorem fc_11_142 : fC 11 142 = some (0, 9, 2, MTo_keep) := rfl
theorem r_MLa_law_1254 {y0 : Int32} {y1 : Int32} {a : Nat} (hO : qO a 9 = true) (hc : ckS st = true) : Rr X (d + 1) MLa_law 1254 L (.int y1 :: .int y0 :: .ref a :: st) (Wd mu la ro et) = (Rr X d MTo_keep 0 [.ref a, .int y0, .int y1, mkU] [] (Wd mu la ro et)).bind fun q => Rr X (d + 1) MLa_law 1257 L (psh q.1 st) q.2 := R_iv (av := [.int y1, .int y0]) d_MLa_law_1254 fc_11_142 hO (ckS_le hc) rfl (Nat.le_of_ble_eq_true rfl) (Nat.le_of_ble_eq_true rfl)
theorem r_MLa_law_1257 {x : Int32} : Rr X d MLa_law 1257 L (.int x :: st) h = Rr X d MLa_law 1258 L st h := Rr_nx d_MLa_law_1257 rfl
theorem r_MLa_law_1258 {l0 l1 l3 : Value} {x : Nat} : Rr X d MLa_law 1258 [l0, l1, .ref x, l3] st h = Rr X d MLa_law 1259 [l0, l1, .ref x, l3] (.ref x :: st) h := Rr_nx d_MLa_law_1258 rfl
theorem r_MLa_law_1258n {l0 l1 l3 : Value} : Rr X d MLa_law 1258 [l0, l1, .null, l3] st h = Rr X d MLa_law 1259 [l0, l1, .null, l3] (.null :: st) h := Rr_nx d_MLa_law_1258 rfl
theorem r_MLa_law_1259 {l1 l2 l3 : Value} {x : Nat} : Rr X d MLa_law 1259 [.ref x, l1, l2, l3] st h = Rr X d MLa_law 1260 [.ref x, l1, l2, l3] (.ref x :: st) h := Rr_nx d_MLa_law_1259 rfl
theorem r_MLa_law_1259f {l1 l2 l3 : Value} {x : UInt32} : Rr X d MLa_law 1259 [.float x, l1, l2, l3] st h = Rr X d MLa_law 1260 [.float x, l1, l2, l3] (.float x :: st) h := Rr_nx d_MLa_law_1259 rfl
theorem r_MLa_law_1260 {l0 l1 l2 : Value} {x : Int32} : Rr X d MLa_law 1260 [l0, l1, l2, .int x] st h = Rr X d MLa_law 1261 [l0, l1, l2, .int x] (.int x :: st) h := Rr_nx d_MLa_law_1260 rfl
theorem r_MLa_law_1261 : Rr X d MLa_law 1261 L st h = Rr X d MLa_law 1262 L (.int (1) :: st) h := Rr_nx d_MLa_law_1261 rfl
theorem r_MLa_law_1262 {x y : Int32} : Rr X d MLa_law 1262 L (.int y :: .int x :: st) h = Rr X d MLa_law 1263 L (.int (x + y) :: st) h := Rr_nx d_MLa_law_1262 rfl
theorem r_MLa_law_1263 {a : Nat} {j : Int32} (hq : (qA a 0).isSome = true) : Rr X d MLa_law 1263 L (.int j :: .ref a :: st) (Wd mu la ro et) = if j < 0 ∨ qAd a 0 ≤ j.toNatClampNeg then none else Rr X d MLa_law 1264 L (.int (mu a j.toNatClampNeg) :: st) (Wd mu la ro et) := R_ialW d_MLa_law_1263 hq
theorem r_MLa_law_1263f {n : Nat} {f : Nat → Int32} {j : Int32} : Rr (XS n f) d MLa_law 1263 L (.int j :: .float 0 :: st) h = if j < 0 ∨ n ≤ j.toNatClampNeg then none else Rr (XS n f) d MLa_law 1264 L (.int (f j.toNatClampNeg) :: st) h := R_ialS d_MLa_law_1263
theorem r_MLa_law_1264 {l1 l2 l3 : Value} {x : Nat} : Rr X d MLa_law 1264 [.ref x, l1, l2, l3] st h = Rr X d MLa_law 1265 [.ref x, l1, l2, l3] (.ref x :: st) h := Rr_nx d_MLa_law_1264 rfl
theorem r_MLa_law_1264f {l1 l2 l3 : Value} {x : UInt32} : Rr X d MLa_law 1264 [.float x, l1, l2, l3] st h = Rr X d MLa_law 1265 [.float x, l1, l2, l3] (.float x :: st) h := Rr_nx d_MLa_law_1264 rfl
theorem r_MLa_law_1265 {l0 l1 l2 : Value} {x : Int32} : Rr X d MLa_law 1265 [l0, l1, l2, .int x] st h = Rr X d MLa_law 1266 [l0, l1, l2, .int x] (.int x :: st) h := Rr_nx d_MLa_law_1265 rfl
theorem r_MLa_law_1266 : Rr X d MLa_law 1266 L st h = Rr X d MLa_law 1267 L (.int (2) :: st) h := Rr_nx d_MLa_law_1266 rfl
theorem r_MLa_law_1267 {x y : Int32} : Rr X d MLa_law 1267 L (.int y :: .int x :: st) h = Rr X d MLa_law 1268 L (.int (x + y) :: st) h := Rr_nx d_MLa_law_1267 rfl
theorem r_MLa_law_1268 {a : Nat} {j : Int32} (hq : (qA a 0).isSome = true) : Rr X d MLa_law 1268 L (.int j :: .ref a :: st) (Wd mu la ro et) = if j < 0 ∨ qAd a 0 ≤ j.toNatClampNeg then none else Rr X d MLa_law 1269 L (.int (mu a j.toNatClampNeg) :: st) (Wd mu la ro et) := R_ialW d_MLa_law_1268 hq
theorem r_MLa_law_1268f {n : Nat} {f : Nat → Int32} {j : Int32} : Rr (XS n f) d MLa_law 1268 L (.int j :: .float 0 :: st) h = if j < 0 ∨ n ≤ j.toNatClampNeg then none else Rr (XS n f) d MLa_law 1269 L (.int (f j.toNatClampNeg) :: st) h := R_ialS d_MLa_law_1268
theorem fc_11_145 : fC 11 145 = some (0, 10, 2, MRm_keep) := rfl
theorem r_MLa_law_1269 {y0 : Int32} {y1 : Int32} {a : Nat} (hO : qO a 10 = true) (hc : ckS st = true) : Rr X (d + 1) MLa_law 1269 L (.int y1 :: .int y0 :: .ref a :: st) (Wd mu la ro et) = (Rr X d MRm_keep 0 [.ref a, .int y0, .int y1] [] (Wd mu la ro et)).bind fun q => Rr X (d + 1) MLa_law 1272 L (psh q.1 st) q.2 := R_iv (av := [.int y1, .int y0]) d_MLa_law_1269 fc_11_145 hO (ckS_le hc) rfl (Nat.le_of_ble_eq_true rfl) (Nat.le_of_ble_eq_true rfl)
theorem r_MLa_law_1272 {x : Int32} : Rr X d MLa_law 1272 L (.int x :: st) h = Rr X d MLa_law 1273 L st h := Rr_nx d_MLa_law_1272 rfl
theorem r_MLa_law_1273 : Rr X d MLa_law 1273 L st h = Rr X d MLa_law 1544 L st h := R_goto d_MLa_law_1273 (by decide)
theorem r_MLa_law_1276 {l0 l2 l3 : Value} {x : Nat} : Rr X d MLa_law 1276 [l0, .ref x, l2, l3] st h = Rr X d MLa_law 1277 [l0, .ref x, l2, l3] (.ref x :: st) h := Rr_nx d_MLa_law_1276 rfl
theorem r_MLa_law_1276n {l0 l2 l3 : Value} : Rr X d MLa_law 1276 [l0, .null, l2, l3] st h = Rr X d MLa_law 1277 [l0, .null, l2, l3] (.null :: st) h := Rr_nx d_MLa_law_1276 rfl
theorem r_MLa_law_1277 {l1 l2 l3 : Value} {x : Nat} : Rr X d MLa_law 1277 [.ref x, l1, l2, l3] st h = Rr X d MLa_law 1278 [.ref x, l1, l2, l3] (.ref x :: st) h := Rr_nx d_MLa_law_1277 rfl
theorem r_MLa_law_1277f {l1 l2 l3 : Value} {x : UInt32} : Rr X d MLa_law 1277 [.float x, l1, l2, l3] st h = Rr X d MLa_law 1278 [.float x, l1, l2, l3] (.float x :: st) h := Rr_nx d_MLa_law_1277 rfl
theorem r_MLa_law_1278 {l0 l1 l2 : Value} {x : Int32} : Rr X d MLa_law 1278 [l0, l1, l2, .int x] st h = Rr X d MLa_law 1279 [l0, l1, l2, .int x] (.int x :: st) h := Rr_nx d_MLa_law_1278 rfl
theorem r_MLa_law_1279 : Rr X d MLa_law 1279 L st h = Rr X d MLa_law 1280 L (.int (1) :: st) h := Rr_nx d_MLa_law_1279 rfl
theorem r_MLa_law_1280 {x y : Int32} : Rr X d MLa_law 1280 L (.int y :: .int x :: st) h = Rr X d MLa_law 1281 L (.int (x + y) :: st) h := Rr_nx d_MLa_law_1280 rfl
theorem r_MLa_law_1281 {a : Nat} {j : Int32} (hq : (qA a 0).isSome = true) : Rr X d MLa_law 1281 L (.int j :: .ref a :: st) (Wd mu la ro et) = if j < 0 ∨ qAd a 0 ≤ j.toNatClampNeg then none else Rr X d MLa_law 1282 L (.int (mu a j.toNatClampNeg) :: st) (Wd mu la ro et) := R_ialW d_MLa_law_1281 hq
theorem r_MLa_law_1281f {n : Nat} {f : Nat → Int32} {j : Int32} : Rr (XS n f) d MLa_law 1281 L (.int j :: .float 0 :: st) h = if j < 0 ∨ n ≤ j.toNatClampNeg then none else Rr (XS n f) d MLa_law 1282 L (.int (f j.toNatClampNeg) :: st) h := R_ialS d_MLa_law_1281
theorem r_MLa_law_1282 {l1 l2 l3 : Value} {x : Nat} : Rr X d MLa_law 1282 [.ref x, l1, l2, l3] st h = Rr X d MLa_law 1283 [.ref x, l1, l2, l3] (.ref x :: st) h := Rr_nx d_MLa_law_1282 rfl
theorem r_MLa_law_1282f {l1 l2 l3 : Value} {x : UInt32} : Rr X d MLa_law 1282 [.float x, l1, l2, l3] st h = Rr X d MLa_law 1283 [.float x, l1, l2, l3] (.float x :: st) h := Rr_nx d_MLa_law_1282 rfl
theorem r_MLa_law_1283 {l0 l1 l2 : Value} {x : Int32} : Rr X d MLa_law 1283 [l0, l1, l2, .int x] st h = Rr X d MLa_law 1284 [l0, l1, l2, .int x] (.int x :: st) h := Rr_nx d_MLa_law_1283 rfl
theorem r_MLa_law_1284 : Rr X d MLa_law 1284 L st h = Rr X d MLa_law 1285 L (.int (2) :: st) h := Rr_nx d_MLa_law_1284 rfl
theorem r_MLa_law_1285 {x y : Int32} : Rr X d MLa_law 1285 L (.int y :: .int x :: st) h = Rr X d MLa_law 1286 L (.int (x + y) :: st) h := Rr_nx d_MLa_law_1285 rfl
theorem r_MLa_law_1286 {a : Nat} {j : Int32} (hq : (qA a 0).isSome = true) : Rr X d MLa_law 1286 L (.int j :: .ref a :: st) (Wd mu la ro et) = if j < 0 ∨ qAd a 0 ≤ j.toNatClampNeg then none else Rr X d MLa_law 1287 L (.int (mu a j.toNatClampNeg) :: st) (Wd mu la ro et) := R_ialW d_MLa_law_1286 hq
theorem r_MLa_law_1286f {n : Nat} {f : Nat → Int32} {j : Int32} : Rr (XS n f) d MLa_law 1286 L (.int j :: .float 0 :: st) h = if j < 0 ∨ n ≤ j.toNatClampNeg then none else Rr (XS n f) d MLa_law 1287 L (.int (f j.toNatClampNeg) :: st) h := R_ialS d_MLa_law_1286
theorem r_MLa_law_1287 {l1 l2 l3 : Value} {x : Nat} : Rr X d MLa_law 1287 [.ref x, l1, l2, l3] st h = Rr X d MLa_law 1288 [.ref x, l1, l2, l3] (.ref x :: st) h := Rr_nx d_MLa_law_1287 rfl
theorem r_MLa_law_1287f {l1 l2 l3 : Value} {x : UInt32} : Rr X d MLa_law 1287 [.float x, l1, l2, l3] st h = Rr X d MLa_law 1288 [.float x, l1, l2, l3] (.float x :: st) h := Rr_nx d_MLa_law_1287 rfl
theorem r_MLa_law_1288 {l0 l1 l2 : Value} {x : Int32} : Rr X d MLa_law 1288 [l0, l1, l2, .int x] st h = Rr X d MLa_law 1289 [l0, l1, l2, .int x] (.int x :: st) h := Rr_nx d_MLa_law_1288 rfl
theorem r_MLa_law_1289 : Rr X d MLa_law 1289 L st h = Rr X d MLa_law 1290 L (.int (3) :: st) h := Rr_nx d_MLa_law_1289 rfl
theorem r_MLa_law_1290 {x y : Int32} : Rr X d MLa_law 1290 L (.int y :: .int x :: st) h = Rr X d MLa_law 1291 L (.int (x + y) :: st) h := Rr_nx d_MLa_law_1290 rfl
theorem r_MLa_law_1291 {a : Nat} {j : Int32} (hq : (qA a 0).isSome = true) : Rr X d MLa_law 1291 L (.int j :: .ref a :: st) (Wd mu la ro et) = if j < 0 ∨ qAd a 0 ≤ j.toNatClampNeg then none else Rr X d MLa_law 1292 L (.int (mu a j.toNatClampNeg) :: st) (Wd mu la ro et) := R_ialW d_MLa_law_1291 hq
theorem r_MLa_law_1291f {n : Nat} {f : Nat → Int32} {j : Int32} : Rr (XS n f) d MLa_law 1291 L (.int j :: .float 0 :: st) h = if j < 0 ∨ n ≤ j.toNatClampNeg then none else Rr (XS n f) d MLa_law 1292 L (.int (f j.toNatClampNeg) :: st) h := R_ialS d_MLa_law_1291
theorem fc_11_146 : fC 11 146 = some (0, 9, 3, MTo_row) := rfl
theorem r_MLa_law_1292 {y0 : Int32} {y1 : Int32} {y2 : Int32} {a : Nat} (hO : qO a 9 = true) (hc : ckS st = true) : Rr X (d + 1) MLa_law 1292 L (.int y2 :: .int y1 :: .int y0 :: .ref a :: st) (Wd mu la ro et) = (Rr X d MTo_row 0 [.ref a, .int y0, .int y1, .int y2, mkU] [] (Wd mu la ro et)).bind fun q => Rr X (d + 1) MLa_law 1295 L (psh q.1 st) q.2 := R_iv (av := [.int y2, .int y1, .int y0]) d_MLa_law_1292 fc_11_146 hO (ckS_le hc) rfl (Nat.le_of_ble_eq_true rfl) (Nat.le_of_ble_eq_true rfl)
theorem r_MLa_law_1295 {x : Int32} : Rr X d MLa_law 1295 L (.int x :: st) h = Rr X d MLa_law 1296 L st h := Rr_nx d_MLa_law_1295 rfl
theorem r_MLa_law_1296 {l0 l1 l3 : Value} {x : Nat} : Rr X d MLa_law 1296 [l0, l1, .ref x, l3] st h = Rr X d MLa_law 1297 [l0, l1, .ref x, l3] (.ref x :: st) h := Rr_nx d_MLa_law_1296 rfl
theorem r_MLa_law_1296n {l0 l1 l3 : Value} : Rr X d MLa_law 1296 [l0, l1, .null, l3] st h = Rr X d MLa_law 1297 [l0, l1, .null, l3] (.null :: st) h := Rr_nx d_MLa_law_1296 rfl
theorem r_MLa_law_1297 {l1 l2 l3 : Value} {x : Nat} : Rr X d MLa_law 1297 [.ref x, l1, l2, l3] st h = Rr X d MLa_law 1298 [.ref x, l1, l2, l3] (.ref x :: st) h := Rr_nx d_MLa_law_1297 rfl
theorem r_MLa_law_1297f {l1 l2 l3 : Value} {x : UInt32} : Rr X d MLa_law 1297 [.float x, l1, l2, l3] st h = Rr X d MLa_law 1298 [.float x, l1, l2, l3] (.float x :: st) h := Rr_nx d_MLa_law_1297 rfl
theorem r_MLa_law_1298 {l0 l1 l2 : Value} {x : Int32} : Rr X d MLa_law 1298 [l0, l1, l2, .int x] st h = Rr X d MLa_law 1299 [l0, l1, l2, .int x] (.int x :: st) h := Rr_nx d_MLa_law_1298 rfl
theorem r_MLa_law_1299 : Rr X d MLa_law 1299 L st h = Rr X d MLa_law 1300 L (.int (1) :: st) h := Rr_nx d_MLa_law_1299 rfl
theorem r_MLa_law_1300 {x y : Int32} : Rr X d MLa_law 1300 L (.int y :: .int x :: st) h = Rr X d MLa_law 1301 L (.int (x + y) :: st) h := Rr_nx d_MLa_law_1300 rfl
theorem r_MLa_law_1301 {a : Nat} {j : Int32} (hq : (qA a 0).isSome = true) : Rr X d MLa_law 1301 L (.int j :: .ref a :: st) (Wd mu la ro et) = if j < 0 ∨ qAd a 0 ≤ j.toNatClampNeg then none else Rr X d MLa_law 1302 L (.int (mu a j.toNatClampNeg) :: st) (Wd mu la ro et) := R_ialW d_MLa_law_1301 hq
theorem r_MLa_law_1301f {n : Nat} {f : Nat → Int32} {j : Int32} : Rr (XS n f) d MLa_law 1301 L (.int j :: .float 0 :: st) h = if j < 0 ∨ n ≤ j.toNatClampNeg then none else Rr (XS n f) d MLa_law 1302 L (.int (f j.toNatClampNeg) :: st) h := R_ialS d_MLa_law_1301
theorem r_MLa_law_1302 {l1 l2 l3 : Value} {x : Nat} : Rr X d MLa_law 1302 [.ref x, l1, l2, l3] st h = Rr X d MLa_law 1303 [.ref x, l1, l2, l3] (.ref x :: st) h := Rr_nx d_MLa_law_1302 rfl
theorem r_MLa_law_1302f {l1 l2 l3 : Value} {x : UInt32} : Rr X d MLa_law 1302 [.float x, l1, l2, l3] st h = Rr X d MLa_law 1303 [.float x, l1, l2, l3] (.float x :: st) h := Rr_nx d_MLa_law_1302 rfl
theorem r_MLa_law_1303 {l0 l1 l2 : Value} {x : Int32} : Rr X d MLa_law 1303 [l0, l1, l2, .int x] st h = Rr X d MLa_law 1304 [l0, l1, l2, .int x] (.int x :: st) h := Rr_nx d_MLa_law_1303 rfl
theorem r_MLa_law_1304 : Rr X d MLa_law 1304 L st h = Rr X d MLa_law 1305 L (.int (2) :: st) h := Rr_nx d_MLa_law_1304 rfl
theorem r_MLa_law_1305 {x y : Int32} : Rr X d MLa_law 1305 L (.int y :: .int x :: st) h = Rr X d MLa_law 1306 L (.int (x + y) :: st) h := Rr_nx d_MLa_law_1305 rfl
theorem r_MLa_law_1306 {a : Nat} {j : Int32} (hq : (qA a 0).isSome = true) : Rr X d MLa_law 1306 L (.int j :: .ref a :: st) (Wd mu la ro et) = if j < 0 ∨ qAd a 0 ≤ j.toNatClampNeg then none else Rr X d MLa_law 1307 L (.int (mu a j.toNatClampNeg) :: st) (Wd mu la ro et) := R_ialW d_MLa_law_1306 hq
theorem r_MLa_law_1306f {n : Nat} {f : Nat → Int32} {j : Int32} : Rr (XS n f) d MLa_law 1306 L (.int j :: .float 0 :: st) h = if j < 0 ∨ n ≤ j.toNatClampNeg then none else Rr (XS n f) d MLa_law 1307 L (.int (f j.toNatClampNeg) :: st) h := R_ialS d_MLa_law_1306
theorem r_MLa_law_1307 {l1 l2 l3 : Value} {x : Nat} : Rr X d MLa_law 1307 [.ref x, l1, l2, l3] st h = Rr X d MLa_law 1308 [.ref x, l1, l2, l3] (.ref x :: st) h := Rr_nx d_MLa_law_1307 rfl
theorem r_MLa_law_1307f {l1 l2 l3 : Value} {x : UInt32} : Rr X d MLa_law 1307 [.float x, l1, l2, l3] st h = Rr X d MLa_law 1308 [.float x, l1, l2, l3] (.float x :: st) h := Rr_nx d_MLa_law_1307 rfl
theorem r_MLa_law_1308 {l0 l1 l2 : Value} {x : Int32} : Rr X d MLa_law 1308 [l0, l1, l2, .int x] st h = Rr X d MLa_law 1309 [l0, l1, l2, .int x] (.int x :: st) h := Rr_nx d_MLa_law_1308 rfl
theorem r_MLa_law_1309 : Rr X d MLa_law 1309 L st h = Rr X d MLa_law 1310 L (.int (3) :: st) h := Rr_nx d_MLa_law_1309 rfl
theorem r_MLa_law_1310 {x y : Int32} : Rr X d MLa_law 1310 L (.int y :: .int x :: st) h = Rr X d MLa_law 1311 L (.int (x + y) :: st) h := Rr_nx d_MLa_law_1310 rfl
theorem r_MLa_law_1311 {a : Nat} {j : Int32} (hq : (qA a 0).isSome = true) : Rr X d MLa_law 1311 L (.int j :: .ref a :: st) (Wd mu la ro et) = if j < 0 ∨ qAd a 0 ≤ j.toNatClampNeg then none else Rr X d MLa_law 1312 L (.int (mu a j.toNatClampNeg) :: st) (Wd mu la ro et) := R_ialW d_MLa_law_1311 hq
theorem r_MLa_law_1311f {n : Nat} {f : Nat → Int32} {j : Int32} : Rr (XS n f) d MLa_law 1311 L (.int j :: .float 0 :: st) h = if j < 0 ∨ n ≤ j.toNatClampNeg then none else Rr (XS n f) d MLa_law 1312 L (.int (f j.toNatClampNeg) :: st) h := R_ialS d_MLa_law_1311
theorem fc_11_149 : fC 11 149 = some (0, 10, 3, MRm_row) := rfl
theorem r_MLa_law_1312 {y0 : Int32} {y1 : Int32} {y2 : Int32} {a : Nat} (hO : qO a 10 = true) (hc : ckS st = true) : Rr X (d + 1) MLa_law 1312 L (.int y2 :: .int y1 :: .int y0 :: .ref a :: st) (Wd mu la ro et) = (Rr X d MRm_row 0 [.ref a, .int y0, .int y1, .int y2, mkU] [] (Wd mu la ro et)).bind fun q => Rr X (d + 1) MLa_law 1315 L (psh q.1 st) q.2 := R_iv (av := [.int y2, .int y1, .int y0]) d_MLa_law_1312 fc_11_149 hO (ckS_le hc) rfl (Nat.le_of_ble_eq_true rfl) (Nat.le_of_ble_eq_true rfl)
theorem r_MLa_law_1315 {x : Int32} : Rr X d MLa_law 1315 L (.int x :: st) h = Rr X d MLa_law 1316 L st h := Rr_nx d_MLa_law_1315 rfl
theorem r_MLa_law_1316 : Rr X d MLa_law 1316 L st h = Rr X d MLa_law 1544 L st h := R_goto d_MLa_law_1316 (by decide)
theorem r_MLa_law_1319 {l0 l2 l3 : Value} {x : Nat} : Rr X d MLa_law 1319 [l0, .ref x, l2, l3] st h = Rr X d MLa_law 1320 [l0, .ref x, l2, l3] (.ref x :: st) h := Rr_nx d_MLa_law_1319 rfl
theorem r_MLa_law_1319n {l0 l2 l3 : Value} : Rr X d MLa_law 1319 [l0, .null, l2, l3] st h = Rr X d MLa_law 1320 [l0, .null, l2, l3] (.null :: st) h := Rr_nx d_MLa_law_1319 rfl
theorem r_MLa_law_1320 {l1 l2 l3 : Value} {x : Nat} : Rr X d MLa_law 1320 [.ref x, l1, l2, l3] st h = Rr X d MLa_law 1321 [.ref x, l1, l2, l3] (.ref x :: st) h := Rr_nx d_MLa_law_1320 rfl
theorem r_MLa_law_1320f {l1 l2 l3 : Value} {x : UInt32} : Rr X d MLa_law 1320 [.float x, l1, l2, l3] st h = Rr X d MLa_law 1321 [.float x, l1, l2, l3] (.float x :: st) h := Rr_nx d_MLa_law_1320 rfl
theorem r_MLa_law_1321 {l0 l1 l2 : Value} {x : Int32} : Rr X d MLa_law 1321 [l0, l1, l2, .int x] st h = Rr X d MLa_law 1322 [l0, l1, l2, .int x] (.int x :: st) h := Rr_nx d_MLa_law_1321 rfl
theorem r_MLa_law_1322 : Rr X d MLa_law 1322 L st h = Rr X d MLa_law 1323 L (.int (1) :: st) h := Rr_nx d_MLa_law_1322 rfl
theorem r_MLa_law_1323 {x y : Int32} : Rr X d MLa_law 1323 L (.int y :: .int x :: st) h = Rr X d MLa_law 1324 L (.int (x + y) :: st) h := Rr_nx d_MLa_law_1323 rfl
theorem r_MLa_law_1324 {a : Nat} {j : Int32} (hq : (qA a 0).isSome = true) : Rr X d MLa_law 1324 L (.int j :: .ref a :: st) (Wd mu la ro et) = if j < 0 ∨ qAd a 0 ≤ j.toNatClampNeg then none else Rr X d MLa_law 1325 L (.int (mu a j.toNatClampNeg) :: st) (Wd mu la ro et) := R_ialW d_MLa_law_1324 hq
theorem r_MLa_law_1324f {n : Nat} {f : Nat → Int32} {j : Int32} : Rr (XS n f) d MLa_law 1324 L (.int j :: .float 0 :: st) h = if j < 0 ∨ n ≤ j.toNatClampNeg then none else Rr (XS n f) d MLa_law 1325 L (.int (f j.toNatClampNeg) :: st) h := R_ialS d_MLa_law_1324
theorem r_MLa_law_1325 {l1 l2 l3 : Value} {x : Nat} : Rr X d MLa_law 1325 [.ref x, l1, l2, l3] st h = Rr X d MLa_law 1326 [.ref x, l1, l2, l3] (.ref x :: st) h := Rr_nx d_MLa_law_1325 rfl
theorem r_MLa_law_1325f {l1 l2 l3 : Value} {x : UInt32} : Rr X d MLa_law 1325 [.float x, l1, l2, l3] st h = Rr X d MLa_law 1326 [.float x, l1, l2, l3] (.float x :: st) h := Rr_nx d_MLa_law_1325 rfl
theorem r_MLa_law_1326 {l0 l1 l2 : Value} {x : Int32} : Rr X d MLa_law 1326 [l0, l1, l2, .int x] st h = Rr X d MLa_law 1327 [l0, l1, l2, .int x] (.int x :: st) h := Rr_nx d_MLa_law_1326 rfl
theorem r_MLa_law_1327 : Rr X d MLa_law 1327 L st h = Rr X d MLa_law 1328 L (.int (2) :: st) h := Rr_nx d_MLa_law_1327 rfl
theorem r_MLa_law_1328 {x y : Int32} : Rr X d MLa_law 1328 L (.int y :: .int x :: st) h = Rr X d MLa_law 1329 L (.int (x + y) :: st) h := Rr_nx d_MLa_law_1328 rfl
theorem r_MLa_law_1329 {a : Nat} {j : Int32} (hq : (qA a 0).isSome = true) : Rr X d MLa_law 1329 L (.int j :: .ref a :: st) (Wd mu la ro et) = if j < 0 ∨ qAd a 0 ≤ j.toNatClampNeg then none else Rr X d MLa_law 1330 L (.int (mu a j.toNatClampNeg) :: st) (Wd mu la ro et) := R_ialW d_MLa_law_1329 hq
theorem r_MLa_law_1329f {n : Nat} {f : Nat → Int32} {j : Int32} : Rr (XS n f) d MLa_law 1329 L (.int j :: .float 0 :: st) h = if j < 0 ∨ n ≤ j.toNatClampNeg then none else Rr (XS n f) d MLa_law 1330 L (.int (f j.toNatClampNeg) :: st) h := R_ialS d_MLa_law_1329
theorem r_MLa_law_1330 {l1 l2 l3 : Value} {x : Nat} : Rr X d MLa_law 1330 [.ref x, l1, l2, l3] st h = Rr X d MLa_law 1331 [.ref x, l1, l2, l3] (.ref x :: st) h := Rr_nx d_MLa_law_1330 rfl
theorem r_MLa_law_1330f {l1 l2 l3 : Value} {x : UInt32} : Rr X d MLa_law 1330 [.float x, l1, l2, l3] st h = Rr X d MLa_law 1331 [.float x, l1, l2, l3] (.float x :: st) h := Rr_nx d_MLa_law_1330 rfl
theorem r_MLa_law_1331 {l0 l1 l2 : Value} {x : Int32} : Rr X d MLa_law 1331 [l0, l1, l2, .int x] st h = Rr X d MLa_law 1332 [l0, l1, l2, .int x] (.int x :: st) h := Rr_nx d_MLa_law_1331 rfl
theorem r_MLa_law_1332 : Rr X d MLa_law 1332 L st h = Rr X d MLa_law 1333 L (.int (3) :: st) h := Rr_nx d_MLa_law_1332 rfl
theorem r_MLa_law_1333 {x y : Int32} : Rr X d MLa_law 1333 L (.int y :: .int x :: st) h = Rr X d MLa_law 1334 L (.int (x + y) :: st) h := Rr_nx d_MLa_law_1333 rfl
theorem r_MLa_law_1334 {a : Nat} {j : Int32} (hq : (qA a 0).isSome = true) : Rr X d MLa_law 1334 L (.int j :: .ref a :: st) (Wd mu la ro et) = if j < 0 ∨ qAd a 0 ≤ j.toNatClampNeg then none else Rr X d MLa_law 1335 L (.int (mu a j.toNatClampNeg) :: st) (Wd mu la ro et) := R_ialW d_MLa_law_1334 hq
theorem r_MLa_law_1334f {n : Nat} {f : Nat → Int32} {j : Int32} : Rr (XS n f) d MLa_law 1334 L (.int j :: .float 0 :: st) h = if j < 0 ∨ n ≤ j.toNatClampNeg then none else Rr (XS n f) d MLa_law 1335 L (.int (f j.toNatClampNeg) :: st) h := R_ialS d_MLa_law_1334
theorem r_MLa_law_1335 {x : Int32} : Rr X d MLa_law 1335 L (.int x :: st) h = Rr X d MLa_law 1336 L (.long x.toInt64 :: st) h := Rr_nx d_MLa_law_1335 rfl
theorem r_MLa_law_1336 : Rr X d MLa_law 1336 L st h = Rr X d MLa_law 1338 L (.int (32) :: st) h := Rr_nx d_MLa_law_1336 rfl
theorem r_MLa_law_1338 {x : Int64} {y : Int32} : Rr X d MLa_law 1338 L (.int y :: .long x :: st) h = Rr X d MLa_law 1339 L (.long (x <<< (y.toInt64 &&& 63)) :: st) h := Rr_nx d_MLa_law_1338 rfl
theorem r_MLa_law_1339 {l1 l2 l3 : Value} {x : Nat} : Rr X d MLa_law 1339 [.ref x, l1, l2, l3] st h = Rr X d MLa_law 1340 [.ref x, l1, l2, l3] (.ref x :: st) h := Rr_nx d_MLa_law_1339 rfl
theorem r_MLa_law_1339f {l1 l2 l3 : Value} {x : UInt32} : Rr X d MLa_law 1339 [.float x, l1, l2, l3] st h = Rr X d MLa_law 1340 [.float x, l1, l2, l3] (.float x :: st) h := Rr_nx d_MLa_law_1339 rfl
theorem r_MLa_law_1340 {l0 l1 l2 : Value} {x : Int32} : Rr X d MLa_law 1340 [l0, l1, l2, .int x] st h = Rr X d MLa_law 1341 [l0, l1, l2, .int x] (.int x :: st) h := Rr_nx d_MLa_law_1340 rfl
theorem r_MLa_law_1341 : Rr X d MLa_law 1341 L st h = Rr X d MLa_law 1342 L (.int (4) :: st) h := Rr_nx d_MLa_law_1341 rfl
theorem r_MLa_law_1342 {x y : Int32} : Rr X d MLa_law 1342 L (.int y :: .int x :: st) h = Rr X d MLa_law 1343 L (.int (x + y) :: st) h := Rr_nx d_MLa_law_1342 rfl
theorem r_MLa_law_1343 {a : Nat} {j : Int32} (hq : (qA a 0).isSome = true) : Rr X d MLa_law 1343 L (.int j :: .ref a :: st) (Wd mu la ro et) = if j < 0 ∨ qAd a 0 ≤ j.toNatClampNeg then none else Rr X d MLa_law 1344 L (.int (mu a j.toNatClampNeg) :: st) (Wd mu la ro et) := R_ialW d_MLa_law_1343 hq
theorem r_MLa_law_1343f {n : Nat} {f : Nat → Int32} {j : Int32} : Rr (XS n f) d MLa_law 1343 L (.int j :: .float 0 :: st) h = if j < 0 ∨ n ≤ j.toNatClampNeg then none else Rr (XS n f) d MLa_law 1344 L (.int (f j.toNatClampNeg) :: st) h := R_ialS d_MLa_law_1343
theorem r_MLa_law_1344 {x : Int32} : Rr X d MLa_law 1344 L (.int x :: st) h = Rr X d MLa_law 1345 L (.long x.toInt64 :: st) h := Rr_nx d_MLa_law_1344 rfl
theorem r_MLa_law_1345 : Rr X d MLa_law 1345 L st h = Rr X d MLa_law 1348 L (.long (4294967295) :: st) h := Rr_nx d_MLa_law_1345 rfl
theorem r_MLa_law_1348 {x y : Int64} : Rr X d MLa_law 1348 L (.long y :: .long x :: st) h = Rr X d MLa_law 1349 L (.long (x &&& y) :: st) h := Rr_nx d_MLa_law_1348 rfl
theorem r_MLa_law_1349 {x y : Int64} : Rr X d MLa_law 1349 L (.long y :: .long x :: st) h = Rr X d MLa_law 1350 L (.long (x ||| y) :: st) h := Rr_nx d_MLa_law_1349 rfl
theorem fc_11_152 : fC 11 152 = some (0, 9, 3, MTo_put) := rfl
theorem r_MLa_law_1350 {y0 : Int32} {y1 : Int32} {y2 : Int64} {a : Nat} (hO : qO a 9 = true) (hc : ckS st = true) : Rr X (d + 1) MLa_law 1350 L (.long y2 :: .int y1 :: .int y0 :: .ref a :: st) (Wd mu la ro et) = (Rr X d MTo_put 0 [.ref a, .int y0, .int y1, .long y2, mkU, mkU, mkU] [] (Wd mu la ro et)).bind fun q => Rr X (d + 1) MLa_law 1353 L (psh q.1 st) q.2 := R_iv (av := [.long y2, .int y1, .int y0]) d_MLa_law_1350 fc_11_152 hO (ckS_le hc) rfl (Nat.le_of_ble_eq_true rfl) (Nat.le_of_ble_eq_true rfl)
theorem r_MLa_law_1353 {x : Int32} : Rr X d MLa_law 1353 L (.int x :: st) h = Rr X d MLa_law 1354 L st h := Rr_nx d_MLa_law_1353 rfl
theorem r_MLa_law_1354 {l0 l1 l3 : Value} {x : Nat} : Rr X d MLa_law 1354 [l0, l1, .ref x, l3] st h = Rr X d MLa_law 1355 [l0, l1, .ref x, l3] (.ref x :: st) h := Rr_nx d_MLa_law_1354 rfl
theorem r_MLa_law_1354n {l0 l1 l3 : Value} : Rr X d MLa_law 1354 [l0, l1, .null, l3] st h = Rr X d MLa_law 1355 [l0, l1, .null, l3] (.null :: st) h := Rr_nx d_MLa_law_1354 rfl
theorem r_MLa_law_1355 {l1 l2 l3 : Value} {x : Nat} : Rr X d MLa_law 1355 [.ref x, l1, l2, l3] st h = Rr X d MLa_law 1356 [.ref x, l1, l2, l3] (.ref x :: st) h := Rr_nx d_MLa_law_1355 rfl
theorem r_MLa_law_1355f {l1 l2 l3 : Value} {x : UInt32} : Rr X d MLa_law 1355 [.float x, l1, l2, l3] st h = Rr X d MLa_law 1356 [.float x, l1, l2, l3] (.float x :: st) h := Rr_nx d_MLa_law_1355 rfl
theorem r_MLa_law_1356 {l0 l1 l2 : Value} {x : Int32} : Rr X d MLa_law 1356 [l0, l1, l2, .int x] st h = Rr X d MLa_law 1357 [l0, l1, l2, .int x] (.int x :: st) h := Rr_nx d_MLa_law_1356 rfl
theorem r_MLa_law_1357 : Rr X d MLa_law 1357 L st h = Rr X d MLa_law 1358 L (.int (1) :: st) h := Rr_nx d_MLa_law_1357 rfl
theorem r_MLa_law_1358 {x y : Int32} : Rr X d MLa_law 1358 L (.int y :: .int x :: st) h = Rr X d MLa_law 1359 L (.int (x + y) :: st) h := Rr_nx d_MLa_law_1358 rfl
theorem r_MLa_law_1359 {a : Nat} {j : Int32} (hq : (qA a 0).isSome = true) : Rr X d MLa_law 1359 L (.int j :: .ref a :: st) (Wd mu la ro et) = if j < 0 ∨ qAd a 0 ≤ j.toNatClampNeg then none else Rr X d MLa_law 1360 L (.int (mu a j.toNatClampNeg) :: st) (Wd mu la ro et) := R_ialW d_MLa_law_1359 hq
theorem r_MLa_law_1359f {n : Nat} {f : Nat → Int32} {j : Int32} : Rr (XS n f) d MLa_law 1359 L (.int j :: .float 0 :: st) h = if j < 0 ∨ n ≤ j.toNatClampNeg then none else Rr (XS n f) d MLa_law 1360 L (.int (f j.toNatClampNeg) :: st) h := R_ialS d_MLa_law_1359
theorem r_MLa_law_1360 {l1 l2 l3 : Value} {x : Nat} : Rr X d MLa_law 1360 [.ref x, l1, l2, l3] st h = Rr X d MLa_law 1361 [.ref x, l1, l2, l3] (.ref x :: st) h := Rr_nx d_MLa_law_1360 rfl
theorem r_MLa_law_1360f {l1 l2 l3 : Value} {x : UInt32} : Rr X d MLa_law 1360 [.float x, l1, l2, l3] st h = Rr X d MLa_law 1361 [.float x, l1, l2, l3] (.float x :: st) h := Rr_nx d_MLa_law_1360 rfl
theorem r_MLa_law_1361 {l0 l1 l2 : Value} {x : Int32} : Rr X d MLa_law 1361 [l0, l1, l2, .int x] st h = Rr X d MLa_law 1362 [l0, l1, l2, .int x] (.int x :: st) h := Rr_nx d_MLa_law_1361 rfl
theorem r_MLa_law_1362 : Rr X d MLa_law 1362 L st h = Rr X d MLa_law 1363 L (.int (2) :: st) h := Rr_nx d_MLa_law_1362 rfl
theorem r_MLa_law_1363 {x y : Int32} : Rr X d MLa_law 1363 L (.int y :: .int x :: st) h = Rr X d MLa_law 1364 L (.int (x + y) :: st) h := Rr_nx d_MLa_law_1363 rfl
theorem r_MLa_law_1364 {a : Nat} {j : Int32} (hq : (qA a 0).isSome = true) : Rr X d MLa_law 1364 L (.int j :: .ref a :: st) (Wd mu la ro et) = if j < 0 ∨ qAd a 0 ≤ j.toNatClampNeg then none else Rr X d MLa_law 1365 L (.int (mu a j.toNatClampNeg) :: st) (Wd mu la ro et) := R_ialW d_MLa_law_1364 hq
theorem r_MLa_law_1364f {n : Nat} {f : Nat → Int32} {j : Int32} : Rr (XS n f) d MLa_law 1364 L (.int j :: .float 0 :: st) h = if j < 0 ∨ n ≤ j.toNatClampNeg then none else Rr (XS n f) d MLa_law 1365 L (.int (f j.toNatClampNeg) :: st) h := R_ialS d_MLa_law_1364
theorem r_MLa_law_1365 {l1 l2 l3 : Value} {x : Nat} : Rr X d MLa_law 1365 [.ref x, l1, l2, l3] st h = Rr X d MLa_law 1366 [.ref x, l1, l2, l3] (.ref x :: st) h := Rr_nx d_MLa_law_1365 rfl
theorem r_MLa_law_1365f {l1 l2 l3 : Value} {x : UInt32} : Rr X d MLa_law 1365 [.float x, l1, l2, l3] st h = Rr X d MLa_law 1366 [.float x, l1, l2, l3] (.float x :: st) h := Rr_nx d_MLa_law_1365 rfl
theorem r_MLa_law_1366 {l0 l1 l2 : Value} {x : Int32} : Rr X d MLa_law 1366 [l0, l1, l2, .int x] st h = Rr X d MLa_law 1367 [l0, l1, l2, .int x] (.int x :: st) h := Rr_nx d_MLa_law_1366 rfl
theorem r_MLa_law_1367 : Rr X d MLa_law 1367 L st h = Rr X d MLa_law 1368 L (.int (3) :: st) h := Rr_nx d_MLa_law_1367 rfl
theorem r_MLa_law_1368 {x y : Int32} : Rr X d MLa_law 1368 L (.int y :: .int x :: st) h = Rr X d MLa_law 1369 L (.int (x + y) :: st) h := Rr_nx d_MLa_law_1368 rfl
theorem r_MLa_law_1369 {a : Nat} {j : Int32} (hq : (qA a 0).isSome = true) : Rr X d MLa_law 1369 L (.int j :: .ref a :: st) (Wd mu la ro et) = if j < 0 ∨ qAd a 0 ≤ j.toNatClampNeg then none else Rr X d MLa_law 1370 L (.int (mu a j.toNatClampNeg) :: st) (Wd mu la ro et) := R_ialW d_MLa_law_1369 hq
theorem r_MLa_law_1369f {n : Nat} {f : Nat → Int32} {j : Int32} : Rr (XS n f) d MLa_law 1369 L (.int j :: .float 0 :: st) h = if j < 0 ∨ n ≤ j.toNatClampNeg then none else Rr (XS n f) d MLa_law 1370 L (.int (f j.toNatClampNeg) :: st) h := R_ialS d_MLa_law_1369
theorem r_MLa_law_1370 {x : Int32} : Rr X d MLa_law 1370 L (.int x :: st) h = Rr X d MLa_law 1371 L (.long x.toInt64 :: st) h := Rr_nx d_MLa_law_1370 rfl
theorem r_MLa_law_1371 : Rr X d MLa_law 1371 L st h = Rr X d MLa_law 1373 L (.int (32) :: st) h := Rr_nx d_MLa_law_1371 rfl
theorem r_MLa_law_1373 {x : Int64} {y : Int32} : Rr X d MLa_law 1373 L (.int y :: .long x :: st) h = Rr X d MLa_law 1374 L (.long (x <<< (y.toInt64 &&& 63)) :: st) h := Rr_nx d_MLa_law_1373 rfl
theorem r_MLa_law_1374 {l1 l2 l3 : Value} {x : Nat} : Rr X d MLa_law 1374 [.ref x, l1, l2, l3] st h = Rr X d MLa_law 1375 [.ref x, l1, l2, l3] (.ref x :: st) h := Rr_nx d_MLa_law_1374 rfl
theorem r_MLa_law_1374f {l1 l2 l3 : Value} {x : UInt32} : Rr X d MLa_law 1374 [.float x, l1, l2, l3] st h = Rr X d MLa_law 1375 [.float x, l1, l2, l3] (.float x :: st) h := Rr_nx d_MLa_law_1374 rfl
theorem r_MLa_law_1375 {l0 l1 l2 : Value} {x : Int32} : Rr X d MLa_law 1375 [l0, l1, l2, .int x] st h = Rr X d MLa_law 1376 [l0, l1, l2, .int x] (.int x :: st) h := Rr_nx d_MLa_law_1375 rfl
theorem r_MLa_law_1376 : Rr X d MLa_law 1376 L st h = Rr X d MLa_law 1377 L (.int (4) :: st) h := Rr_nx d_MLa_law_1376 rfl
theorem r_MLa_law_1377 {x y : Int32} : Rr X d MLa_law 1377 L (.int y :: .int x :: st) h = Rr X d MLa_law 1378 L (.int (x + y) :: st) h := Rr_nx d_MLa_law_1377 rfl
theorem r_MLa_law_1378 {a : Nat} {j : Int32} (hq : (qA a 0).isSome = true) : Rr X d MLa_law 1378 L (.int j :: .ref a :: st) (Wd mu la ro et) = if j < 0 ∨ qAd a 0 ≤ j.toNatClampNeg then none else Rr X d MLa_law 1379 L (.int (mu a j.toNatClampNeg) :: st) (Wd mu la ro et) := R_ialW d_MLa_law_1378 hq
theorem r_MLa_law_1378f {n : Nat} {f : Nat → Int32} {j : Int32} : Rr (XS n f) d MLa_law 1378 L (.int j :: .float 0 :: st) h = if j < 0 ∨ n ≤ j.toNatClampNeg then none else Rr (XS n f) d MLa_law 1379 L (.int (f j.toNatClampNeg) :: st) h := R_ialS d_MLa_law_1378
theorem r_MLa_law_1379 {x : Int32} : Rr X d MLa_law 1379 L (.int x :: st) h = Rr X d MLa_law 1380 L (.long x.toInt64 :: st) h := Rr_nx d_MLa_law_1379 rfl
theorem r_MLa_law_1380 : Rr X d MLa_law 1380 L st h = Rr X d MLa_law 1383 L (.long (4294967295) :: st) h := Rr_nx d_MLa_law_1380 rfl
theorem r_MLa_law_1383 {x y : Int64} : Rr X d MLa_law 1383 L (.long y :: .long x :: st) h = Rr X d MLa_law 1384 L (.long (x &&& y) :: st) h := Rr_nx d_MLa_law_1383 rfl
theorem r_MLa_law_1384 {x y : Int64} : Rr X d MLa_law 1384 L (.long y :: .long x :: st) h = Rr X d MLa_law 1385 L (.long (x ||| y) :: st) h := Rr_nx d_MLa_law_1384 rfl
theorem fc_11_156 : fC 11 156 = some (0, 10, 3, MRm_put) := rfl
theorem r_MLa_law_1385 {y0 : Int32} {y1 : Int32} {y2 : Int64} {a : Nat} (hO : qO a 10 = true) (hc : ckS st = true) : Rr X (d + 1) MLa_law 1385 L (.long y2 :: .int y1 :: .int y0 :: .ref a :: st) (Wd mu la ro et) = (Rr X d MRm_put 0 [.ref a, .int y0, .int y1, .long y2, mkU, mkU, mkU] [] (Wd mu la ro et)).bind fun q => Rr X (d + 1) MLa_law 1388 L (psh q.1 st) q.2 := R_iv (av := [.long y2, .int y1, .int y0]) d_MLa_law_1385 fc_11_156 hO (ckS_le hc) rfl (Nat.le_of_ble_eq_true rfl) (Nat.le_of_ble_eq_true rfl)
theorem r_MLa_law_1388 {x : Int32} : Rr X d MLa_law 1388 L (.int x :: st) h = Rr X d MLa_law 1389 L st h := Rr_nx d_MLa_law_1388 rfl
theorem r_MLa_law_1389 : Rr X d MLa_law 1389 L st h = Rr X d MLa_law 1544 L st h := R_goto d_MLa_law_1389 (by decide)
theorem r_MLa_law_1392 {l0 l2 l3 : Value} {x : Nat} : Rr X d MLa_law 1392 [l0, .ref x, l2, l3] st h = Rr X d MLa_law 1393 [l0, .ref x, l2, l3] (.ref x :: st) h := Rr_nx d_MLa_law_1392 rfl
theorem r_MLa_law_1392n {l0 l2 l3 : Value} : Rr X d MLa_law 1392 [l0, .null, l2, l3] st h = Rr X d MLa_law 1393 [l0, .null, l2, l3] (.null :: st) h := Rr_nx d_MLa_law_1392 rfl
theorem r_MLa_law_1393 {l1 l2 l3 : Value} {x : Nat} : Rr X d MLa_law 1393 [.ref x, l1, l2, l3] st h = Rr X d MLa_law 1394 [.ref x, l1, l2, l3] (.ref x :: st) h := Rr_nx d_MLa_law_1393 rfl
theorem r_MLa_law_1393f {l1 l2 l3 : Value} {x : UInt32} : Rr X d MLa_law 1393 [.float x, l1, l2, l3] st h = Rr X d MLa_law 1394 [.float x, l1, l2, l3] (.float x :: st) h := Rr_nx d_MLa_law_1393 rfl
theorem r_MLa_law_1394 {l0 l1 l2 : Value} {x : Int32} : Rr X d MLa_law 1394 [l0, l1, l2, .int x] st h = Rr X d MLa_law 1395 [l0, l1, l2, .int x] (.int x :: st) h := Rr_nx d_MLa_law_1394 rfl
theorem r_MLa_law_1395 : Rr X d MLa_law 1395 L st h = Rr X d MLa_law 1396 L (.int (1) :: st) h := Rr_nx d_MLa_law_1395 rfl
theorem r_MLa_law_1396 {x y : Int32} : Rr X d MLa_law 1396 L (.int y :: .int x :: st) h = Rr X d MLa_law 1397 L (.int (x + y) :: st) h := Rr_nx d_MLa_law_1396 rfl
theorem r_MLa_law_1397 {a : Nat} {j : Int32} (hq : (qA a 0).isSome = true) : Rr X d MLa_law 1397 L (.int j :: .ref a :: st) (Wd mu la ro et) = if j < 0 ∨ qAd a 0 ≤ j.toNatClampNeg then none else Rr X d MLa_law 1398 L (.int (mu a j.toNatClampNeg) :: st) (Wd mu la ro et) := R_ialW d_MLa_law_1397 hq
theorem r_MLa_law_1397f {n : Nat} {f : Nat → Int32} {j : Int32} : Rr (XS n f) d MLa_law 1397 L (.int j :: .float 0 :: st) h = if j < 0 ∨ n ≤ j.toNatClampNeg then none else Rr (XS n f) d MLa_law 1398 L (.int (f j.toNatClampNeg) :: st) h := R_ialS d_MLa_law_1397
theorem r_MLa_law_1398 {l1 l2 l3 : Value} {x : Nat} : Rr X d MLa_law 1398 [.ref x, l1, l2, l3] st h = Rr X d MLa_law 1399 [.ref x, l1, l2, l3] (.ref x :: st) h := Rr_nx d_MLa_law_1398 rfl
theorem r_MLa_law_1398f {l1 l2 l3 : Value} {x : UInt32} : Rr X d MLa_law 1398 [.float x, l1, l2, l3] st h = Rr X d MLa_law 1399 [.float x, l1, l2, l3] (.float x :: st) h := Rr_nx d_MLa_law_1398 rfl
theorem r_MLa_law_1399 {l0 l1 l2 : Value} {x : Int32} : Rr X d MLa_law 1399 [l0, l1, l2, .int x] st h = Rr X d MLa_law 1400 [l0, l1, l2, .int x] (.int x :: st) h := Rr_nx d_MLa_law_1399 rfl
theorem r_MLa_law_1400 : Rr X d MLa_law 1400 L st h = Rr X d MLa_law 1401 L (.int (2) :: st) h := Rr_nx d_MLa_law_1400 rfl
theorem r_MLa_law_1401 {x y : Int32} : Rr X d MLa_law 1401 L (.int y :: .int x :: st) h = Rr X d MLa_law 1402 L (.int (x + y) :: st) h := Rr_nx d_MLa_law_1401 rfl
theorem r_MLa_law_1402 {a : Nat} {j : Int32} (hq : (qA a 0).isSome = true) : Rr X d MLa_law 1402 L (.int j :: .ref a :: st) (Wd mu la ro et) = if j < 0 ∨ qAd a 0 ≤ j.toNatClampNeg then none else Rr X d MLa_law 1403 L (.int (mu a j.toNatClampNeg) :: st) (Wd mu la ro et) := R_ialW d_MLa_law_1402 hq
theorem r_MLa_law_1402f {n : Nat} {f : Nat → Int32} {j : Int32} : Rr (XS n f) d MLa_law 1402 L (.int j :: .float 0 :: st) h = if j < 0 ∨ n ≤ j.toNatClampNeg then none else Rr (XS n f) d MLa_law 1403 L (.int (f j.toNatClampNeg) :: st) h := R_ialS d_MLa_law_1402
theorem fc_11_157 : fC 11 157 = some (0, 9, 2, MTo_element) := rfl
theorem r_MLa_law_1403 {y0 : Int32} {y1 : Int32} {a : Nat} (hO : qO a 9 = true) (hc : ckS st = true) : Rr X (d + 1) MLa_law 1403 L (.int y1 :: .int y0 :: .ref a :: st) (Wd mu la ro et) = (Rr X d MTo_element 0 [.ref a, .int y0, .int y1, mkU] [] (Wd mu la ro et)).bind fun q => Rr X (d + 1) MLa_law 1406 L (psh q.1 st) q.2 := R_iv (av := [.int y1, .int y0]) d_MLa_law_1403 fc_11_157 hO (ckS_le hc) rfl (Nat.le_of_ble_eq_true rfl) (Nat.le_of_ble_eq_true rfl)
theorem r_MLa_law_1406 {x : Int64} : Rr X d MLa_law 1406 L (.long x :: st) h = Rr X d MLa_law 1407 L st h := Rr_nx d_MLa_law_1406 rfl
theorem r_MLa_law_1407 {l0 l1 l3 : Value} {x : Nat} : Rr X d MLa_law 1407 [l0, l1, .ref x, l3] st h = Rr X d MLa_law 1408 [l0, l1, .ref x, l3] (.ref x :: st) h := Rr_nx d_MLa_law_1407 rfl
theorem r_MLa_law_1407n {l0 l1 l3 : Value} : Rr X d MLa_law 1407 [l0, l1, .null, l3] st h = Rr X d MLa_law 1408 [l0, l1, .null, l3] (.null :: st) h := Rr_nx d_MLa_law_1407 rfl
theorem r_MLa_law_1408 {l1 l2 l3 : Value} {x : Nat} : Rr X d MLa_law 1408 [.ref x, l1, l2, l3] st h = Rr X d MLa_law 1409 [.ref x, l1, l2, l3] (.ref x :: st) h := Rr_nx d_MLa_law_1408 rfl
theorem r_MLa_law_1408f {l1 l2 l3 : Value} {x : UInt32} : Rr X d MLa_law 1408 [.float x, l1, l2, l3] st h = Rr X d MLa_law 1409 [.float x, l1, l2, l3] (.float x :: st) h := Rr_nx d_MLa_law_1408 rfl
theorem r_MLa_law_1409 {l0 l1 l2 : Value} {x : Int32} : Rr X d MLa_law 1409 [l0, l1, l2, .int x] st h = Rr X d MLa_law 1410 [l0, l1, l2, .int x] (.int x :: st) h := Rr_nx d_MLa_law_1409 rfl
theorem r_MLa_law_1410 : Rr X d MLa_law 1410 L st h = Rr X d MLa_law 1411 L (.int (1) :: st) h := Rr_nx d_MLa_law_1410 rfl
theorem r_MLa_law_1411 {x y : Int32} : Rr X d MLa_law 1411 L (.int y :: .int x :: st) h = Rr X d MLa_law 1412 L (.int (x + y) :: st) h := Rr_nx d_MLa_law_1411 rfl
theorem r_MLa_law_1412 {a : Nat} {j : Int32} (hq : (qA a 0).isSome = true) : Rr X d MLa_law 1412 L (.int j :: .ref a :: st) (Wd mu la ro et) = if j < 0 ∨ qAd a 0 ≤ j.toNatClampNeg then none else Rr X d MLa_law 1413 L (.int (mu a j.toNatClampNeg) :: st) (Wd mu la ro et) := R_ialW d_MLa_law_1412 hq
theorem r_MLa_law_1412f {n : Nat} {f : Nat → Int32} {j : Int32} : Rr (XS n f) d MLa_law 1412 L (.int j :: .float 0 :: st) h = if j < 0 ∨ n ≤ j.toNatClampNeg then none else Rr (XS n f) d MLa_law 1413 L (.int (f j.toNatClampNeg) :: st) h := R_ialS d_MLa_law_1412
theorem r_MLa_law_1413 {l1 l2 l3 : Value} {x : Nat} : Rr X d MLa_law 1413 [.ref x, l1, l2, l3] st h = Rr X d MLa_law 1414 [.ref x, l1, l2, l3] (.ref x :: st) h := Rr_nx d_MLa_law_1413 rfl
theorem r_MLa_law_1413f {l1 l2 l3 : Value} {x : UInt32} : Rr X d MLa_law 1413 [.float x, l1, l2, l3] st h = Rr X d MLa_law 1414 [.float x, l1, l2, l3] (.float x :: st) h := Rr_nx d_MLa_law_1413 rfl
theorem r_MLa_law_1414 {l0 l1 l2 : Value} {x : Int32} : Rr X d MLa_law 1414 [l0, l1, l2, .int x] st h = Rr X d MLa_law 1415 [l0, l1, l2, .int x] (.int x :: st) h := Rr_nx d_MLa_law_1414 rfl
theorem r_MLa_law_1415 : Rr X d MLa_law 1415 L st h = Rr X d MLa_law 1416 L (.int (2) :: st) h := Rr_nx d_MLa_law_1415 rfl
theorem r_MLa_law_1416 {x y : Int32} : Rr X d MLa_law 1416 L (.int y :: .int x :: st) h = Rr X d MLa_law 1417 L (.int (x + y) :: st) h := Rr_nx d_MLa_law_1416 rfl
theorem r_MLa_law_1417 {a : Nat} {j : Int32} (hq : (qA a 0).isSome = true) : Rr X d MLa_law 1417 L (.int j :: .ref a :: st) (Wd mu la ro et) = if j < 0 ∨ qAd a 0 ≤ j.toNatClampNeg then none else Rr X d MLa_law 1418 L (.int (mu a j.toNatClampNeg) :: st) (Wd mu la ro et) := R_ialW d_MLa_law_1417 hq
theorem r_MLa_law_1417f {n : Nat} {f : Nat → Int32} {j : Int32} : Rr (XS n f) d MLa_law 1417 L (.int j :: .float 0 :: st) h = if j < 0 ∨ n ≤ j.toNatClampNeg then none else Rr (XS n f) d MLa_law 1418 L (.int (f j.toNatClampNeg) :: st) h := R_ialS d_MLa_law_1417
theorem fc_11_161 : fC 11 161 = some (0, 10, 2, MRm_element) := rfl
theorem r_MLa_law_1418 {y0 : Int32} {y1 : Int32} {a : Nat} (hO : qO a 10 = true) (hc : ckS st = true) : Rr X (d + 1) MLa_law 1418 L (.int y1 :: .int y0 :: .ref a :: st) (Wd mu la ro et) = (Rr X d MRm_element 0 [.ref a, .int y0, .int y1] [] (Wd mu la ro et)).bind fun q => Rr X (d + 1) MLa_law 1421 L (psh q.1 st) q.2 := R_iv (av := [.int y1, .int y0]) d_MLa_law_1418 fc_11_161 hO (ckS_le hc) rfl (Nat.le_of_ble_eq_true rfl) (Nat.le_of_ble_eq_true rfl)
theorem r_MLa_law_1421 {x : Int64} : Rr X d MLa_law 1421 L (.long x :: st) h = Rr X d MLa_law 1422 L st h := Rr_nx d_MLa_law_1421 rfl
theorem r_MLa_law_1422 : Rr X d MLa_law 1422 L st h = Rr X d MLa_law 1544 L st h := R_goto d_MLa_law_1422 (by decide)
theorem r_MLa_law_1425 {l0 l2 l3 : Value} {x : Nat} : Rr X d MLa_law 1425 [l0, .ref x, l2, l3] st h = Rr X d MLa_law 1426 [l0, .ref x, l2, l3] (.ref x :: st) h := Rr_nx d_MLa_law_1425 rfl
theorem r_MLa_law_1425n {l0 l2 l3 : Value} : Rr X d MLa_law 1425 [l0, .null, l2, l3] st h = Rr X d MLa_law 1426 [l0, .null, l2, l3] (.null :: st) h := Rr_nx d_MLa_law_1425 rfl
theorem r_MLa_law_1426 {l1 l2 l3 : Value} {x : Nat} : Rr X d MLa_law 1426 [.ref x, l1, l2, l3] st h = Rr X d MLa_law 1427 [.ref x, l1, l2, l3] (.ref x :: st) h := Rr_nx d_MLa_law_1426 rfl
theorem r_MLa_law_1426f {l1 l2 l3 : Value} {x : UInt32} : Rr X d MLa_law 1426 [.float x, l1, l2, l3] st h = Rr X d MLa_law 1427 [.float x, l1, l2, l3] (.float x :: st) h := Rr_nx d_MLa_law_1426 rfl
theorem r_MLa_law_1427 {l0 l1 l2 : Value} {x : Int32} : Rr X d MLa_law 1427 [l0, l1, l2, .int x] st h = Rr X d MLa_law 1428 [l0, l1, l2, .int x] (.int x :: st) h := Rr_nx d_MLa_law_1427 rfl
theorem r_MLa_law_1428 : Rr X d MLa_law 1428 L st h = Rr X d MLa_law 1429 L (.int (1) :: st) h := Rr_nx d_MLa_law_1428 rfl
theorem r_MLa_law_1429 {x y : Int32} : Rr X d MLa_law 1429 L (.int y :: .int x :: st) h = Rr X d MLa_law 1430 L (.int (x + y) :: st) h := Rr_nx d_MLa_law_1429 rfl
theorem r_MLa_law_1430 {a : Nat} {j : Int32} (hq : (qA a 0).isSome = true) : Rr X d MLa_law 1430 L (.int j :: .ref a :: st) (Wd mu la ro et) = if j < 0 ∨ qAd a 0 ≤ j.toNatClampNeg then none else Rr X d MLa_law 1431 L (.int (mu a j.toNatClampNeg) :: st) (Wd mu la ro et) := R_ialW d_MLa_law_1430 hq
theorem r_MLa_law_1430f {n : Nat} {f : Nat → Int32} {j : Int32} : Rr (XS n f) d MLa_law 1430 L (.int j :: .float 0 :: st) h = if j < 0 ∨ n ≤ j.toNatClampNeg then none else Rr (XS n f) d MLa_law 1431 L (.int (f j.toNatClampNeg) :: st) h := R_ialS d_MLa_law_1430
theorem r_MLa_law_1431 {l1 l2 l3 : Value} {x : Nat} : Rr X d MLa_law 1431 [.ref x, l1, l2, l3] st h = Rr X d MLa_law 1432 [.ref x, l1, l2, l3] (.ref x :: st) h := Rr_nx d_MLa_law_1431 rfl
theorem r_MLa_law_1431f {l1 l2 l3 : Value} {x : UInt32} : Rr X d MLa_law 1431 [.float x, l1, l2, l3] st h = Rr X d MLa_law 1432 [.float x, l1, l2, l3] (.float x :: st) h := Rr_nx d_MLa_law_1431 rfl
theorem r_MLa_law_1432 {l0 l1 l2 : Value} {x : Int32} : Rr X d MLa_law 1432 [l0, l1, l2, .int x] st h = Rr X d MLa_law 1433 [l0, l1, l2, .int x] (.int x :: st) h := Rr_nx d_MLa_law_1432 rfl
theorem r_MLa_law_1433 : Rr X d MLa_law 1433 L st h = Rr X d MLa_law 1434 L (.int (2) :: st) h := Rr_nx d_MLa_law_1433 rfl
theorem r_MLa_law_1434 {x y : Int32} : Rr X d MLa_law 1434 L (.int y :: .int x :: st) h = Rr X d MLa_law 1435 L (.int (x + y) :: st) h := Rr_nx d_MLa_law_1434 rfl
theorem r_MLa_law_1435 {a : Nat} {j : Int32} (hq : (qA a 0).isSome = true) : Rr X d MLa_law 1435 L (.int j :: .ref a :: st) (Wd mu la ro et) = if j < 0 ∨ qAd a 0 ≤ j.toNatClampNeg then none else Rr X d MLa_law 1436 L (.int (mu a j.toNatClampNeg) :: st) (Wd mu la ro et) := R_ialW d_MLa_law_1435 hq
theorem r_MLa_law_1435f {n : Nat} {f : Nat → Int32} {j : Int32} : Rr (XS n f) d MLa_law 1435 L (.int j :: .float 0 :: st) h = if j < 0 ∨ n ≤ j.toNatClampNeg then none else Rr (XS n f) d MLa_law 1436 L (.int (f j.toNatClampNeg) :: st) h := R_ialS d_MLa_law_1435
theorem r_MLa_law_1436 {l1 l2 l3 : Value} {x : Nat} : Rr X d MLa_law 1436 [.ref x, l1, l2, l3] st h = Rr X d MLa_law 1437 [.ref x, l1, l2, l3] (.ref x :: st) h := Rr_nx d_MLa_law_1436 rfl
theorem r_MLa_law_1436f {l1 l2 l3 : Value} {x : UInt32} : Rr X d MLa_law 1436 [.float x, l1, l2, l3] st h = Rr X d MLa_law 1437 [.float x, l1, l2, l3] (.float x :: st) h := Rr_nx d_MLa_law_1436 rfl
theorem r_MLa_law_1437 {l0 l1 l2 : Value} {x : Int32} : Rr X d MLa_law 1437 [l0, l1, l2, .int x] st h = Rr X d MLa_law 1438 [l0, l1, l2, .int x] (.int x :: st) h := Rr_nx d_MLa_law_1437 rfl
theorem r_MLa_law_1438 : Rr X d MLa_law 1438 L st h = Rr X d MLa_law 1439 L (.int (3) :: st) h := Rr_nx d_MLa_law_1438 rfl
theorem r_MLa_law_1439 {x y : Int32} : Rr X d MLa_law 1439 L (.int y :: .int x :: st) h = Rr X d MLa_law 1440 L (.int (x + y) :: st) h := Rr_nx d_MLa_law_1439 rfl
theorem r_MLa_law_1440 {a : Nat} {j : Int32} (hq : (qA a 0).isSome = true) : Rr X d MLa_law 1440 L (.int j :: .ref a :: st) (Wd mu la ro et) = if j < 0 ∨ qAd a 0 ≤ j.toNatClampNeg then none else Rr X d MLa_law 1441 L (.int (mu a j.toNatClampNeg) :: st) (Wd mu la ro et) := R_ialW d_MLa_law_1440 hq
theorem r_MLa_law_1440f {n : Nat} {f : Nat → Int32} {j : Int32} : Rr (XS n f) d MLa_law 1440 L (.int j :: .float 0 :: st) h = if j < 0 ∨ n ≤ j.toNatClampNeg then none else Rr (XS n f) d MLa_law 1441 L (.int (f j.toNatClampNeg) :: st) h := R_ialS d_MLa_law_1440
theorem r_MLa_law_1441 {l1 l2 l3 : Value} {x : Nat} : Rr X d MLa_law 1441 [.ref x, l1, l2, l3] st h = Rr X d MLa_law 1442 [.ref x, l1, l2, l3] (.ref x :: st) h := Rr_nx d_MLa_law_1441 rfl
theorem r_MLa_law_1441f {l1 l2 l3 : Value} {x : UInt32} : Rr X d MLa_law 1441 [.float x, l1, l2, l3] st h = Rr X d MLa_law 1442 [.float x, l1, l2, l3] (.float x :: st) h := Rr_nx d_MLa_law_1441 rfl
theorem r_MLa_law_1442 {l0 l1 l2 : Value} {x : Int32} : Rr X d MLa_law 1442 [l0, l1, l2, .int x] st h = Rr X d MLa_law 1443 [l0, l1, l2, .int x] (.int x :: st) h := Rr_nx d_MLa_law_1442 rfl
theorem r_MLa_law_1443 : Rr X d MLa_law 1443 L st h = Rr X d MLa_law 1444 L (.int (4) :: st) h := Rr_nx d_MLa_law_1443 rfl
theorem r_MLa_law_1444 {x y : Int32} : Rr X d MLa_law 1444 L (.int y :: .int x :: st) h = Rr X d MLa_law 1445 L (.int (x + y) :: st) h := Rr_nx d_MLa_law_1444 rfl
theorem r_MLa_law_1445 {a : Nat} {j : Int32} (hq : (qA a 0).isSome = true) : Rr X d MLa_law 1445 L (.int j :: .ref a :: st) (Wd mu la ro et) = if j < 0 ∨ qAd a 0 ≤ j.toNatClampNeg then none else Rr X d MLa_law 1446 L (.int (mu a j.toNatClampNeg) :: st) (Wd mu la ro et) := R_ialW d_MLa_law_1445 hq
theorem r_MLa_law_1445f {n : Nat} {f : Nat → Int32} {j : Int32} : Rr (XS n f) d MLa_law 1445 L (.int j :: .float 0 :: st) h = if j < 0 ∨ n ≤ j.toNatClampNeg then none else Rr (XS n f) d MLa_law 1446 L (.int (f j.toNatClampNeg) :: st) h := R_ialS d_MLa_law_1445
theorem r_MLa_law_1446 {l1 l2 l3 : Value} {x : Nat} : Rr X d MLa_law 1446 [.ref x, l1, l2, l3] st h = Rr X d MLa_law 1447 [.ref x, l1, l2, l3] (.ref x :: st) h := Rr_nx d_MLa_law_1446 rfl
theorem r_MLa_law_1446f {l1 l2 l3 : Value} {x : UInt32} : Rr X d MLa_law 1446 [.float x, l1, l2, l3] st h = Rr X d MLa_law 1447 [.float x, l1, l2, l3] (.float x :: st) h := Rr_nx d_MLa_law_1446 rfl
theorem r_MLa_law_1447 {l0 l1 l2 : Value} {x : Int32} : Rr X d MLa_law 1447 [l0, l1, l2, .int x] st h = Rr X d MLa_law 1448 [l0, l1, l2, .int x] (.int x :: st) h := Rr_nx d_MLa_law_1447 rfl
theorem r_MLa_law_1448 : Rr X d MLa_law 1448 L st h = Rr X d MLa_law 1449 L (.int (5) :: st) h := Rr_nx d_MLa_law_1448 rfl
theorem r_MLa_law_1449 {x y : Int32} : Rr X d MLa_law 1449 L (.int y :: .int x :: st) h = Rr X d MLa_law 1450 L (.int (x + y) :: st) h := Rr_nx d_MLa_law_1449 rfl
theorem r_MLa_law_1450 {a : Nat} {j : Int32} (hq : (qA a 0).isSome = true) : Rr X d MLa_law 1450 L (.int j :: .ref a :: st) (Wd mu la ro et) = if j < 0 ∨ qAd a 0 ≤ j.toNatClampNeg then none else Rr X d MLa_law 1451 L (.int (mu a j.toNatClampNeg) :: st) (Wd mu la ro et) := R_ialW d_MLa_law_1450 hq
theorem r_MLa_law_1450f {n : Nat} {f : Nat → Int32} {j : Int32} : Rr (XS n f) d MLa_law 1450 L (.int j :: .float 0 :: st) h = if j < 0 ∨ n ≤ j.toNatClampNeg then none else Rr (XS n f) d MLa_law 1451 L (.int (f j.toNatClampNeg) :: st) h := R_ialS d_MLa_law_1450
theorem fc_11_162 : fC 11 162 = some (0, 9, 5, MTo_shift) := rfl
theorem r_MLa_law_1451 {y0 : Int32} {y1 : Int32} {y2 : Int32} {y3 : Int32} {y4 : Int32} {a : Nat} (hO : qO a 9 = true) (hc : ckS st = true) : Rr X (d + 1) MLa_law 1451 L (.int y4 :: .int y3 :: .int y2 :: .int y1 :: .int y0 :: .ref a :: st) (Wd mu la ro et) = (Rr X d MTo_shift 0 [.ref a, .int y0, .int y1, .int y2, .int y3, .int y4, mkU, mkU] [] (Wd mu la ro et)).bind fun q => Rr X (d + 1) MLa_law 1454 L (psh q.1 st) q.2 := R_iv (av := [.int y4, .int y3, .int y2, .int y1, .int y0]) d_MLa_law_1451 fc_11_162 hO (ckS_le hc) rfl (Nat.le_of_ble_eq_true rfl) (Nat.le_of_ble_eq_true rfl)
theorem r_MLa_law_1454 {x : Int32} : Rr X d MLa_law 1454 L (.int x :: st) h = Rr X d MLa_law 1455 L st h := Rr_nx d_MLa_law_1454 rfl
theorem r_MLa_law_1455 {l0 l1 l3 : Value} {x : Nat} : Rr X d MLa_law 1455 [l0, l1, .ref x, l3] st h = Rr X d MLa_law 1456 [l0, l1, .ref x, l3] (.ref x :: st) h := Rr_nx d_MLa_law_1455 rfl
theorem r_MLa_law_1455n {l0 l1 l3 : Value} : Rr X d MLa_law 1455 [l0, l1, .null, l3] st h = Rr X d MLa_law 1456 [l0, l1, .null, l3] (.null :: st) h := Rr_nx d_MLa_law_1455 rfl
theorem r_MLa_law_1456 {l1 l2 l3 : Value} {x : Nat} : Rr X d MLa_law 1456 [.ref x, l1, l2, l3] st h = Rr X d MLa_law 1457 [.ref x, l1, l2, l3] (.ref x :: st) h := Rr_nx d_MLa_law_1456 rfl
theorem r_MLa_law_1456f {l1 l2 l3 : Value} {x : UInt32} : Rr X d MLa_law 1456 [.float x, l1, l2, l3] st h = Rr X d MLa_law 1457 [.float x, l1, l2, l3] (.float x :: st) h := Rr_nx d_MLa_law_1456 rfl
theorem r_MLa_law_1457 {l0 l1 l2 : Value} {x : Int32} : Rr X d MLa_law 1457 [l0, l1, l2, .int x] st h = Rr X d MLa_law 1458 [l0, l1, l2, .int x] (.int x :: st) h := Rr_nx d_MLa_law_1457 rfl
theorem r_MLa_law_1458 : Rr X d MLa_law 1458 L st h = Rr X d MLa_law 1459 L (.int (1) :: st) h := Rr_nx d_MLa_law_1458 rfl
theorem r_MLa_law_1459 {x y : Int32} : Rr X d MLa_law 1459 L (.int y :: .int x :: st) h = Rr X d MLa_law 1460 L (.int (x + y) :: st) h := Rr_nx d_MLa_law_1459 rfl
theorem r_MLa_law_1460 {a : Nat} {j : Int32} (hq : (qA a 0).isSome = true) : Rr X d MLa_law 1460 L (.int j :: .ref a :: st) (Wd mu la ro et) = if j < 0 ∨ qAd a 0 ≤ j.toNatClampNeg then none else Rr X d MLa_law 1461 L (.int (mu a j.toNatClampNeg) :: st) (Wd mu la ro et) := R_ialW d_MLa_law_1460 hq
theorem r_MLa_law_1460f {n : Nat} {f : Nat → Int32} {j : Int32} : Rr (XS n f) d MLa_law 1460 L (.int j :: .float 0 :: st) h = if j < 0 ∨ n ≤ j.toNatClampNeg then none else Rr (XS n f) d MLa_law 1461 L (.int (f j.toNatClampNeg) :: st) h := R_ialS d_MLa_law_1460
theorem r_MLa_law_1461 {l1 l2 l3 : Value} {x : Nat} : Rr X d MLa_law 1461 [.ref x, l1, l2, l3] st h = Rr X d MLa_law 1462 [.ref x, l1, l2, l3] (.ref x :: st) h := Rr_nx d_MLa_law_1461 rfl
theorem r_MLa_law_1461f {l1 l2 l3 : Value} {x : UInt32} : Rr X d MLa_law 1461 [.float x, l1, l2, l3] st h = Rr X d MLa_law 1462 [.float x, l1, l2, l3] (.float x :: st) h := Rr_nx d_MLa_law_1461 rfl
theorem r_MLa_law_1462 {l0 l1 l2 : Value} {x : Int32} : Rr X d MLa_law 1462 [l0, l1, l2, .int x] st h = Rr X d MLa_law 1463 [l0, l1, l2, .int x] (.int x :: st) h := Rr_nx d_MLa_law_1462 rfl
theorem r_MLa_law_1463 : Rr X d MLa_law 1463 L st h = Rr X d MLa_law 1464 L (.int (2) :: st) h := Rr_nx d_MLa_law_1463 rfl
theorem r_MLa_law_1464 {x y : Int32} : Rr X d MLa_law 1464 L (.int y :: .int x :: st) h = Rr X d MLa_law 1465 L (.int (x + y) :: st) h := Rr_nx d_MLa_law_1464 rfl
theorem r_MLa_law_1465 {a : Nat} {j : Int32} (hq : (qA a 0).isSome = true) : Rr X d MLa_law 1465 L (.int j :: .ref a :: st) (Wd mu la ro et) = if j < 0 ∨ qAd a 0 ≤ j.toNatClampNeg then none else Rr X d MLa_law 1466 L (.int (mu a j.toNatClampNeg) :: st) (Wd mu la ro et) := R_ialW d_MLa_law_1465 hq
theorem r_MLa_law_1465f {n : Nat} {f : Nat → Int32} {j : Int32} : Rr (XS n f) d MLa_law 1465 L (.int j :: .float 0 :: st) h = if j < 0 ∨ n ≤ j.toNatClampNeg then none else Rr (XS n f) d MLa_law 1466 L (.int (f j.toNatClampNeg) :: st) h := R_ialS d_MLa_law_1465
theorem r_MLa_law_1466 {l1 l2 l3 : Value} {x : Nat} : Rr X d MLa_law 1466 [.ref x, l1, l2, l3] st h = Rr X d MLa_law 1467 [.ref x, l1, l2, l3] (.ref x :: st) h := Rr_nx d_MLa_law_1466 rfl
theorem r_MLa_law_1466f {l1 l2 l3 : Value} {x : UInt32} : Rr X d MLa_law 1466 [.float x, l1, l2, l3] st h = Rr X d MLa_law 1467 [.float x, l1, l2, l3] (.float x :: st) h := Rr_nx d_MLa_law_1466 rfl
theorem r_MLa_law_1467 {l0 l1 l2 : Value} {x : Int32} : Rr X d MLa_law 1467 [l0, l1, l2, .int x] st h = Rr X d MLa_law 1468 [l0, l1, l2, .int x] (.int x :: st) h := Rr_nx d_MLa_law_1467 rfl
theorem r_MLa_law_1468 : Rr X d MLa_law 1468 L st h = Rr X d MLa_law 1469 L (.int (3) :: st) h := Rr_nx d_MLa_law_1468 rfl
theorem r_MLa_law_1469 {x y : Int32} : Rr X d MLa_law 1469 L (.int y :: .int x :: st) h = Rr X d MLa_law 1470 L (.int (x + y) :: st) h := Rr_nx d_MLa_law_1469 rfl
theorem r_MLa_law_1470 {a : Nat} {j : Int32} (hq : (qA a 0).isSome = true) : Rr X d MLa_law 1470 L (.int j :: .ref a :: st) (Wd mu la ro et) = if j < 0 ∨ qAd a 0 ≤ j.toNatClampNeg then none else Rr X d MLa_law 1471 L (.int (mu a j.toNatClampNeg) :: st) (Wd mu la ro et) := R_ialW d_MLa_law_1470 hq
theorem r_MLa_law_1470f {n : Nat} {f : Nat → Int32} {j : Int32} : Rr (XS n f) d MLa_law 1470 L (.int j :: .float 0 :: st) h = if j < 0 ∨ n ≤ j.toNatClampNeg then none else Rr (XS n f) d MLa_law 1471 L (.int (f j.toNatClampNeg) :: st) h := R_ialS d_MLa_law_1470
theorem r_MLa_law_1471 {l1 l2 l3 : Value} {x : Nat} : Rr X d MLa_law 1471 [.ref x, l1, l2, l3] st h = Rr X d MLa_law 1472 [.ref x, l1, l2, l3] (.ref x :: st) h := Rr_nx d_MLa_law_1471 rfl
theorem r_MLa_law_1471f {l1 l2 l3 : Value} {x : UInt32} : Rr X d MLa_law 1471 [.float x, l1, l2, l3] st h = Rr X d MLa_law 1472 [.float x, l1, l2, l3] (.float x :: st) h := Rr_nx d_MLa_law_1471 rfl
theorem r_MLa_law_1472 {l0 l1 l2 : Value} {x : Int32} : Rr X d MLa_law 1472 [l0, l1, l2, .int x] st h = Rr X d MLa_law 1473 [l0, l1, l2, .int x] (.int x :: st) h := Rr_nx d_MLa_law_1472 rfl
theorem r_MLa_law_1473 : Rr X d MLa_law 1473 L st h = Rr X d MLa_law 1474 L (.int (4) :: st) h := Rr_nx d_MLa_law_1473 rfl
theorem r_MLa_law_1474 {x y : Int32} : Rr X d MLa_law 1474 L (.int y :: .int x :: st) h = Rr X d MLa_law 1475 L (.int (x + y) :: st) h := Rr_nx d_MLa_law_1474 rfl
theorem r_MLa_law_1475 {a : Nat} {j : Int32} (hq : (qA a 0).isSome = true) : Rr X d MLa_law 1475 L (.int j :: .ref a :: st) (Wd mu la ro et) = if j < 0 ∨ qAd a 0 ≤ j.toNatClampNeg then none else Rr X d MLa_law 1476 L (.int (mu a j.toNatClampNeg) :: st) (Wd mu la ro et) := R_ialW d_MLa_law_1475 hq
theorem r_MLa_law_1475f {n : Nat} {f : Nat → Int32} {j : Int32} : Rr (XS n f) d MLa_law 1475 L (.int j :: .float 0 :: st) h = if j < 0 ∨ n ≤ j.toNatClampNeg then none else Rr (XS n f) d MLa_law 1476 L (.int (f j.toNatClampNeg) :: st) h := R_ialS d_MLa_law_1475
theorem r_MLa_law_1476 {l1 l2 l3 : Value} {x : Nat} : Rr X d MLa_law 1476 [.ref x, l1, l2, l3] st h = Rr X d MLa_law 1477 [.ref x, l1, l2, l3] (.ref x :: st) h := Rr_nx d_MLa_law_1476 rfl
theorem r_MLa_law_1476f {l1 l2 l3 : Value} {x : UInt32} : Rr X d MLa_law 1476 [.float x, l1, l2, l3] st h = Rr X d MLa_law 1477 [.float x, l1, l2, l3] (.float x :: st) h := Rr_nx d_MLa_law_1476 rfl
theorem r_MLa_law_1477 {l0 l1 l2 : Value} {x : Int32} : Rr X d MLa_law 1477 [l0, l1, l2, .int x] st h = Rr X d MLa_law 1478 [l0, l1, l2, .int x] (.int x :: st) h := Rr_nx d_MLa_law_1477 rfl
theorem r_MLa_law_1478 : Rr X d MLa_law 1478 L st h = Rr X d MLa_law 1479 L (.int (5) :: st) h := Rr_nx d_MLa_law_1478 rfl
theorem r_MLa_law_1479 {x y : Int32} : Rr X d MLa_law 1479 L (.int y :: .int x :: st) h = Rr X d MLa_law 1480 L (.int (x + y) :: st) h := Rr_nx d_MLa_law_1479 rfl
theorem r_MLa_law_1480 {a : Nat} {j : Int32} (hq : (qA a 0).isSome = true) : Rr X d MLa_law 1480 L (.int j :: .ref a :: st) (Wd mu la ro et) = if j < 0 ∨ qAd a 0 ≤ j.toNatClampNeg then none else Rr X d MLa_law 1481 L (.int (mu a j.toNatClampNeg) :: st) (Wd mu la ro et) := R_ialW d_MLa_law_1480 hq
theorem r_MLa_law_1480f {n : Nat} {f : Nat → Int32} {j : Int32} : Rr (XS n f) d MLa_law 1480 L (.int j :: .float 0 :: st) h = if j < 0 ∨ n ≤ j.toNatClampNeg then none else Rr (XS n f) d MLa_law 1481 L (.int (f j.toNatClampNeg) :: st) h := R_ialS d_MLa_law_1480
theorem fc_11_166 : fC 11 166 = some (0, 10, 5, MRm_shift) := rfl
theorem r_MLa_law_1481 {y0 : Int32} {y1 : Int32} {y2 : Int32} {y3 : Int32} {y4 : Int32} {a : Nat} (hO : qO a 10 = true) (hc : ckS st = true) : Rr X (d + 1) MLa_law 1481 L (.int y4 :: .int y3 :: .int y2 :: .int y1 :: .int y0 :: .ref a :: st) (Wd mu la ro et) = (Rr X d MRm_shift 0 [.ref a, .int y0, .int y1, .int y2, .int y3, .int y4, mkU] [] (Wd mu la ro et)).bind fun q => Rr X (d + 1) MLa_law 1484 L (psh q.1 st) q.2 := R_iv (av := [.int y4, .int y3, .int y2, .int y1, .int y0]) d_MLa_law_1481 fc_11_166 hO (ckS_le hc) rfl (Nat.le_of_ble_eq_true rfl) (Nat.le_of_ble_eq_true rfl)
theorem r_MLa_law_1484 {x : Int32} : Rr X d MLa_law 1484 L (.int x :: st) h = Rr X d MLa_law 1485 L st h := Rr_nx d_MLa_law_1484 rfl
theorem r_MLa_law_1485 : Rr X d MLa_law 1485 L st h = Rr X d MLa_law 1544 L st h := R_goto d_MLa_law_1485 (by decide)
theorem r_MLa_law_1488 {l0 l2 l3 : Value} {x : Nat} : Rr X d MLa_law 1488 [l0, .ref x, l2, l3] st h = Rr X d MLa_law 1489 [l0, .ref x, l2, l3] (.ref x :: st) h := Rr_nx d_MLa_law_1488 rfl
theorem r_MLa_law_1488n {l0 l2 l3 : Value} : Rr X d MLa_law 1488 [l0, .null, l2, l3] st h = Rr X d MLa_law 1489 [l0, .null, l2, l3] (.null :: st) h := Rr_nx d_MLa_law_1488 rfl
theorem r_MLa_law_1489 {l1 l2 l3 : Value} {x : Nat} : Rr X d MLa_law 1489 [.ref x, l1, l2, l3] st h = Rr X d MLa_law 1490 [.ref x, l1, l2, l3] (.ref x :: st) h := Rr_nx d_MLa_law_1489 rfl
theorem r_MLa_law_1489f {l1 l2 l3 : Value} {x : UInt32} : Rr X d MLa_law 1489 [.float x, l1, l2, l3] st h = Rr X d MLa_law 1490 [.float x, l1, l2, l3] (.float x :: st) h := Rr_nx d_MLa_law_1489 rfl
theorem r_MLa_law_1490 {l0 l1 l2 : Value} {x : Int32} : Rr X d MLa_law 1490 [l0, l1, l2, .int x] st h = Rr X d MLa_law 1491 [l0, l1, l2, .int x] (.int x :: st) h := Rr_nx d_MLa_law_1490 rfl
theorem r_MLa_law_1491 : Rr X d MLa_law 1491 L st h = Rr X d MLa_law 1492 L (.int (1) :: st) h := Rr_nx d_MLa_law_1491 rfl
theorem r_MLa_law_1492 {x y : Int32} : Rr X d MLa_law 1492 L (.int y :: .int x :: st) h = Rr X d MLa_law 1493 L (.int (x + y) :: st) h := Rr_nx d_MLa_law_1492 rfl
theorem r_MLa_law_1493 {a : Nat} {j : Int32} (hq : (qA a 0).isSome = true) : Rr X d MLa_law 1493 L (.int j :: .ref a :: st) (Wd mu la ro et) = if j < 0 ∨ qAd a 0 ≤ j.toNatClampNeg then none else Rr X d MLa_law 1494 L (.int (mu a j.toNatClampNeg) :: st) (Wd mu la ro et) := R_ialW d_MLa_law_1493 hq
theorem r_MLa_law_1493f {n : Nat} {f : Nat → Int32} {j : Int32} : Rr (XS n f) d MLa_law 1493 L (.int j :: .float 0 :: st) h = if j < 0 ∨ n ≤ j.toNatClampNeg then none else Rr (XS n f) d MLa_law 1494 L (.int (f j.toNatClampNeg) :: st) h := R_ialS d_MLa_law_1493
theorem r_MLa_law_1494 {l1 l2 l3 : Value} {x : Nat} : Rr X d MLa_law 1494 [.ref x, l1, l2, l3] st h = Rr X d MLa_law 1495 [.ref x, l1, l2, l3] (.ref x :: st) h := Rr_nx d_MLa_law_1494 rfl
theorem r_MLa_law_1494f {l1 l2 l3 : Value} {x : UInt32} : Rr X d MLa_law 1494 [.float x, l1, l2, l3] st h = Rr X d MLa_law 1495 [.float x, l1, l2, l3] (.float x :: st) h := Rr_nx d_MLa_law_1494 rfl
theorem r_MLa_law_1495 {l0 l1 l2 : Value} {x : Int32} : Rr X d MLa_law 1495 [l0, l1, l2, .int x] st h = Rr X d MLa_law 1496 [l0, l1, l2, .int x] (.int x :: st) h := Rr_nx d_MLa_law_1495 rfl
theorem r_MLa_law_1496 : Rr X d MLa_law 1496 L st h = Rr X d MLa_law 1497 L (.int (2) :: st) h := Rr_nx d_MLa_law_1496 rfl
theorem r_MLa_law_1497 {x y : Int32} : Rr X d MLa_law 1497 L (.int y :: .int x :: st) h = Rr X d MLa_law 1498 L (.int (x + y) :: st) h := Rr_nx d_MLa_law_1497 rfl
theorem r_MLa_law_1498 {a : Nat} {j : Int32} (hq : (qA a 0).isSome = true) : Rr X d MLa_law 1498 L (.int j :: .ref a :: st) (Wd mu la ro et) = if j < 0 ∨ qAd a 0 ≤ j.toNatClampNeg then none else Rr X d MLa_law 1499 L (.int (mu a j.toNatClampNeg) :: st) (Wd mu la ro et) := R_ialW d_MLa_law_1498 hq
theorem r_MLa_law_1498f {n : Nat} {f : Nat → Int32} {j : Int32} : Rr (XS n f) d MLa_law 1498 L (.int j :: .float 0 :: st) h = if j < 0 ∨ n ≤ j.toNatClampNeg then none else Rr (XS n f) d MLa_law 1499 L (.int (f j.toNatClampNeg) :: st) h := R_ialS d_MLa_law_1498
theorem fc_11_167 : fC 11 167 = some (0, 9, 2, MTo_taken) := rfl
theorem r_MLa_law_1499 {y0 : Int32} {y1 : Int32} {a : Nat} (hO : qO a 9 = true) (hc : ckS st = true) : Rr X (d + 1) MLa_law 1499 L (.int y1 :: .int y0 :: .ref a :: st) (Wd mu la ro et) = (Rr X d MTo_taken 0 [.ref a, .int y0, .int y1, mkU, mkU] [] (Wd mu la ro et)).bind fun q => Rr X (d + 1) MLa_law 1502 L (psh q.1 st) q.2 := R_iv (av := [.int y1, .int y0]) d_MLa_law_1499 fc_11_167 hO (ckS_le hc) rfl (Nat.le_of_ble_eq_true rfl) (Nat.le_of_ble_eq_true rfl)
theorem r_MLa_law_1502 {x : Int32} : Rr X d MLa_law 1502 L (.int x :: st) h = Rr X d MLa_law 1503 L st h := Rr_nx d_MLa_law_1502 rfl
theorem r_MLa_law_1503 {l0 l1 l3 : Value} {x : Nat} : Rr X d MLa_law 1503 [l0, l1, .ref x, l3] st h = Rr X d MLa_law 1504 [l0, l1, .ref x, l3] (.ref x :: st) h := Rr_nx d_MLa_law_1503 rfl
theorem r_MLa_law_1503n {l0 l1 l3 : Value} : Rr X d MLa_law 1503 [l0, l1, .null, l3] st h = Rr X d MLa_law 1504 [l0, l1, .null, l3] (.null :: st) h := Rr_nx d_MLa_law_1503 rfl
theorem r_MLa_law_1504 {l1 l2 l3 : Value} {x : Nat} : Rr X d MLa_law 1504 [.ref x, l1, l2, l3] st h = Rr X d MLa_law 1505 [.ref x, l1, l2, l3] (.ref x :: st) h := Rr_nx d_MLa_law_1504 rfl
theorem r_MLa_law_1504f {l1 l2 l3 : Value} {x : UInt32} : Rr X d MLa_law 1504 [.float x, l1, l2, l3] st h = Rr X d MLa_law 1505 [.float x, l1, l2, l3] (.float x :: st) h := Rr_nx d_MLa_law_1504 rfl
theorem r_MLa_law_1505 {l0 l1 l2 : Value} {x : Int32} : Rr X d MLa_law 1505 [l0, l1, l2, .int x] st h = Rr X d MLa_law 1506 [l0, l1, l2, .int x] (.int x :: st) h := Rr_nx d_MLa_law_1505 rfl
theorem r_MLa_law_1506 : Rr X d MLa_law 1506 L st h = Rr X d MLa_law 1507 L (.int (1) :: st) h := Rr_nx d_MLa_law_1506 rfl
theorem r_MLa_law_1507 {x y : Int32} : Rr X d MLa_law 1507 L (.int y :: .int x :: st) h = Rr X d MLa_law 1508 L (.int (x + y) :: st) h := Rr_nx d_MLa_law_1507 rfl
theorem r_MLa_law_1508 {a : Nat} {j : Int32} (hq : (qA a 0).isSome = true) : Rr X d MLa_law 1508 L (.int j :: .ref a :: st) (Wd mu la ro et) = if j < 0 ∨ qAd a 0 ≤ j.toNatClampNeg then none else Rr X d MLa_law 1509 L (.int (mu a j.toNatClampNeg) :: st) (Wd mu la ro et) := R_ialW d_MLa_law_1508 hq
theorem r_MLa_law_1508f {n : Nat} {f : Nat → Int32} {j : Int32} : Rr (XS n f) d MLa_law 1508 L (.int j :: .float 0 :: st) h = if j < 0 ∨ n ≤ j.toNatClampNeg then none else Rr (XS n f) d MLa_law 1509 L (.int (f j.toNatClampNeg) :: st) h := R_ialS d_MLa_law_1508
theorem r_MLa_law_1509 {l1 l2 l3 : Value} {x : Nat} : Rr X d MLa_law 1509 [.ref x, l1, l2, l3] st h = Rr X d MLa_law 1510 [.ref x, l1, l2, l3] (.ref x :: st) h := Rr_nx d_MLa_law_1509 rfl
theorem r_MLa_law_1509f {l1 l2 l3 : Value} {x : UInt32} : Rr X d MLa_law 1509 [.float x, l1, l2, l3] st h = Rr X d MLa_law 1510 [.float x, l1, l2, l3] (.float x :: st) h := Rr_nx d_MLa_law_1509 rfl
theorem r_MLa_law_1510 {l0 l1 l2 : Value} {x : Int32} : Rr X d MLa_law 1510 [l0, l1, l2, .int x] st h = Rr X d MLa_law 1511 [l0, l1, l2, .int x] (.int x :: st) h := Rr_nx d_MLa_law_1510 rfl
theorem r_MLa_law_1511 : Rr X d MLa_law 1511 L st h = Rr X d MLa_law 1512 L (.int (2) :: st) h := Rr_nx d_MLa_law_1511 rfl
theorem r_MLa_law_1512 {x y : Int32} : Rr X d MLa_law 1512 L (.int y :: .int x :: st) h = Rr X d MLa_law 1513 L (.int (x + y) :: st) h := Rr_nx d_MLa_law_1512 rfl
theorem r_MLa_law_1513 {a : Nat} {j : Int32} (hq : (qA a 0).isSome = true) : Rr X d MLa_law 1513 L (.int j :: .ref a :: st) (Wd mu la ro et) = if j < 0 ∨ qAd a 0 ≤ j.toNatClampNeg then none else Rr X d MLa_law 1514 L (.int (mu a j.toNatClampNeg) :: st) (Wd mu la ro et) := R_ialW d_MLa_law_1513 hq
theorem r_MLa_law_1513f {n : Nat} {f : Nat → Int32} {j : Int32} : Rr (XS n f) d MLa_law 1513 L (.int j :: .float 0 :: st) h = if j < 0 ∨ n ≤ j.toNatClampNeg then none else Rr (XS n f) d MLa_law 1514 L (.int (f j.toNatClampNeg) :: st) h := R_ialS d_MLa_law_1513
theorem fc_11_170 : fC 11 170 = some (0, 10, 2, MRm_taken) := rfl
theorem r_MLa_law_1514 {y0 : Int32} {y1 : Int32} {a : Nat} (hO : qO a 10 = true) (hc : ckS st = true) : Rr X (d + 1) MLa_law 1514 L (.int y1 :: .int y0 :: .ref a :: st) (Wd mu la ro et) = (Rr X d MRm_taken 0 [.ref a, .int y0, .int y1] [] (Wd mu la ro et)).bind fun q => Rr X (d + 1) MLa_law 1517 L (psh q.1 st) q.2 := R_iv (av := [.int y1, .int y0]) d_MLa_law_1514 fc_11_170 hO (ckS_le hc) rfl (Nat.le_of_ble_eq_true rfl) (Nat.le_of_ble_eq_true rfl)
theorem r_MLa_law_1517 {x : Int32} : Rr X d MLa_law 1517 L (.int x :: st) h = Rr X d MLa_law 1518 L st h := Rr_nx d_MLa_law_1517 rfl
theorem r_MLa_law_1518 : Rr X d MLa_law 1518 L st h = Rr X d MLa_law 1544 L st h := R_goto d_MLa_law_1518 (by decide)
theorem r_MLa_law_1521 {l0 l2 l3 : Value} {x : Nat} : Rr X d MLa_law 1521 [l0, .ref x, l2, l3] st h = Rr X d MLa_law 1522 [l0, .ref x, l2, l3] (.ref x :: st) h := Rr_nx d_MLa_law_1521 rfl
theorem r_MLa_law_1521n {l0 l2 l3 : Value} : Rr X d MLa_law 1521 [l0, .null, l2, l3] st h = Rr X d MLa_law 1522 [l0, .null, l2, l3] (.null :: st) h := Rr_nx d_MLa_law_1521 rfl
theorem r_MLa_law_1522 {l1 l2 l3 : Value} {x : Nat} : Rr X d MLa_law 1522 [.ref x, l1, l2, l3] st h = Rr X d MLa_law 1523 [.ref x, l1, l2, l3] (.ref x :: st) h := Rr_nx d_MLa_law_1522 rfl
theorem r_MLa_law_1522f {l1 l2 l3 : Value} {x : UInt32} : Rr X d MLa_law 1522 [.float x, l1, l2, l3] st h = Rr X d MLa_law 1523 [.float x, l1, l2, l3] (.float x :: st) h := Rr_nx d_MLa_law_1522 rfl
theorem r_MLa_law_1523 {l0 l1 l2 : Value} {x : Int32} : Rr X d MLa_law 1523 [l0, l1, l2, .int x] st h = Rr X d MLa_law 1524 [l0, l1, l2, .int x] (.int x :: st) h := Rr_nx d_MLa_law_1523 rfl
theorem r_MLa_law_1524 : Rr X d MLa_law 1524 L st h = Rr X d MLa_law 1525 L (.int (1) :: st) h := Rr_nx d_MLa_law_1524 rfl
theorem r_MLa_law_1525 {x y : Int32} : Rr X d MLa_law 1525 L (.int y :: .int x :: st) h = Rr X d MLa_law 1526 L (.int (x + y) :: st) h := Rr_nx d_MLa_law_1525 rfl
theorem r_MLa_law_1526 {a : Nat} {j : Int32} (hq : (qA a 0).isSome = true) : Rr X d MLa_law 1526 L (.int j :: .ref a :: st) (Wd mu la ro et) = if j < 0 ∨ qAd a 0 ≤ j.toNatClampNeg then none else Rr X d MLa_law 1527 L (.int (mu a j.toNatClampNeg) :: st) (Wd mu la ro et) := R_ialW d_MLa_law_1526 hq
theorem r_MLa_law_1526f {n : Nat} {f : Nat → Int32} {j : Int32} : Rr (XS n f) d MLa_law 1526 L (.int j :: .float 0 :: st) h = if j < 0 ∨ n ≤ j.toNatClampNeg then none else Rr (XS n f) d MLa_law 1527 L (.int (f j.toNatClampNeg) :: st) h := R_ialS d_MLa_law_1526
theorem fc_11_171 : fC 11 171 = some (0, 9, 1, MTo_count) := rfl
theorem r_MLa_law_1527 {y0 : Int32} {a : Nat} (hO : qO a 9 = true) (hc : ckS st = true) : Rr X (d + 1) MLa_law 1527 L (.int y0 :: .ref a :: st) (Wd mu la ro et) = (Rr X d MTo_count 0 [.ref a, .int y0] [] (Wd mu la ro et)).bind fun q => Rr X (d + 1) MLa_law 1530 L (psh q.1 st) q.2 := R_iv (av := [.int y0]) d_MLa_law_1527 fc_11_171 hO (ckS_le hc) rfl (Nat.le_of_ble_eq_true rfl) (Nat.le_of_ble_eq_true rfl)
theorem r_MLa_law_1530 {x : Int32} : Rr X d MLa_law 1530 L (.int x :: st) h = Rr X d MLa_law 1531 L st h := Rr_nx d_MLa_law_1530 rfl
theorem r_MLa_law_1531 {l0 l1 l3 : Value} {x : Nat} : Rr X d MLa_law 1531 [l0, l1, .ref x, l3] st h = Rr X d MLa_law 1532 [l0, l1, .ref x, l3] (.ref x :: st) h := Rr_nx d_MLa_law_1531 rfl
theorem r_MLa_law_1531n {l0 l1 l3 : Value} : Rr X d MLa_law 1531 [l0, l1, .null, l3] st h = Rr X d MLa_law 1532 [l0, l1, .null, l3] (.null :: st) h := Rr_nx d_MLa_law_1531 rfl
theorem r_MLa_law_1532 {l1 l2 l3 : Value} {x : Nat} : Rr X d MLa_law 1532 [.ref x, l1, l2, l3] st h = Rr X d MLa_law 1533 [.ref x, l1, l2, l3] (.ref x :: st) h := Rr_nx d_MLa_law_1532 rfl
theorem r_MLa_law_1532f {l1 l2 l3 : Value} {x : UInt32} : Rr X d MLa_law 1532 [.float x, l1, l2, l3] st h = Rr X d MLa_law 1533 [.float x, l1, l2, l3] (.float x :: st) h := Rr_nx d_MLa_law_1532 rfl
theorem r_MLa_law_1533 {l0 l1 l2 : Value} {x : Int32} : Rr X d MLa_law 1533 [l0, l1, l2, .int x] st h = Rr X d MLa_law 1534 [l0, l1, l2, .int x] (.int x :: st) h := Rr_nx d_MLa_law_1533 rfl
theorem r_MLa_law_1534 : Rr X d MLa_law 1534 L st h = Rr X d MLa_law 1535 L (.int (1) :: st) h := Rr_nx d_MLa_law_1534 rfl
theorem r_MLa_law_1535 {x y : Int32} : Rr X d MLa_law 1535 L (.int y :: .int x :: st) h = Rr X d MLa_law 1536 L (.int (x + y) :: st) h := Rr_nx d_MLa_law_1535 rfl
theorem r_MLa_law_1536 {a : Nat} {j : Int32} (hq : (qA a 0).isSome = true) : Rr X d MLa_law 1536 L (.int j :: .ref a :: st) (Wd mu la ro et) = if j < 0 ∨ qAd a 0 ≤ j.toNatClampNeg then none else Rr X d MLa_law 1537 L (.int (mu a j.toNatClampNeg) :: st) (Wd mu la ro et) := R_ialW d_MLa_law_1536 hq
theorem r_MLa_law_1536f {n : Nat} {f : Nat → Int32} {j : Int32} : Rr (XS n f) d MLa_law 1536 L (.int j :: .float 0 :: st) h = if j < 0 ∨ n ≤ j.toNatClampNeg then none else Rr (XS n f) d MLa_law 1537 L (.int (f j.toNatClampNeg) :: st) h := R_ialS d_MLa_law_1536
theorem fc_11_174 : fC 11 174 = some (0, 10, 1, MRm_count) := rfl
theorem r_MLa_law_1537 {y0 : Int32} {a : Nat} (hO : qO a 10 = true) (hc : ckS st = true) : Rr X (d + 1) MLa_law 1537 L (.int y0 :: .ref a :: st) (Wd mu la ro et) = (Rr X d MRm_count 0 [.ref a, .int y0] [] (Wd mu la ro et)).bind fun q => Rr X (d + 1) MLa_law 1540 L (psh q.1 st) q.2 := R_iv (av := [.int y0]) d_MLa_law_1537 fc_11_174 hO (ckS_le hc) rfl (Nat.le_of_ble_eq_true rfl) (Nat.le_of_ble_eq_true rfl)
theorem r_MLa_law_1540 {x : Int32} : Rr X d MLa_law 1540 L (.int x :: st) h = Rr X d MLa_law 1541 L st h := Rr_nx d_MLa_law_1540 rfl
theorem r_MLa_law_1541 : Rr X d MLa_law 1541 L st h = Rr X d MLa_law 1544 L st h := R_goto d_MLa_law_1541 (by decide)
theorem r_MLa_law_1544 {l0 l1 l2 : Value} {x : Int32} : Rr X d MLa_law 1544 [l0, l1, l2, .int x] st h = Rr X d MLa_law 1547 (sL [l0, l1, l2, .int x] 3 (.int (x + (6)))) st h := Rr_nx d_MLa_law_1544 rfl
theorem r_MLa_law_1547 : Rr X d MLa_law 1547 L st h = Rr X d MLa_law 18 L st h := R_goto d_MLa_law_1547 (by decide)
theorem r_MLa_law_1550 : Rr X d MLa_law 1550 L st h = Rr X d MLa_law 1551 L (.int (1) :: st) h := Rr_nx d_MLa_law_1550 rfl
theorem r_MLa_law_1551 {x : Int32} : Rr X d MLa_law 1551 L [.int x] h = if x = 0 ∨ x = 1 then some (some (.int x), h) else none := R_zr d_MLa_law_1551 rfl
end RULES

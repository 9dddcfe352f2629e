/-! tables of the program, printed by gen.py -/
def cb_cn : Nat → String
  | 0 => "CommandBuses"
  | 1 => "CommandBuses$Controller"
  | 2 => "CommandBuses$Wires"
  | 3 => "CommandBuses$Monitor"
  | 4 => "CommandBuses$Terminal"
  | 5 => "CommandBuses$Table"
  | 6 => "CommandBuses$Roster"
  | 7 => "CommandBuses$Message"
  | 8 => "CommandBusesModel"
  | 9 => "CommandBuses$Coding"
  | 10 => "CommandBuses$Commands"
  | 11 => "CommandBusesLaw"
  | 12 => "java/lang/Integer"
  | _ => "java/util/Arrays"
def cb_T0 : u_T := fun k => match k with
  | 0 => ("CommandBuses", "controller", "LCommandBuses$Controller;", true)
  | 1 => ("CommandBuses", "terminals", "[LCommandBuses$Terminal;", true)
  | 2 => ("CommandBuses", "wires", "LCommandBuses$Wires;", true)
  | 3 => ("CommandBuses", "table", "LCommandBuses$Table;", true)
  | _ => ("CommandBuses", "roster", "LCommandBuses$Roster;", true)
def cb_T1 : u_T := fun k => match k with
  | 0 => ("CommandBuses$Controller", "terminals", "[LCommandBuses$Terminal;", true)
  | 1 => ("CommandBuses$Controller", "wires", "LCommandBuses$Wires;", true)
  | _ => ("CommandBuses$Controller", "ownBus", "I", false)
def cb_T2 : u_T := fun k => match k with
  | 0 => ("CommandBuses$Wires", "monitor", "LCommandBuses$Monitor;", true)
  | 1 => ("CommandBuses$Wires", "faultKinds", "[I", true)
  | _ => ("CommandBuses$Wires", "wordsBefore", "[I", true)
def cb_T3 : u_T := fun k => match k with
  | 0 => ("CommandBuses$Monitor", "latest", "[I", true)
  | 1 => ("CommandBuses$Monitor", "next", "I", false)
  | _ => ("CommandBuses$Monitor", "written", "I", false)
def cb_T4 : u_T := fun k => match k with
  | 0 => ("CommandBuses$Terminal", "number", "I", true)
  | 1 => ("CommandBuses$Terminal", "isLive", "Z", false)
  | 2 => ("CommandBuses$Terminal", "hasError", "Z", false)
  | 3 => ("CommandBuses$Terminal", "hasAll", "Z", false)
  | 4 => ("CommandBuses$Terminal", "lastCommand", "I", false)
  | 5 => ("CommandBuses$Terminal", "timesSynchronized", "I", false)
  | 6 => ("CommandBuses$Terminal", "isShut", "[Z", true)
  | 7 => ("CommandBuses$Terminal", "drafts", "[I", true)
  | 8 => ("CommandBuses$Terminal", "toSend", "[I", true)
  | 9 => ("CommandBuses$Terminal", "received", "[I", true)
  | _ => ("CommandBuses$Terminal", "hasReceived", "[Z", true)
def cb_T5 : u_T := fun k => match k with
  | 0 => ("CommandBuses$Table", "messages", "[LCommandBuses$Message;", true)
  | 1 => ("CommandBuses$Table", "loads", "[I", true)
  | 2 => ("CommandBuses$Table", "count", "I", false)
  | 3 => ("CommandBuses$Table", "nextFrame", "I", false)
  | _ => ("CommandBuses$Table", "isSealed", "Z", false)
def cb_T6 : u_T := fun k => match k with
  | 0 => ("CommandBuses$Roster", "badFrames", "[I", true)
  | 1 => ("CommandBuses$Roster", "isDropped", "[Z", true)
  | 2 => ("CommandBuses$Roster", "wasUsed", "[Z", true)
  | _ => ("CommandBuses$Roster", "hasFailed", "[Z", true)
def cb_T7 : u_T := fun k => match k with
  | 0 => ("CommandBuses$Message", "kind", "I", true)
  | 1 => ("CommandBuses$Message", "x", "I", true)
  | 2 => ("CommandBuses$Message", "y", "I", true)
  | 3 => ("CommandBuses$Message", "subaddress", "I", true)
  | 4 => ("CommandBuses$Message", "n", "I", true)
  | 5 => ("CommandBuses$Message", "period", "I", true)
  | 6 => ("CommandBuses$Message", "values", "[I", true)
  | 7 => ("CommandBuses$Message", "phase", "I", false)
  | _ => ("CommandBuses$Message", "outcome", "I", false)
def cb_T8 : u_T := fun k => match k with
  | 0 => ("CommandBusesModel", "armed", "[Z", true)
  | 1 => ("CommandBusesModel", "faultKind", "[I", true)
  | 2 => ("CommandBusesModel", "after", "[I", true)
  | 3 => ("CommandBusesModel", "heardWords", "I", false)
  | 4 => ("CommandBusesModel", "log", "[I", true)
  | 5 => ("CommandBusesModel", "dead", "[Z", true)
  | 6 => ("CommandBusesModel", "drafts", "[I", true)
  | 7 => ("CommandBusesModel", "toSend", "[I", true)
  | 8 => ("CommandBusesModel", "got", "[I", true)
  | 9 => ("CommandBusesModel", "any", "[Z", true)
  | 10 => ("CommandBusesModel", "error", "[Z", true)
  | 11 => ("CommandBusesModel", "all", "[Z", true)
  | 12 => ("CommandBusesModel", "last", "[I", true)
  | 13 => ("CommandBusesModel", "synced", "[I", true)
  | 14 => ("CommandBusesModel", "shut", "[Z", true)
  | 15 => ("CommandBusesModel", "badFrames", "[I", true)
  | 16 => ("CommandBusesModel", "dropped", "[Z", true)
  | 17 => ("CommandBusesModel", "messages", "I", false)
  | 18 => ("CommandBusesModel", "kinds", "[I", true)
  | 19 => ("CommandBusesModel", "xs", "[I", true)
  | 20 => ("CommandBusesModel", "ys", "[I", true)
  | 21 => ("CommandBusesModel", "subs", "[I", true)
  | 22 => ("CommandBusesModel", "ns", "[I", true)
  | 23 => ("CommandBusesModel", "periods", "[I", true)
  | 24 => ("CommandBusesModel", "phases", "[I", true)
  | 25 => ("CommandBusesModel", "values", "[I", true)
  | 26 => ("CommandBusesModel", "outcomes", "[I", true)
  | 27 => ("CommandBusesModel", "sealed", "Z", false)
  | 28 => ("CommandBusesModel", "loads", "[I", true)
  | 29 => ("CommandBusesModel", "frame", "I", false)
  | 30 => ("CommandBusesModel", "bus", "I", false)
  | 31 => ("CommandBusesModel", "came", "[I", true)
  | 32 => ("CommandBusesModel", "good", "I", false)
  | _ => ("CommandBusesModel", "part", "[I", true)
def cb_TT : Nat → u_T
  | 0 => cb_T0
  | 1 => cb_T1
  | 2 => cb_T2
  | 3 => cb_T3
  | 4 => cb_T4
  | 5 => cb_T5
  | 6 => cb_T6
  | 7 => cb_T7
  | 8 => cb_T8
  | _ => cb_T0
def cb_nf : Nat → Nat
  | 0 => 5
  | 1 => 3
  | 2 => 3
  | 3 => 3
  | 4 => 11
  | 5 => 5
  | 6 => 4
  | 7 => 9
  | 8 => 34
  | _ => 0
def cb_fkL : List (List Nat) := [[2, 2, 2, 2, 2], [2, 2, 0], [2, 2, 2], [2, 0, 0], [0, 1, 1, 1, 0, 0, 2, 2, 2, 2, 2], [2, 2, 0, 0, 1], [2, 2, 2, 2], [0, 0, 0, 0, 0, 0, 2, 0, 0], [2, 2, 2, 0, 2, 2, 2, 2, 2, 2, 2, 2, 2, 2, 2, 2, 2, 0, 2, 2, 2, 2, 2, 2, 2, 2, 2, 1, 2, 0, 0, 2, 0, 2]]
def cb_fk (c k : Nat) : Nat := (cb_fkL.getD c []).getD k 0
def cb_cl : List vw_C := [(cb_cn 0, cb_TT 0, cb_nf 0), (cb_cn 1, cb_TT 1, cb_nf 1), (cb_cn 2, cb_TT 2, cb_nf 2), (cb_cn 3, cb_TT 3, cb_nf 3), (cb_cn 4, cb_TT 4, cb_nf 4), (cb_cn 5, cb_TT 5, cb_nf 5), (cb_cn 6, cb_TT 6, cb_nf 6), (cb_cn 7, cb_TT 7, cb_nf 7), (cb_cn 8, cb_TT 8, cb_nf 8)]
/-- CommandBusesLaw/law -/
def cd_0 : List (Nat × Instr) := [(0, .new 7), (3, .dup), (4, .invokespecial 9), (7, .astore_n 1), (8, .new 10), (11, .dup), (12, .invokespecial 12), (15, .astore_n 2), (16, .iconst (.ofNat 0)), (17, .istore_n 3), (18, .iload_n 3), (19, .aload_n 0), (20, .arraylength), (21, .bipush (.ofNat 7)), (23, .isub), (24, .if_icmp .gt (.ofNat 758)), (27, .aload_n 0), (28, .iload_n 3), (29, .iaload), (30, .bipush (.ofNat 31)), (32, .iand), (33, .tableswitch (.ofNat 743) (.ofNat 0) (.ofNat 18) #[(.ofNat 91), (.ofNat 141), (.ofNat 194), (.ofNat 243), (.ofNat 296), (.ofNat 329), (.ofNat 372), (.ofNat 405), (.ofNat 480), (.ofNat 523), (.ofNat 556), (.ofNat 579), (.ofNat 592), (.ofNat 615), (.ofNat 658), (.ofNat 671), (.ofNat 694), (.ofNat 707), (.ofNat 720)]), (124, .aload_n 1), (125, .aload_n 0), (126, .iload_n 3), (127, .iconst (.ofNat 1)), (128, .iadd), (129, .iaload), (130, .ifCond .eq (.ofNat 7)), (133, .iconst (.ofNat 1)), (134, .goto (.ofNat 4)), (137, .iconst (.ofNat 0)), (138, .aload_n 0), (139, .iload_n 3), (140, .iconst (.ofNat 2)), (141, .iadd), (142, .iaload), (143, .invokevirtual 13), (146, .aload_n 2), (147, .aload_n 0), (148, .iload_n 3), (149, .iconst (.ofNat 1)), (150, .iadd), (151, .iaload), (152, .ifCond .eq (.ofNat 7)), (155, .iconst (.ofNat 1)), (156, .goto (.ofNat 4)), (159, .iconst (.ofNat 0)), (160, .aload_n 0), (161, .iload_n 3), (162, .iconst (.ofNat 2)), (163, .iadd), (164, .iaload), (165, .invokevirtual 17), (168, .lcmp), (169, .ifCond .eq (.ofNat 607)), (172, .iconst (.ofNat 0)), (173, .ireturn), (174, .aload_n 1), (175, .aload_n 0), (176, .iload_n 3), (177, .iconst (.ofNat 1)), (178, .iadd), (179, .iaload), (180, .i2l), (181, .bipush (.ofNat 32)), (183, .lshl), (184, .aload_n 0), (185, .iload_n 3), (186, .iconst (.ofNat 2)), (187, .iadd), (188, .iaload), (189, .i2l), (190, .ldc2_w 18), (193, .land), (194, .lor), (195, .invokevirtual 20), (198, .aload_n 2), (199, .aload_n 0), (200, .iload_n 3), (201, .iconst (.ofNat 1)), (202, .iadd), (203, .iaload), (204, .i2l), (205, .bipush (.ofNat 32)), (207, .lshl), (208, .aload_n 0), (209, .iload_n 3), (210, .iconst (.ofNat 2)), (211, .iadd), (212, .iaload), (213, .i2l), (214, .ldc2_w 18), (217, .land), (218, .lor), (219, .invokevirtual 24), (222, .if_icmp .eq (.ofNat 554)), (225, .iconst (.ofNat 0)), (226, .ireturn), (227, .aload_n 1), (228, .aload_n 0), (229, .iload_n 3), (230, .iconst (.ofNat 1)), (231, .iadd), (232, .iaload), (233, .aload_n 0), (234, .iload_n 3), (235, .iconst (.ofNat 2)), (236, .iadd), (237, .iaload), (238, .ifCond .eq (.ofNat 7)), (241, .iconst (.ofNat 1)), (242, .goto (.ofNat 4)), (245, .iconst (.ofNat 0)), (246, .invokevirtual 25), (249, .aload_n 2), (250, .aload_n 0), (251, .iload_n 3), (252, .iconst (.ofNat 1)), (253, .iadd), (254, .iaload), (255, .aload_n 0), (256, .iload_n 3), (257, .iconst (.ofNat 2)), (258, .iadd), (259, .iaload), (260, .ifCond .eq (.ofNat 7)), (263, .iconst (.ofNat 1)), (264, .goto (.ofNat 4)), (267, .iconst (.ofNat 0)), (268, .invokevirtual 29), (271, .if_icmp .eq (.ofNat 505)), (274, .iconst (.ofNat 0)), (275, .ireturn), (276, .aload_n 1), (277, .aload_n 0), (278, .iload_n 3), (279, .iconst (.ofNat 1)), (280, .iadd), (281, .iaload), (282, .aload_n 0), (283, .iload_n 3), (284, .iconst (.ofNat 2)), (285, .iadd), (286, .iaload), (287, .aload_n 0), (288, .iload_n 3), (289, .iconst (.ofNat 3)), (290, .iadd), (291, .iaload), (292, .aload_n 0), (293, .iload_n 3), (294, .iconst (.ofNat 4)), (295, .iadd), (296, .iaload), (297, .invokevirtual 30), (300, .aload_n 2), (301, .aload_n 0), (302, .iload_n 3), (303, .iconst (.ofNat 1)), (304, .iadd), (305, .iaload), (306, .aload_n 0), (307, .iload_n 3), (308, .iconst (.ofNat 2)), (309, .iadd), (310, .iaload), (311, .aload_n 0), (312, .iload_n 3), (313, .iconst (.ofNat 3)), (314, .iadd), (315, .iaload), (316, .aload_n 0), (317, .iload_n 3), (318, .iconst (.ofNat 4)), (319, .iadd), (320, .iaload), (321, .invokevirtual 34), (324, .if_icmp .eq (.ofNat 452)), (327, .iconst (.ofNat 0)), (328, .ireturn), (329, .aload_n 1), (330, .aload_n 0), (331, .iload_n 3), (332, .iconst (.ofNat 1)), (333, .iadd), (334, .iaload), (335, .aload_n 0), (336, .iload_n 3), (337, .iconst (.ofNat 2)), (338, .iadd), (339, .iaload), (340, .invokevirtual 35), (343, .aload_n 2), (344, .aload_n 0), (345, .iload_n 3), (346, .iconst (.ofNat 1)), (347, .iadd), (348, .iaload), (349, .aload_n 0), (350, .iload_n 3), (351, .iconst (.ofNat 2)), (352, .iadd), (353, .iaload), (354, .invokevirtual 39), (357, .if_icmp .eq (.ofNat 419)), (360, .iconst (.ofNat 0)), (361, .ireturn), (362, .aload_n 1), (363, .aload_n 0), (364, .iload_n 3), (365, .iconst (.ofNat 1)), (366, .iadd), (367, .iaload), (368, .aload_n 0), (369, .iload_n 3), (370, .iconst (.ofNat 2)), (371, .iadd), (372, .iaload), (373, .aload_n 0), (374, .iload_n 3), (375, .iconst (.ofNat 3)), (376, .iadd), (377, .iaload), (378, .invokevirtual 40), (381, .aload_n 2), (382, .aload_n 0), (383, .iload_n 3), (384, .iconst (.ofNat 1)), (385, .iadd), (386, .iaload), (387, .aload_n 0), (388, .iload_n 3), (389, .iconst (.ofNat 2)), (390, .iadd), (391, .iaload), (392, .aload_n 0), (393, .iload_n 3), (394, .iconst (.ofNat 3)), (395, .iadd), (396, .iaload), (397, .invokevirtual 44), (400, .if_icmp .eq (.ofNat 376)), (403, .iconst (.ofNat 0)), (404, .ireturn), (405, .aload_n 1), (406, .aload_n 0), (407, .iload_n 3), (408, .iconst (.ofNat 1)), (409, .iadd), (410, .iaload), (411, .aload_n 0), (412, .iload_n 3), (413, .iconst (.ofNat 2)), (414, .iadd), (415, .iaload), (416, .invokevirtual 45), (419, .aload_n 2), (420, .aload_n 0), (421, .iload_n 3), (422, .iconst (.ofNat 1)), (423, .iadd), (424, .iaload), (425, .aload_n 0), (426, .iload_n 3), (427, .iconst (.ofNat 2)), (428, .iadd), (429, .iaload), (430, .invokevirtual 49), (433, .if_icmp .eq (.ofNat 343)), (436, .iconst (.ofNat 0)), (437, .ireturn), (438, .aload_n 1), (439, .aload_n 0), (440, .iload_n 3), (441, .iconst (.ofNat 1)), (442, .iadd), (443, .iaload), (444, .aload_n 0), (445, .iload_n 3), (446, .iconst (.ofNat 2)), (447, .iadd), (448, .iaload), (449, .aload_n 0), (450, .iload_n 3), (451, .iconst (.ofNat 3)), (452, .iadd), (453, .iaload), (454, .aload_n 0), (455, .iload_n 3), (456, .iconst (.ofNat 4)), (457, .iadd), (458, .iaload), (459, .aload_n 0), (460, .iload_n 3), (461, .iconst (.ofNat 5)), (462, .iadd), (463, .iaload), (464, .aload_n 0), (465, .iload_n 3), (466, .bipush (.ofNat 6)), (468, .iadd), (469, .iaload), (470, .invokevirtual 50), (473, .aload_n 2), (474, .aload_n 0), (475, .iload_n 3), (476, .iconst (.ofNat 1)), (477, .iadd), (478, .iaload), (479, .aload_n 0), (480, .iload_n 3), (481, .iconst (.ofNat 2)), (482, .iadd), (483, .iaload), (484, .aload_n 0), (485, .iload_n 3), (486, .iconst (.ofNat 3)), (487, .iadd), (488, .iaload), (489, .aload_n 0), (490, .iload_n 3), (491, .iconst (.ofNat 4)), (492, .iadd), (493, .iaload), (494, .aload_n 0), (495, .iload_n 3), (496, .iconst (.ofNat 5)), (497, .iadd), (498, .iaload), (499, .aload_n 0), (500, .iload_n 3), (501, .bipush (.ofNat 6)), (503, .iadd), (504, .iaload), (505, .invokevirtual 54), (508, .if_icmp .eq (.ofNat 268)), (511, .iconst (.ofNat 0)), (512, .ireturn), (513, .aload_n 1), (514, .aload_n 0), (515, .iload_n 3), (516, .iconst (.ofNat 1)), (517, .iadd), (518, .iaload), (519, .aload_n 0), (520, .iload_n 3), (521, .iconst (.ofNat 2)), (522, .iadd), (523, .iaload), (524, .aload_n 0), (525, .iload_n 3), (526, .iconst (.ofNat 3)), (527, .iadd), (528, .iaload), (529, .invokevirtual 55), (532, .aload_n 2), (533, .aload_n 0), (534, .iload_n 3), (535, .iconst (.ofNat 1)), (536, .iadd), (537, .iaload), (538, .aload_n 0), (539, .iload_n 3), (540, .iconst (.ofNat 2)), (541, .iadd), (542, .iaload), (543, .aload_n 0), (544, .iload_n 3), (545, .iconst (.ofNat 3)), (546, .iadd), (547, .iaload), (548, .invokevirtual 59), (551, .if_icmp .eq (.ofNat 225)), (554, .iconst (.ofNat 0)), (555, .ireturn), (556, .aload_n 1), (557, .aload_n 0), (558, .iload_n 3), (559, .iconst (.ofNat 1)), (560, .iadd), (561, .iaload), (562, .aload_n 0), (563, .iload_n 3), (564, .iconst (.ofNat 2)), (565, .iadd), (566, .iaload), (567, .invokevirtual 60), (570, .aload_n 2), (571, .aload_n 0), (572, .iload_n 3), (573, .iconst (.ofNat 1)), (574, .iadd), (575, .iaload), (576, .aload_n 0), (577, .iload_n 3), (578, .iconst (.ofNat 2)), (579, .iadd), (580, .iaload), (581, .invokevirtual 63), (584, .if_icmp .eq (.ofNat 192)), (587, .iconst (.ofNat 0)), (588, .ireturn), (589, .aload_n 1), (590, .aload_n 0), (591, .iload_n 3), (592, .iconst (.ofNat 1)), (593, .iadd), (594, .iaload), (595, .invokevirtual 64), (598, .aload_n 2), (599, .aload_n 0), (600, .iload_n 3), (601, .iconst (.ofNat 1)), (602, .iadd), (603, .iaload), (604, .invokevirtual 68), (607, .if_icmp .eq (.ofNat 169)), (610, .iconst (.ofNat 0)), (611, .ireturn), (612, .aload_n 1), (613, .invokevirtual 69), (616, .aload_n 2), (617, .invokevirtual 73), (620, .if_icmp .eq (.ofNat 156)), (623, .iconst (.ofNat 0)), (624, .ireturn), (625, .aload_n 1), (626, .aload_n 0), (627, .iload_n 3), (628, .iconst (.ofNat 1)), (629, .iadd), (630, .iaload), (631, .invokevirtual 74), (634, .aload_n 2), (635, .aload_n 0), (636, .iload_n 3), (637, .iconst (.ofNat 1)), (638, .iadd), (639, .iaload), (640, .invokevirtual 77), (643, .if_icmp .eq (.ofNat 133)), (646, .iconst (.ofNat 0)), (647, .ireturn), (648, .aload_n 1), (649, .aload_n 0), (650, .iload_n 3), (651, .iconst (.ofNat 1)), (652, .iadd), (653, .iaload), (654, .aload_n 0), (655, .iload_n 3), (656, .iconst (.ofNat 2)), (657, .iadd), (658, .iaload), (659, .aload_n 0), (660, .iload_n 3), (661, .iconst (.ofNat 3)), (662, .iadd), (663, .iaload), (664, .invokevirtual 78), (667, .aload_n 2), (668, .aload_n 0), (669, .iload_n 3), (670, .iconst (.ofNat 1)), (671, .iadd), (672, .iaload), (673, .aload_n 0), (674, .iload_n 3), (675, .iconst (.ofNat 2)), (676, .iadd), (677, .iaload), (678, .aload_n 0), (679, .iload_n 3), (680, .iconst (.ofNat 3)), (681, .iadd), (682, .iaload), (683, .invokevirtual 81), (686, .if_icmp .eq (.ofNat 90)), (689, .iconst (.ofNat 0)), (690, .ireturn), (691, .aload_n 1), (692, .invokevirtual 82), (695, .aload_n 2), (696, .invokevirtual 86), (699, .if_icmp .eq (.ofNat 77)), (702, .iconst (.ofNat 0)), (703, .ireturn), (704, .aload_n 1), (705, .aload_n 0), (706, .iload_n 3), (707, .iconst (.ofNat 1)), (708, .iadd), (709, .iaload), (710, .invokevirtual 87), (713, .aload_n 2), (714, .aload_n 0), (715, .iload_n 3), (716, .iconst (.ofNat 1)), (717, .iadd), (718, .iaload), (719, .invokevirtual 90), (722, .if_icmp .eq (.ofNat 54)), (725, .iconst (.ofNat 0)), (726, .ireturn), (727, .aload_n 1), (728, .invokevirtual 91), (731, .aload_n 2), (732, .invokevirtual 94), (735, .if_icmp .eq (.ofNat 41)), (738, .iconst (.ofNat 0)), (739, .ireturn), (740, .aload_n 1), (741, .invokevirtual 95), (744, .aload_n 2), (745, .invokevirtual 98), (748, .if_icmp .eq (.ofNat 28)), (751, .iconst (.ofNat 0)), (752, .ireturn), (753, .aload_n 1), (754, .aload_n 0), (755, .iload_n 3), (756, .iconst (.ofNat 1)), (757, .iadd), (758, .iaload), (759, .invokevirtual 99), (762, .aload_n 2), (763, .aload_n 0), (764, .iload_n 3), (765, .iconst (.ofNat 1)), (766, .iadd), (767, .iaload), (768, .invokevirtual 102), (771, .if_icmp .eq (.ofNat 5)), (774, .iconst (.ofNat 0)), (775, .ireturn), (776, .iinc 3 (.ofNat 7)), (779, .goto (.negSucc 760)), (782, .iconst (.ofNat 1)), (783, .ireturn)]
/-- CommandBuses/make -/
def cd_1 : List (Nat × Instr) := [(0, .aload_n 0), (1, .invokespecial 1), (4, .aload_n 0), (5, .new 7), (8, .dup), (9, .invokespecial 9), (12, .putfield 10), (15, .aload_n 0), (16, .aload_n 0), (17, .getfield 10), (20, .getfield 16), (23, .putfield 20), (26, .aload_n 0), (27, .aload_n 0), (28, .getfield 10), (31, .getfield 21), (34, .putfield 25), (37, .aload_n 0), (38, .new 26), (41, .dup), (42, .invokespecial 28), (45, .putfield 29), (48, .aload_n 0), (49, .new 33), (52, .dup), (53, .invokespecial 35), (56, .putfield 36), (59, .return_)]
/-- CommandBuses/encode -/
def cd_2 : List (Nat × Instr) := [(0, .iload_n 2), (1, .invokestatic 40), (4, .ifCond .eq (.ofNat 11)), (7, .iload_n 1), (8, .iload_n 2), (9, .invokestatic 44), (12, .goto (.ofNat 6)), (15, .ldc2_w 50), (18, .lreturn)]
/-- CommandBuses/isValue -/
def cd_3 : List (Nat × Instr) := [(0, .iload_n 0), (1, .ifCond .lt (.ofNat 13)), (4, .iload_n 0), (5, .ldc 210), (7, .if_icmp .gt (.ofNat 7)), (10, .iconst (.ofNat 1)), (11, .goto (.ofNat 4)), (14, .iconst (.ofNat 0)), (15, .ireturn)]
/-- CommandBuses/decode -/
def cd_4 : List (Nat × Instr) := [(0, .lload_n 1), (1, .invokestatic 52), (4, .ireturn)]
/-- CommandBuses/live -/
def cd_5 : List (Nat × Instr) := [(0, .iload_n 1), (1, .invokestatic 56), (4, .ifCond .ne (.ofNat 5)), (7, .iconst (.ofNat 0)), (8, .ireturn), (9, .aload_n 0), (10, .getfield 20), (13, .iload_n 1), (14, .aaload), (15, .iload_n 2), (16, .putfield 59), (19, .iconst (.ofNat 1)), (20, .ireturn)]
/-- CommandBuses/isTerminal -/
def cd_6 : List (Nat × Instr) := [(0, .iload_n 0), (1, .ifCond .lt (.ofNat 13)), (4, .iload_n 0), (5, .bipush (.ofNat 6)), (7, .if_icmp .ge (.ofNat 7)), (10, .iconst (.ofNat 1)), (11, .goto (.ofNat 4)), (14, .iconst (.ofNat 0)), (15, .ireturn)]
/-- CommandBuses/draft -/
def cd_7 : List (Nat × Instr) := [(0, .iload_n 1), (1, .iload_n 2), (2, .invokestatic 65), (5, .ifCond .eq (.ofNat 18)), (8, .iload_n 3), (9, .invokestatic 69), (12, .ifCond .eq (.ofNat 11)), (15, .iload 4), (17, .invokestatic 40), (20, .ifCond .ne (.ofNat 5)), (23, .iconst (.ofNat 0)), (24, .ireturn), (25, .aload_n 0), (26, .getfield 20), (29, .iload_n 1), (30, .aaload), (31, .getfield 72), (34, .iload_n 2), (35, .invokestatic 76), (38, .iload_n 3), (39, .iadd), (40, .iload 4), (42, .iastore), (43, .iconst (.ofNat 1)), (44, .ireturn)]
/-- CommandBuses/isPlace -/
def cd_8 : List (Nat × Instr) := [(0, .iload_n 0), (1, .invokestatic 56), (4, .ifCond .eq (.ofNat 14)), (7, .iload_n 1), (8, .invokestatic 207), (11, .ifCond .eq (.ofNat 7)), (14, .iconst (.ofNat 1)), (15, .goto (.ofNat 4)), (18, .iconst (.ofNat 0)), (19, .ireturn)]
/-- CommandBuses/isSubaddress -/
def cd_9 : List (Nat × Instr) := [(0, .iload_n 0), (1, .iconst (.ofNat 1)), (2, .if_icmp .lt (.ofNat 12)), (5, .iload_n 0), (6, .iconst (.ofNat 3)), (7, .if_icmp .gt (.ofNat 7)), (10, .iconst (.ofNat 1)), (11, .goto (.ofNat 4)), (14, .iconst (.ofNat 0)), (15, .ireturn)]
/-- CommandBuses/isIndex -/
def cd_10 : List (Nat × Instr) := [(0, .iload_n 0), (1, .ifCond .lt (.ofNat 12)), (4, .iload_n 0), (5, .iconst (.ofNat 4)), (6, .if_icmp .ge (.ofNat 7)), (9, .iconst (.ofNat 1)), (10, .goto (.ofNat 4)), (13, .iconst (.ofNat 0)), (14, .ireturn)]
/-- CommandBuses/publish -/
def cd_11 : List (Nat × Instr) := [(0, .iload_n 1), (1, .iload_n 2), (2, .invokestatic 65), (5, .ifCond .ne (.ofNat 5)), (8, .iconst (.ofNat 0)), (9, .ireturn), (10, .aload_n 0), (11, .getfield 20), (14, .iload_n 1), (15, .aaload), (16, .iload_n 2), (17, .invokevirtual 80), (20, .iconst (.ofNat 1)), (21, .ireturn)]
/-- CommandBuses/received -/
def cd_12 : List (Nat × Instr) := [(0, .iload_n 1), (1, .iload_n 2), (2, .invokestatic 65), (5, .ifCond .eq (.ofNat 10)), (8, .iload_n 3), (9, .invokestatic 69), (12, .ifCond .ne (.ofNat 5)), (15, .iconst (.negSucc 0)), (16, .ireturn), (17, .aload_n 0), (18, .getfield 20), (21, .iload_n 1), (22, .aaload), (23, .iload_n 2), (24, .iload_n 3), (25, .invokevirtual 84), (28, .ireturn)]
/-- CommandBuses/terminal -/
def cd_13 : List (Nat × Instr) := [(0, .iload_n 1), (1, .invokestatic 56), (4, .ifCond .ne (.ofNat 5)), (7, .iconst (.negSucc 0)), (8, .ireturn), (9, .aload_n 0), (10, .getfield 20), (13, .iload_n 1), (14, .aaload), (15, .astore_n 3), (16, .iload_n 2), (17, .tableswitch (.ofNat 116) (.ofNat 0) (.ofNat 6) #[(.ofNat 43), (.ofNat 48), (.ofNat 53), (.ofNat 58), (.ofNat 73), (.ofNat 88), (.ofNat 98)]), (60, .aload_n 3), (61, .invokevirtual 88), (64, .ireturn), (65, .aload_n 3), (66, .getfield 92), (69, .ireturn), (70, .aload_n 3), (71, .getfield 96), (74, .ireturn), (75, .aload_n 3), (76, .getfield 99), (79, .iconst (.ofNat 0)), (80, .baload), (81, .ifCond .eq (.ofNat 7)), (84, .iconst (.ofNat 1)), (85, .goto (.ofNat 4)), (88, .iconst (.ofNat 0)), (89, .ireturn), (90, .aload_n 3), (91, .getfield 99), (94, .iconst (.ofNat 1)), (95, .baload), (96, .ifCond .eq (.ofNat 7)), (99, .iconst (.ofNat 1)), (100, .goto (.ofNat 4)), (103, .iconst (.ofNat 0)), (104, .ireturn), (105, .aload_n 0), (106, .getfield 36), (109, .getfield 103), (112, .iload_n 1), (113, .iaload), (114, .ireturn), (115, .aload_n 0), (116, .getfield 36), (119, .getfield 106), (122, .iload_n 1), (123, .baload), (124, .ifCond .eq (.ofNat 7)), (127, .iconst (.ofNat 1)), (128, .goto (.ofNat 4)), (131, .iconst (.ofNat 0)), (132, .ireturn), (133, .iconst (.negSucc 0)), (134, .ireturn)]
/-- CommandBuses/message -/
def cd_14 : List (Nat × Instr) := [(0, .aload_n 0), (1, .getfield 29), (4, .getfield 109), (7, .ifCond .eq (.ofNat 6)), (10, .bipush (.negSucc 5)), (12, .ireturn), (13, .iload 6), (15, .invokestatic 112), (18, .ifCond .eq (.ofNat 23)), (21, .iload_n 1), (22, .iload_n 2), (23, .iload_n 3), (24, .invokestatic 115), (27, .ifCond .eq (.ofNat 14)), (30, .iload_n 1), (31, .iload 4), (33, .iload 5), (35, .invokestatic 119), (38, .ifCond .ne (.ofNat 5)), (41, .iconst (.negSucc 0)), (42, .ireturn), (43, .aload_n 0), (44, .getfield 29), (47, .getfield 122), (50, .bipush (.ofNat 8)), (52, .if_icmp .ne (.ofNat 6)), (55, .bipush (.negSucc 1)), (57, .ireturn), (58, .aload_n 0), (59, .getfield 29), (62, .new 125), (65, .dup), (66, .iload_n 1), (67, .iload_n 2), (68, .iload_n 3), (69, .iload 4), (71, .iload 5), (73, .iload 6), (75, .invokespecial 127), (78, .invokevirtual 130), (81, .ireturn)]
/-- CommandBuses/isPeriod -/
def cd_15 : List (Nat × Instr) := [(0, .iload_n 0), (1, .iconst (.ofNat 1)), (2, .if_icmp .eq (.ofNat 13)), (5, .iload_n 0), (6, .iconst (.ofNat 2)), (7, .if_icmp .eq (.ofNat 8)), (10, .iload_n 0), (11, .iconst (.ofNat 4)), (12, .if_icmp .ne (.ofNat 7)), (15, .iconst (.ofNat 1)), (16, .goto (.ofNat 4)), (19, .iconst (.ofNat 0)), (20, .ireturn)]
/-- CommandBuses/areTerminalsOf -/
def cd_16 : List (Nat × Instr) := [(0, .iload_n 0), (1, .iconst (.ofNat 3)), (2, .if_icmp .ne (.ofNat 5)), (5, .iconst (.ofNat 1)), (6, .ireturn), (7, .iload_n 0), (8, .iconst (.ofNat 2)), (9, .if_icmp .ne (.ofNat 28)), (12, .iload_n 1), (13, .invokestatic 56), (16, .ifCond .eq (.ofNat 19)), (19, .iload_n 2), (20, .invokestatic 56), (23, .ifCond .eq (.ofNat 12)), (26, .iload_n 1), (27, .iload_n 2), (28, .if_icmp .eq (.ofNat 7)), (31, .iconst (.ofNat 1)), (32, .goto (.ofNat 4)), (35, .iconst (.ofNat 0)), (36, .ireturn), (37, .iload_n 1), (38, .invokestatic 56), (41, .ireturn)]
/-- CommandBuses/isContentOf -/
def cd_17 : List (Nat × Instr) := [(0, .iload_n 0), (1, .iconst (.ofNat 4)), (2, .if_icmp .ne (.ofNat 8)), (5, .iload_n 2), (6, .invokestatic 211), (9, .ireturn), (10, .iload_n 0), (11, .ifCond .lt (.ofNat 29)), (14, .iload_n 0), (15, .iconst (.ofNat 3)), (16, .if_icmp .gt (.ofNat 24)), (19, .iload_n 1), (20, .invokestatic 207), (23, .ifCond .eq (.ofNat 17)), (26, .iload_n 2), (27, .iconst (.ofNat 1)), (28, .if_icmp .lt (.ofNat 12)), (31, .iload_n 2), (32, .iconst (.ofNat 4)), (33, .if_icmp .gt (.ofNat 7)), (36, .iconst (.ofNat 1)), (37, .goto (.ofNat 4)), (40, .iconst (.ofNat 0)), (41, .ireturn)]
/-- CommandBuses/isModeCode -/
def cd_18 : List (Nat × Instr) := [(0, .iload_n 0), (1, .iconst (.ofNat 1)), (2, .if_icmp .eq (.ofNat 30)), (5, .iload_n 0), (6, .iconst (.ofNat 2)), (7, .if_icmp .eq (.ofNat 25)), (10, .iload_n 0), (11, .iconst (.ofNat 4)), (12, .if_icmp .eq (.ofNat 20)), (15, .iload_n 0), (16, .iconst (.ofNat 5)), (17, .if_icmp .eq (.ofNat 15)), (20, .iload_n 0), (21, .bipush (.ofNat 8)), (23, .if_icmp .eq (.ofNat 9)), (26, .iload_n 0), (27, .bipush (.ofNat 18)), (29, .if_icmp .ne (.ofNat 7)), (32, .iconst (.ofNat 1)), (33, .goto (.ofNat 4)), (36, .iconst (.ofNat 0)), (37, .ireturn)]
/-- CommandBuses/give -/
def cd_19 : List (Nat × Instr) := [(0, .aload_n 0), (1, .getfield 29), (4, .iload_n 1), (5, .invokevirtual 134), (8, .astore 4), (10, .aload 4), (12, .ifnull (.ofNat 17)), (15, .iload_n 2), (16, .invokestatic 69), (19, .ifCond .eq (.ofNat 10)), (22, .iload_n 3), (23, .invokestatic 40), (26, .ifCond .ne (.ofNat 5)), (29, .iconst (.ofNat 0)), (30, .ireturn), (31, .aload 4), (33, .getfield 138), (36, .iload_n 2), (37, .iload_n 3), (38, .iastore), (39, .iconst (.ofNat 1)), (40, .ireturn)]
/-- CommandBuses/taken -/
def cd_20 : List (Nat × Instr) := [(0, .aload_n 0), (1, .getfield 29), (4, .iload_n 1), (5, .invokevirtual 134), (8, .astore_n 3), (9, .aload_n 3), (10, .ifnull (.ofNat 10)), (13, .iload_n 2), (14, .invokestatic 69), (17, .ifCond .ne (.ofNat 7)), (20, .iconst (.negSucc 0)), (21, .goto (.ofNat 9)), (24, .aload_n 3), (25, .getfield 138), (28, .iload_n 2), (29, .iaload), (30, .ireturn)]
/-- CommandBuses/seal -/
def cd_21 : List (Nat × Instr) := [(0, .aload_n 0), (1, .getfield 29), (4, .getfield 109), (7, .ifCond .eq (.ofNat 6)), (10, .bipush (.negSucc 5)), (12, .ireturn), (13, .iload_n 1), (14, .ifCond .ge (.ofNat 5)), (17, .iconst (.negSucc 0)), (18, .ireturn), (19, .aload_n 0), (20, .getfield 29), (23, .invokevirtual 141), (26, .istore_n 2), (27, .iload_n 2), (28, .iload_n 1), (29, .if_icmp .le (.ofNat 6)), (32, .bipush (.negSucc 1)), (34, .ireturn), (35, .aload_n 0), (36, .getfield 29), (39, .iconst (.ofNat 1)), (40, .putfield 109), (43, .aload_n 0), (44, .getfield 29), (47, .iconst (.ofNat 0)), (48, .putfield 144), (51, .iload_n 2), (52, .ireturn)]
/-- CommandBuses/opn -/
def cd_22 : List (Nat × Instr) := [(0, .aload_n 0), (1, .getfield 29), (4, .getfield 109), (7, .istore_n 1), (8, .aload_n 0), (9, .getfield 29), (12, .iconst (.ofNat 0)), (13, .putfield 109), (16, .iload_n 1), (17, .ireturn)]
/-- CommandBuses/load -/
def cd_23 : List (Nat × Instr) := [(0, .aload_n 0), (1, .getfield 29), (4, .getfield 109), (7, .ifCond .eq (.ofNat 12)), (10, .iload_n 1), (11, .ifCond .lt (.ofNat 8)), (14, .iload_n 1), (15, .iconst (.ofNat 4)), (16, .if_icmp .lt (.ofNat 7)), (19, .iconst (.negSucc 0)), (20, .goto (.ofNat 12)), (23, .aload_n 0), (24, .getfield 29), (27, .getfield 147), (30, .iload_n 1), (31, .iaload), (32, .ireturn)]
/-- CommandBuses/fault -/
def cd_24 : List (Nat × Instr) := [(0, .iload_n 1), (1, .ifCond .lt (.ofNat 17)), (4, .iload_n 1), (5, .iconst (.ofNat 2)), (6, .if_icmp .ge (.ofNat 12)), (9, .iload_n 2), (10, .ifCond .lt (.ofNat 8)), (13, .iload_n 2), (14, .iconst (.ofNat 2)), (15, .if_icmp .le (.ofNat 5)), (18, .iconst (.ofNat 0)), (19, .ireturn), (20, .iload_n 3), (21, .ifCond .lt (.ofNat 10)), (24, .iload_n 3), (25, .sipush (.ofNat 1000)), (28, .if_icmp .le (.ofNat 5)), (31, .iconst (.ofNat 0)), (32, .ireturn), (33, .aload_n 0), (34, .getfield 25), (37, .iload_n 1), (38, .iload_n 2), (39, .iload_n 3), (40, .invokevirtual 150), (43, .iconst (.ofNat 1)), (44, .ireturn)]
/-- CommandBuses/run -/
def cd_25 : List (Nat × Instr) := [(0, .aload_n 0), (1, .getfield 29), (4, .getfield 109), (7, .ifCond .ne (.ofNat 5)), (10, .iconst (.negSucc 0)), (11, .ireturn), (12, .aload_n 0), (13, .getfield 29), (16, .invokevirtual 156), (19, .istore_n 1), (20, .iload_n 1), (21, .ifCond .ne (.ofNat 7)), (24, .aload_n 0), (25, .invokevirtual 159), (28, .iconst (.ofNat 0)), (29, .istore_n 2), (30, .iconst (.ofNat 0)), (31, .istore_n 3), (32, .iload_n 3), (33, .aload_n 0), (34, .getfield 29), (37, .getfield 122), (40, .if_icmp .ge (.ofNat 81)), (43, .aload_n 0), (44, .getfield 29), (47, .getfield 162), (50, .iload_n 3), (51, .aaload), (52, .astore 4), (54, .aload 4), (56, .iload_n 1), (57, .invokevirtual 166), (60, .ifCond .eq (.ofNat 55)), (63, .aload_n 0), (64, .getfield 36), (67, .aload 4), (69, .invokevirtual 169), (72, .ifCond .ne (.ofNat 43)), (75, .aload 4), (77, .aload_n 0), (78, .getfield 10), (81, .aload 4), (83, .invokevirtual 173), (86, .putfield 176), (89, .aload_n 0), (90, .getfield 36), (93, .aload 4), (95, .invokevirtual 179), (98, .iload_n 2), (99, .aload 4), (101, .getfield 176), (104, .iconst (.ofNat 4)), (105, .if_icmp .ne (.ofNat 7)), (108, .iconst (.ofNat 0)), (109, .goto (.ofNat 4)), (112, .iconst (.ofNat 1)), (113, .iadd), (114, .istore_n 2), (115, .iinc 3 (.ofNat 1)), (118, .goto (.negSucc 85)), (121, .aload_n 0), (122, .getfield 36), (125, .invokevirtual 183), (128, .iload_n 2), (129, .ireturn)]
/-- CommandBuses/pollDropped -/
def cd_26 : List (Nat × Instr) := [(0, .iconst (.ofNat 0)), (1, .istore_n 1), (2, .iload_n 1), (3, .bipush (.ofNat 6)), (5, .if_icmp .ge (.ofNat 40)), (8, .aload_n 0), (9, .getfield 36), (12, .getfield 106), (15, .iload_n 1), (16, .baload), (17, .ifCond .eq (.ofNat 22)), (20, .aload_n 0), (21, .getfield 10), (24, .iload_n 1), (25, .invokevirtual 201), (28, .ifCond .eq (.ofNat 11)), (31, .aload_n 0), (32, .getfield 36), (35, .iload_n 1), (36, .invokevirtual 204), (39, .iinc 1 (.ofNat 1)), (42, .goto (.negSucc 39)), (45, .return_)]
/-- CommandBuses/outcome -/
def cd_27 : List (Nat × Instr) := [(0, .aload_n 0), (1, .getfield 29), (4, .iload_n 1), (5, .invokevirtual 134), (8, .astore_n 2), (9, .aload_n 2), (10, .ifnonnull (.ofNat 7)), (13, .iconst (.negSucc 0)), (14, .goto (.ofNat 7)), (17, .aload_n 2), (18, .getfield 176), (21, .ireturn)]
/-- CommandBuses/bus -/
def cd_28 : List (Nat × Instr) := [(0, .aload_n 0), (1, .getfield 10), (4, .getfield 186), (7, .ireturn)]
/-- CommandBuses/words -/
def cd_29 : List (Nat × Instr) := [(0, .aload_n 0), (1, .getfield 25), (4, .getfield 189), (7, .getfield 193), (10, .ireturn)]
/-- CommandBuses/heard -/
def cd_30 : List (Nat × Instr) := [(0, .aload_n 0), (1, .getfield 25), (4, .getfield 189), (7, .iload_n 1), (8, .invokevirtual 198), (11, .ireturn)]
/-- CommandBuses$Controller/make -/
def cd_31 : List (Nat × Instr) := [(0, .aload_n 0), (1, .invokespecial 3), (4, .aload_n 0), (5, .bipush (.ofNat 6)), (7, .anewarray 9), (10, .putfield 11), (13, .aload_n 0), (14, .new 17), (17, .dup), (18, .invokespecial 19), (21, .putfield 20), (24, .iconst (.ofNat 0)), (25, .istore_n 1), (26, .iload_n 1), (27, .bipush (.ofNat 6)), (29, .if_icmp .ge (.ofNat 23)), (32, .aload_n 0), (33, .getfield 11), (36, .iload_n 1), (37, .new 9), (40, .dup), (41, .iload_n 1), (42, .invokespecial 24), (45, .aastore), (46, .iinc 1 (.ofNat 1)), (49, .goto (.negSucc 22)), (52, .return_)]
/-- CommandBuses$Controller/answersPoll -/
def cd_32 : List (Nat × Instr) := [(0, .aload_n 0), (1, .aload_n 0), (2, .getfield 11), (5, .iload_n 1), (6, .aaload), (7, .iconst (.ofNat 2)), (8, .aload_n 0), (9, .getfield 27), (12, .invokevirtual 35), (15, .ireturn)]
/-- CommandBuses$Controller/modeGoesWell -/
def cd_33 : List (Nat × Instr) := [(0, .aload_n 0), (1, .getfield 20), (4, .iload_n 3), (5, .aload_n 1), (6, .getfield 128), (9, .iload_n 2), (10, .invokestatic 131), (13, .invokevirtual 75), (16, .ifCond .eq (.ofNat 16)), (19, .aload_n 1), (20, .iload_n 2), (21, .iload_n 3), (22, .invokevirtual 135), (25, .ifCond .eq (.ofNat 7)), (28, .iconst (.ofNat 1)), (29, .goto (.ofNat 4)), (32, .iconst (.ofNat 0)), (33, .istore 4), (35, .iload 4), (37, .ifCond .eq (.ofNat 16)), (40, .aload_n 1), (41, .getfield 95), (44, .iload_n 3), (45, .baload), (46, .ifCond .ne (.ofNat 7)), (49, .iconst (.ofNat 1)), (50, .goto (.ofNat 4)), (53, .iconst (.ofNat 0)), (54, .istore 5), (56, .iload 5), (58, .ifCond .eq (.ofNat 22)), (61, .aload_n 0), (62, .getfield 20), (65, .iload_n 3), (66, .aload_n 1), (67, .invokevirtual 99), (70, .invokevirtual 75), (73, .ifCond .eq (.ofNat 7)), (76, .iconst (.ofNat 1)), (77, .goto (.ofNat 4)), (80, .iconst (.ofNat 0)), (81, .istore 6), (83, .iload_n 2), (84, .bipush (.ofNat 18)), (86, .if_icmp .eq (.ofNat 6)), (89, .iload 6), (91, .ireturn), (92, .iload 5), (94, .ifCond .eq (.ofNat 25)), (97, .aload_n 0), (98, .getfield 20), (101, .iload_n 3), (102, .ldc 138), (104, .aload_n 1), (105, .getfield 125), (108, .iadd), (109, .invokevirtual 75), (112, .ifCond .eq (.ofNat 7)), (115, .iconst (.ofNat 1)), (116, .goto (.ofNat 4)), (119, .iconst (.ofNat 0)), (120, .istore 7), (122, .iload 6), (124, .ifCond .eq (.ofNat 12)), (127, .iload 7), (129, .ifCond .eq (.ofNat 7)), (132, .iconst (.ofNat 1)), (133, .goto (.ofNat 4)), (136, .iconst (.ofNat 0)), (137, .ireturn)]
/-- CommandBuses$Controller/outcomeOfDoing -/
def cd_34 : List (Nat × Instr) := [(0, .aload_n 0), (1, .aload_n 1), (2, .aload_n 0), (3, .getfield 27), (6, .invokevirtual 31), (9, .ifCond .eq (.ofNat 5)), (12, .iconst (.ofNat 1)), (13, .ireturn), (14, .aload_n 0), (15, .aload_n 1), (16, .aload_n 0), (17, .getfield 27), (20, .invokevirtual 31), (23, .ifCond .eq (.ofNat 5)), (26, .iconst (.ofNat 2)), (27, .ireturn), (28, .iconst (.ofNat 1)), (29, .aload_n 0), (30, .getfield 27), (33, .isub), (34, .istore_n 2), (35, .aload_n 0), (36, .aload_n 1), (37, .iload_n 2), (38, .invokevirtual 31), (41, .ifCond .eq (.ofNat 10)), (44, .aload_n 0), (45, .iload_n 2), (46, .putfield 27), (49, .iconst (.ofNat 3)), (50, .ireturn), (51, .iconst (.ofNat 4)), (52, .ireturn)]
/-- CommandBuses$Controller/goesWell -/
def cd_35 : List (Nat × Instr) := [(0, .aload_n 1), (1, .getfield 39), (4, .tableswitch (.ofNat 61) (.ofNat 0) (.ofNat 3) #[(.ofNat 32), (.ofNat 39), (.ofNat 46), (.ofNat 53)]), (36, .aload_n 0), (37, .aload_n 1), (38, .iload_n 2), (39, .invokevirtual 44), (42, .ireturn), (43, .aload_n 0), (44, .aload_n 1), (45, .iload_n 2), (46, .invokevirtual 47), (49, .ireturn), (50, .aload_n 0), (51, .aload_n 1), (52, .iload_n 2), (53, .invokevirtual 50), (56, .ireturn), (57, .aload_n 0), (58, .aload_n 1), (59, .iload_n 2), (60, .invokevirtual 53), (63, .iconst (.ofNat 1)), (64, .ireturn), (65, .aload_n 0), (66, .aload_n 1), (67, .iload_n 2), (68, .invokevirtual 57), (71, .ireturn)]
/-- CommandBuses$Controller/giveGoesWell -/
def cd_36 : List (Nat × Instr) := [(0, .aload_n 0), (1, .getfield 11), (4, .aload_n 1), (5, .getfield 60), (8, .aaload), (9, .astore_n 3), (10, .aload_n 1), (11, .getfield 60), (14, .aload_n 1), (15, .getfield 63), (18, .aload_n 1), (19, .getfield 66), (22, .invokestatic 69), (25, .istore 4), (27, .aload_n 0), (28, .getfield 20), (31, .iload_n 2), (32, .iload 4), (34, .invokevirtual 75), (37, .ifCond .eq (.ofNat 16)), (40, .aload_n 3), (41, .iload 4), (43, .invokevirtual 79), (46, .ifCond .eq (.ofNat 7)), (49, .iconst (.ofNat 1)), (50, .goto (.ofNat 4)), (53, .iconst (.ofNat 0)), (54, .istore 5), (56, .aload_n 0), (57, .getfield 20), (60, .iload_n 2), (61, .aload_n 1), (62, .getfield 83), (65, .iconst (.ofNat 0)), (66, .aload_n 1), (67, .getfield 66), (70, .invokevirtual 87), (73, .istore 6), (75, .iload 5), (77, .ifCond .eq (.ofNat 29)), (80, .aload_n 3), (81, .iload 6), (83, .aload_n 1), (84, .getfield 63), (87, .aload_n 1), (88, .getfield 83), (91, .iconst (.ofNat 0)), (92, .aload_n 1), (93, .getfield 66), (96, .invokevirtual 91), (99, .ifCond .eq (.ofNat 7)), (102, .iconst (.ofNat 1)), (103, .goto (.ofNat 4)), (106, .iconst (.ofNat 0)), (107, .istore 7), (109, .iload 7), (111, .ifCond .eq (.ofNat 31)), (114, .aload_n 3), (115, .getfield 95), (118, .iload_n 2), (119, .baload), (120, .ifCond .ne (.ofNat 22)), (123, .aload_n 0), (124, .getfield 20), (127, .iload_n 2), (128, .aload_n 3), (129, .invokevirtual 99), (132, .invokevirtual 75), (135, .ifCond .eq (.ofNat 7)), (138, .iconst (.ofNat 1)), (139, .goto (.ofNat 4)), (142, .iconst (.ofNat 0)), (143, .ireturn)]
/-- CommandBuses$Controller/takeGoesWell -/
def cd_37 : List (Nat × Instr) := [(0, .aload_n 0), (1, .getfield 11), (4, .aload_n 1), (5, .getfield 60), (8, .aaload), (9, .astore_n 3), (10, .aload_n 1), (11, .getfield 63), (14, .invokestatic 103), (17, .istore 4), (19, .aload_n 1), (20, .getfield 60), (23, .aload_n 1), (24, .getfield 63), (27, .aload_n 1), (28, .getfield 66), (31, .invokestatic 107), (34, .istore 5), (36, .aload_n 0), (37, .getfield 20), (40, .iload_n 2), (41, .iload 5), (43, .invokevirtual 75), (46, .ifCond .eq (.ofNat 25)), (49, .aload_n 3), (50, .iload 5), (52, .invokevirtual 79), (55, .ifCond .eq (.ofNat 16)), (58, .aload_n 3), (59, .getfield 95), (62, .iload_n 2), (63, .baload), (64, .ifCond .ne (.ofNat 7)), (67, .iconst (.ofNat 1)), (68, .goto (.ofNat 4)), (71, .iconst (.ofNat 0)), (72, .istore 6), (74, .iload 6), (76, .ifCond .eq (.ofNat 22)), (79, .aload_n 0), (80, .getfield 20), (83, .iload_n 2), (84, .aload_n 3), (85, .invokevirtual 99), (88, .invokevirtual 75), (91, .ifCond .eq (.ofNat 7)), (94, .iconst (.ofNat 1)), (95, .goto (.ofNat 4)), (98, .iconst (.ofNat 0)), (99, .istore 7), (101, .iload 6), (103, .ifCond .eq (.ofNat 28)), (106, .aload_n 0), (107, .getfield 20), (110, .iload_n 2), (111, .aload_n 3), (112, .getfield 110), (115, .iload 4), (117, .aload_n 1), (118, .getfield 66), (121, .invokevirtual 87), (124, .ifCond .eq (.ofNat 7)), (127, .iconst (.ofNat 1)), (128, .goto (.ofNat 4)), (131, .iconst (.ofNat 0)), (132, .istore 8), (134, .iload 7), (136, .ifCond .eq (.ofNat 8)), (139, .iload 8), (141, .ifCond .ne (.ofNat 5)), (144, .iconst (.ofNat 0)), (145, .ireturn), (146, .aload_n 3), (147, .getfield 110), (150, .iload 4), (152, .aload_n 1), (153, .getfield 83), (156, .iconst (.ofNat 0)), (157, .aload_n 1), (158, .getfield 66), (161, .invokestatic 112), (164, .iconst (.ofNat 1)), (165, .ireturn)]
/-- CommandBuses$Controller/passGoesWell -/
def cd_38 : List (Nat × Instr) := [(0, .aload_n 0), (1, .getfield 11), (4, .aload_n 1), (5, .getfield 60), (8, .aaload), (9, .astore_n 3), (10, .aload_n 0), (11, .getfield 11), (14, .aload_n 1), (15, .getfield 118), (18, .aaload), (19, .astore 4), (21, .aload_n 1), (22, .getfield 63), (25, .invokestatic 103), (28, .istore 5), (30, .aload_n 1), (31, .getfield 118), (34, .aload_n 1), (35, .getfield 63), (38, .aload_n 1), (39, .getfield 66), (42, .invokestatic 69), (45, .istore 6), (47, .aload_n 1), (48, .getfield 60), (51, .aload_n 1), (52, .getfield 63), (55, .aload_n 1), (56, .getfield 66), (59, .invokestatic 107), (62, .istore 7), (64, .aload_n 0), (65, .getfield 20), (68, .iload_n 2), (69, .iload 6), (71, .invokevirtual 75), (74, .ifCond .eq (.ofNat 17)), (77, .aload 4), (79, .iload 6), (81, .invokevirtual 79), (84, .ifCond .eq (.ofNat 7)), (87, .iconst (.ofNat 1)), (88, .goto (.ofNat 4)), (91, .iconst (.ofNat 0)), (92, .istore 8), (94, .aload_n 0), (95, .getfield 20), (98, .iload_n 2), (99, .iload 7), (101, .invokevirtual 75), (104, .ifCond .eq (.ofNat 25)), (107, .aload_n 3), (108, .iload 7), (110, .invokevirtual 79), (113, .ifCond .eq (.ofNat 16)), (116, .aload_n 3), (117, .getfield 95), (120, .iload_n 2), (121, .baload), (122, .ifCond .ne (.ofNat 7)), (125, .iconst (.ofNat 1)), (126, .goto (.ofNat 4)), (129, .iconst (.ofNat 0)), (130, .istore 9), (132, .iload 9), (134, .ifCond .eq (.ofNat 22)), (137, .aload_n 0), (138, .getfield 20), (141, .iload_n 2), (142, .aload_n 3), (143, .invokevirtual 99), (146, .invokevirtual 75), (149, .ifCond .eq (.ofNat 7)), (152, .iconst (.ofNat 1)), (153, .goto (.ofNat 4)), (156, .iconst (.ofNat 0)), (157, .istore 10), (159, .iload 9), (161, .ifCond .eq (.ofNat 28)), (164, .aload_n 0), (165, .getfield 20), (168, .iload_n 2), (169, .aload_n 3), (170, .getfield 110), (173, .iload 5), (175, .aload_n 1), (176, .getfield 66), (179, .invokevirtual 87), (182, .ifCond .eq (.ofNat 7)), (185, .iconst (.ofNat 1)), (186, .goto (.ofNat 4)), (189, .iconst (.ofNat 0)), (190, .istore 11), (192, .iload 8), (194, .ifCond .eq (.ofNat 31)), (197, .aload 4), (199, .iload 11), (201, .aload_n 1), (202, .getfield 63), (205, .aload_n 3), (206, .getfield 110), (209, .iload 5), (211, .aload_n 1), (212, .getfield 66), (215, .invokevirtual 91), (218, .ifCond .eq (.ofNat 7)), (221, .iconst (.ofNat 1)), (222, .goto (.ofNat 4)), (225, .iconst (.ofNat 0)), (226, .istore 12), (228, .iload 12), (230, .ifCond .eq (.ofNat 33)), (233, .aload 4), (235, .getfield 95), (238, .iload_n 2), (239, .baload), (240, .ifCond .ne (.ofNat 23)), (243, .aload_n 0), (244, .getfield 20), (247, .iload_n 2), (248, .aload 4), (250, .invokevirtual 99), (253, .invokevirtual 75), (256, .ifCond .eq (.ofNat 7)), (259, .iconst (.ofNat 1)), (260, .goto (.ofNat 4)), (263, .iconst (.ofNat 0)), (264, .istore 13), (266, .iload 10), (268, .ifCond .eq (.ofNat 12)), (271, .iload 13), (273, .ifCond .eq (.ofNat 7)), (276, .iconst (.ofNat 1)), (277, .goto (.ofNat 4)), (280, .iconst (.ofNat 0)), (281, .ireturn)]
/-- CommandBuses$Controller/tellAll -/
def cd_39 : List (Nat × Instr) := [(0, .bipush (.ofNat 31)), (2, .aload_n 1), (3, .getfield 63), (6, .aload_n 1), (7, .getfield 66), (10, .invokestatic 69), (13, .istore_n 3), (14, .aload_n 0), (15, .getfield 20), (18, .iload_n 2), (19, .iload_n 3), (20, .invokevirtual 75), (23, .istore 4), (25, .aload_n 0), (26, .getfield 20), (29, .iload_n 2), (30, .aload_n 1), (31, .getfield 83), (34, .iconst (.ofNat 0)), (35, .aload_n 1), (36, .getfield 66), (39, .invokevirtual 87), (42, .istore 5), (44, .iconst (.ofNat 0)), (45, .istore 6), (47, .iload 6), (49, .bipush (.ofNat 6)), (51, .if_icmp .ge (.ofNat 57)), (54, .aload_n 0), (55, .getfield 11), (58, .iload 6), (60, .aaload), (61, .astore 7), (63, .iload 4), (65, .ifCond .eq (.ofNat 37)), (68, .aload 7), (70, .iload_n 3), (71, .invokevirtual 79), (74, .ifCond .eq (.ofNat 28)), (77, .aload 7), (79, .aload 7), (81, .iload 5), (83, .aload_n 1), (84, .getfield 63), (87, .aload_n 1), (88, .getfield 83), (91, .iconst (.ofNat 0)), (92, .aload_n 1), (93, .getfield 66), (96, .invokevirtual 91), (99, .putfield 121), (102, .iinc 6 (.ofNat 1)), (105, .goto (.negSucc 57)), (108, .return_)]
/-- CommandBuses$Controller/modeMessageGoesWell -/
def cd_40 : List (Nat × Instr) := [(0, .aload_n 0), (1, .getfield 11), (4, .aload_n 1), (5, .getfield 60), (8, .aaload), (9, .astore_n 3), (10, .aload_n 0), (11, .aload_n 3), (12, .aload_n 1), (13, .getfield 66), (16, .iload_n 2), (17, .invokevirtual 35), (20, .istore 4), (22, .iload 4), (24, .ifCond .eq (.ofNat 22)), (27, .aload_n 1), (28, .getfield 66), (31, .bipush (.ofNat 18)), (33, .if_icmp .ne (.ofNat 13)), (36, .aload_n 1), (37, .getfield 83), (40, .iconst (.ofNat 0)), (41, .aload_n 3), (42, .getfield 125), (45, .iastore), (46, .iload 4), (48, .ireturn)]
/-- CommandBuses$Wires/make -/
def cd_41 : List (Nat × Instr) := [(0, .aload_n 0), (1, .invokespecial 3), (4, .aload_n 0), (5, .new 9), (8, .dup), (9, .invokespecial 11), (12, .putfield 12), (15, .aload_n 0), (16, .iconst (.ofNat 2)), (17, .newarray .int), (19, .putfield 18), (22, .aload_n 0), (23, .iconst (.ofNat 2)), (24, .newarray .int), (26, .putfield 22), (29, .aload_n 0), (30, .getfield 18), (33, .iconst (.negSucc 0)), (34, .invokestatic 25), (37, .return_)]
/-- CommandBuses$Wires/arm -/
def cd_42 : List (Nat × Instr) := [(0, .aload_n 0), (1, .getfield 18), (4, .iload_n 1), (5, .iload_n 2), (6, .iastore), (7, .aload_n 0), (8, .getfield 22), (11, .iload_n 1), (12, .iload_n 3), (13, .iastore), (14, .return_)]
/-- CommandBuses$Wires/carry -/
def cd_43 : List (Nat × Instr) := [(0, .aload_n 0), (1, .iload_n 1), (2, .invokevirtual 31), (5, .istore_n 3), (6, .iload_n 3), (7, .ifCond .eq (.ofNat 8)), (10, .iload_n 3), (11, .iconst (.ofNat 2)), (12, .if_icmp .ne (.ofNat 5)), (15, .iconst (.ofNat 0)), (16, .ireturn), (17, .iload_n 3), (18, .iconst (.ofNat 1)), (19, .if_icmp .ne (.ofNat 8)), (22, .ldc 35), (24, .goto (.ofNat 4)), (27, .iconst (.ofNat 0)), (28, .istore 4), (30, .aload_n 0), (31, .getfield 12), (34, .iload_n 2), (35, .iload 4), (37, .iadd), (38, .iload_n 1), (39, .ldc 36), (41, .imul), (42, .iadd), (43, .invokevirtual 37), (46, .iload_n 3), (47, .iconst (.negSucc 0)), (48, .if_icmp .ne (.ofNat 7)), (51, .iconst (.ofNat 1)), (52, .goto (.ofNat 4)), (55, .iconst (.ofNat 0)), (56, .ireturn)]
/-- CommandBuses$Wires/nextHit -/
def cd_44 : List (Nat × Instr) := [(0, .aload_n 0), (1, .getfield 18), (4, .iload_n 1), (5, .iaload), (6, .istore_n 2), (7, .iload_n 2), (8, .iconst (.negSucc 0)), (9, .if_icmp .ne (.ofNat 5)), (12, .iconst (.negSucc 0)), (13, .ireturn), (14, .aload_n 0), (15, .getfield 22), (18, .iload_n 1), (19, .iaload), (20, .ifCond .le (.ofNat 15)), (23, .aload_n 0), (24, .getfield 22), (27, .iload_n 1), (28, .dup2), (29, .iaload), (30, .iconst (.ofNat 1)), (31, .isub), (32, .iastore), (33, .iconst (.negSucc 0)), (34, .ireturn), (35, .iload_n 2), (36, .iconst (.ofNat 2)), (37, .if_icmp .eq (.ofNat 10)), (40, .aload_n 0), (41, .getfield 18), (44, .iload_n 1), (45, .iconst (.negSucc 0)), (46, .iastore), (47, .iload_n 2), (48, .ireturn)]
/-- CommandBuses$Wires/carryData -/
def cd_45 : List (Nat × Instr) := [(0, .iconst (.ofNat 1)), (1, .istore 5), (3, .iconst (.ofNat 0)), (4, .istore 6), (6, .iload 6), (8, .iload 4), (10, .if_icmp .ge (.ofNat 42)), (13, .aload_n 0), (14, .iload_n 1), (15, .ldc 41), (17, .aload_n 2), (18, .iload_n 3), (19, .iload 6), (21, .iadd), (22, .iaload), (23, .iadd), (24, .invokevirtual 42), (27, .istore 7), (29, .iload 5), (31, .ifCond .eq (.ofNat 12)), (34, .iload 7), (36, .ifCond .eq (.ofNat 7)), (39, .iconst (.ofNat 1)), (40, .goto (.ofNat 4)), (43, .iconst (.ofNat 0)), (44, .istore 5), (46, .iinc 6 (.ofNat 1)), (49, .goto (.negSucc 42)), (52, .iload 5), (54, .ireturn)]
/-- CommandBuses$Monitor/make -/
def cd_46 : List (Nat × Instr) := [(0, .aload_n 0), (1, .invokespecial 3), (4, .aload_n 0), (5, .bipush (.ofNat 60)), (7, .newarray .int), (9, .putfield 11), (12, .return_)]
/-- CommandBuses$Monitor/write -/
def cd_47 : List (Nat × Instr) := [(0, .aload_n 0), (1, .getfield 11), (4, .aload_n 0), (5, .getfield 15), (8, .iload_n 1), (9, .iastore), (10, .aload_n 0), (11, .aload_n 0), (12, .getfield 15), (15, .iconst (.ofNat 1)), (16, .iadd), (17, .bipush (.ofNat 60)), (19, .irem), (20, .putfield 15), (23, .aload_n 0), (24, .dup), (25, .getfield 19), (28, .iconst (.ofNat 1)), (29, .iadd), (30, .putfield 19), (33, .return_)]
/-- CommandBuses$Monitor/latestBut -/
def cd_48 : List (Nat × Instr) := [(0, .iload_n 1), (1, .ifCond .lt (.ofNat 17)), (4, .iload_n 1), (5, .bipush (.ofNat 60)), (7, .if_icmp .ge (.ofNat 11)), (10, .iload_n 1), (11, .aload_n 0), (12, .getfield 19), (15, .if_icmp .lt (.ofNat 5)), (18, .iconst (.negSucc 0)), (19, .ireturn), (20, .aload_n 0), (21, .getfield 11), (24, .aload_n 0), (25, .getfield 15), (28, .bipush (.ofNat 60)), (30, .iadd), (31, .iconst (.ofNat 1)), (32, .isub), (33, .iload_n 1), (34, .isub), (35, .bipush (.ofNat 60)), (37, .irem), (38, .iaload), (39, .ireturn)]
/-- CommandBuses$Terminal/make -/
def cd_49 : List (Nat × Instr) := [(0, .aload_n 0), (1, .invokespecial 3), (4, .aload_n 0), (5, .iconst (.ofNat 1)), (6, .putfield 9), (9, .aload_n 0), (10, .iconst (.ofNat 2)), (11, .newarray .boolean), (13, .putfield 15), (16, .aload_n 0), (17, .bipush (.ofNat 12)), (19, .newarray .int), (21, .putfield 19), (24, .aload_n 0), (25, .bipush (.ofNat 12)), (27, .newarray .int), (29, .putfield 23), (32, .aload_n 0), (33, .bipush (.ofNat 12)), (35, .newarray .int), (37, .putfield 26), (40, .aload_n 0), (41, .iconst (.ofNat 3)), (42, .newarray .boolean), (44, .putfield 29), (47, .aload_n 0), (48, .iload_n 1), (49, .putfield 32), (52, .return_)]
/-- CommandBuses$Terminal/firstOf -/
def cd_50 : List (Nat × Instr) := [(0, .iload_n 0), (1, .iconst (.ofNat 1)), (2, .isub), (3, .iconst (.ofNat 4)), (4, .imul), (5, .ireturn)]
/-- CommandBuses$Terminal/sendDraft -/
def cd_51 : List (Nat × Instr) := [(0, .iload_n 1), (1, .invokestatic 42), (4, .istore_n 2), (5, .aload_n 0), (6, .getfield 19), (9, .iload_n 2), (10, .aload_n 0), (11, .getfield 23), (14, .iload_n 2), (15, .iconst (.ofNat 4)), (16, .invokestatic 46), (19, .return_)]
/-- CommandBuses$Terminal/valueReceived -/
def cd_52 : List (Nat × Instr) := [(0, .aload_n 0), (1, .getfield 29), (4, .iload_n 1), (5, .iconst (.ofNat 1)), (6, .isub), (7, .baload), (8, .ifCond .eq (.ofNat 17)), (11, .aload_n 0), (12, .getfield 26), (15, .iload_n 1), (16, .invokestatic 42), (19, .iload_n 2), (20, .iadd), (21, .iaload), (22, .goto (.ofNat 4)), (25, .iconst (.negSucc 0)), (26, .ireturn)]
/-- CommandBuses$Terminal/status -/
def cd_53 : List (Nat × Instr) := [(0, .aload_n 0), (1, .getfield 32), (4, .sipush (.ofNat 2048)), (7, .imul), (8, .aload_n 0), (9, .getfield 36), (12, .ifCond .eq (.ofNat 9)), (15, .sipush (.ofNat 1024)), (18, .goto (.ofNat 4)), (21, .iconst (.ofNat 0)), (22, .iadd), (23, .aload_n 0), (24, .getfield 39), (27, .ifCond .eq (.ofNat 8)), (30, .bipush (.ofNat 16)), (32, .goto (.ofNat 4)), (35, .iconst (.ofNat 0)), (36, .iadd), (37, .ireturn)]
/-- CommandBuses$Terminal/obeyMode -/
def cd_54 : List (Nat × Instr) := [(0, .aload_n 0), (1, .getfield 9), (4, .ifCond .ne (.ofNat 5)), (7, .iconst (.ofNat 0)), (8, .ireturn), (9, .iload_n 1), (10, .iconst (.ofNat 2)), (11, .if_icmp .eq (.ofNat 13)), (14, .iload_n 1), (15, .bipush (.ofNat 18)), (17, .if_icmp .eq (.ofNat 7)), (20, .aload_n 0), (21, .invokevirtual 52), (24, .iload_n 1), (25, .bipush (.ofNat 18)), (27, .if_icmp .eq (.ofNat 15)), (30, .aload_n 0), (31, .aload_n 0), (32, .getfield 32), (35, .iload_n 1), (36, .invokestatic 58), (39, .putfield 55), (42, .aload_n 0), (43, .iload_n 1), (44, .iconst (.ofNat 1)), (45, .iload_n 2), (46, .isub), (47, .invokevirtual 64), (50, .iconst (.ofNat 1)), (51, .ireturn)]
/-- CommandBuses$Terminal/clearMarks -/
def cd_55 : List (Nat × Instr) := [(0, .aload_n 0), (1, .iconst (.ofNat 0)), (2, .putfield 36), (5, .aload_n 0), (6, .iconst (.ofNat 0)), (7, .putfield 39), (10, .return_)]
/-- CommandBuses$Terminal/changeBy -/
def cd_56 : List (Nat × Instr) := [(0, .iload_n 1), (1, .iconst (.ofNat 1)), (2, .if_icmp .ne (.ofNat 16)), (5, .aload_n 0), (6, .dup), (7, .getfield 68), (10, .iconst (.ofNat 1)), (11, .iadd), (12, .putfield 68), (15, .goto (.ofNat 53)), (18, .iload_n 1), (19, .iconst (.ofNat 4)), (20, .if_icmp .ne (.ofNat 13)), (23, .aload_n 0), (24, .getfield 15), (27, .iload_n 2), (28, .iconst (.ofNat 1)), (29, .bastore), (30, .goto (.ofNat 38)), (33, .iload_n 1), (34, .iconst (.ofNat 5)), (35, .if_icmp .ne (.ofNat 13)), (38, .aload_n 0), (39, .getfield 15), (42, .iload_n 2), (43, .iconst (.ofNat 0)), (44, .bastore), (45, .goto (.ofNat 23)), (48, .iload_n 1), (49, .bipush (.ofNat 8)), (51, .if_icmp .ne (.ofNat 17)), (54, .aload_n 0), (55, .getfield 15), (58, .iconst (.ofNat 0)), (59, .iconst (.ofNat 0)), (60, .bastore), (61, .aload_n 0), (62, .getfield 15), (65, .iconst (.ofNat 1)), (66, .iconst (.ofNat 0)), (67, .bastore), (68, .return_)]
/-- CommandBuses$Terminal/obey -/
def cd_57 : List (Nat × Instr) := [(0, .aload_n 0), (1, .getfield 9), (4, .ifCond .ne (.ofNat 5)), (7, .iconst (.ofNat 0)), (8, .ireturn), (9, .aload_n 0), (10, .invokevirtual 52), (13, .aload_n 0), (14, .iload_n 1), (15, .putfield 55), (18, .iconst (.ofNat 1)), (19, .ireturn)]
/-- CommandBuses$Terminal/receive -/
def cd_58 : List (Nat × Instr) := [(0, .iload_n 1), (1, .ifCond .ne (.ofNat 10)), (4, .aload_n 0), (5, .iconst (.ofNat 1)), (6, .putfield 36), (9, .iconst (.ofNat 0)), (10, .ireturn), (11, .iload_n 2), (12, .invokestatic 42), (15, .istore 6), (17, .iconst (.ofNat 0)), (18, .istore 7), (20, .iload 7), (22, .iconst (.ofNat 4)), (23, .if_icmp .ge (.ofNat 37)), (26, .aload_n 0), (27, .getfield 26), (30, .iload 6), (32, .iload 7), (34, .iadd), (35, .iload 7), (37, .iload 5), (39, .if_icmp .ge (.ofNat 13)), (42, .aload_n 3), (43, .iload 4), (45, .iload 7), (47, .iadd), (48, .iaload), (49, .goto (.ofNat 4)), (52, .iconst (.ofNat 0)), (53, .iastore), (54, .iinc 7 (.ofNat 1)), (57, .goto (.negSucc 36)), (60, .aload_n 0), (61, .getfield 29), (64, .iload_n 2), (65, .iconst (.ofNat 1)), (66, .isub), (67, .iconst (.ofNat 1)), (68, .bastore), (69, .iconst (.ofNat 1)), (70, .ireturn)]
/-- CommandBuses$Table/make -/
def cd_59 : List (Nat × Instr) := [(0, .aload_n 0), (1, .invokespecial 3), (4, .aload_n 0), (5, .bipush (.ofNat 8)), (7, .anewarray 9), (10, .putfield 11), (13, .aload_n 0), (14, .iconst (.ofNat 4)), (15, .newarray .int), (17, .putfield 17), (20, .return_)]
/-- CommandBuses$Table/add -/
def cd_60 : List (Nat × Instr) := [(0, .aload_n 0), (1, .getfield 11), (4, .aload_n 0), (5, .getfield 21), (8, .aload_n 1), (9, .aastore), (10, .aload_n 0), (11, .dup), (12, .getfield 21), (15, .iconst (.ofNat 1)), (16, .iadd), (17, .putfield 21), (20, .aload_n 0), (21, .getfield 21), (24, .iconst (.ofNat 1)), (25, .isub), (26, .ireturn)]
/-- CommandBuses$Table/find -/
def cd_61 : List (Nat × Instr) := [(0, .iload_n 1), (1, .ifCond .lt (.ofNat 20)), (4, .iload_n 1), (5, .aload_n 0), (6, .getfield 21), (9, .if_icmp .ge (.ofNat 12)), (12, .aload_n 0), (13, .getfield 11), (16, .iload_n 1), (17, .aaload), (18, .goto (.ofNat 4)), (21, .aconst_null), (22, .areturn)]
/-- CommandBuses$Table/fillFrames -/
def cd_62 : List (Nat × Instr) := [(0, .aload_n 0), (1, .getfield 17), (4, .iconst (.ofNat 0)), (5, .invokestatic 28), (8, .iconst (.ofNat 0)), (9, .istore_n 1), (10, .iload_n 1), (11, .aload_n 0), (12, .getfield 21), (15, .if_icmp .ge (.ofNat 30)), (18, .aload_n 0), (19, .getfield 11), (22, .iload_n 1), (23, .aaload), (24, .astore_n 2), (25, .aload_n 2), (26, .aload_n 0), (27, .aload_n 2), (28, .invokevirtual 34), (31, .putfield 38), (34, .aload_n 0), (35, .aload_n 2), (36, .invokevirtual 41), (39, .iinc 1 (.ofNat 1)), (42, .goto (.negSucc 31)), (45, .iconst (.ofNat 0)), (46, .istore_n 1), (47, .iconst (.ofNat 0)), (48, .istore_n 2), (49, .iload_n 2), (50, .iconst (.ofNat 4)), (51, .if_icmp .ge (.ofNat 20)), (54, .iload_n 1), (55, .aload_n 0), (56, .getfield 17), (59, .iload_n 2), (60, .iaload), (61, .invokestatic 45), (64, .istore_n 1), (65, .iinc 2 (.ofNat 1)), (68, .goto (.negSucc 18)), (71, .iload_n 1), (72, .ireturn)]
/-- CommandBuses$Table/bestPhase -/
def cd_63 : List (Nat × Instr) := [(0, .iconst (.ofNat 0)), (1, .istore_n 2), (2, .iconst (.ofNat 1)), (3, .istore_n 3), (4, .iload_n 3), (5, .aload_n 1), (6, .getfield 51), (9, .if_icmp .ge (.ofNat 26)), (12, .aload_n 0), (13, .aload_n 1), (14, .iload_n 3), (15, .invokevirtual 54), (18, .aload_n 0), (19, .aload_n 1), (20, .iload_n 2), (21, .invokevirtual 54), (24, .if_icmp .ge (.ofNat 5)), (27, .iload_n 3), (28, .istore_n 2), (29, .iinc 3 (.ofNat 1)), (32, .goto (.negSucc 27)), (35, .iload_n 2), (36, .ireturn)]
/-- CommandBuses$Table/greatestLoad -/
def cd_64 : List (Nat × Instr) := [(0, .iconst (.ofNat 0)), (1, .istore_n 3), (2, .iconst (.ofNat 0)), (3, .istore 4), (5, .iload 4), (7, .iconst (.ofNat 4)), (8, .if_icmp .ge (.ofNat 31)), (11, .aload_n 1), (12, .iload_n 2), (13, .iload 4), (15, .invokevirtual 58), (18, .ifCond .eq (.ofNat 15)), (21, .iload_n 3), (22, .aload_n 0), (23, .getfield 17), (26, .iload 4), (28, .iaload), (29, .invokestatic 45), (32, .istore_n 3), (33, .iinc 4 (.ofNat 1)), (36, .goto (.negSucc 30)), (39, .iload_n 3), (40, .ireturn)]
/-- CommandBuses$Table/addLength -/
def cd_65 : List (Nat × Instr) := [(0, .aload_n 1), (1, .invokevirtual 62), (4, .istore_n 2), (5, .iconst (.ofNat 0)), (6, .istore_n 3), (7, .iload_n 3), (8, .iconst (.ofNat 4)), (9, .if_icmp .ge (.ofNat 27)), (12, .aload_n 1), (13, .iload_n 3), (14, .invokevirtual 66), (17, .ifCond .eq (.ofNat 13)), (20, .aload_n 0), (21, .getfield 17), (24, .iload_n 3), (25, .dup2), (26, .iaload), (27, .iload_n 2), (28, .iadd), (29, .iastore), (30, .iinc 3 (.ofNat 1)), (33, .goto (.negSucc 25)), (36, .return_)]
/-- CommandBuses$Table/takeFrame -/
def cd_66 : List (Nat × Instr) := [(0, .aload_n 0), (1, .getfield 25), (4, .istore_n 1), (5, .aload_n 0), (6, .aload_n 0), (7, .getfield 25), (10, .iconst (.ofNat 1)), (11, .iadd), (12, .iconst (.ofNat 4)), (13, .irem), (14, .putfield 25), (17, .iload_n 1), (18, .ireturn)]
/-- CommandBuses$Roster/make -/
def cd_67 : List (Nat × Instr) := [(0, .aload_n 0), (1, .invokespecial 3), (4, .aload_n 0), (5, .bipush (.ofNat 6)), (7, .newarray .int), (9, .putfield 9), (12, .aload_n 0), (13, .bipush (.ofNat 6)), (15, .newarray .boolean), (17, .putfield 15), (20, .aload_n 0), (21, .bipush (.ofNat 6)), (23, .newarray .boolean), (25, .putfield 19), (28, .aload_n 0), (29, .bipush (.ofNat 6)), (31, .newarray .boolean), (33, .putfield 22), (36, .return_)]
/-- CommandBuses$Roster/takeBack -/
def cd_68 : List (Nat × Instr) := [(0, .aload_n 0), (1, .getfield 15), (4, .iload_n 1), (5, .iconst (.ofNat 0)), (6, .bastore), (7, .aload_n 0), (8, .getfield 9), (11, .iload_n 1), (12, .iconst (.ofNat 0)), (13, .iastore), (14, .return_)]
/-- CommandBuses$Roster/hasDropped -/
def cd_69 : List (Nat × Instr) := [(0, .iconst (.ofNat 0)), (1, .istore_n 2), (2, .iload_n 2), (3, .bipush (.ofNat 6)), (5, .if_icmp .ge (.ofNat 28)), (8, .aload_n 0), (9, .getfield 15), (12, .iload_n 2), (13, .baload), (14, .ifCond .eq (.ofNat 13)), (17, .aload_n 1), (18, .iload_n 2), (19, .invokevirtual 25), (22, .ifCond .eq (.ofNat 5)), (25, .iconst (.ofNat 1)), (26, .ireturn), (27, .iinc 2 (.ofNat 1)), (30, .goto (.negSucc 27)), (33, .iconst (.ofNat 0)), (34, .ireturn)]
/-- CommandBuses$Roster/note -/
def cd_70 : List (Nat × Instr) := [(0, .iconst (.ofNat 0)), (1, .istore_n 2), (2, .iload_n 2), (3, .bipush (.ofNat 6)), (5, .if_icmp .ge (.ofNat 52)), (8, .aload_n 1), (9, .iload_n 2), (10, .invokevirtual 25), (13, .ifCond .eq (.ofNat 38)), (16, .aload_n 0), (17, .getfield 19), (20, .iload_n 2), (21, .iconst (.ofNat 1)), (22, .bastore), (23, .aload_n 0), (24, .getfield 22), (27, .iload_n 2), (28, .aload_n 0), (29, .getfield 22), (32, .iload_n 2), (33, .baload), (34, .ifCond .ne (.ofNat 11)), (37, .aload_n 1), (38, .getfield 31), (41, .iconst (.ofNat 4)), (42, .if_icmp .ne (.ofNat 7)), (45, .iconst (.ofNat 1)), (46, .goto (.ofNat 4)), (49, .iconst (.ofNat 0)), (50, .bastore), (51, .iinc 2 (.ofNat 1)), (54, .goto (.negSucc 51)), (57, .return_)]
/-- CommandBuses$Roster/endFrame -/
def cd_71 : List (Nat × Instr) := [(0, .iconst (.ofNat 0)), (1, .istore_n 1), (2, .iload_n 1), (3, .bipush (.ofNat 6)), (5, .if_icmp .ge (.ofNat 80)), (8, .aload_n 0), (9, .getfield 19), (12, .iload_n 1), (13, .baload), (14, .ifCond .eq (.ofNat 51)), (17, .aload_n 0), (18, .getfield 9), (21, .iload_n 1), (22, .aload_n 0), (23, .getfield 22), (26, .iload_n 1), (27, .baload), (28, .ifCond .eq (.ofNat 14)), (31, .aload_n 0), (32, .getfield 9), (35, .iload_n 1), (36, .iaload), (37, .iconst (.ofNat 1)), (38, .iadd), (39, .goto (.ofNat 4)), (42, .iconst (.ofNat 0)), (43, .iastore), (44, .aload_n 0), (45, .getfield 15), (48, .iload_n 1), (49, .aload_n 0), (50, .getfield 9), (53, .iload_n 1), (54, .iaload), (55, .iconst (.ofNat 3)), (56, .if_icmp .ne (.ofNat 7)), (59, .iconst (.ofNat 1)), (60, .goto (.ofNat 4)), (63, .iconst (.ofNat 0)), (64, .bastore), (65, .aload_n 0), (66, .getfield 19), (69, .iload_n 1), (70, .iconst (.ofNat 0)), (71, .bastore), (72, .aload_n 0), (73, .getfield 22), (76, .iload_n 1), (77, .iconst (.ofNat 0)), (78, .bastore), (79, .iinc 1 (.ofNat 1)), (82, .goto (.negSucc 79)), (85, .return_)]
/-- CommandBuses$Message/make -/
def cd_72 : List (Nat × Instr) := [(0, .aload_n 0), (1, .invokespecial 3), (4, .aload_n 0), (5, .iconst (.ofNat 4)), (6, .newarray .int), (8, .putfield 9), (11, .aload_n 0), (12, .iload_n 1), (13, .putfield 15), (16, .aload_n 0), (17, .iload_n 2), (18, .putfield 19), (21, .aload_n 0), (22, .iload_n 3), (23, .putfield 22), (26, .aload_n 0), (27, .iload 4), (29, .putfield 25), (32, .aload_n 0), (33, .iload 5), (35, .putfield 28), (38, .aload_n 0), (39, .iload 6), (41, .putfield 31), (44, .return_)]
/-- CommandBuses$Message/isAt -/
def cd_73 : List (Nat × Instr) := [(0, .iload_n 2), (1, .aload_n 0), (2, .getfield 31), (5, .iconst (.ofNat 1)), (6, .isub), (7, .iand), (8, .iload_n 1), (9, .if_icmp .ne (.ofNat 7)), (12, .iconst (.ofNat 1)), (13, .goto (.ofNat 4)), (16, .iconst (.ofNat 0)), (17, .ireturn)]
/-- CommandBuses$Message/length -/
def cd_74 : List (Nat × Instr) := [(0, .aload_n 0), (1, .invokevirtual 41), (4, .istore_n 1), (5, .aload_n 0), (6, .invokevirtual 45), (9, .aload_n 0), (10, .invokevirtual 48), (13, .iadd), (14, .iload_n 1), (15, .iadd), (16, .istore_n 2), (17, .iconst (.ofNat 3)), (18, .bipush (.ofNat 20)), (20, .iload_n 2), (21, .imul), (22, .bipush (.ofNat 10)), (24, .iload_n 1), (25, .imul), (26, .iadd), (27, .imul), (28, .ireturn)]
/-- CommandBuses$Message/statuses -/
def cd_75 : List (Nat × Instr) := [(0, .aload_n 0), (1, .getfield 15), (4, .iconst (.ofNat 3)), (5, .if_icmp .ne (.ofNat 5)), (8, .iconst (.ofNat 0)), (9, .ireturn), (10, .aload_n 0), (11, .getfield 15), (14, .iconst (.ofNat 2)), (15, .if_icmp .ne (.ofNat 7)), (18, .iconst (.ofNat 2)), (19, .goto (.ofNat 4)), (22, .iconst (.ofNat 1)), (23, .ireturn)]
/-- CommandBuses$Message/commands -/
def cd_76 : List (Nat × Instr) := [(0, .aload_n 0), (1, .getfield 15), (4, .iconst (.ofNat 2)), (5, .if_icmp .ne (.ofNat 7)), (8, .iconst (.ofNat 2)), (9, .goto (.ofNat 4)), (12, .iconst (.ofNat 1)), (13, .ireturn)]
/-- CommandBuses$Message/dataWords -/
def cd_77 : List (Nat × Instr) := [(0, .aload_n 0), (1, .getfield 15), (4, .iconst (.ofNat 4)), (5, .if_icmp .eq (.ofNat 8)), (8, .aload_n 0), (9, .getfield 28), (12, .ireturn), (13, .aload_n 0), (14, .getfield 28), (17, .bipush (.ofNat 18)), (19, .if_icmp .ne (.ofNat 7)), (22, .iconst (.ofNat 1)), (23, .goto (.ofNat 4)), (26, .iconst (.ofNat 0)), (27, .ireturn)]
/-- CommandBuses$Message/isIn -/
def cd_78 : List (Nat × Instr) := [(0, .aload_n 0), (1, .aload_n 0), (2, .getfield 34), (5, .iload_n 1), (6, .invokevirtual 37), (9, .ireturn)]
/-- CommandBuses$Message/isFor -/
def cd_79 : List (Nat × Instr) := [(0, .aload_n 0), (1, .getfield 15), (4, .iconst (.ofNat 3)), (5, .if_icmp .ne (.ofNat 5)), (8, .iconst (.ofNat 0)), (9, .ireturn), (10, .iload_n 1), (11, .aload_n 0), (12, .getfield 19), (15, .if_icmp .eq (.ofNat 19)), (18, .aload_n 0), (19, .getfield 15), (22, .iconst (.ofNat 2)), (23, .if_icmp .ne (.ofNat 15)), (26, .iload_n 1), (27, .aload_n 0), (28, .getfield 22), (31, .if_icmp .ne (.ofNat 7)), (34, .iconst (.ofNat 1)), (35, .goto (.ofNat 4)), (38, .iconst (.ofNat 0)), (39, .ireturn)]
/-- CommandBusesModel/make -/
def cd_80 : List (Nat × Instr) := [(0, .aload_n 0), (1, .invokespecial 1), (4, .aload_n 0), (5, .iconst (.ofNat 2)), (6, .newarray .boolean), (8, .putfield 7), (11, .aload_n 0), (12, .iconst (.ofNat 2)), (13, .newarray .int), (15, .putfield 13), (18, .aload_n 0), (19, .iconst (.ofNat 2)), (20, .newarray .int), (22, .putfield 17), (25, .aload_n 0), (26, .bipush (.ofNat 60)), (28, .newarray .int), (30, .putfield 20), (33, .aload_n 0), (34, .bipush (.ofNat 6)), (36, .newarray .boolean), (38, .putfield 23), (41, .aload_n 0), (42, .bipush (.ofNat 72)), (44, .newarray .int), (46, .putfield 26), (49, .aload_n 0), (50, .bipush (.ofNat 72)), (52, .newarray .int), (54, .putfield 29), (57, .aload_n 0), (58, .bipush (.ofNat 72)), (60, .newarray .int), (62, .putfield 32), (65, .aload_n 0), (66, .bipush (.ofNat 18)), (68, .newarray .boolean), (70, .putfield 35), (73, .aload_n 0), (74, .bipush (.ofNat 6)), (76, .newarray .boolean), (78, .putfield 38), (81, .aload_n 0), (82, .bipush (.ofNat 6)), (84, .newarray .boolean), (86, .putfield 41), (89, .aload_n 0), (90, .bipush (.ofNat 6)), (92, .newarray .int), (94, .putfield 44), (97, .aload_n 0), (98, .bipush (.ofNat 6)), (100, .newarray .int), (102, .putfield 47), (105, .aload_n 0), (106, .bipush (.ofNat 12)), (108, .newarray .boolean), (110, .putfield 50), (113, .aload_n 0), (114, .bipush (.ofNat 6)), (116, .newarray .int), (118, .putfield 53), (121, .aload_n 0), (122, .bipush (.ofNat 6)), (124, .newarray .boolean), (126, .putfield 56), (129, .aload_n 0), (130, .bipush (.ofNat 8)), (132, .newarray .int), (134, .putfield 59), (137, .aload_n 0), (138, .bipush (.ofNat 8)), (140, .newarray .int), (142, .putfield 62), (145, .aload_n 0), (146, .bipush (.ofNat 8)), (148, .newarray .int), (150, .putfield 65), (153, .aload_n 0), (154, .bipush (.ofNat 8)), (156, .newarray .int), (158, .putfield 68), (161, .aload_n 0), (162, .bipush (.ofNat 8)), (164, .newarray .int), (166, .putfield 71), (169, .aload_n 0), (170, .bipush (.ofNat 8)), (172, .newarray .int), (174, .putfield 74), (177, .aload_n 0), (178, .bipush (.ofNat 8)), (180, .newarray .int), (182, .putfield 77), (185, .aload_n 0), (186, .bipush (.ofNat 32)), (188, .newarray .int), (190, .putfield 80), (193, .aload_n 0), (194, .bipush (.ofNat 8)), (196, .newarray .int), (198, .putfield 83), (201, .aload_n 0), (202, .iconst (.ofNat 4)), (203, .newarray .int), (205, .putfield 86), (208, .aload_n 0), (209, .iconst (.ofNat 4)), (210, .newarray .int), (212, .putfield 89), (215, .aload_n 0), (216, .bipush (.ofNat 6)), (218, .newarray .int), (220, .putfield 92), (223, .return_)]
/-- CommandBusesModel/encode -/
def cd_81 : List (Nat × Instr) := [(0, .iload_n 2), (1, .invokestatic 100), (4, .ifCond .ne (.ofNat 7)), (7, .ldc2_w 103), (10, .lreturn), (11, .iload_n 1), (12, .ifCond .eq (.ofNat 9)), (15, .ldc2_w 105), (18, .goto (.ofNat 6)), (21, .ldc2_w 107), (24, .lstore_n 3), (25, .iconst (.ofNat 0)), (26, .istore 5), (28, .bipush (.ofNat 15)), (30, .istore 6), (32, .iload 6), (34, .ifCond .lt (.ofNat 44)), (37, .iload_n 2), (38, .iload 6), (40, .ishr), (41, .iconst (.ofNat 1)), (42, .iand), (43, .istore 7), (45, .iload 5), (47, .iload 7), (49, .iadd), (50, .istore 5), (52, .ldc2_w 109), (55, .lload_n 3), (56, .lmul), (57, .iload 7), (59, .iconst (.ofNat 1)), (60, .if_icmp .ne (.ofNat 9)), (63, .ldc2_w 111), (66, .goto (.ofNat 4)), (69, .lconst 1), (70, .ladd), (71, .lstore_n 3), (72, .iinc 6 (.negSucc 0)), (75, .goto (.negSucc 42)), (78, .ldc2_w 109), (81, .lload_n 3), (82, .lmul), (83, .iload 5), (85, .iconst (.ofNat 2)), (86, .irem), (87, .ifCond .ne (.ofNat 9)), (90, .ldc2_w 111), (93, .goto (.ofNat 4)), (96, .lconst 1), (97, .ladd), (98, .lreturn)]
/-- CommandBusesModel/isValue -/
def cd_82 : List (Nat × Instr) := [(0, .iload_n 0), (1, .ifCond .lt (.ofNat 13)), (4, .iload_n 0), (5, .ldc 99), (7, .if_icmp .gt (.ofNat 7)), (10, .iconst (.ofNat 1)), (11, .goto (.ofNat 4)), (14, .iconst (.ofNat 0)), (15, .ireturn)]
/-- CommandBusesModel/decode -/
def cd_83 : List (Nat × Instr) := [(0, .lload_n 1), (1, .lconst 0), (2, .lcmp), (3, .ifCond .lt (.ofNat 11)), (6, .lload_n 1), (7, .ldc2_w 113), (10, .lcmp), (11, .ifCond .le (.ofNat 5)), (14, .iconst (.negSucc 0)), (15, .ireturn), (16, .lload_n 1), (17, .bipush (.ofNat 34)), (19, .lshr), (20, .l2i), (21, .istore_n 3), (22, .iload_n 3), (23, .bipush (.ofNat 7)), (25, .if_icmp .eq (.ofNat 12)), (28, .iload_n 3), (29, .bipush (.ofNat 56)), (31, .if_icmp .eq (.ofNat 6)), (34, .bipush (.negSucc 2)), (36, .ireturn), (37, .iconst (.ofNat 0)), (38, .istore 4), (40, .iconst (.ofNat 0)), (41, .istore 5), (43, .iconst (.ofNat 0)), (44, .istore 6), (46, .bipush (.ofNat 16)), (48, .istore 7), (50, .iload 7), (52, .ifCond .lt (.ofNat 84)), (55, .lload_n 1), (56, .iconst (.ofNat 2)), (57, .iload 7), (59, .imul), (60, .lshr), (61, .ldc2_w 115), (64, .land), (65, .l2i), (66, .istore 8), (68, .iload 6), (70, .ifCond .ne (.ofNat 14)), (73, .iload 8), (75, .ifCond .eq (.ofNat 9)), (78, .iload 8), (80, .iconst (.ofNat 3)), (81, .if_icmp .ne (.ofNat 7)), (84, .iconst (.ofNat 1)), (85, .goto (.ofNat 4)), (88, .iconst (.ofNat 0)), (89, .istore 6), (91, .iload 8), (93, .iconst (.ofNat 2)), (94, .if_icmp .ne (.ofNat 7)), (97, .iconst (.ofNat 1)), (98, .goto (.ofNat 4)), (101, .iconst (.ofNat 0)), (102, .istore 9), (104, .iload 5), (106, .iload 9), (108, .iadd), (109, .istore 5), (111, .iload 7), (113, .ifCond .le (.ofNat 13)), (116, .iconst (.ofNat 2)), (117, .iload 4), (119, .imul), (120, .iload 9), (122, .iadd), (123, .goto (.ofNat 5)), (126, .iload 4), (128, .istore 4), (130, .iinc 7 (.negSucc 0)), (133, .goto (.negSucc 82)), (136, .iload 6), (138, .ifCond .eq (.ofNat 6)), (141, .bipush (.negSucc 3)), (143, .ireturn), (144, .iload 5), (146, .iconst (.ofNat 2)), (147, .irem), (148, .ifCond .ne (.ofNat 8)), (151, .bipush (.negSucc 4)), (153, .goto (.ofNat 19)), (156, .iload_n 3), (157, .bipush (.ofNat 7)), (159, .if_icmp .ne (.ofNat 11)), (162, .ldc 117), (164, .iload 4), (166, .iadd), (167, .goto (.ofNat 5)), (170, .iload 4), (172, .ireturn)]
/-- CommandBusesModel/live -/
def cd_84 : List (Nat × Instr) := [(0, .iload_n 1), (1, .invokestatic 95), (4, .ifCond .ne (.ofNat 5)), (7, .iconst (.ofNat 0)), (8, .ireturn), (9, .aload_n 0), (10, .getfield 23), (13, .iload_n 1), (14, .iload_n 2), (15, .ifCond .ne (.ofNat 7)), (18, .iconst (.ofNat 1)), (19, .goto (.ofNat 4)), (22, .iconst (.ofNat 0)), (23, .bastore), (24, .iconst (.ofNat 1)), (25, .ireturn)]
/-- CommandBusesModel/isTerminal -/
def cd_85 : List (Nat × Instr) := [(0, .iload_n 0), (1, .ifCond .lt (.ofNat 13)), (4, .iload_n 0), (5, .bipush (.ofNat 6)), (7, .if_icmp .ge (.ofNat 7)), (10, .iconst (.ofNat 1)), (11, .goto (.ofNat 4)), (14, .iconst (.ofNat 0)), (15, .ireturn)]
/-- CommandBusesModel/draft -/
def cd_86 : List (Nat × Instr) := [(0, .iload_n 1), (1, .iload_n 2), (2, .invokestatic 124), (5, .ifCond .eq (.ofNat 18)), (8, .iload_n 3), (9, .invokestatic 128), (12, .ifCond .eq (.ofNat 11)), (15, .iload 4), (17, .invokestatic 100), (20, .ifCond .ne (.ofNat 5)), (23, .iconst (.ofNat 0)), (24, .ireturn), (25, .aload_n 0), (26, .getfield 26), (29, .iload_n 1), (30, .iload_n 2), (31, .invokestatic 131), (34, .iload_n 3), (35, .iadd), (36, .iload 4), (38, .iastore), (39, .iconst (.ofNat 1)), (40, .ireturn)]
/-- CommandBusesModel/isPlace -/
def cd_87 : List (Nat × Instr) := [(0, .iload_n 0), (1, .invokestatic 95), (4, .ifCond .eq (.ofNat 17)), (7, .iload_n 1), (8, .iconst (.ofNat 1)), (9, .if_icmp .lt (.ofNat 12)), (12, .iload_n 1), (13, .iconst (.ofNat 3)), (14, .if_icmp .gt (.ofNat 7)), (17, .iconst (.ofNat 1)), (18, .goto (.ofNat 4)), (21, .iconst (.ofNat 0)), (22, .ireturn)]
/-- CommandBusesModel/isIndex -/
def cd_88 : List (Nat × Instr) := [(0, .iload_n 0), (1, .ifCond .lt (.ofNat 12)), (4, .iload_n 0), (5, .iconst (.ofNat 4)), (6, .if_icmp .ge (.ofNat 7)), (9, .iconst (.ofNat 1)), (10, .goto (.ofNat 4)), (13, .iconst (.ofNat 0)), (14, .ireturn)]
/-- CommandBusesModel/place -/
def cd_89 : List (Nat × Instr) := [(0, .bipush (.ofNat 12)), (2, .iload_n 0), (3, .imul), (4, .iconst (.ofNat 4)), (5, .iload_n 1), (6, .iconst (.ofNat 1)), (7, .isub), (8, .imul), (9, .iadd), (10, .ireturn)]
/-- CommandBusesModel/publish -/
def cd_90 : List (Nat × Instr) := [(0, .iload_n 1), (1, .iload_n 2), (2, .invokestatic 124), (5, .ifCond .ne (.ofNat 5)), (8, .iconst (.ofNat 0)), (9, .ireturn), (10, .iload_n 1), (11, .iload_n 2), (12, .invokestatic 131), (15, .istore_n 3), (16, .iconst (.ofNat 0)), (17, .istore 4), (19, .iload 4), (21, .iconst (.ofNat 4)), (22, .if_icmp .ge (.ofNat 27)), (25, .aload_n 0), (26, .getfield 29), (29, .iload_n 3), (30, .iload 4), (32, .iadd), (33, .aload_n 0), (34, .getfield 26), (37, .iload_n 3), (38, .iload 4), (40, .iadd), (41, .iaload), (42, .iastore), (43, .iinc 4 (.ofNat 1)), (46, .goto (.negSucc 26)), (49, .iconst (.ofNat 1)), (50, .ireturn)]
/-- CommandBusesModel/received -/
def cd_91 : List (Nat × Instr) := [(0, .iload_n 1), (1, .iload_n 2), (2, .invokestatic 124), (5, .ifCond .eq (.ofNat 25)), (8, .iload_n 3), (9, .invokestatic 128), (12, .ifCond .eq (.ofNat 18)), (15, .aload_n 0), (16, .getfield 35), (19, .iconst (.ofNat 3)), (20, .iload_n 1), (21, .imul), (22, .iload_n 2), (23, .iadd), (24, .iconst (.ofNat 1)), (25, .isub), (26, .baload), (27, .ifCond .ne (.ofNat 5)), (30, .iconst (.negSucc 0)), (31, .ireturn), (32, .aload_n 0), (33, .getfield 32), (36, .iload_n 1), (37, .iload_n 2), (38, .invokestatic 131), (41, .iload_n 3), (42, .iadd), (43, .iaload), (44, .ireturn)]
/-- CommandBusesModel/terminal -/
def cd_92 : List (Nat × Instr) := [(0, .iload_n 1), (1, .invokestatic 95), (4, .ifCond .ne (.ofNat 5)), (7, .iconst (.negSucc 0)), (8, .ireturn), (9, .iload_n 2), (10, .tableswitch (.ofNat 120) (.ofNat 0) (.ofNat 6) #[(.ofNat 42), (.ofNat 48), (.ofNat 55), (.ofNat 62), (.ofNat 79), (.ofNat 98), (.ofNat 105)]), (52, .aload_n 0), (53, .iload_n 1), (54, .invokevirtual 135), (57, .ireturn), (58, .aload_n 0), (59, .getfield 44), (62, .iload_n 1), (63, .iaload), (64, .ireturn), (65, .aload_n 0), (66, .getfield 47), (69, .iload_n 1), (70, .iaload), (71, .ireturn), (72, .aload_n 0), (73, .getfield 50), (76, .iconst (.ofNat 2)), (77, .iload_n 1), (78, .imul), (79, .baload), (80, .ifCond .eq (.ofNat 7)), (83, .iconst (.ofNat 1)), (84, .goto (.ofNat 4)), (87, .iconst (.ofNat 0)), (88, .ireturn), (89, .aload_n 0), (90, .getfield 50), (93, .iconst (.ofNat 2)), (94, .iload_n 1), (95, .imul), (96, .iconst (.ofNat 1)), (97, .iadd), (98, .baload), (99, .ifCond .eq (.ofNat 7)), (102, .iconst (.ofNat 1)), (103, .goto (.ofNat 4)), (106, .iconst (.ofNat 0)), (107, .ireturn), (108, .aload_n 0), (109, .getfield 53), (112, .iload_n 1), (113, .iaload), (114, .ireturn), (115, .aload_n 0), (116, .getfield 56), (119, .iload_n 1), (120, .baload), (121, .ifCond .eq (.ofNat 7)), (124, .iconst (.ofNat 1)), (125, .goto (.ofNat 4)), (128, .iconst (.ofNat 0)), (129, .ireturn), (130, .iconst (.negSucc 0)), (131, .ireturn)]
/-- CommandBusesModel/statusOf -/
def cd_93 : List (Nat × Instr) := [(0, .sipush (.ofNat 2048)), (3, .iload_n 1), (4, .imul), (5, .aload_n 0), (6, .getfield 38), (9, .iload_n 1), (10, .baload), (11, .ifCond .eq (.ofNat 9)), (14, .sipush (.ofNat 1024)), (17, .goto (.ofNat 4)), (20, .iconst (.ofNat 0)), (21, .iadd), (22, .aload_n 0), (23, .getfield 41), (26, .iload_n 1), (27, .baload), (28, .ifCond .eq (.ofNat 8)), (31, .bipush (.ofNat 16)), (33, .goto (.ofNat 4)), (36, .iconst (.ofNat 0)), (37, .iadd), (38, .ireturn)]
/-- CommandBusesModel/message -/
def cd_94 : List (Nat × Instr) := [(0, .aload_n 0), (1, .getfield 188), (4, .ifCond .eq (.ofNat 6)), (7, .bipush (.negSucc 5)), (9, .ireturn), (10, .iload_n 1), (11, .ifCond .lt (.ofNat 59)), (14, .iload_n 1), (15, .iconst (.ofNat 4)), (16, .if_icmp .gt (.ofNat 54)), (19, .iload 6), (21, .iconst (.ofNat 1)), (22, .if_icmp .eq (.ofNat 15)), (25, .iload 6), (27, .iconst (.ofNat 2)), (28, .if_icmp .eq (.ofNat 9)), (31, .iload 6), (33, .iconst (.ofNat 4)), (34, .if_icmp .ne (.ofNat 36)), (37, .iload_n 1), (38, .iconst (.ofNat 3)), (39, .if_icmp .eq (.ofNat 10)), (42, .iload_n 2), (43, .invokestatic 95), (46, .ifCond .eq (.ofNat 24)), (49, .iload_n 1), (50, .iconst (.ofNat 2)), (51, .if_icmp .ne (.ofNat 15)), (54, .iload_n 3), (55, .invokestatic 95), (58, .ifCond .eq (.ofNat 12)), (61, .iload_n 2), (62, .iload_n 3), (63, .if_icmp .eq (.ofNat 7)), (66, .iconst (.ofNat 1)), (67, .goto (.ofNat 4)), (70, .iconst (.ofNat 0)), (71, .istore 7), (73, .iload 7), (75, .ifCond .eq (.ofNat 47)), (78, .iload_n 1), (79, .iconst (.ofNat 4)), (80, .if_icmp .ne (.ofNat 14)), (83, .iload 5), (85, .invokestatic 192), (88, .ifCond .eq (.ofNat 34)), (91, .goto (.ofNat 27)), (94, .iload 4), (96, .iconst (.ofNat 1)), (97, .if_icmp .lt (.ofNat 25)), (100, .iload 4), (102, .iconst (.ofNat 3)), (103, .if_icmp .gt (.ofNat 19)), (106, .iload 5), (108, .iconst (.ofNat 1)), (109, .if_icmp .lt (.ofNat 13)), (112, .iload 5), (114, .iconst (.ofNat 4)), (115, .if_icmp .gt (.ofNat 7)), (118, .iconst (.ofNat 1)), (119, .goto (.ofNat 4)), (122, .iconst (.ofNat 0)), (123, .istore 7), (125, .iload 7), (127, .ifCond .ne (.ofNat 5)), (130, .iconst (.negSucc 0)), (131, .ireturn), (132, .aload_n 0), (133, .getfield 195), (136, .bipush (.ofNat 8)), (138, .if_icmp .ne (.ofNat 6)), (141, .bipush (.negSucc 1)), (143, .ireturn), (144, .aload_n 0), (145, .getfield 59), (148, .aload_n 0), (149, .getfield 195), (152, .iload_n 1), (153, .iastore), (154, .aload_n 0), (155, .getfield 62), (158, .aload_n 0), (159, .getfield 195), (162, .iload_n 2), (163, .iastore), (164, .aload_n 0), (165, .getfield 65), (168, .aload_n 0), (169, .getfield 195), (172, .iload_n 3), (173, .iastore), (174, .aload_n 0), (175, .getfield 68), (178, .aload_n 0), (179, .getfield 195), (182, .iload 4), (184, .iastore), (185, .aload_n 0), (186, .getfield 71), (189, .aload_n 0), (190, .getfield 195), (193, .iload 5), (195, .iastore), (196, .aload_n 0), (197, .getfield 74), (200, .aload_n 0), (201, .getfield 195), (204, .iload 6), (206, .iastore), (207, .aload_n 0), (208, .getfield 83), (211, .aload_n 0), (212, .getfield 195), (215, .iconst (.ofNat 0)), (216, .iastore), (217, .aload_n 0), (218, .dup), (219, .getfield 195), (222, .iconst (.ofNat 1)), (223, .iadd), (224, .putfield 195), (227, .aload_n 0), (228, .getfield 195), (231, .iconst (.ofNat 1)), (232, .isub), (233, .ireturn)]
/-- CommandBusesModel/isCode -/
def cd_95 : List (Nat × Instr) := [(0, .iload_n 0), (1, .iconst (.ofNat 1)), (2, .if_icmp .eq (.ofNat 30)), (5, .iload_n 0), (6, .iconst (.ofNat 2)), (7, .if_icmp .eq (.ofNat 25)), (10, .iload_n 0), (11, .iconst (.ofNat 4)), (12, .if_icmp .eq (.ofNat 20)), (15, .iload_n 0), (16, .iconst (.ofNat 5)), (17, .if_icmp .eq (.ofNat 15)), (20, .iload_n 0), (21, .bipush (.ofNat 8)), (23, .if_icmp .eq (.ofNat 9)), (26, .iload_n 0), (27, .bipush (.ofNat 18)), (29, .if_icmp .ne (.ofNat 7)), (32, .iconst (.ofNat 1)), (33, .goto (.ofNat 4)), (36, .iconst (.ofNat 0)), (37, .ireturn)]
/-- CommandBusesModel/give -/
def cd_96 : List (Nat × Instr) := [(0, .aload_n 0), (1, .iload_n 1), (2, .invokevirtual 198), (5, .ifCond .eq (.ofNat 17)), (8, .iload_n 2), (9, .invokestatic 128), (12, .ifCond .eq (.ofNat 10)), (15, .iload_n 3), (16, .invokestatic 100), (19, .ifCond .ne (.ofNat 5)), (22, .iconst (.ofNat 0)), (23, .ireturn), (24, .aload_n 0), (25, .getfield 80), (28, .iconst (.ofNat 4)), (29, .iload_n 1), (30, .imul), (31, .iload_n 2), (32, .iadd), (33, .iload_n 3), (34, .iastore), (35, .iconst (.ofNat 1)), (36, .ireturn)]
/-- CommandBusesModel/isMessage -/
def cd_97 : List (Nat × Instr) := [(0, .iload_n 1), (1, .ifCond .lt (.ofNat 15)), (4, .iload_n 1), (5, .aload_n 0), (6, .getfield 195), (9, .if_icmp .ge (.ofNat 7)), (12, .iconst (.ofNat 1)), (13, .goto (.ofNat 4)), (16, .iconst (.ofNat 0)), (17, .ireturn)]
/-- CommandBusesModel/taken -/
def cd_98 : List (Nat × Instr) := [(0, .aload_n 0), (1, .iload_n 1), (2, .invokevirtual 198), (5, .ifCond .eq (.ofNat 23)), (8, .iload_n 2), (9, .invokestatic 128), (12, .ifCond .eq (.ofNat 16)), (15, .aload_n 0), (16, .getfield 80), (19, .iconst (.ofNat 4)), (20, .iload_n 1), (21, .imul), (22, .iload_n 2), (23, .iadd), (24, .iaload), (25, .goto (.ofNat 4)), (28, .iconst (.negSucc 0)), (29, .ireturn)]
/-- CommandBusesModel/seal -/
def cd_99 : List (Nat × Instr) := [(0, .aload_n 0), (1, .getfield 188), (4, .ifCond .eq (.ofNat 6)), (7, .bipush (.negSucc 5)), (9, .ireturn), (10, .iload_n 1), (11, .ifCond .ge (.ofNat 5)), (14, .iconst (.negSucc 0)), (15, .ireturn), (16, .iconst (.ofNat 0)), (17, .istore_n 2), (18, .iload_n 2), (19, .aload_n 0), (20, .getfield 195), (23, .if_icmp .ge (.ofNat 85)), (26, .iconst (.ofNat 0)), (27, .istore_n 3), (28, .aload_n 0), (29, .iload_n 2), (30, .iconst (.ofNat 0)), (31, .invokevirtual 210), (34, .istore 4), (36, .iconst (.ofNat 1)), (37, .istore 5), (39, .iload 5), (41, .aload_n 0), (42, .getfield 74), (45, .iload_n 2), (46, .iaload), (47, .if_icmp .ge (.ofNat 48)), (50, .aload_n 0), (51, .iload_n 2), (52, .iload 5), (54, .invokevirtual 210), (57, .istore 6), (59, .iload 6), (61, .iload 4), (63, .if_icmp .ge (.ofNat 8)), (66, .iload 5), (68, .goto (.ofNat 4)), (71, .iload_n 3), (72, .istore_n 3), (73, .iload 6), (75, .iload 4), (77, .if_icmp .ge (.ofNat 8)), (80, .iload 6), (82, .goto (.ofNat 5)), (85, .iload 4), (87, .istore 4), (89, .iinc 5 (.ofNat 1)), (92, .goto (.negSucc 52)), (95, .aload_n 0), (96, .getfield 77), (99, .iload_n 2), (100, .iload_n 3), (101, .iastore), (102, .iinc 2 (.ofNat 1)), (105, .goto (.negSucc 86)), (108, .iconst (.ofNat 0)), (109, .istore_n 2), (110, .iconst (.ofNat 0)), (111, .istore_n 3), (112, .iload_n 3), (113, .iconst (.ofNat 4)), (114, .if_icmp .ge (.ofNat 33)), (117, .aload_n 0), (118, .iload_n 3), (119, .aload_n 0), (120, .getfield 195), (123, .invokevirtual 207), (126, .istore 4), (128, .iload 4), (130, .iload_n 2), (131, .if_icmp .le (.ofNat 8)), (134, .iload 4), (136, .goto (.ofNat 4)), (139, .iload_n 2), (140, .istore_n 2), (141, .iinc 3 (.ofNat 1)), (144, .goto (.negSucc 31)), (147, .iload_n 2), (148, .iload_n 1), (149, .if_icmp .le (.ofNat 6)), (152, .bipush (.negSucc 1)), (154, .ireturn), (155, .iconst (.ofNat 0)), (156, .istore_n 3), (157, .iload_n 3), (158, .iconst (.ofNat 4)), (159, .if_icmp .ge (.ofNat 24)), (162, .aload_n 0), (163, .getfield 86), (166, .iload_n 3), (167, .aload_n 0), (168, .iload_n 3), (169, .aload_n 0), (170, .getfield 195), (173, .invokevirtual 207), (176, .iastore), (177, .iinc 3 (.ofNat 1)), (180, .goto (.negSucc 22)), (183, .aload_n 0), (184, .iconst (.ofNat 1)), (185, .putfield 188), (188, .aload_n 0), (189, .iconst (.ofNat 0)), (190, .putfield 213), (193, .iload_n 2), (194, .ireturn)]
/-- CommandBusesModel/worst -/
def cd_100 : List (Nat × Instr) := [(0, .aload_n 0), (1, .getfield 77), (4, .iload_n 1), (5, .iload_n 2), (6, .iastore), (7, .iconst (.ofNat 0)), (8, .istore_n 3), (9, .iload_n 2), (10, .istore 4), (12, .iload 4), (14, .iconst (.ofNat 4)), (15, .if_icmp .ge (.ofNat 41)), (18, .aload_n 0), (19, .iload 4), (21, .iload_n 1), (22, .iconst (.ofNat 1)), (23, .iadd), (24, .invokevirtual 207), (27, .istore 5), (29, .iload 5), (31, .iload_n 3), (32, .if_icmp .le (.ofNat 8)), (35, .iload 5), (37, .goto (.ofNat 4)), (40, .iload_n 3), (41, .istore_n 3), (42, .iload 4), (44, .aload_n 0), (45, .getfield 74), (48, .iload_n 1), (49, .iaload), (50, .iadd), (51, .istore 4), (53, .goto (.negSucc 40)), (56, .iload_n 3), (57, .ireturn)]
/-- CommandBusesModel/loadOf -/
def cd_101 : List (Nat × Instr) := [(0, .iconst (.ofNat 0)), (1, .istore_n 3), (2, .iconst (.ofNat 0)), (3, .istore 4), (5, .iload 4), (7, .iload_n 2), (8, .if_icmp .ge (.ofNat 32)), (11, .iload_n 3), (12, .aload_n 0), (13, .iload 4), (15, .iload_n 1), (16, .invokevirtual 201), (19, .ifCond .eq (.ofNat 12)), (22, .aload_n 0), (23, .iload 4), (25, .invokevirtual 204), (28, .goto (.ofNat 4)), (31, .iconst (.ofNat 0)), (32, .iadd), (33, .istore_n 3), (34, .iinc 4 (.ofNat 1)), (37, .goto (.negSucc 31)), (40, .iload_n 3), (41, .ireturn)]
/-- CommandBusesModel/isIn -/
def cd_102 : List (Nat × Instr) := [(0, .iload_n 2), (1, .aload_n 0), (2, .getfield 74), (5, .iload_n 1), (6, .iaload), (7, .irem), (8, .aload_n 0), (9, .getfield 77), (12, .iload_n 1), (13, .iaload), (14, .if_icmp .ne (.ofNat 7)), (17, .iconst (.ofNat 1)), (18, .goto (.ofNat 4)), (21, .iconst (.ofNat 0)), (22, .ireturn)]
/-- CommandBusesModel/lengthOf -/
def cd_103 : List (Nat × Instr) := [(0, .aload_n 0), (1, .getfield 71), (4, .iload_n 1), (5, .iaload), (6, .istore_n 2), (7, .aload_n 0), (8, .getfield 59), (11, .iload_n 1), (12, .iaload), (13, .tableswitch (.ofNat 62) (.ofNat 0) (.ofNat 3) #[(.ofNat 31), (.ofNat 31), (.ofNat 43), (.ofNat 55)]), (44, .iconst (.ofNat 3)), (45, .bipush (.ofNat 20)), (47, .iload_n 2), (48, .iconst (.ofNat 2)), (49, .iadd), (50, .imul), (51, .bipush (.ofNat 10)), (53, .iadd), (54, .imul), (55, .ireturn), (56, .iconst (.ofNat 3)), (57, .bipush (.ofNat 20)), (59, .iload_n 2), (60, .iconst (.ofNat 4)), (61, .iadd), (62, .imul), (63, .bipush (.ofNat 20)), (65, .iadd), (66, .imul), (67, .ireturn), (68, .bipush (.ofNat 60)), (70, .iload_n 2), (71, .iconst (.ofNat 1)), (72, .iadd), (73, .imul), (74, .ireturn), (75, .iconst (.ofNat 3)), (76, .bipush (.ofNat 20)), (78, .iload_n 2), (79, .bipush (.ofNat 18)), (81, .if_icmp .ne (.ofNat 7)), (84, .iconst (.ofNat 3)), (85, .goto (.ofNat 4)), (88, .iconst (.ofNat 2)), (89, .imul), (90, .bipush (.ofNat 10)), (92, .iadd), (93, .imul), (94, .ireturn)]
/-- CommandBusesModel/opn -/
def cd_104 : List (Nat × Instr) := [(0, .aload_n 0), (1, .getfield 188), (4, .istore_n 1), (5, .aload_n 0), (6, .iconst (.ofNat 0)), (7, .putfield 188), (10, .iload_n 1), (11, .ireturn)]
/-- CommandBusesModel/load -/
def cd_105 : List (Nat × Instr) := [(0, .aload_n 0), (1, .getfield 188), (4, .ifCond .eq (.ofNat 21)), (7, .iload_n 1), (8, .ifCond .lt (.ofNat 17)), (11, .iload_n 1), (12, .iconst (.ofNat 4)), (13, .if_icmp .ge (.ofNat 12)), (16, .aload_n 0), (17, .getfield 86), (20, .iload_n 1), (21, .iaload), (22, .goto (.ofNat 4)), (25, .iconst (.negSucc 0)), (26, .ireturn)]
/-- CommandBusesModel/fault -/
def cd_106 : List (Nat × Instr) := [(0, .iload_n 1), (1, .ifCond .lt (.ofNat 28)), (4, .iload_n 1), (5, .iconst (.ofNat 1)), (6, .if_icmp .gt (.ofNat 23)), (9, .iload_n 2), (10, .ifCond .lt (.ofNat 19)), (13, .iload_n 2), (14, .iconst (.ofNat 2)), (15, .if_icmp .gt (.ofNat 14)), (18, .iload_n 3), (19, .ifCond .lt (.ofNat 10)), (22, .iload_n 3), (23, .sipush (.ofNat 1000)), (26, .if_icmp .le (.ofNat 5)), (29, .iconst (.ofNat 0)), (30, .ireturn), (31, .aload_n 0), (32, .getfield 7), (35, .iload_n 1), (36, .iconst (.ofNat 1)), (37, .bastore), (38, .aload_n 0), (39, .getfield 13), (42, .iload_n 1), (43, .iload_n 2), (44, .iastore), (45, .aload_n 0), (46, .getfield 17), (49, .iload_n 1), (50, .iload_n 3), (51, .iastore), (52, .iconst (.ofNat 1)), (53, .ireturn)]
/-- CommandBusesModel/run -/
def cd_107 : List (Nat × Instr) := [(0, .aload_n 0), (1, .getfield 188), (4, .ifCond .ne (.ofNat 5)), (7, .iconst (.negSucc 0)), (8, .ireturn), (9, .aload_n 0), (10, .getfield 213), (13, .ifCond .ne (.ofNat 7)), (16, .aload_n 0), (17, .invokevirtual 219), (20, .iconst (.ofNat 0)), (21, .istore_n 1), (22, .iload_n 1), (23, .bipush (.ofNat 6)), (25, .if_icmp .ge (.ofNat 16)), (28, .aload_n 0), (29, .getfield 92), (32, .iload_n 1), (33, .iconst (.ofNat 0)), (34, .iastore), (35, .iinc 1 (.ofNat 1)), (38, .goto (.negSucc 15)), (41, .iconst (.ofNat 0)), (42, .istore_n 1), (43, .iconst (.ofNat 0)), (44, .istore_n 2), (45, .iload_n 2), (46, .aload_n 0), (47, .getfield 195), (50, .if_icmp .ge (.ofNat 57)), (53, .aload_n 0), (54, .iload_n 2), (55, .aload_n 0), (56, .getfield 213), (59, .invokevirtual 201), (62, .ifCond .eq (.ofNat 39)), (65, .aload_n 0), (66, .iload_n 2), (67, .invokevirtual 222), (70, .ifCond .ne (.ofNat 31)), (73, .aload_n 0), (74, .iload_n 2), (75, .invokevirtual 225), (78, .aload_n 0), (79, .iload_n 2), (80, .invokevirtual 229), (83, .iload_n 1), (84, .aload_n 0), (85, .getfield 83), (88, .iload_n 2), (89, .iaload), (90, .iconst (.ofNat 4)), (91, .if_icmp .ge (.ofNat 7)), (94, .iconst (.ofNat 1)), (95, .goto (.ofNat 4)), (98, .iconst (.ofNat 0)), (99, .iadd), (100, .istore_n 1), (101, .iinc 2 (.ofNat 1)), (104, .goto (.negSucc 58)), (107, .iconst (.ofNat 0)), (108, .istore_n 2), (109, .iload_n 2), (110, .bipush (.ofNat 6)), (112, .if_icmp .ge (.ofNat 86)), (115, .aload_n 0), (116, .getfield 53), (119, .iload_n 2), (120, .aload_n 0), (121, .getfield 92), (124, .iload_n 2), (125, .iaload), (126, .iconst (.ofNat 2)), (127, .if_icmp .ne (.ofNat 14)), (130, .aload_n 0), (131, .getfield 53), (134, .iload_n 2), (135, .iaload), (136, .iconst (.ofNat 1)), (137, .iadd), (138, .goto (.ofNat 23)), (141, .aload_n 0), (142, .getfield 92), (145, .iload_n 2), (146, .iaload), (147, .iconst (.ofNat 1)), (148, .if_icmp .ne (.ofNat 7)), (151, .iconst (.ofNat 0)), (152, .goto (.ofNat 9)), (155, .aload_n 0), (156, .getfield 53), (159, .iload_n 2), (160, .iaload), (161, .iastore), (162, .aload_n 0), (163, .getfield 56), (166, .iload_n 2), (167, .aload_n 0), (168, .getfield 56), (171, .iload_n 2), (172, .baload), (173, .ifCond .ne (.ofNat 13)), (176, .aload_n 0), (177, .getfield 53), (180, .iload_n 2), (181, .iaload), (182, .iconst (.ofNat 3)), (183, .if_icmp .lt (.ofNat 7)), (186, .iconst (.ofNat 1)), (187, .goto (.ofNat 4)), (190, .iconst (.ofNat 0)), (191, .bastore), (192, .iinc 2 (.ofNat 1)), (195, .goto (.negSucc 85)), (198, .aload_n 0), (199, .aload_n 0), (200, .getfield 213), (203, .iconst (.ofNat 1)), (204, .iadd), (205, .iconst (.ofNat 4)), (206, .irem), (207, .putfield 213), (210, .iload_n 1), (211, .ireturn)]
/-- CommandBusesModel/poll -/
def cd_108 : List (Nat × Instr) := [(0, .iconst (.ofNat 0)), (1, .istore_n 1), (2, .iload_n 1), (3, .bipush (.ofNat 6)), (5, .if_icmp .ge (.ofNat 46)), (8, .aload_n 0), (9, .getfield 56), (12, .iload_n 1), (13, .baload), (14, .ifCond .eq (.ofNat 31)), (17, .aload_n 0), (18, .iconst (.negSucc 0)), (19, .iload_n 1), (20, .iconst (.ofNat 2)), (21, .aload_n 0), (22, .getfield 182), (25, .invokevirtual 160), (28, .ifCond .eq (.ofNat 17)), (31, .aload_n 0), (32, .getfield 56), (35, .iload_n 1), (36, .iconst (.ofNat 0)), (37, .bastore), (38, .aload_n 0), (39, .getfield 53), (42, .iload_n 1), (43, .iconst (.ofNat 0)), (44, .iastore), (45, .iinc 1 (.ofNat 1)), (48, .goto (.negSucc 45)), (51, .return_)]
/-- CommandBusesModel/commands -/
def cd_109 : List (Nat × Instr) := [(0, .iload_n 2), (1, .iconst (.ofNat 1)), (2, .iconst (.ofNat 0)), (3, .iload_n 3), (4, .invokestatic 167), (7, .istore 5), (9, .aload_n 0), (10, .iload 4), (12, .iconst (.ofNat 0)), (13, .iload 5), (15, .invokevirtual 139), (18, .istore 6), (20, .iload_n 3), (21, .iconst (.ofNat 2)), (22, .if_icmp .eq (.ofNat 9)), (25, .iload_n 3), (26, .bipush (.ofNat 18)), (28, .if_icmp .ne (.ofNat 7)), (31, .iconst (.ofNat 1)), (32, .goto (.ofNat 4)), (35, .iconst (.ofNat 0)), (36, .istore 7), (38, .aload_n 0), (39, .iload_n 2), (40, .iload 6), (42, .iload 5), (44, .iload 7), (46, .iload_n 3), (47, .bipush (.ofNat 18)), (49, .if_icmp .ne (.ofNat 7)), (52, .iconst (.ofNat 1)), (53, .goto (.ofNat 4)), (56, .iconst (.ofNat 0)), (57, .invokevirtual 171), (60, .ifCond .ne (.ofNat 5)), (63, .iconst (.ofNat 0)), (64, .ireturn), (65, .iload_n 3), (66, .iconst (.ofNat 1)), (67, .if_icmp .ne (.ofNat 13)), (70, .aload_n 0), (71, .getfield 47), (74, .iload_n 2), (75, .dup2), (76, .iaload), (77, .iconst (.ofNat 1)), (78, .iadd), (79, .iastore), (80, .iload_n 3), (81, .iconst (.ofNat 4)), (82, .if_icmp .eq (.ofNat 8)), (85, .iload_n 3), (86, .iconst (.ofNat 5)), (87, .if_icmp .ne (.ofNat 26)), (90, .aload_n 0), (91, .getfield 50), (94, .iconst (.ofNat 2)), (95, .iload_n 2), (96, .imul), (97, .iconst (.ofNat 1)), (98, .iadd), (99, .iload 4), (101, .isub), (102, .iload_n 3), (103, .iconst (.ofNat 4)), (104, .if_icmp .ne (.ofNat 7)), (107, .iconst (.ofNat 1)), (108, .goto (.ofNat 4)), (111, .iconst (.ofNat 0)), (112, .bastore), (113, .iload_n 3), (114, .bipush (.ofNat 8)), (116, .if_icmp .ne (.ofNat 23)), (119, .aload_n 0), (120, .getfield 50), (123, .iconst (.ofNat 2)), (124, .iload_n 2), (125, .imul), (126, .iconst (.ofNat 0)), (127, .bastore), (128, .aload_n 0), (129, .getfield 50), (132, .iconst (.ofNat 2)), (133, .iload_n 2), (134, .imul), (135, .iconst (.ofNat 1)), (136, .iadd), (137, .iconst (.ofNat 0)), (138, .bastore), (139, .aload_n 0), (140, .iload_n 2), (141, .iload 4), (143, .invokevirtual 150), (146, .iconst (.ofNat 1)), (147, .if_icmp .ne (.ofNat 7)), (150, .iconst (.ofNat 1)), (151, .goto (.ofNat 4)), (154, .iconst (.ofNat 0)), (155, .istore 8), (157, .iload_n 3), (158, .bipush (.ofNat 18)), (160, .if_icmp .ne (.ofNat 56)), (163, .aload_n 0), (164, .iload_n 2), (165, .iload 4), (167, .iconst (.ofNat 1)), (168, .aload_n 0), (169, .getfield 44), (172, .iload_n 2), (173, .iaload), (174, .invokevirtual 143), (177, .iconst (.ofNat 1)), (178, .if_icmp .ne (.ofNat 12)), (181, .iload 8), (183, .ifCond .eq (.ofNat 7)), (186, .iconst (.ofNat 1)), (187, .goto (.ofNat 4)), (190, .iconst (.ofNat 0)), (191, .istore 8), (193, .iload 8), (195, .ifCond .eq (.ofNat 21)), (198, .iload_n 1), (199, .ifCond .lt (.ofNat 17)), (202, .aload_n 0), (203, .getfield 80), (206, .iconst (.ofNat 4)), (207, .iload_n 1), (208, .imul), (209, .aload_n 0), (210, .getfield 44), (213, .iload_n 2), (214, .iaload), (215, .iastore), (216, .iload 8), (218, .ireturn)]
/-- CommandBusesModel/command -/
def cd_110 : List (Nat × Instr) := [(0, .sipush (.ofNat 2048)), (3, .iload_n 0), (4, .imul), (5, .sipush (.ofNat 1024)), (8, .iload_n 1), (9, .imul), (10, .iadd), (11, .bipush (.ofNat 32)), (13, .iload_n 2), (14, .imul), (15, .iadd), (16, .iload_n 3), (17, .iadd), (18, .ireturn)]
/-- CommandBusesModel/put -/
def cd_111 : List (Nat × Instr) := [(0, .aload_n 0), (1, .getfield 7), (4, .iload_n 1), (5, .baload), (6, .ifCond .eq (.ofNat 16)), (9, .aload_n 0), (10, .getfield 17), (13, .iload_n 1), (14, .iaload), (15, .ifCond .ne (.ofNat 7)), (18, .iconst (.ofNat 1)), (19, .goto (.ofNat 4)), (22, .iconst (.ofNat 0)), (23, .istore 4), (25, .iload 4), (27, .ifCond .eq (.ofNat 17)), (30, .aload_n 0), (31, .getfield 13), (34, .iload_n 1), (35, .iaload), (36, .iconst (.ofNat 2)), (37, .if_icmp .ne (.ofNat 7)), (40, .iconst (.ofNat 1)), (41, .goto (.ofNat 4)), (44, .iconst (.ofNat 0)), (45, .istore 5), (47, .iload 5), (49, .ifCond .ne (.ofNat 13)), (52, .aload_n 0), (53, .getfield 17), (56, .iload_n 1), (57, .dup2), (58, .iaload), (59, .iconst (.ofNat 1)), (60, .isub), (61, .iastore), (62, .iload 4), (64, .ifCond .eq (.ofNat 15)), (67, .iload 5), (69, .ifCond .ne (.ofNat 10)), (72, .aload_n 0), (73, .getfield 7), (76, .iload_n 1), (77, .iconst (.ofNat 0)), (78, .bastore), (79, .iload 4), (81, .ifCond .eq (.ofNat 15)), (84, .aload_n 0), (85, .getfield 13), (88, .iload_n 1), (89, .iaload), (90, .iconst (.ofNat 1)), (91, .if_icmp .eq (.ofNat 5)), (94, .iconst (.ofNat 0)), (95, .ireturn), (96, .aload_n 0), (97, .getfield 20), (100, .aload_n 0), (101, .getfield 118), (104, .bipush (.ofNat 60)), (106, .irem), (107, .iload_n 3), (108, .iload_n 2), (109, .ifCond .eq (.ofNat 8)), (112, .ldc 117), (114, .goto (.ofNat 4)), (117, .iconst (.ofNat 0)), (118, .iadd), (119, .iload 4), (121, .ifCond .eq (.ofNat 8)), (124, .ldc 122), (126, .goto (.ofNat 4)), (129, .iconst (.ofNat 0)), (130, .iadd), (131, .iload_n 1), (132, .iconst (.ofNat 1)), (133, .if_icmp .ne (.ofNat 8)), (136, .ldc 123), (138, .goto (.ofNat 4)), (141, .iconst (.ofNat 0)), (142, .iadd), (143, .iastore), (144, .aload_n 0), (145, .dup), (146, .getfield 118), (149, .iconst (.ofNat 1)), (150, .iadd), (151, .putfield 118), (154, .iload 4), (156, .ifCond .eq (.ofNat 7)), (159, .iconst (.ofNat 2)), (160, .goto (.ofNat 4)), (163, .iconst (.ofNat 1)), (164, .ireturn)]
/-- CommandBusesModel/hears -/
def cd_112 : List (Nat × Instr) := [(0, .iload_n 2), (1, .iconst (.ofNat 1)), (2, .if_icmp .ne (.ofNat 12)), (5, .aload_n 0), (6, .getfield 23), (9, .iload_n 1), (10, .baload), (11, .ifCond .eq (.ofNat 5)), (14, .iconst (.ofNat 0)), (15, .ireturn), (16, .iload 4), (18, .ifCond .ne (.ofNat 17)), (21, .aload_n 0), (22, .getfield 38), (25, .iload_n 1), (26, .iconst (.ofNat 0)), (27, .bastore), (28, .aload_n 0), (29, .getfield 41), (32, .iload_n 1), (33, .iconst (.ofNat 0)), (34, .bastore), (35, .iload 5), (37, .ifCond .ne (.ofNat 10)), (40, .aload_n 0), (41, .getfield 44), (44, .iload_n 1), (45, .iload_n 3), (46, .iastore), (47, .iconst (.ofNat 1)), (48, .ireturn)]
/-- CommandBusesModel/saysStatus -/
def cd_113 : List (Nat × Instr) := [(0, .aload_n 0), (1, .iload_n 1), (2, .iload_n 2), (3, .iconst (.ofNat 0)), (4, .aload_n 0), (5, .iload_n 1), (6, .invokevirtual 135), (9, .invokevirtual 143), (12, .ireturn)]
/-- CommandBusesModel/says -/
def cd_114 : List (Nat × Instr) := [(0, .aload_n 0), (1, .getfield 50), (4, .iconst (.ofNat 2)), (5, .iload_n 1), (6, .imul), (7, .iload_n 2), (8, .iadd), (9, .baload), (10, .ifCond .eq (.ofNat 7)), (13, .iconst (.ofNat 0)), (14, .goto (.ofNat 11)), (17, .aload_n 0), (18, .iload_n 2), (19, .iload_n 3), (20, .iload 4), (22, .invokevirtual 139), (25, .ireturn)]
/-- CommandBusesModel/isAside -/
def cd_115 : List (Nat × Instr) := [(0, .iconst (.ofNat 0)), (1, .istore_n 2), (2, .iconst (.ofNat 0)), (3, .istore_n 3), (4, .iload_n 3), (5, .bipush (.ofNat 6)), (7, .if_icmp .ge (.ofNat 37)), (10, .iload_n 2), (11, .ifCond .ne (.ofNat 21)), (14, .aload_n 0), (15, .getfield 56), (18, .iload_n 3), (19, .baload), (20, .ifCond .eq (.ofNat 16)), (23, .aload_n 0), (24, .iload_n 1), (25, .iload_n 3), (26, .invokevirtual 216), (29, .ifCond .eq (.ofNat 7)), (32, .iconst (.ofNat 1)), (33, .goto (.ofNat 4)), (36, .iconst (.ofNat 0)), (37, .istore_n 2), (38, .iinc 3 (.ofNat 1)), (41, .goto (.negSucc 36)), (44, .iload_n 2), (45, .ireturn)]
/-- CommandBusesModel/isOf -/
def cd_116 : List (Nat × Instr) := [(0, .aload_n 0), (1, .getfield 59), (4, .iload_n 1), (5, .iaload), (6, .iconst (.ofNat 3)), (7, .if_icmp .eq (.ofNat 37)), (10, .aload_n 0), (11, .getfield 62), (14, .iload_n 1), (15, .iaload), (16, .iload_n 2), (17, .if_icmp .eq (.ofNat 23)), (20, .aload_n 0), (21, .getfield 59), (24, .iload_n 1), (25, .iaload), (26, .iconst (.ofNat 2)), (27, .if_icmp .ne (.ofNat 17)), (30, .aload_n 0), (31, .getfield 65), (34, .iload_n 1), (35, .iaload), (36, .iload_n 2), (37, .if_icmp .ne (.ofNat 7)), (40, .iconst (.ofNat 1)), (41, .goto (.ofNat 4)), (44, .iconst (.ofNat 0)), (45, .ireturn)]
/-- CommandBusesModel/does -/
def cd_117 : List (Nat × Instr) := [(0, .iconst (.ofNat 4)), (1, .istore_n 2), (2, .iconst (.ofNat 1)), (3, .istore_n 3), (4, .iload_n 3), (5, .iconst (.ofNat 3)), (6, .if_icmp .gt (.ofNat 50)), (9, .iload_n 2), (10, .iconst (.ofNat 4)), (11, .if_icmp .ne (.ofNat 45)), (14, .iload_n 3), (15, .iconst (.ofNat 3)), (16, .if_icmp .ge (.ofNat 10)), (19, .aload_n 0), (20, .getfield 182), (23, .goto (.ofNat 9)), (26, .iconst (.ofNat 1)), (27, .aload_n 0), (28, .getfield 182), (31, .isub), (32, .istore 4), (34, .aload_n 0), (35, .iload_n 1), (36, .iload 4), (38, .invokevirtual 185), (41, .ifCond .eq (.ofNat 7)), (44, .iload_n 3), (45, .goto (.ofNat 4)), (48, .iconst (.ofNat 4)), (49, .istore_n 2), (50, .iinc 3 (.ofNat 1)), (53, .goto (.negSucc 48)), (56, .iload_n 2), (57, .iconst (.ofNat 3)), (58, .if_icmp .ne (.ofNat 13)), (61, .aload_n 0), (62, .iconst (.ofNat 1)), (63, .aload_n 0), (64, .getfield 182), (67, .isub), (68, .putfield 182), (71, .aload_n 0), (72, .getfield 83), (75, .iload_n 1), (76, .iload_n 2), (77, .iastore), (78, .return_)]
/-- CommandBusesModel/attempt -/
def cd_118 : List (Nat × Instr) := [(0, .aload_n 0), (1, .iconst (.ofNat 0)), (2, .putfield 147), (5, .aload_n 0), (6, .getfield 59), (9, .iload_n 1), (10, .iaload), (11, .istore_n 3), (12, .iload_n 3), (13, .ifCond .eq (.ofNat 8)), (16, .iload_n 3), (17, .iconst (.ofNat 3)), (18, .if_icmp .ne (.ofNat 10)), (21, .aload_n 0), (22, .iload_n 1), (23, .iload_n 2), (24, .invokevirtual 157), (27, .ireturn), (28, .iload_n 3), (29, .iconst (.ofNat 4)), (30, .if_icmp .ne (.ofNat 22)), (33, .aload_n 0), (34, .iload_n 1), (35, .aload_n 0), (36, .getfield 62), (39, .iload_n 1), (40, .iaload), (41, .aload_n 0), (42, .getfield 71), (45, .iload_n 1), (46, .iaload), (47, .iload_n 2), (48, .invokevirtual 160), (51, .ireturn), (52, .iload_n 3), (53, .iconst (.ofNat 2)), (54, .if_icmp .ne (.ofNat 10)), (57, .aload_n 0), (58, .iload_n 1), (59, .iload_n 2), (60, .invokevirtual 164), (63, .ireturn), (64, .aload_n 0), (65, .getfield 62), (68, .iload_n 1), (69, .iaload), (70, .iconst (.ofNat 1)), (71, .aload_n 0), (72, .getfield 68), (75, .iload_n 1), (76, .iaload), (77, .aload_n 0), (78, .getfield 71), (81, .iload_n 1), (82, .iaload), (83, .invokestatic 167), (86, .istore 4), (88, .aload_n 0), (89, .iload_n 2), (90, .iconst (.ofNat 0)), (91, .iload 4), (93, .invokevirtual 139), (96, .istore 5), (98, .aload_n 0), (99, .aload_n 0), (100, .getfield 62), (103, .iload_n 1), (104, .iaload), (105, .iload 5), (107, .iload 4), (109, .iconst (.ofNat 0)), (110, .iconst (.ofNat 0)), (111, .invokevirtual 171), (114, .ifCond .ne (.ofNat 5)), (117, .iconst (.ofNat 0)), (118, .ireturn), (119, .aload_n 0), (120, .aload_n 0), (121, .getfield 62), (124, .iload_n 1), (125, .iaload), (126, .aload_n 0), (127, .getfield 68), (130, .iload_n 1), (131, .iaload), (132, .aload_n 0), (133, .getfield 71), (136, .iload_n 1), (137, .iaload), (138, .iload_n 2), (139, .invokevirtual 175), (142, .ifCond .eq (.ofNat 20)), (145, .aload_n 0), (146, .getfield 147), (149, .aload_n 0), (150, .getfield 71), (153, .iload_n 1), (154, .iaload), (155, .if_icmp .ne (.ofNat 7)), (158, .iconst (.ofNat 1)), (159, .goto (.ofNat 4)), (162, .iconst (.ofNat 0)), (163, .istore 6), (165, .iconst (.ofNat 0)), (166, .istore 7), (168, .iload 7), (170, .aload_n 0), (171, .getfield 71), (174, .iload_n 1), (175, .iaload), (176, .if_icmp .ge (.ofNat 32)), (179, .iload 6), (181, .ifCond .eq (.ofNat 27)), (184, .aload_n 0), (185, .getfield 80), (188, .iconst (.ofNat 4)), (189, .iload_n 1), (190, .imul), (191, .iload 7), (193, .iadd), (194, .aload_n 0), (195, .getfield 89), (198, .iload 7), (200, .iaload), (201, .iastore), (202, .iinc 7 (.ofNat 1)), (205, .goto (.negSucc 36)), (208, .iload 6), (210, .ireturn)]
/-- CommandBusesModel/gives -/
def cd_119 : List (Nat × Instr) := [(0, .aload_n 0), (1, .getfield 59), (4, .iload_n 1), (5, .iaload), (6, .iconst (.ofNat 3)), (7, .if_icmp .ne (.ofNat 7)), (10, .iconst (.ofNat 1)), (11, .goto (.ofNat 4)), (14, .iconst (.ofNat 0)), (15, .istore_n 3), (16, .iload_n 3), (17, .ifCond .eq (.ofNat 8)), (20, .bipush (.ofNat 31)), (22, .goto (.ofNat 9)), (25, .aload_n 0), (26, .getfield 62), (29, .iload_n 1), (30, .iaload), (31, .iconst (.ofNat 0)), (32, .aload_n 0), (33, .getfield 68), (36, .iload_n 1), (37, .iaload), (38, .aload_n 0), (39, .getfield 71), (42, .iload_n 1), (43, .iaload), (44, .invokestatic 167), (47, .istore 4), (49, .aload_n 0), (50, .iload_n 2), (51, .iconst (.ofNat 0)), (52, .iload 4), (54, .invokevirtual 139), (57, .istore 5), (59, .iconst (.ofNat 0)), (60, .istore 6), (62, .iload 6), (64, .aload_n 0), (65, .getfield 71), (68, .iload_n 1), (69, .iaload), (70, .if_icmp .ge (.ofNat 40)), (73, .aload_n 0), (74, .getfield 80), (77, .iconst (.ofNat 4)), (78, .iload_n 1), (79, .imul), (80, .iload 6), (82, .iadd), (83, .iaload), (84, .istore 7), (86, .aload_n 0), (87, .iload_n 2), (88, .iconst (.ofNat 1)), (89, .iload 7), (91, .invokevirtual 139), (94, .istore 8), (96, .aload_n 0), (97, .iload 8), (99, .iload 7), (101, .invokevirtual 153), (104, .iinc 6 (.ofNat 1)), (107, .goto (.negSucc 44)), (110, .iconst (.ofNat 0)), (111, .istore 6), (113, .iconst (.ofNat 0)), (114, .istore 7), (116, .iload 7), (118, .bipush (.ofNat 6)), (120, .if_icmp .ge (.ofNat 87)), (123, .iload_n 3), (124, .ifCond .ne (.ofNat 14)), (127, .iload 7), (129, .aload_n 0), (130, .getfield 62), (133, .iload_n 1), (134, .iaload), (135, .if_icmp .ne (.ofNat 66)), (138, .aload_n 0), (139, .iload 7), (141, .iload 5), (143, .iload 4), (145, .iconst (.ofNat 0)), (146, .iconst (.ofNat 0)), (147, .invokevirtual 171), (150, .ifCond .eq (.ofNat 51)), (153, .aload_n 0), (154, .iload 7), (156, .aload_n 0), (157, .getfield 68), (160, .iload_n 1), (161, .iaload), (162, .aload_n 0), (163, .getfield 71), (166, .iload_n 1), (167, .iaload), (168, .iload_n 3), (169, .invokevirtual 178), (172, .istore 8), (174, .iload 8), (176, .ifCond .eq (.ofNat 25)), (179, .iload_n 3), (180, .ifCond .ne (.ofNat 21)), (183, .aload_n 0), (184, .iload 7), (186, .iload_n 2), (187, .invokevirtual 150), (190, .iconst (.ofNat 1)), (191, .if_icmp .ne (.ofNat 7)), (194, .iconst (.ofNat 1)), (195, .goto (.ofNat 4)), (198, .iconst (.ofNat 0)), (199, .istore 6), (201, .iinc 7 (.ofNat 1)), (204, .goto (.negSucc 87)), (207, .iload 6), (209, .ifCond .ne (.ofNat 7)), (212, .iload_n 3), (213, .ifCond .eq (.ofNat 7)), (216, .iconst (.ofNat 1)), (217, .goto (.ofNat 4)), (220, .iconst (.ofNat 0)), (221, .ireturn)]
/-- CommandBusesModel/dataWord -/
def cd_120 : List (Nat × Instr) := [(0, .iload_n 1), (1, .iconst (.ofNat 1)), (2, .if_icmp .ne (.ofNat 23)), (5, .aload_n 0), (6, .getfield 89), (9, .aload_n 0), (10, .getfield 147), (13, .iload_n 2), (14, .iastore), (15, .aload_n 0), (16, .dup), (17, .getfield 147), (20, .iconst (.ofNat 1)), (21, .iadd), (22, .putfield 147), (25, .return_)]
/-- CommandBusesModel/takes -/
def cd_121 : List (Nat × Instr) := [(0, .aload_n 0), (1, .getfield 147), (4, .iload_n 3), (5, .if_icmp .ge (.ofNat 12)), (8, .aload_n 0), (9, .getfield 38), (12, .iload_n 1), (13, .iconst (.ofNat 1)), (14, .bastore), (15, .iconst (.ofNat 0)), (16, .ireturn), (17, .iload_n 1), (18, .iload_n 2), (19, .invokestatic 131), (22, .istore 5), (24, .iconst (.ofNat 0)), (25, .istore 6), (27, .iload 6), (29, .iconst (.ofNat 4)), (30, .if_icmp .ge (.ofNat 36)), (33, .aload_n 0), (34, .getfield 32), (37, .iload 5), (39, .iload 6), (41, .iadd), (42, .iload 6), (44, .iload_n 3), (45, .if_icmp .ge (.ofNat 13)), (48, .aload_n 0), (49, .getfield 89), (52, .iload 6), (54, .iaload), (55, .goto (.ofNat 4)), (58, .iconst (.ofNat 0)), (59, .iastore), (60, .iinc 6 (.ofNat 1)), (63, .goto (.negSucc 35)), (66, .aload_n 0), (67, .getfield 35), (70, .iconst (.ofNat 3)), (71, .iload_n 1), (72, .imul), (73, .iload_n 2), (74, .iadd), (75, .iconst (.ofNat 1)), (76, .isub), (77, .iconst (.ofNat 1)), (78, .bastore), (79, .aload_n 0), (80, .getfield 41), (83, .iload_n 1), (84, .iload 4), (86, .bastore), (87, .iconst (.ofNat 1)), (88, .ireturn)]
/-- CommandBusesModel/passes -/
def cd_122 : List (Nat × Instr) := [(0, .aload_n 0), (1, .getfield 62), (4, .iload_n 1), (5, .iaload), (6, .istore_n 3), (7, .aload_n 0), (8, .getfield 65), (11, .iload_n 1), (12, .iaload), (13, .istore 4), (15, .iload 4), (17, .iconst (.ofNat 0)), (18, .aload_n 0), (19, .getfield 68), (22, .iload_n 1), (23, .iaload), (24, .aload_n 0), (25, .getfield 71), (28, .iload_n 1), (29, .iaload), (30, .invokestatic 167), (33, .istore 5), (35, .aload_n 0), (36, .iload_n 2), (37, .iconst (.ofNat 0)), (38, .iload 5), (40, .invokevirtual 139), (43, .istore 6), (45, .aload_n 0), (46, .iload 4), (48, .iload 6), (50, .iload 5), (52, .iconst (.ofNat 0)), (53, .iconst (.ofNat 0)), (54, .invokevirtual 171), (57, .istore 7), (59, .iload_n 3), (60, .iconst (.ofNat 1)), (61, .aload_n 0), (62, .getfield 68), (65, .iload_n 1), (66, .iaload), (67, .aload_n 0), (68, .getfield 71), (71, .iload_n 1), (72, .iaload), (73, .invokestatic 167), (76, .istore 8), (78, .aload_n 0), (79, .iload_n 2), (80, .iconst (.ofNat 0)), (81, .iload 8), (83, .invokevirtual 139), (86, .istore 6), (88, .aload_n 0), (89, .iload_n 3), (90, .iload 6), (92, .iload 8), (94, .iconst (.ofNat 0)), (95, .iconst (.ofNat 0)), (96, .invokevirtual 171), (99, .ifCond .eq (.ofNat 28)), (102, .aload_n 0), (103, .iload_n 3), (104, .aload_n 0), (105, .getfield 68), (108, .iload_n 1), (109, .iaload), (110, .aload_n 0), (111, .getfield 71), (114, .iload_n 1), (115, .iaload), (116, .iload_n 2), (117, .invokevirtual 175), (120, .ifCond .eq (.ofNat 7)), (123, .iconst (.ofNat 1)), (124, .goto (.ofNat 4)), (127, .iconst (.ofNat 0)), (128, .istore 9), (130, .iload 7), (132, .ifCond .eq (.ofNat 40)), (135, .aload_n 0), (136, .iload 4), (138, .aload_n 0), (139, .getfield 68), (142, .iload_n 1), (143, .iaload), (144, .aload_n 0), (145, .getfield 71), (148, .iload_n 1), (149, .iaload), (150, .iconst (.ofNat 0)), (151, .invokevirtual 178), (154, .ifCond .eq (.ofNat 18)), (157, .aload_n 0), (158, .iload 4), (160, .iload_n 2), (161, .invokevirtual 150), (164, .iconst (.ofNat 1)), (165, .if_icmp .ne (.ofNat 7)), (168, .iconst (.ofNat 1)), (169, .goto (.ofNat 4)), (172, .iconst (.ofNat 0)), (173, .istore 10), (175, .iload 9), (177, .ifCond .eq (.ofNat 12)), (180, .iload 10), (182, .ifCond .eq (.ofNat 7)), (185, .iconst (.ofNat 1)), (186, .goto (.ofNat 4)), (189, .iconst (.ofNat 0)), (190, .ireturn)]
/-- CommandBusesModel/answers -/
def cd_123 : List (Nat × Instr) := [(0, .aload_n 0), (1, .iload_n 1), (2, .iload 4), (4, .invokevirtual 150), (7, .iconst (.ofNat 1)), (8, .if_icmp .ne (.ofNat 7)), (11, .iconst (.ofNat 1)), (12, .goto (.ofNat 4)), (15, .iconst (.ofNat 0)), (16, .istore 5), (18, .iconst (.ofNat 0)), (19, .istore 6), (21, .iload 6), (23, .iload_n 3), (24, .if_icmp .ge (.ofNat 44)), (27, .aload_n 0), (28, .getfield 29), (31, .iload_n 1), (32, .iload_n 2), (33, .invokestatic 131), (36, .iload 6), (38, .iadd), (39, .iaload), (40, .istore 7), (42, .aload_n 0), (43, .iload_n 1), (44, .iload 4), (46, .iconst (.ofNat 1)), (47, .iload 7), (49, .invokevirtual 143), (52, .istore 8), (54, .aload_n 0), (55, .iload 8), (57, .iload 7), (59, .invokevirtual 153), (62, .iinc 6 (.ofNat 1)), (65, .goto (.negSucc 43)), (68, .iload 5), (70, .ireturn)]
/-- CommandBusesModel/note -/
def cd_124 : List (Nat × Instr) := [(0, .iconst (.ofNat 0)), (1, .istore_n 2), (2, .iload_n 2), (3, .bipush (.ofNat 6)), (5, .if_icmp .ge (.ofNat 60)), (8, .aload_n 0), (9, .getfield 83), (12, .iload_n 1), (13, .iaload), (14, .iconst (.ofNat 4)), (15, .if_icmp .ne (.ofNat 7)), (18, .iconst (.ofNat 2)), (19, .goto (.ofNat 4)), (22, .iconst (.ofNat 1)), (23, .istore_n 3), (24, .aload_n 0), (25, .getfield 92), (28, .iload_n 2), (29, .aload_n 0), (30, .iload_n 1), (31, .iload_n 2), (32, .invokevirtual 216), (35, .ifCond .eq (.ofNat 17)), (38, .iload_n 3), (39, .aload_n 0), (40, .getfield 92), (43, .iload_n 2), (44, .iaload), (45, .if_icmp .le (.ofNat 7)), (48, .iload_n 3), (49, .goto (.ofNat 9)), (52, .aload_n 0), (53, .getfield 92), (56, .iload_n 2), (57, .iaload), (58, .iastore), (59, .iinc 2 (.ofNat 1)), (62, .goto (.negSucc 59)), (65, .return_)]
/-- CommandBusesModel/outcome -/
def cd_125 : List (Nat × Instr) := [(0, .aload_n 0), (1, .iload_n 1), (2, .invokevirtual 198), (5, .ifCond .eq (.ofNat 12)), (8, .aload_n 0), (9, .getfield 83), (12, .iload_n 1), (13, .iaload), (14, .goto (.ofNat 4)), (17, .iconst (.negSucc 0)), (18, .ireturn)]
/-- CommandBusesModel/bus -/
def cd_126 : List (Nat × Instr) := [(0, .aload_n 0), (1, .getfield 182), (4, .ireturn)]
/-- CommandBusesModel/words -/
def cd_127 : List (Nat × Instr) := [(0, .aload_n 0), (1, .getfield 118), (4, .ireturn)]
/-- CommandBusesModel/heard -/
def cd_128 : List (Nat × Instr) := [(0, .iload_n 1), (1, .ifCond .lt (.ofNat 17)), (4, .iload_n 1), (5, .bipush (.ofNat 60)), (7, .if_icmp .ge (.ofNat 11)), (10, .iload_n 1), (11, .aload_n 0), (12, .getfield 118), (15, .if_icmp .lt (.ofNat 5)), (18, .iconst (.negSucc 0)), (19, .ireturn), (20, .aload_n 0), (21, .getfield 20), (24, .aload_n 0), (25, .getfield 118), (28, .iconst (.ofNat 1)), (29, .isub), (30, .iload_n 1), (31, .isub), (32, .bipush (.ofNat 60)), (34, .irem), (35, .iaload), (36, .ireturn)]
/-- CommandBuses$Coding/halvesOf -/
def cd_129 : List (Nat × Instr) := [(0, .iload_n 1), (1, .invokestatic 9), (4, .ifCond .eq (.ofNat 7)), (7, .iconst (.ofNat 0)), (8, .goto (.ofNat 4)), (11, .iconst (.ofNat 1)), (12, .istore_n 2), (13, .iload_n 1), (14, .iconst (.ofNat 2)), (15, .imul), (16, .iload_n 2), (17, .iadd), (18, .istore_n 3), (19, .iload_n 0), (20, .ifCond .eq (.ofNat 9)), (23, .ldc2_w 15), (26, .goto (.ofNat 6)), (29, .ldc2_w 17), (32, .lstore 4), (34, .bipush (.ofNat 16)), (36, .istore 6), (38, .iload 6), (40, .ifCond .lt (.ofNat 34)), (43, .lload 4), (45, .ldc2_w 19), (48, .lmul), (49, .iload_n 3), (50, .iload 6), (52, .ishr), (53, .iconst (.ofNat 1)), (54, .iand), (55, .iconst (.ofNat 1)), (56, .if_icmp .ne (.ofNat 7)), (59, .iconst (.ofNat 2)), (60, .goto (.ofNat 4)), (63, .iconst (.ofNat 1)), (64, .i2l), (65, .ladd), (66, .lstore 4), (68, .iinc 6 (.negSucc 0)), (71, .goto (.negSucc 32)), (74, .lload 4), (76, .lreturn)]
/-- CommandBuses$Coding/isOdd -/
def cd_130 : List (Nat × Instr) := [(0, .iload_n 0), (1, .invokestatic 24), (4, .iconst (.ofNat 1)), (5, .iand), (6, .iconst (.ofNat 1)), (7, .if_icmp .ne (.ofNat 7)), (10, .iconst (.ofNat 1)), (11, .goto (.ofNat 4)), (14, .iconst (.ofNat 0)), (15, .ireturn)]
/-- CommandBuses$Coding/wordOf -/
def cd_131 : List (Nat × Instr) := [(0, .lload_n 0), (1, .lconst 0), (2, .lcmp), (3, .ifCond .lt (.ofNat 11)), (6, .lload_n 0), (7, .ldc2_w 21), (10, .lcmp), (11, .ifCond .lt (.ofNat 5)), (14, .iconst (.negSucc 0)), (15, .ireturn), (16, .lload_n 0), (17, .bipush (.ofNat 34)), (19, .lshr), (20, .l2i), (21, .istore_n 2), (22, .iload_n 2), (23, .bipush (.ofNat 56)), (25, .if_icmp .eq (.ofNat 12)), (28, .iload_n 2), (29, .bipush (.ofNat 7)), (31, .if_icmp .eq (.ofNat 6)), (34, .bipush (.negSucc 2)), (36, .ireturn), (37, .iconst (.ofNat 0)), (38, .istore_n 3), (39, .bipush (.ofNat 16)), (41, .istore 4), (43, .iload 4), (45, .ifCond .lt (.ofNat 51)), (48, .lload_n 0), (49, .iconst (.ofNat 2)), (50, .iload 4), (52, .imul), (53, .lshr), (54, .l2i), (55, .iconst (.ofNat 3)), (56, .iand), (57, .istore 5), (59, .iload 5), (61, .iconst (.ofNat 2)), (62, .if_icmp .eq (.ofNat 12)), (65, .iload 5), (67, .iconst (.ofNat 1)), (68, .if_icmp .eq (.ofNat 6)), (71, .bipush (.negSucc 3)), (73, .ireturn), (74, .iload_n 3), (75, .iconst (.ofNat 2)), (76, .imul), (77, .iload 5), (79, .iconst (.ofNat 2)), (80, .if_icmp .ne (.ofNat 7)), (83, .iconst (.ofNat 1)), (84, .goto (.ofNat 4)), (87, .iconst (.ofNat 0)), (88, .iadd), (89, .istore_n 3), (90, .iinc 4 (.negSucc 0)), (93, .goto (.negSucc 49)), (96, .iload_n 3), (97, .invokestatic 9), (100, .ifCond .ne (.ofNat 6)), (103, .bipush (.negSucc 4)), (105, .ireturn), (106, .iload_n 3), (107, .iconst (.ofNat 1)), (108, .ishr), (109, .iload_n 2), (110, .bipush (.ofNat 7)), (112, .if_icmp .ne (.ofNat 8)), (115, .ldc 23), (117, .goto (.ofNat 4)), (120, .iconst (.ofNat 0)), (121, .iadd), (122, .ireturn)]
/-- CommandBuses$Commands/mode -/
def cd_132 : List (Nat × Instr) := [(0, .iload_n 0), (1, .iconst (.ofNat 0)), (2, .iload_n 1), (3, .invokestatic 13), (6, .ireturn)]
/-- CommandBuses$Commands/toSend -/
def cd_133 : List (Nat × Instr) := [(0, .iload_n 0), (1, .iload_n 1), (2, .iload_n 2), (3, .invokestatic 9), (6, .sipush (.ofNat 1024)), (9, .iadd), (10, .ireturn)]
/-- CommandBuses$Commands/toReceive -/
def cd_134 : List (Nat × Instr) := [(0, .iload_n 0), (1, .sipush (.ofNat 2048)), (4, .imul), (5, .iload_n 1), (6, .bipush (.ofNat 32)), (8, .imul), (9, .iadd), (10, .iload_n 2), (11, .iadd), (12, .ireturn)]
/-- java/lang/Integer/bitCount -/
def cd_135 : List (Nat × Instr) := [(0, .iload_n 0), (1, .iload_n 0), (2, .iconst (.ofNat 1)), (3, .iushr), (4, .ldc_w 265), (7, .iand), (8, .isub), (9, .istore_n 0), (10, .iload_n 0), (11, .ldc_w 266), (14, .iand), (15, .iload_n 0), (16, .iconst (.ofNat 2)), (17, .iushr), (18, .ldc_w 266), (21, .iand), (22, .iadd), (23, .istore_n 0), (24, .iload_n 0), (25, .iload_n 0), (26, .iconst (.ofNat 4)), (27, .iushr), (28, .iadd), (29, .ldc_w 267), (32, .iand), (33, .istore_n 0), (34, .iload_n 0), (35, .iload_n 0), (36, .bipush (.ofNat 8)), (38, .iushr), (39, .iadd), (40, .istore_n 0), (41, .iload_n 0), (42, .iload_n 0), (43, .bipush (.ofNat 16)), (45, .iushr), (46, .iadd), (47, .istore_n 0), (48, .iload_n 0), (49, .bipush (.ofNat 63)), (51, .iand), (52, .ireturn)]
/-- java/util/Arrays/fill -/
def cd_136 : List (Nat × Instr) := [(0, .iconst (.ofNat 0)), (1, .istore_n 2), (2, .aload_n 0), (3, .arraylength), (4, .istore_n 3), (5, .iload_n 2), (6, .iload_n 3), (7, .if_icmp .ge (.ofNat 13)), (10, .aload_n 0), (11, .iload_n 2), (12, .iload_n 1), (13, .iastore), (14, .iinc 2 (.ofNat 1)), (17, .goto (.negSucc 11)), (20, .return_)]
def cb_cd : Nat → List (Nat × Instr)
  | 0 => cd_0
  | 1 => cd_1
  | 2 => cd_2
  | 3 => cd_3
  | 4 => cd_4
  | 5 => cd_5
  | 6 => cd_6
  | 7 => cd_7
  | 8 => cd_8
  | 9 => cd_9
  | 10 => cd_10
  | 11 => cd_11
  | 12 => cd_12
  | 13 => cd_13
  | 14 => cd_14
  | 15 => cd_15
  | 16 => cd_16
  | 17 => cd_17
  | 18 => cd_18
  | 19 => cd_19
  | 20 => cd_20
  | 21 => cd_21
  | 22 => cd_22
  | 23 => cd_23
  | 24 => cd_24
  | 25 => cd_25
  | 26 => cd_26
  | 27 => cd_27
  | 28 => cd_28
  | 29 => cd_29
  | 30 => cd_30
  | 31 => cd_31
  | 32 => cd_32
  | 33 => cd_33
  | 34 => cd_34
  | 35 => cd_35
  | 36 => cd_36
  | 37 => cd_37
  | 38 => cd_38
  | 39 => cd_39
  | 40 => cd_40
  | 41 => cd_41
  | 42 => cd_42
  | 43 => cd_43
  | 44 => cd_44
  | 45 => cd_45
  | 46 => cd_46
  | 47 => cd_47
  | 48 => cd_48
  | 49 => cd_49
  | 50 => cd_50
  | 51 => cd_51
  | 52 => cd_52
  | 53 => cd_53
  | 54 => cd_54
  | 55 => cd_55
  | 56 => cd_56
  | 57 => cd_57
  | 58 => cd_58
  | 59 => cd_59
  | 60 => cd_60
  | 61 => cd_61
  | 62 => cd_62
  | 63 => cd_63
  | 64 => cd_64
  | 65 => cd_65
  | 66 => cd_66
  | 67 => cd_67
  | 68 => cd_68
  | 69 => cd_69
  | 70 => cd_70
  | 71 => cd_71
  | 72 => cd_72
  | 73 => cd_73
  | 74 => cd_74
  | 75 => cd_75
  | 76 => cd_76
  | 77 => cd_77
  | 78 => cd_78
  | 79 => cd_79
  | 80 => cd_80
  | 81 => cd_81
  | 82 => cd_82
  | 83 => cd_83
  | 84 => cd_84
  | 85 => cd_85
  | 86 => cd_86
  | 87 => cd_87
  | 88 => cd_88
  | 89 => cd_89
  | 90 => cd_90
  | 91 => cd_91
  | 92 => cd_92
  | 93 => cd_93
  | 94 => cd_94
  | 95 => cd_95
  | 96 => cd_96
  | 97 => cd_97
  | 98 => cd_98
  | 99 => cd_99
  | 100 => cd_100
  | 101 => cd_101
  | 102 => cd_102
  | 103 => cd_103
  | 104 => cd_104
  | 105 => cd_105
  | 106 => cd_106
  | 107 => cd_107
  | 108 => cd_108
  | 109 => cd_109
  | 110 => cd_110
  | 111 => cd_111
  | 112 => cd_112
  | 113 => cd_113
  | 114 => cd_114
  | 115 => cd_115
  | 116 => cd_116
  | 117 => cd_117
  | 118 => cd_118
  | 119 => cd_119
  | 120 => cd_120
  | 121 => cd_121
  | 122 => cd_122
  | 123 => cd_123
  | 124 => cd_124
  | 125 => cd_125
  | 126 => cd_126
  | 127 => cd_127
  | 128 => cd_128
  | 129 => cd_129
  | 130 => cd_130
  | 131 => cd_131
  | 132 => cd_132
  | 133 => cd_133
  | 134 => cd_134
  | 135 => cd_135
  | 136 => cd_136
  | _ => []
def cb_mx : Nat → Nat
  | 0 => 4
  | 1 => 1
  | 2 => 3
  | 3 => 1
  | 4 => 3
  | 5 => 3
  | 6 => 1
  | 7 => 5
  | 8 => 2
  | 9 => 1
  | 10 => 1
  | 11 => 3
  | 12 => 4
  | 13 => 4
  | 14 => 7
  | 15 => 1
  | 16 => 3
  | 17 => 3
  | 18 => 1
  | 19 => 5
  | 20 => 4
  | 21 => 3
  | 22 => 2
  | 23 => 2
  | 24 => 4
  | 25 => 5
  | 26 => 2
  | 27 => 3
  | 28 => 1
  | 29 => 1
  | 30 => 2
  | 31 => 2
  | 32 => 2
  | 33 => 8
  | 34 => 3
  | 35 => 3
  | 36 => 8
  | 37 => 9
  | 38 => 14
  | 39 => 8
  | 40 => 5
  | 41 => 1
  | 42 => 4
  | 43 => 5
  | 44 => 3
  | 45 => 8
  | 46 => 1
  | 47 => 2
  | 48 => 2
  | 49 => 2
  | 50 => 1
  | 51 => 3
  | 52 => 3
  | 53 => 1
  | 54 => 3
  | 55 => 1
  | 56 => 3
  | 57 => 2
  | 58 => 8
  | 59 => 1
  | 60 => 2
  | 61 => 2
  | 62 => 3
  | 63 => 4
  | 64 => 5
  | 65 => 4
  | 66 => 2
  | 67 => 1
  | 68 => 2
  | 69 => 3
  | 70 => 3
  | 71 => 2
  | 72 => 7
  | 73 => 3
  | 74 => 3
  | 75 => 1
  | 76 => 1
  | 77 => 1
  | 78 => 2
  | 79 => 2
  | 80 => 1
  | 81 => 8
  | 82 => 1
  | 83 => 10
  | 84 => 3
  | 85 => 1
  | 86 => 5
  | 87 => 2
  | 88 => 1
  | 89 => 2
  | 90 => 5
  | 91 => 4
  | 92 => 3
  | 93 => 2
  | 94 => 8
  | 95 => 1
  | 96 => 4
  | 97 => 2
  | 98 => 3
  | 99 => 7
  | 100 => 6
  | 101 => 5
  | 102 => 3
  | 103 => 3
  | 104 => 2
  | 105 => 2
  | 106 => 4
  | 107 => 3
  | 108 => 2
  | 109 => 9
  | 110 => 4
  | 111 => 6
  | 112 => 6
  | 113 => 3
  | 114 => 5
  | 115 => 4
  | 116 => 3
  | 117 => 5
  | 118 => 8
  | 119 => 9
  | 120 => 3
  | 121 => 7
  | 122 => 11
  | 123 => 9
  | 124 => 4
  | 125 => 2
  | 126 => 1
  | 127 => 1
  | 128 => 2
  | 129 => 7
  | 130 => 1
  | 131 => 6
  | 132 => 2
  | 133 => 3
  | 134 => 3
  | 135 => 1
  | 136 => 4
  | _ => 0
def cb_rt : Nat → Nat
  | 0 => 2
  | 1 => 5
  | 2 => 3
  | 3 => 2
  | 4 => 1
  | 5 => 2
  | 6 => 2
  | 7 => 2
  | 8 => 2
  | 9 => 2
  | 10 => 2
  | 11 => 2
  | 12 => 1
  | 13 => 1
  | 14 => 1
  | 15 => 2
  | 16 => 2
  | 17 => 2
  | 18 => 2
  | 19 => 2
  | 20 => 1
  | 21 => 1
  | 22 => 2
  | 23 => 1
  | 24 => 2
  | 25 => 1
  | 26 => 0
  | 27 => 1
  | 28 => 1
  | 29 => 1
  | 30 => 1
  | 31 => 5
  | 32 => 2
  | 33 => 2
  | 34 => 1
  | 35 => 2
  | 36 => 2
  | 37 => 2
  | 38 => 2
  | 39 => 0
  | 40 => 2
  | 41 => 5
  | 42 => 0
  | 43 => 2
  | 44 => 1
  | 45 => 2
  | 46 => 5
  | 47 => 0
  | 48 => 1
  | 49 => 5
  | 50 => 1
  | 51 => 0
  | 52 => 1
  | 53 => 1
  | 54 => 2
  | 55 => 0
  | 56 => 0
  | 57 => 2
  | 58 => 2
  | 59 => 5
  | 60 => 1
  | 61 => 4
  | 62 => 1
  | 63 => 1
  | 64 => 1
  | 65 => 0
  | 66 => 1
  | 67 => 5
  | 68 => 0
  | 69 => 2
  | 70 => 0
  | 71 => 0
  | 72 => 5
  | 73 => 2
  | 74 => 1
  | 75 => 1
  | 76 => 1
  | 77 => 1
  | 78 => 2
  | 79 => 2
  | 80 => 5
  | 81 => 3
  | 82 => 2
  | 83 => 1
  | 84 => 2
  | 85 => 2
  | 86 => 2
  | 87 => 2
  | 88 => 2
  | 89 => 1
  | 90 => 2
  | 91 => 1
  | 92 => 1
  | 93 => 1
  | 94 => 1
  | 95 => 2
  | 96 => 2
  | 97 => 2
  | 98 => 1
  | 99 => 1
  | 100 => 1
  | 101 => 1
  | 102 => 2
  | 103 => 1
  | 104 => 2
  | 105 => 1
  | 106 => 2
  | 107 => 1
  | 108 => 0
  | 109 => 2
  | 110 => 1
  | 111 => 1
  | 112 => 2
  | 113 => 1
  | 114 => 1
  | 115 => 2
  | 116 => 2
  | 117 => 0
  | 118 => 2
  | 119 => 2
  | 120 => 0
  | 121 => 2
  | 122 => 2
  | 123 => 2
  | 124 => 0
  | 125 => 1
  | 126 => 1
  | 127 => 1
  | 128 => 1
  | 129 => 3
  | 130 => 2
  | 131 => 1
  | 132 => 1
  | 133 => 1
  | 134 => 1
  | 135 => 1
  | 136 => 0
  | _ => 9
def cb_ow : Nat → Nat
  | 0 => 11
  | 1 => 0
  | 2 => 0
  | 3 => 0
  | 4 => 0
  | 5 => 0
  | 6 => 0
  | 7 => 0
  | 8 => 0
  | 9 => 0
  | 10 => 0
  | 11 => 0
  | 12 => 0
  | 13 => 0
  | 14 => 0
  | 15 => 0
  | 16 => 0
  | 17 => 0
  | 18 => 0
  | 19 => 0
  | 20 => 0
  | 21 => 0
  | 22 => 0
  | 23 => 0
  | 24 => 0
  | 25 => 0
  | 26 => 0
  | 27 => 0
  | 28 => 0
  | 29 => 0
  | 30 => 0
  | 31 => 1
  | 32 => 1
  | 33 => 1
  | 34 => 1
  | 35 => 1
  | 36 => 1
  | 37 => 1
  | 38 => 1
  | 39 => 1
  | 40 => 1
  | 41 => 2
  | 42 => 2
  | 43 => 2
  | 44 => 2
  | 45 => 2
  | 46 => 3
  | 47 => 3
  | 48 => 3
  | 49 => 4
  | 50 => 4
  | 51 => 4
  | 52 => 4
  | 53 => 4
  | 54 => 4
  | 55 => 4
  | 56 => 4
  | 57 => 4
  | 58 => 4
  | 59 => 5
  | 60 => 5
  | 61 => 5
  | 62 => 5
  | 63 => 5
  | 64 => 5
  | 65 => 5
  | 66 => 5
  | 67 => 6
  | 68 => 6
  | 69 => 6
  | 70 => 6
  | 71 => 6
  | 72 => 7
  | 73 => 7
  | 74 => 7
  | 75 => 7
  | 76 => 7
  | 77 => 7
  | 78 => 7
  | 79 => 7
  | 80 => 8
  | 81 => 8
  | 82 => 8
  | 83 => 8
  | 84 => 8
  | 85 => 8
  | 86 => 8
  | 87 => 8
  | 88 => 8
  | 89 => 8
  | 90 => 8
  | 91 => 8
  | 92 => 8
  | 93 => 8
  | 94 => 8
  | 95 => 8
  | 96 => 8
  | 97 => 8
  | 98 => 8
  | 99 => 8
  | 100 => 8
  | 101 => 8
  | 102 => 8
  | 103 => 8
  | 104 => 8
  | 105 => 8
  | 106 => 8
  | 107 => 8
  | 108 => 8
  | 109 => 8
  | 110 => 8
  | 111 => 8
  | 112 => 8
  | 113 => 8
  | 114 => 8
  | 115 => 8
  | 116 => 8
  | 117 => 8
  | 118 => 8
  | 119 => 8
  | 120 => 8
  | 121 => 8
  | 122 => 8
  | 123 => 8
  | 124 => 8
  | 125 => 8
  | 126 => 8
  | 127 => 8
  | 128 => 8
  | 129 => 9
  | 130 => 9
  | 131 => 9
  | 132 => 10
  | 133 => 10
  | 134 => 10
  | 135 => 12
  | 136 => 13
  | _ => 20
def lk_0 : List (Nat × ex_Lk) := [(1, 8, 0, 0, 0), (7, 9, 1, 0, 0), (9, 6, 31, 0, 0), (10, 0, 0, 0, 1), (16, 1, 1, 0, 1), (20, 0, 0, 1, 1), (21, 1, 1, 1, 1), (25, 0, 0, 2, 1), (26, 9, 5, 0, 0), (28, 7, 59, 0, 0), (29, 0, 0, 3, 1), (33, 9, 6, 0, 0), (35, 7, 67, 0, 0), (36, 0, 0, 4, 1), (40, 4, 3, 1, 0), (44, 4, 129, 2, 0), (50, 12, 0, 0, (-1)), (52, 4, 131, 1, 0), (56, 4, 6, 1, 0), (59, 1, 4, 1, 0), (65, 4, 8, 2, 0), (69, 4, 10, 1, 0), (72, 1, 4, 7, 1), (76, 4, 50, 1, 0), (80, 2, 51, 1, 0), (84, 2, 52, 2, 0), (88, 2, 53, 0, 0), (92, 1, 4, 4, 0), (96, 1, 4, 5, 0), (99, 1, 4, 6, 1), (103, 1, 6, 0, 1), (106, 1, 6, 1, 1), (109, 1, 5, 4, 0), (112, 4, 15, 1, 0), (115, 4, 16, 3, 0), (119, 4, 17, 3, 0), (122, 1, 5, 2, 0), (125, 9, 7, 1, 0), (127, 6, 72, 6, 0), (130, 2, 60, 1, 0), (134, 2, 61, 1, 0), (138, 1, 7, 6, 1), (141, 2, 62, 0, 0), (144, 1, 5, 3, 0), (147, 1, 5, 1, 1), (150, 2, 42, 3, 0), (156, 2, 66, 0, 0), (159, 2, 26, 0, 0), (162, 1, 5, 0, 1), (166, 2, 78, 1, 0), (169, 2, 69, 1, 0), (173, 2, 34, 1, 0), (176, 1, 7, 8, 0), (179, 2, 70, 1, 0), (183, 2, 71, 0, 0), (186, 1, 1, 2, 0), (189, 1, 2, 0, 1), (193, 1, 3, 2, 0), (198, 2, 48, 1, 0), (201, 2, 32, 1, 0), (204, 2, 68, 1, 0), (207, 4, 9, 1, 0), (210, 11, 0, 0, 65535), (211, 4, 18, 1, 0)]
def lk_1 : List (Nat × ex_Lk) := [(3, 8, 0, 0, 0), (9, 9, 4, 1, 0), (11, 0, 1, 0, 1), (17, 9, 2, 0, 0), (19, 6, 41, 0, 0), (20, 0, 1, 1, 1), (24, 6, 49, 1, 0), (27, 0, 1, 2, 0), (31, 2, 35, 2, 0), (35, 2, 33, 3, 0), (39, 1, 7, 0, 1), (44, 2, 36, 2, 0), (47, 2, 37, 2, 0), (50, 2, 38, 2, 0), (53, 2, 39, 2, 0), (57, 2, 40, 2, 0), (60, 1, 7, 1, 1), (63, 1, 7, 3, 1), (66, 1, 7, 4, 1), (69, 4, 134, 3, 0), (75, 2, 43, 2, 0), (79, 2, 57, 1, 0), (83, 1, 7, 6, 1), (87, 2, 45, 4, 0), (91, 2, 58, 5, 0), (95, 1, 4, 6, 1), (99, 2, 53, 0, 0), (103, 4, 50, 1, 0), (107, 4, 133, 3, 0), (110, 1, 4, 8, 1), (112, 13, 0, 0, 0), (118, 1, 7, 2, 1), (121, 1, 4, 3, 0), (125, 1, 4, 4, 0), (128, 1, 4, 0, 1), (131, 4, 132, 2, 0), (135, 2, 54, 2, 0), (138, 11, 0, 0, 65536)]
def lk_2 : List (Nat × ex_Lk) := [(3, 8, 0, 0, 0), (9, 9, 3, 0, 0), (11, 7, 46, 0, 0), (12, 0, 2, 0, 1), (18, 0, 2, 1, 1), (22, 0, 2, 2, 1), (25, 4, 136, 2, 0), (31, 2, 44, 1, 0), (35, 11, 0, 0, 131072), (36, 11, 0, 0, 262144), (37, 2, 47, 1, 0), (41, 11, 0, 0, 65536), (42, 2, 43, 2, 0)]
def lk_3 : List (Nat × ex_Lk) := [(3, 8, 0, 0, 0), (11, 0, 3, 0, 1), (15, 0, 3, 1, 0), (19, 0, 3, 2, 0)]
def lk_4 : List (Nat × ex_Lk) := [(3, 8, 0, 0, 0), (9, 0, 4, 1, 0), (15, 0, 4, 6, 1), (19, 0, 4, 7, 1), (23, 0, 4, 8, 1), (26, 0, 4, 9, 1), (29, 0, 4, 10, 1), (32, 0, 4, 0, 1), (36, 0, 4, 2, 0), (39, 0, 4, 3, 0), (42, 4, 50, 1, 0), (46, 13, 0, 0, 0), (52, 2, 55, 0, 0), (55, 0, 4, 4, 0), (58, 4, 132, 2, 0), (64, 2, 56, 2, 0), (68, 0, 4, 5, 0)]
def lk_5 : List (Nat × ex_Lk) := [(3, 8, 0, 0, 0), (9, 9, 7, 1, 0), (11, 0, 5, 0, 1), (17, 0, 5, 1, 1), (21, 0, 5, 2, 0), (25, 0, 5, 3, 0), (28, 4, 136, 2, 0), (34, 2, 63, 1, 0), (38, 1, 7, 7, 0), (41, 2, 65, 1, 0), (45, 14, 0, 0, 0), (51, 1, 7, 5, 1), (54, 2, 64, 2, 0), (58, 2, 73, 2, 0), (62, 2, 74, 0, 0), (66, 2, 78, 1, 0)]
def lk_6 : List (Nat × ex_Lk) := [(3, 8, 0, 0, 0), (9, 0, 6, 0, 1), (15, 0, 6, 1, 1), (19, 0, 6, 2, 1), (22, 0, 6, 3, 1), (25, 2, 79, 1, 0), (31, 1, 7, 8, 0)]
def lk_7 : List (Nat × ex_Lk) := [(3, 8, 0, 0, 0), (9, 0, 7, 6, 1), (15, 0, 7, 0, 1), (19, 0, 7, 1, 1), (22, 0, 7, 2, 1), (25, 0, 7, 3, 1), (28, 0, 7, 4, 1), (31, 0, 7, 5, 1), (34, 0, 7, 7, 0), (37, 2, 73, 2, 0), (41, 2, 75, 0, 0), (45, 2, 76, 0, 0), (48, 2, 77, 0, 0)]
def lk_8 : List (Nat × ex_Lk) := [(1, 8, 0, 0, 0), (7, 0, 8, 0, 1), (13, 0, 8, 1, 1), (17, 0, 8, 2, 1), (20, 0, 8, 4, 1), (23, 0, 8, 5, 1), (26, 0, 8, 6, 1), (29, 0, 8, 7, 1), (32, 0, 8, 8, 1), (35, 0, 8, 9, 1), (38, 0, 8, 10, 1), (41, 0, 8, 11, 1), (44, 0, 8, 12, 1), (47, 0, 8, 13, 1), (50, 0, 8, 14, 1), (53, 0, 8, 15, 1), (56, 0, 8, 16, 1), (59, 0, 8, 18, 1), (62, 0, 8, 19, 1), (65, 0, 8, 20, 1), (68, 0, 8, 21, 1), (71, 0, 8, 22, 1), (74, 0, 8, 23, 1), (77, 0, 8, 24, 1), (80, 0, 8, 25, 1), (83, 0, 8, 26, 1), (86, 0, 8, 28, 1), (89, 0, 8, 31, 1), (92, 0, 8, 33, 1), (95, 4, 85, 1, 0), (99, 11, 0, 0, 65535), (100, 4, 82, 1, 0), (103, 12, 0, 0, (-1)), (105, 12, 0, 0, 7), (107, 12, 0, 0, 56), (109, 12, 0, 0, 4), (111, 12, 0, 0, 2), (113, 12, 0, 0, 1099511627775), (115, 12, 0, 0, 3), (117, 11, 0, 0, 65536), (118, 0, 8, 3, 0), (122, 11, 0, 0, 131072), (123, 11, 0, 0, 262144), (124, 4, 87, 2, 0), (128, 4, 88, 1, 0), (131, 4, 89, 2, 0), (135, 2, 93, 1, 0), (139, 2, 111, 3, 0), (143, 2, 114, 4, 0), (147, 0, 8, 32, 0), (150, 2, 113, 2, 0), (153, 2, 120, 2, 0), (157, 2, 119, 2, 0), (160, 2, 109, 4, 0), (164, 2, 122, 2, 0), (167, 4, 110, 4, 0), (171, 2, 112, 5, 0), (175, 2, 123, 4, 0), (178, 2, 121, 4, 0), (182, 0, 8, 30, 0), (185, 2, 118, 2, 0), (188, 0, 8, 27, 0), (192, 4, 95, 1, 0), (195, 0, 8, 17, 0), (198, 2, 97, 1, 0), (201, 2, 102, 2, 0), (204, 2, 103, 1, 0), (207, 2, 101, 2, 0), (210, 2, 100, 2, 0), (213, 0, 8, 29, 0), (216, 2, 116, 2, 0), (219, 2, 108, 0, 0), (222, 2, 115, 1, 0), (225, 2, 117, 1, 0), (229, 2, 124, 1, 0)]
def lk_9 : List (Nat × ex_Lk) := [(9, 4, 130, 1, 0), (15, 12, 0, 0, 7), (17, 12, 0, 0, 56), (19, 12, 0, 0, 4), (21, 12, 0, 0, 1099511627776), (23, 11, 0, 0, 65536), (24, 4, 135, 1, 0)]
def lk_10 : List (Nat × ex_Lk) := [(9, 4, 134, 3, 0), (13, 4, 133, 3, 0)]
def lk_11 : List (Nat × ex_Lk) := [(7, 9, 0, 0, 0), (9, 6, 1, 0, 0), (10, 9, 8, 0, 0), (12, 6, 80, 0, 0), (13, 2, 2, 2, 0), (17, 2, 81, 2, 0), (18, 12, 0, 0, 4294967295), (20, 2, 4, 1, 0), (24, 2, 83, 1, 0), (25, 2, 5, 2, 0), (29, 2, 84, 2, 0), (30, 2, 7, 4, 0), (34, 2, 86, 4, 0), (35, 2, 11, 2, 0), (39, 2, 90, 2, 0), (40, 2, 12, 3, 0), (44, 2, 91, 3, 0), (45, 2, 13, 2, 0), (49, 2, 92, 2, 0), (50, 2, 14, 6, 0), (54, 2, 94, 6, 0), (55, 2, 19, 3, 0), (59, 2, 96, 3, 0), (60, 2, 20, 2, 0), (63, 2, 98, 2, 0), (64, 2, 21, 1, 0), (68, 2, 99, 1, 0), (69, 2, 22, 0, 0), (73, 2, 104, 0, 0), (74, 2, 23, 1, 0), (77, 2, 105, 1, 0), (78, 2, 24, 3, 0), (81, 2, 106, 3, 0), (82, 2, 25, 0, 0), (86, 2, 107, 0, 0), (87, 2, 27, 1, 0), (90, 2, 125, 1, 0), (91, 2, 28, 0, 0), (94, 2, 126, 0, 0), (95, 2, 29, 0, 0), (98, 2, 127, 0, 0), (99, 2, 30, 1, 0), (102, 2, 128, 1, 0)]
def lk_12 : List (Nat × ex_Lk) := [(265, 11, 0, 0, 1431655765), (266, 11, 0, 0, 858993459), (267, 11, 0, 0, 252645135)]
def cb_lt : Nat → List (Nat × ex_Lk)
  | 0 => lk_0
  | 1 => lk_1
  | 2 => lk_2
  | 3 => lk_3
  | 4 => lk_4
  | 5 => lk_5
  | 6 => lk_6
  | 7 => lk_7
  | 8 => lk_8
  | 9 => lk_9
  | 10 => lk_10
  | 11 => lk_11
  | 12 => lk_12
  | _ => []
def cb_kdL : List (Nat × Nat) := [(0, 0), (0, 1), (7, 6), (0, 2), (0, 3), (1, 60), (1, 2), (1, 2), (0, 4), (2, 2), (1, 12), (1, 12), (1, 12), (2, 3), (0, 4), (2, 2), (1, 12), (1, 12), (1, 12), (2, 3), (0, 4), (2, 2), (1, 12), (1, 12), (1, 12), (2, 3), (0, 4), (2, 2), (1, 12), (1, 12), (1, 12), (2, 3), (0, 4), (2, 2), (1, 12), (1, 12), (1, 12), (2, 3), (0, 4), (2, 2), (1, 12), (1, 12), (1, 12), (2, 3), (0, 5), (10, 8), (1, 4), (0, 6), (1, 6), (2, 6), (2, 6), (2, 6), (0, 8), (2, 2), (1, 2), (1, 2), (1, 60), (2, 6), (1, 72), (1, 72), (1, 72), (2, 18), (2, 6), (2, 6), (1, 6), (1, 6), (2, 12), (1, 6), (2, 6), (1, 8), (1, 8), (1, 8), (1, 8), (1, 8), (1, 8), (1, 8), (1, 32), (1, 8), (1, 4), (1, 4), (1, 6), (0, 7), (1, 4), (0, 7), (1, 4), (0, 7), (1, 4), (0, 7), (1, 4), (0, 7), (1, 4), (0, 7), (1, 4), (0, 7), (1, 4), (0, 7), (1, 4)]
def cb_kd (i : Nat) : Nat × Nat := cb_kdL.getD i (1, 0)
def cb_G : ex_G := (cb_cd, cb_mx, cb_rt, cb_ow, cb_lt, cb_nf, cb_fk, cb_kd)
def cb_ym : Nat → MethodName
  | 0 => ⟨"CommandBusesLaw", "law", "([I)Z"⟩
  | 1 => ⟨"CommandBuses", "<init>", "()V"⟩
  | 2 => ⟨"CommandBuses", "encode", "(ZI)J"⟩
  | 3 => ⟨"CommandBuses", "isValue", "(I)Z"⟩
  | 4 => ⟨"CommandBuses", "decode", "(J)I"⟩
  | 5 => ⟨"CommandBuses", "live", "(IZ)Z"⟩
  | 6 => ⟨"CommandBuses", "isTerminal", "(I)Z"⟩
  | 7 => ⟨"CommandBuses", "draft", "(IIII)Z"⟩
  | 8 => ⟨"CommandBuses", "isPlace", "(II)Z"⟩
  | 9 => ⟨"CommandBuses", "isSubaddress", "(I)Z"⟩
  | 10 => ⟨"CommandBuses", "isIndex", "(I)Z"⟩
  | 11 => ⟨"CommandBuses", "publish", "(II)Z"⟩
  | 12 => ⟨"CommandBuses", "received", "(III)I"⟩
  | 13 => ⟨"CommandBuses", "terminal", "(II)I"⟩
  | 14 => ⟨"CommandBuses", "message", "(IIIIII)I"⟩
  | 15 => ⟨"CommandBuses", "isPeriod", "(I)Z"⟩
  | 16 => ⟨"CommandBuses", "areTerminalsOf", "(III)Z"⟩
  | 17 => ⟨"CommandBuses", "isContentOf", "(III)Z"⟩
  | 18 => ⟨"CommandBuses", "isModeCode", "(I)Z"⟩
  | 19 => ⟨"CommandBuses", "give", "(III)Z"⟩
  | 20 => ⟨"CommandBuses", "taken", "(II)I"⟩
  | 21 => ⟨"CommandBuses", "seal", "(I)I"⟩
  | 22 => ⟨"CommandBuses", "open", "()Z"⟩
  | 23 => ⟨"CommandBuses", "load", "(I)I"⟩
  | 24 => ⟨"CommandBuses", "fault", "(III)Z"⟩
  | 25 => ⟨"CommandBuses", "run", "()I"⟩
  | 26 => ⟨"CommandBuses", "pollDropped", "()V"⟩
  | 27 => ⟨"CommandBuses", "outcome", "(I)I"⟩
  | 28 => ⟨"CommandBuses", "bus", "()I"⟩
  | 29 => ⟨"CommandBuses", "words", "()I"⟩
  | 30 => ⟨"CommandBuses", "heard", "(I)I"⟩
  | 31 => ⟨"CommandBuses$Controller", "<init>", "()V"⟩
  | 32 => ⟨"CommandBuses$Controller", "answersPoll", "(I)Z"⟩
  | 33 => ⟨"CommandBuses$Controller", "modeGoesWell", "(LCommandBuses$Terminal;II)Z"⟩
  | 34 => ⟨"CommandBuses$Controller", "outcomeOfDoing", "(LCommandBuses$Message;)I"⟩
  | 35 => ⟨"CommandBuses$Controller", "goesWell", "(LCommandBuses$Message;I)Z"⟩
  | 36 => ⟨"CommandBuses$Controller", "giveGoesWell", "(LCommandBuses$Message;I)Z"⟩
  | 37 => ⟨"CommandBuses$Controller", "takeGoesWell", "(LCommandBuses$Message;I)Z"⟩
  | 38 => ⟨"CommandBuses$Controller", "passGoesWell", "(LCommandBuses$Message;I)Z"⟩
  | 39 => ⟨"CommandBuses$Controller", "tellAll", "(LCommandBuses$Message;I)V"⟩
  | 40 => ⟨"CommandBuses$Controller", "modeMessageGoesWell", "(LCommandBuses$Message;I)Z"⟩
  | 41 => ⟨"CommandBuses$Wires", "<init>", "()V"⟩
  | 42 => ⟨"CommandBuses$Wires", "arm", "(III)V"⟩
  | 43 => ⟨"CommandBuses$Wires", "carry", "(II)Z"⟩
  | 44 => ⟨"CommandBuses$Wires", "nextHit", "(I)I"⟩
  | 45 => ⟨"CommandBuses$Wires", "carryData", "(I[III)Z"⟩
  | 46 => ⟨"CommandBuses$Monitor", "<init>", "()V"⟩
  | 47 => ⟨"CommandBuses$Monitor", "write", "(I)V"⟩
  | 48 => ⟨"CommandBuses$Monitor", "latestBut", "(I)I"⟩
  | 49 => ⟨"CommandBuses$Terminal", "<init>", "(I)V"⟩
  | 50 => ⟨"CommandBuses$Terminal", "firstOf", "(I)I"⟩
  | 51 => ⟨"CommandBuses$Terminal", "sendDraft", "(I)V"⟩
  | 52 => ⟨"CommandBuses$Terminal", "valueReceived", "(II)I"⟩
  | 53 => ⟨"CommandBuses$Terminal", "status", "()I"⟩
  | 54 => ⟨"CommandBuses$Terminal", "obeyMode", "(II)Z"⟩
  | 55 => ⟨"CommandBuses$Terminal", "clearMarks", "()V"⟩
  | 56 => ⟨"CommandBuses$Terminal", "changeBy", "(II)V"⟩
  | 57 => ⟨"CommandBuses$Terminal", "obey", "(I)Z"⟩
  | 58 => ⟨"CommandBuses$Terminal", "receive", "(ZI[III)Z"⟩
  | 59 => ⟨"CommandBuses$Table", "<init>", "()V"⟩
  | 60 => ⟨"CommandBuses$Table", "add", "(LCommandBuses$Message;)I"⟩
  | 61 => ⟨"CommandBuses$Table", "find", "(I)LCommandBuses$Message;"⟩
  | 62 => ⟨"CommandBuses$Table", "fillFrames", "()I"⟩
  | 63 => ⟨"CommandBuses$Table", "bestPhase", "(LCommandBuses$Message;)I"⟩
  | 64 => ⟨"CommandBuses$Table", "greatestLoad", "(LCommandBuses$Message;I)I"⟩
  | 65 => ⟨"CommandBuses$Table", "addLength", "(LCommandBuses$Message;)V"⟩
  | 66 => ⟨"CommandBuses$Table", "takeFrame", "()I"⟩
  | 67 => ⟨"CommandBuses$Roster", "<init>", "()V"⟩
  | 68 => ⟨"CommandBuses$Roster", "takeBack", "(I)V"⟩
  | 69 => ⟨"CommandBuses$Roster", "hasDropped", "(LCommandBuses$Message;)Z"⟩
  | 70 => ⟨"CommandBuses$Roster", "note", "(LCommandBuses$Message;)V"⟩
  | 71 => ⟨"CommandBuses$Roster", "endFrame", "()V"⟩
  | 72 => ⟨"CommandBuses$Message", "<init>", "(IIIIII)V"⟩
  | 73 => ⟨"CommandBuses$Message", "isAt", "(II)Z"⟩
  | 74 => ⟨"CommandBuses$Message", "length", "()I"⟩
  | 75 => ⟨"CommandBuses$Message", "statuses", "()I"⟩
  | 76 => ⟨"CommandBuses$Message", "commands", "()I"⟩
  | 77 => ⟨"CommandBuses$Message", "dataWords", "()I"⟩
  | 78 => ⟨"CommandBuses$Message", "isIn", "(I)Z"⟩
  | 79 => ⟨"CommandBuses$Message", "isFor", "(I)Z"⟩
  | 80 => ⟨"CommandBusesModel", "<init>", "()V"⟩
  | 81 => ⟨"CommandBusesModel", "encode", "(ZI)J"⟩
  | 82 => ⟨"CommandBusesModel", "isValue", "(I)Z"⟩
  | 83 => ⟨"CommandBusesModel", "decode", "(J)I"⟩
  | 84 => ⟨"CommandBusesModel", "live", "(IZ)Z"⟩
  | 85 => ⟨"CommandBusesModel", "isTerminal", "(I)Z"⟩
  | 86 => ⟨"CommandBusesModel", "draft", "(IIII)Z"⟩
  | 87 => ⟨"CommandBusesModel", "isPlace", "(II)Z"⟩
  | 88 => ⟨"CommandBusesModel", "isIndex", "(I)Z"⟩
  | 89 => ⟨"CommandBusesModel", "place", "(II)I"⟩
  | 90 => ⟨"CommandBusesModel", "publish", "(II)Z"⟩
  | 91 => ⟨"CommandBusesModel", "received", "(III)I"⟩
  | 92 => ⟨"CommandBusesModel", "terminal", "(II)I"⟩
  | 93 => ⟨"CommandBusesModel", "statusOf", "(I)I"⟩
  | 94 => ⟨"CommandBusesModel", "message", "(IIIIII)I"⟩
  | 95 => ⟨"CommandBusesModel", "isCode", "(I)Z"⟩
  | 96 => ⟨"CommandBusesModel", "give", "(III)Z"⟩
  | 97 => ⟨"CommandBusesModel", "isMessage", "(I)Z"⟩
  | 98 => ⟨"CommandBusesModel", "taken", "(II)I"⟩
  | 99 => ⟨"CommandBusesModel", "seal", "(I)I"⟩
  | 100 => ⟨"CommandBusesModel", "worst", "(II)I"⟩
  | 101 => ⟨"CommandBusesModel", "loadOf", "(II)I"⟩
  | 102 => ⟨"CommandBusesModel", "isIn", "(II)Z"⟩
  | 103 => ⟨"CommandBusesModel", "lengthOf", "(I)I"⟩
  | 104 => ⟨"CommandBusesModel", "open", "()Z"⟩
  | 105 => ⟨"CommandBusesModel", "load", "(I)I"⟩
  | 106 => ⟨"CommandBusesModel", "fault", "(III)Z"⟩
  | 107 => ⟨"CommandBusesModel", "run", "()I"⟩
  | 108 => ⟨"CommandBusesModel", "poll", "()V"⟩
  | 109 => ⟨"CommandBusesModel", "commands", "(IIII)Z"⟩
  | 110 => ⟨"CommandBusesModel", "command", "(IIII)I"⟩
  | 111 => ⟨"CommandBusesModel", "put", "(IZI)I"⟩
  | 112 => ⟨"CommandBusesModel", "hears", "(IIIZZ)Z"⟩
  | 113 => ⟨"CommandBusesModel", "saysStatus", "(II)I"⟩
  | 114 => ⟨"CommandBusesModel", "says", "(IIZI)I"⟩
  | 115 => ⟨"CommandBusesModel", "isAside", "(I)Z"⟩
  | 116 => ⟨"CommandBusesModel", "isOf", "(II)Z"⟩
  | 117 => ⟨"CommandBusesModel", "does", "(I)V"⟩
  | 118 => ⟨"CommandBusesModel", "attempt", "(II)Z"⟩
  | 119 => ⟨"CommandBusesModel", "gives", "(II)Z"⟩
  | 120 => ⟨"CommandBusesModel", "dataWord", "(II)V"⟩
  | 121 => ⟨"CommandBusesModel", "takes", "(IIIZ)Z"⟩
  | 122 => ⟨"CommandBusesModel", "passes", "(II)Z"⟩
  | 123 => ⟨"CommandBusesModel", "answers", "(IIII)Z"⟩
  | 124 => ⟨"CommandBusesModel", "note", "(I)V"⟩
  | 125 => ⟨"CommandBusesModel", "outcome", "(I)I"⟩
  | 126 => ⟨"CommandBusesModel", "bus", "()I"⟩
  | 127 => ⟨"CommandBusesModel", "words", "()I"⟩
  | 128 => ⟨"CommandBusesModel", "heard", "(I)I"⟩
  | 129 => ⟨"CommandBuses$Coding", "halvesOf", "(ZI)J"⟩
  | 130 => ⟨"CommandBuses$Coding", "isOdd", "(I)Z"⟩
  | 131 => ⟨"CommandBuses$Coding", "wordOf", "(J)I"⟩
  | 132 => ⟨"CommandBuses$Commands", "mode", "(II)I"⟩
  | 133 => ⟨"CommandBuses$Commands", "toSend", "(III)I"⟩
  | 134 => ⟨"CommandBuses$Commands", "toReceive", "(III)I"⟩
  | 135 => ⟨"java/lang/Integer", "bitCount", "(I)I"⟩
  | 136 => ⟨"java/util/Arrays", "fill", "([II)V"⟩
  | _ => ⟨"", "", ""⟩
def cb_bt : Nat → ByteArray
  | 0 => code
  | 1 => prog_1_method_1_code
  | 2 => prog_1_method_2_code
  | 3 => prog_1_method_26_code
  | 4 => prog_1_method_3_code
  | 5 => prog_1_method_4_code
  | 6 => prog_1_method_22_code
  | 7 => prog_1_method_5_code
  | 8 => prog_1_method_24_code
  | 9 => prog_1_method_23_code
  | 10 => prog_1_method_25_code
  | 11 => prog_1_method_6_code
  | 12 => prog_1_method_7_code
  | 13 => prog_1_method_8_code
  | 14 => prog_1_method_9_code
  | 15 => prog_1_method_27_code
  | 16 => prog_1_method_29_code
  | 17 => prog_1_method_30_code
  | 18 => prog_1_method_28_code
  | 19 => prog_1_method_10_code
  | 20 => prog_1_method_11_code
  | 21 => prog_1_method_12_code
  | 22 => prog_1_method_13_code
  | 23 => prog_1_method_14_code
  | 24 => prog_1_method_15_code
  | 25 => prog_1_method_16_code
  | 26 => prog_1_method_21_code
  | 27 => prog_1_method_17_code
  | 28 => prog_1_method_18_code
  | 29 => prog_1_method_19_code
  | 30 => prog_1_method_20_code
  | 31 => prog_4_method_1_code
  | 32 => prog_4_method_3_code
  | 33 => prog_4_method_10_code
  | 34 => prog_4_method_2_code
  | 35 => prog_4_method_4_code
  | 36 => prog_4_method_5_code
  | 37 => prog_4_method_6_code
  | 38 => prog_4_method_7_code
  | 39 => prog_4_method_8_code
  | 40 => prog_4_method_9_code
  | 41 => prog_10_method_1_code
  | 42 => prog_10_method_2_code
  | 43 => prog_10_method_3_code
  | 44 => prog_10_method_5_code
  | 45 => prog_10_method_4_code
  | 46 => prog_6_method_1_code
  | 47 => prog_6_method_2_code
  | 48 => prog_6_method_3_code
  | 49 => prog_9_method_1_code
  | 50 => prog_9_method_2_code
  | 51 => prog_9_method_4_code
  | 52 => prog_9_method_5_code
  | 53 => prog_9_method_3_code
  | 54 => prog_9_method_7_code
  | 55 => prog_9_method_9_code
  | 56 => prog_9_method_8_code
  | 57 => prog_9_method_6_code
  | 58 => prog_9_method_10_code
  | 59 => prog_8_method_1_code
  | 60 => prog_8_method_2_code
  | 61 => prog_8_method_3_code
  | 62 => prog_8_method_5_code
  | 63 => prog_8_method_6_code
  | 64 => prog_8_method_7_code
  | 65 => prog_8_method_8_code
  | 66 => prog_8_method_4_code
  | 67 => prog_7_method_1_code
  | 68 => prog_7_method_3_code
  | 69 => prog_7_method_2_code
  | 70 => prog_7_method_4_code
  | 71 => prog_7_method_5_code
  | 72 => prog_5_method_1_code
  | 73 => prog_5_method_4_code
  | 74 => prog_5_method_5_code
  | 75 => prog_5_method_7_code
  | 76 => prog_5_method_6_code
  | 77 => prog_5_method_8_code
  | 78 => prog_5_method_3_code
  | 79 => prog_5_method_2_code
  | 80 => prog_12_method_1_code
  | 81 => prog_12_method_7_code
  | 82 => prog_12_method_4_code
  | 83 => prog_12_method_8_code
  | 84 => prog_12_method_10_code
  | 85 => prog_12_method_2_code
  | 86 => prog_12_method_11_code
  | 87 => prog_12_method_3_code
  | 88 => prog_12_method_5_code
  | 89 => prog_12_method_6_code
  | 90 => prog_12_method_12_code
  | 91 => prog_12_method_13_code
  | 92 => prog_12_method_15_code
  | 93 => prog_12_method_14_code
  | 94 => prog_12_method_29_code
  | 95 => prog_12_method_28_code
  | 96 => prog_12_method_31_code
  | 97 => prog_12_method_30_code
  | 98 => prog_12_method_32_code
  | 99 => prog_12_method_37_code
  | 100 => prog_12_method_36_code
  | 101 => prog_12_method_35_code
  | 102 => prog_12_method_34_code
  | 103 => prog_12_method_33_code
  | 104 => prog_12_method_38_code
  | 105 => prog_12_method_39_code
  | 106 => prog_12_method_40_code
  | 107 => prog_12_method_45_code
  | 108 => prog_12_method_43_code
  | 109 => prog_12_method_26_code
  | 110 => prog_12_method_22_code
  | 111 => prog_12_method_9_code
  | 112 => prog_12_method_18_code
  | 113 => prog_12_method_17_code
  | 114 => prog_12_method_16_code
  | 115 => prog_12_method_42_code
  | 116 => prog_12_method_41_code
  | 117 => prog_12_method_27_code
  | 118 => prog_12_method_23_code
  | 119 => prog_12_method_24_code
  | 120 => prog_12_method_20_code
  | 121 => prog_12_method_19_code
  | 122 => prog_12_method_25_code
  | 123 => prog_12_method_21_code
  | 124 => prog_12_method_44_code
  | 125 => prog_12_method_46_code
  | 126 => prog_12_method_47_code
  | 127 => prog_12_method_48_code
  | 128 => prog_12_method_49_code
  | 129 => prog_2_method_2_code
  | 130 => prog_2_method_4_code
  | 131 => prog_2_method_3_code
  | 132 => prog_3_method_4_code
  | 133 => prog_3_method_3_code
  | 134 => prog_3_method_2_code
  | 135 => prog_13_method_49_code
  | 136 => prog_16_method_103_code
  | _ => code
def cb_rT : Nat → Option FieldType
  | 0 => (Option.some FieldType.boolean)
  | 1 => (Option.none : Option FieldType)
  | 2 => (Option.some FieldType.long)
  | 3 => (Option.some FieldType.boolean)
  | 4 => (Option.some FieldType.int)
  | 5 => (Option.some FieldType.boolean)
  | 6 => (Option.some FieldType.boolean)
  | 7 => (Option.some FieldType.boolean)
  | 8 => (Option.some FieldType.boolean)
  | 9 => (Option.some FieldType.boolean)
  | 10 => (Option.some FieldType.boolean)
  | 11 => (Option.some FieldType.boolean)
  | 12 => (Option.some FieldType.int)
  | 13 => (Option.some FieldType.int)
  | 14 => (Option.some FieldType.int)
  | 15 => (Option.some FieldType.boolean)
  | 16 => (Option.some FieldType.boolean)
  | 17 => (Option.some FieldType.boolean)
  | 18 => (Option.some FieldType.boolean)
  | 19 => (Option.some FieldType.boolean)
  | 20 => (Option.some FieldType.int)
  | 21 => (Option.some FieldType.int)
  | 22 => (Option.some FieldType.boolean)
  | 23 => (Option.some FieldType.int)
  | 24 => (Option.some FieldType.boolean)
  | 25 => (Option.some FieldType.int)
  | 26 => (Option.none : Option FieldType)
  | 27 => (Option.some FieldType.int)
  | 28 => (Option.some FieldType.int)
  | 29 => (Option.some FieldType.int)
  | 30 => (Option.some FieldType.int)
  | 31 => (Option.none : Option FieldType)
  | 32 => (Option.some FieldType.boolean)
  | 33 => (Option.some FieldType.boolean)
  | 34 => (Option.some FieldType.int)
  | 35 => (Option.some FieldType.boolean)
  | 36 => (Option.some FieldType.boolean)
  | 37 => (Option.some FieldType.boolean)
  | 38 => (Option.some FieldType.boolean)
  | 39 => (Option.none : Option FieldType)
  | 40 => (Option.some FieldType.boolean)
  | 41 => (Option.none : Option FieldType)
  | 42 => (Option.none : Option FieldType)
  | 43 => (Option.some FieldType.boolean)
  | 44 => (Option.some FieldType.int)
  | 45 => (Option.some FieldType.boolean)
  | 46 => (Option.none : Option FieldType)
  | 47 => (Option.none : Option FieldType)
  | 48 => (Option.some FieldType.int)
  | 49 => (Option.none : Option FieldType)
  | 50 => (Option.some FieldType.int)
  | 51 => (Option.none : Option FieldType)
  | 52 => (Option.some FieldType.int)
  | 53 => (Option.some FieldType.int)
  | 54 => (Option.some FieldType.boolean)
  | 55 => (Option.none : Option FieldType)
  | 56 => (Option.none : Option FieldType)
  | 57 => (Option.some FieldType.boolean)
  | 58 => (Option.some FieldType.boolean)
  | 59 => (Option.none : Option FieldType)
  | 60 => (Option.some FieldType.int)
  | 61 => (Option.some (FieldType.object "CommandBuses$Message"))
  | 62 => (Option.some FieldType.int)
  | 63 => (Option.some FieldType.int)
  | 64 => (Option.some FieldType.int)
  | 65 => (Option.none : Option FieldType)
  | 66 => (Option.some FieldType.int)
  | 67 => (Option.none : Option FieldType)
  | 68 => (Option.none : Option FieldType)
  | 69 => (Option.some FieldType.boolean)
  | 70 => (Option.none : Option FieldType)
  | 71 => (Option.none : Option FieldType)
  | 72 => (Option.none : Option FieldType)
  | 73 => (Option.some FieldType.boolean)
  | 74 => (Option.some FieldType.int)
  | 75 => (Option.some FieldType.int)
  | 76 => (Option.some FieldType.int)
  | 77 => (Option.some FieldType.int)
  | 78 => (Option.some FieldType.boolean)
  | 79 => (Option.some FieldType.boolean)
  | 80 => (Option.none : Option FieldType)
  | 81 => (Option.some FieldType.long)
  | 82 => (Option.some FieldType.boolean)
  | 83 => (Option.some FieldType.int)
  | 84 => (Option.some FieldType.boolean)
  | 85 => (Option.some FieldType.boolean)
  | 86 => (Option.some FieldType.boolean)
  | 87 => (Option.some FieldType.boolean)
  | 88 => (Option.some FieldType.boolean)
  | 89 => (Option.some FieldType.int)
  | 90 => (Option.some FieldType.boolean)
  | 91 => (Option.some FieldType.int)
  | 92 => (Option.some FieldType.int)
  | 93 => (Option.some FieldType.int)
  | 94 => (Option.some FieldType.int)
  | 95 => (Option.some FieldType.boolean)
  | 96 => (Option.some FieldType.boolean)
  | 97 => (Option.some FieldType.boolean)
  | 98 => (Option.some FieldType.int)
  | 99 => (Option.some FieldType.int)
  | 100 => (Option.some FieldType.int)
  | 101 => (Option.some FieldType.int)
  | 102 => (Option.some FieldType.boolean)
  | 103 => (Option.some FieldType.int)
  | 104 => (Option.some FieldType.boolean)
  | 105 => (Option.some FieldType.int)
  | 106 => (Option.some FieldType.boolean)
  | 107 => (Option.some FieldType.int)
  | 108 => (Option.none : Option FieldType)
  | 109 => (Option.some FieldType.boolean)
  | 110 => (Option.some FieldType.int)
  | 111 => (Option.some FieldType.int)
  | 112 => (Option.some FieldType.boolean)
  | 113 => (Option.some FieldType.int)
  | 114 => (Option.some FieldType.int)
  | 115 => (Option.some FieldType.boolean)
  | 116 => (Option.some FieldType.boolean)
  | 117 => (Option.none : Option FieldType)
  | 118 => (Option.some FieldType.boolean)
  | 119 => (Option.some FieldType.boolean)
  | 120 => (Option.none : Option FieldType)
  | 121 => (Option.some FieldType.boolean)
  | 122 => (Option.some FieldType.boolean)
  | 123 => (Option.some FieldType.boolean)
  | 124 => (Option.none : Option FieldType)
  | 125 => (Option.some FieldType.int)
  | 126 => (Option.some FieldType.int)
  | 127 => (Option.some FieldType.int)
  | 128 => (Option.some FieldType.int)
  | 129 => (Option.some FieldType.long)
  | 130 => (Option.some FieldType.boolean)
  | 131 => (Option.some FieldType.int)
  | 132 => (Option.some FieldType.int)
  | 133 => (Option.some FieldType.int)
  | 134 => (Option.some FieldType.int)
  | 135 => (Option.some FieldType.int)
  | 136 => (Option.none : Option FieldType)
  | _ => none

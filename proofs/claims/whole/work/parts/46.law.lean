abbrev M_L_law : MI := (yL_law, cL_law, 4, ret)
def tdt_L_law_0 : List (Nat × Instr × Nat × Nat) := [(0, .new 7, 3, 3), (3, .dup, 1, 4), (4, .invokespecial 9, 3, 7), (7, .astore_n 1, 1, 8), (8, .new 10, 3, 11), (11, .dup, 1, 12), (12, .invokespecial 12, 3, 15), (15, .astore_n 2, 1, 16), (16, .iconst 0, 1, 17), (17, .istore_n 3, 1, 18), (18, .iload_n 3, 1, 19), (19, .aload_n 0, 1, 20), (20, .arraylength, 1, 21), (21, .iconst 4, 1, 22), (22, .isub, 1, 23), (23, .if_icmp .gt 977, 3, 26), (26, .aload_n 0, 1, 27), (27, .iload_n 3, 1, 28), (28, .iaload, 1, 29), (29, .bipush 31, 2, 31), (31, .iand, 1, 32), (32, .tableswitch 962 0 28 #[132, 155, 188, 231, 254, 317, 330, 343, 376, 399, 422, 455, 479, 512, 555, 578, 621, 634, 667, 700, 743, 786, 799, 832, 856, 879, 902, 925, 948], 132, 164), (164, .aload_n 1, 1, 165), (165, .aload_n 0, 1, 166), (166, .iload_n 3, 1, 167), (167, .iconst 1, 1, 168), (168, .iadd, 1, 169), (169, .iaload, 1, 170), (170, .invokevirtual 13, 3, 173), (173, .aload_n 2, 1, 174), (174, .aload_n 0, 1, 175), (175, .iload_n 3, 1, 176), (176, .iconst 1, 1, 177), (177, .iadd, 1, 178), (178, .iaload, 1, 179), (179, .invokevirtual 17, 3, 182), (182, .if_icmp .eq 812, 3, 185), (185, .iconst 0, 1, 186), (186, .ireturn, 1, 187), (187, .aload_n 1, 1, 188), (188, .aload_n 0, 1, 189), (189, .iload_n 3, 1, 190), (190, .iconst 1, 1, 191), (191, .iadd, 1, 192), (192, .iaload, 1, 193), (193, .aload_n 0, 1, 194), (194, .iload_n 3, 1, 195), (195, .iconst 2, 1, 196), (196, .iadd, 1, 197), (197, .iaload, 1, 198)]
set_option maxRecDepth 100000 in
theorem dt_L_law_0 : DT cL_law tdt_L_law_0 := by unfold DT; decide +kernel
def tdt_L_law_1 : List (Nat × Instr × Nat × Nat) := [(198, .invokevirtual 18, 3, 201), (201, .aload_n 2, 1, 202), (202, .aload_n 0, 1, 203), (203, .iload_n 3, 1, 204), (204, .iconst 1, 1, 205), (205, .iadd, 1, 206), (206, .iaload, 1, 207), (207, .aload_n 0, 1, 208), (208, .iload_n 3, 1, 209), (209, .iconst 2, 1, 210), (210, .iadd, 1, 211), (211, .iaload, 1, 212), (212, .invokevirtual 22, 3, 215), (215, .if_icmp .eq 779, 3, 218), (218, .iconst 0, 1, 219), (219, .ireturn, 1, 220), (220, .aload_n 1, 1, 221), (221, .aload_n 0, 1, 222), (222, .iload_n 3, 1, 223), (223, .iconst 1, 1, 224), (224, .iadd, 1, 225), (225, .iaload, 1, 226), (226, .aload_n 0, 1, 227), (227, .iload_n 3, 1, 228), (228, .iconst 2, 1, 229), (229, .iadd, 1, 230), (230, .iaload, 1, 231), (231, .aload_n 0, 1, 232), (232, .iload_n 3, 1, 233), (233, .iconst 3, 1, 234), (234, .iadd, 1, 235), (235, .iaload, 1, 236), (236, .invokevirtual 23, 3, 239), (239, .aload_n 2, 1, 240), (240, .aload_n 0, 1, 241), (241, .iload_n 3, 1, 242), (242, .iconst 1, 1, 243), (243, .iadd, 1, 244), (244, .iaload, 1, 245), (245, .aload_n 0, 1, 246), (246, .iload_n 3, 1, 247), (247, .iconst 2, 1, 248), (248, .iadd, 1, 249), (249, .iaload, 1, 250), (250, .aload_n 0, 1, 251), (251, .iload_n 3, 1, 252), (252, .iconst 3, 1, 253), (253, .iadd, 1, 254), (254, .iaload, 1, 255), (255, .invokevirtual 27, 3, 258)]
set_option maxRecDepth 100000 in
theorem dt_L_law_1 : DT cL_law tdt_L_law_1 := by unfold DT; decide +kernel
def tdt_L_law_2 : List (Nat × Instr × Nat × Nat) := [(258, .if_icmp .eq 736, 3, 261), (261, .iconst 0, 1, 262), (262, .ireturn, 1, 263), (263, .aload_n 1, 1, 264), (264, .aload_n 0, 1, 265), (265, .iload_n 3, 1, 266), (266, .iconst 1, 1, 267), (267, .iadd, 1, 268), (268, .iaload, 1, 269), (269, .invokevirtual 28, 3, 272), (272, .aload_n 2, 1, 273), (273, .aload_n 0, 1, 274), (274, .iload_n 3, 1, 275), (275, .iconst 1, 1, 276), (276, .iadd, 1, 277), (277, .iaload, 1, 278), (278, .invokevirtual 31, 3, 281), (281, .if_icmp .eq 713, 3, 284), (284, .iconst 0, 1, 285), (285, .ireturn, 1, 286), (286, .aload_n 1, 1, 287), (287, .aload_n 0, 1, 288), (288, .iload_n 3, 1, 289), (289, .iconst 1, 1, 290), (290, .iadd, 1, 291), (291, .iaload, 1, 292), (292, .i2l, 1, 293), (293, .bipush 32, 2, 295), (295, .lshl, 1, 296), (296, .aload_n 0, 1, 297), (297, .iload_n 3, 1, 298), (298, .iconst 2, 1, 299), (299, .iadd, 1, 300), (300, .iaload, 1, 301), (301, .i2l, 1, 302), (302, .ldc2_w 32, 3, 305), (305, .land, 1, 306), (306, .lor, 1, 307), (307, .aload_n 0, 1, 308), (308, .iload_n 3, 1, 309), (309, .iconst 3, 1, 310), (310, .iadd, 1, 311), (311, .iaload, 1, 312), (312, .invokevirtual 34, 3, 315), (315, .aload_n 2, 1, 316), (316, .aload_n 0, 1, 317), (317, .iload_n 3, 1, 318), (318, .iconst 1, 1, 319), (319, .iadd, 1, 320), (320, .iaload, 1, 321)]
set_option maxRecDepth 100000 in
theorem dt_L_law_2 : DT cL_law tdt_L_law_2 := by unfold DT; decide +kernel
def tdt_L_law_3 : List (Nat × Instr × Nat × Nat) := [(321, .i2l, 1, 322), (322, .bipush 32, 2, 324), (324, .lshl, 1, 325), (325, .aload_n 0, 1, 326), (326, .iload_n 3, 1, 327), (327, .iconst 2, 1, 328), (328, .iadd, 1, 329), (329, .iaload, 1, 330), (330, .i2l, 1, 331), (331, .ldc2_w 32, 3, 334), (334, .land, 1, 335), (335, .lor, 1, 336), (336, .aload_n 0, 1, 337), (337, .iload_n 3, 1, 338), (338, .iconst 3, 1, 339), (339, .iadd, 1, 340), (340, .iaload, 1, 341), (341, .invokevirtual 38, 3, 344), (344, .if_icmp .eq 650, 3, 347), (347, .iconst 0, 1, 348), (348, .ireturn, 1, 349), (349, .aload_n 1, 1, 350), (350, .invokevirtual 39, 3, 353), (353, .aload_n 2, 1, 354), (354, .invokevirtual 43, 3, 357), (357, .if_icmp .eq 637, 3, 360), (360, .iconst 0, 1, 361), (361, .ireturn, 1, 362), (362, .aload_n 1, 1, 363), (363, .invokevirtual 44, 3, 366), (366, .aload_n 2, 1, 367), (367, .invokevirtual 47, 3, 370), (370, .if_icmp .eq 624, 3, 373), (373, .iconst 0, 1, 374), (374, .ireturn, 1, 375), (375, .aload_n 1, 1, 376), (376, .aload_n 0, 1, 377), (377, .iload_n 3, 1, 378), (378, .iconst 1, 1, 379), (379, .iadd, 1, 380), (380, .iaload, 1, 381), (381, .aload_n 0, 1, 382), (382, .iload_n 3, 1, 383), (383, .iconst 2, 1, 384), (384, .iadd, 1, 385), (385, .iaload, 1, 386), (386, .invokevirtual 48, 3, 389), (389, .aload_n 2, 1, 390), (390, .aload_n 0, 1, 391), (391, .iload_n 3, 1, 392)]
set_option maxRecDepth 100000 in
theorem dt_L_law_3 : DT cL_law tdt_L_law_3 := by unfold DT; decide +kernel
def tdt_L_law_4 : List (Nat × Instr × Nat × Nat) := [(392, .iconst 1, 1, 393), (393, .iadd, 1, 394), (394, .iaload, 1, 395), (395, .aload_n 0, 1, 396), (396, .iload_n 3, 1, 397), (397, .iconst 2, 1, 398), (398, .iadd, 1, 399), (399, .iaload, 1, 400), (400, .invokevirtual 51, 3, 403), (403, .if_icmp .eq 591, 3, 406), (406, .iconst 0, 1, 407), (407, .ireturn, 1, 408), (408, .aload_n 1, 1, 409), (409, .aload_n 0, 1, 410), (410, .iload_n 3, 1, 411), (411, .iconst 1, 1, 412), (412, .iadd, 1, 413), (413, .iaload, 1, 414), (414, .invokevirtual 52, 3, 417), (417, .aload_n 2, 1, 418), (418, .aload_n 0, 1, 419), (419, .iload_n 3, 1, 420), (420, .iconst 1, 1, 421), (421, .iadd, 1, 422), (422, .iaload, 1, 423), (423, .invokevirtual 55, 3, 426), (426, .if_icmp .eq 568, 3, 429), (429, .iconst 0, 1, 430), (430, .ireturn, 1, 431), (431, .aload_n 1, 1, 432), (432, .aload_n 0, 1, 433), (433, .iload_n 3, 1, 434), (434, .iconst 1, 1, 435), (435, .iadd, 1, 436), (436, .iaload, 1, 437), (437, .invokevirtual 56, 3, 440), (440, .aload_n 2, 1, 441), (441, .aload_n 0, 1, 442), (442, .iload_n 3, 1, 443), (443, .iconst 1, 1, 444), (444, .iadd, 1, 445), (445, .iaload, 1, 446), (446, .invokevirtual 59, 3, 449), (449, .if_icmp .eq 545, 3, 452), (452, .iconst 0, 1, 453), (453, .ireturn, 1, 454), (454, .aload_n 1, 1, 455), (455, .aload_n 0, 1, 456), (456, .iload_n 3, 1, 457), (457, .iconst 1, 1, 458)]
set_option maxRecDepth 100000 in
theorem dt_L_law_4 : DT cL_law tdt_L_law_4 := by unfold DT; decide +kernel
def tdt_L_law_5 : List (Nat × Instr × Nat × Nat) := [(458, .iadd, 1, 459), (459, .iaload, 1, 460), (460, .aload_n 0, 1, 461), (461, .iload_n 3, 1, 462), (462, .iconst 2, 1, 463), (463, .iadd, 1, 464), (464, .iaload, 1, 465), (465, .invokevirtual 60, 3, 468), (468, .aload_n 2, 1, 469), (469, .aload_n 0, 1, 470), (470, .iload_n 3, 1, 471), (471, .iconst 1, 1, 472), (472, .iadd, 1, 473), (473, .iaload, 1, 474), (474, .aload_n 0, 1, 475), (475, .iload_n 3, 1, 476), (476, .iconst 2, 1, 477), (477, .iadd, 1, 478), (478, .iaload, 1, 479), (479, .invokevirtual 63, 3, 482), (482, .if_icmp .eq 512, 3, 485), (485, .iconst 0, 1, 486), (486, .ireturn, 1, 487), (487, .aload_n 1, 1, 488), (488, .aload_n 0, 1, 489), (489, .iload_n 3, 1, 490), (490, .iconst 1, 1, 491), (491, .iadd, 1, 492), (492, .iaload, 1, 493), (493, .invokevirtual 64, 3, 496), (496, .aload_n 2, 1, 497), (497, .aload_n 0, 1, 498), (498, .iload_n 3, 1, 499), (499, .iconst 1, 1, 500), (500, .iadd, 1, 501), (501, .iaload, 1, 502), (502, .invokevirtual 68, 3, 505), (505, .lcmp, 1, 506), (506, .ifCond .eq 488, 3, 509), (509, .iconst 0, 1, 510), (510, .ireturn, 1, 511), (511, .aload_n 1, 1, 512), (512, .aload_n 0, 1, 513), (513, .iload_n 3, 1, 514), (514, .iconst 1, 1, 515), (515, .iadd, 1, 516), (516, .iaload, 1, 517), (517, .aload_n 0, 1, 518), (518, .iload_n 3, 1, 519), (519, .iconst 2, 1, 520)]
set_option maxRecDepth 100000 in
theorem dt_L_law_5 : DT cL_law tdt_L_law_5 := by unfold DT; decide +kernel
def tdt_L_law_6 : List (Nat × Instr × Nat × Nat) := [(520, .iadd, 1, 521), (521, .iaload, 1, 522), (522, .invokevirtual 69, 3, 525), (525, .aload_n 2, 1, 526), (526, .aload_n 0, 1, 527), (527, .iload_n 3, 1, 528), (528, .iconst 1, 1, 529), (529, .iadd, 1, 530), (530, .iaload, 1, 531), (531, .aload_n 0, 1, 532), (532, .iload_n 3, 1, 533), (533, .iconst 2, 1, 534), (534, .iadd, 1, 535), (535, .iaload, 1, 536), (536, .invokevirtual 72, 3, 539), (539, .if_icmp .eq 455, 3, 542), (542, .iconst 0, 1, 543), (543, .ireturn, 1, 544), (544, .aload_n 1, 1, 545), (545, .aload_n 0, 1, 546), (546, .iload_n 3, 1, 547), (547, .iconst 1, 1, 548), (548, .iadd, 1, 549), (549, .iaload, 1, 550), (550, .aload_n 0, 1, 551), (551, .iload_n 3, 1, 552), (552, .iconst 2, 1, 553), (553, .iadd, 1, 554), (554, .iaload, 1, 555), (555, .aload_n 0, 1, 556), (556, .iload_n 3, 1, 557), (557, .iconst 3, 1, 558), (558, .iadd, 1, 559), (559, .iaload, 1, 560), (560, .invokevirtual 73, 3, 563), (563, .aload_n 2, 1, 564), (564, .aload_n 0, 1, 565), (565, .iload_n 3, 1, 566), (566, .iconst 1, 1, 567), (567, .iadd, 1, 568), (568, .iaload, 1, 569), (569, .aload_n 0, 1, 570), (570, .iload_n 3, 1, 571), (571, .iconst 2, 1, 572), (572, .iadd, 1, 573), (573, .iaload, 1, 574), (574, .aload_n 0, 1, 575), (575, .iload_n 3, 1, 576), (576, .iconst 3, 1, 577), (577, .iadd, 1, 578)]
set_option maxRecDepth 100000 in
theorem dt_L_law_6 : DT cL_law tdt_L_law_6 := by unfold DT; decide +kernel
def tdt_L_law_7 : List (Nat × Instr × Nat × Nat) := [(578, .iaload, 1, 579), (579, .invokevirtual 76, 3, 582), (582, .if_icmp .eq 412, 3, 585), (585, .iconst 0, 1, 586), (586, .ireturn, 1, 587), (587, .aload_n 1, 1, 588), (588, .aload_n 0, 1, 589), (589, .iload_n 3, 1, 590), (590, .iconst 1, 1, 591), (591, .iadd, 1, 592), (592, .iaload, 1, 593), (593, .invokevirtual 77, 3, 596), (596, .aload_n 2, 1, 597), (597, .aload_n 0, 1, 598), (598, .iload_n 3, 1, 599), (599, .iconst 1, 1, 600), (600, .iadd, 1, 601), (601, .iaload, 1, 602), (602, .invokevirtual 80, 3, 605), (605, .if_icmp .eq 389, 3, 608), (608, .iconst 0, 1, 609), (609, .ireturn, 1, 610), (610, .aload_n 1, 1, 611), (611, .aload_n 0, 1, 612), (612, .iload_n 3, 1, 613), (613, .iconst 1, 1, 614), (614, .iadd, 1, 615), (615, .iaload, 1, 616), (616, .aload_n 0, 1, 617), (617, .iload_n 3, 1, 618), (618, .iconst 2, 1, 619), (619, .iadd, 1, 620), (620, .iaload, 1, 621), (621, .aload_n 0, 1, 622), (622, .iload_n 3, 1, 623), (623, .iconst 3, 1, 624), (624, .iadd, 1, 625), (625, .iaload, 1, 626), (626, .invokevirtual 81, 3, 629), (629, .aload_n 2, 1, 630), (630, .aload_n 0, 1, 631), (631, .iload_n 3, 1, 632), (632, .iconst 1, 1, 633), (633, .iadd, 1, 634), (634, .iaload, 1, 635), (635, .aload_n 0, 1, 636), (636, .iload_n 3, 1, 637), (637, .iconst 2, 1, 638), (638, .iadd, 1, 639), (639, .iaload, 1, 640)]
set_option maxRecDepth 100000 in
theorem dt_L_law_7 : DT cL_law tdt_L_law_7 := by unfold DT; decide +kernel
def tdt_L_law_8 : List (Nat × Instr × Nat × Nat) := [(640, .aload_n 0, 1, 641), (641, .iload_n 3, 1, 642), (642, .iconst 3, 1, 643), (643, .iadd, 1, 644), (644, .iaload, 1, 645), (645, .invokevirtual 84, 3, 648), (648, .if_icmp .eq 346, 3, 651), (651, .iconst 0, 1, 652), (652, .ireturn, 1, 653), (653, .aload_n 1, 1, 654), (654, .invokevirtual 85, 3, 657), (657, .aload_n 2, 1, 658), (658, .invokevirtual 88, 3, 661), (661, .if_icmp .eq 333, 3, 664), (664, .iconst 0, 1, 665), (665, .ireturn, 1, 666), (666, .aload_n 1, 1, 667), (667, .aload_n 0, 1, 668), (668, .iload_n 3, 1, 669), (669, .iconst 1, 1, 670), (670, .iadd, 1, 671), (671, .iaload, 1, 672), (672, .aload_n 0, 1, 673), (673, .iload_n 3, 1, 674), (674, .iconst 2, 1, 675), (675, .iadd, 1, 676), (676, .iaload, 1, 677), (677, .invokevirtual 89, 3, 680), (680, .aload_n 2, 1, 681), (681, .aload_n 0, 1, 682), (682, .iload_n 3, 1, 683), (683, .iconst 1, 1, 684), (684, .iadd, 1, 685), (685, .iaload, 1, 686), (686, .aload_n 0, 1, 687), (687, .iload_n 3, 1, 688), (688, .iconst 2, 1, 689), (689, .iadd, 1, 690), (690, .iaload, 1, 691), (691, .invokevirtual 92, 3, 694), (694, .if_icmp .eq 300, 3, 697), (697, .iconst 0, 1, 698), (698, .ireturn, 1, 699), (699, .aload_n 1, 1, 700), (700, .aload_n 0, 1, 701), (701, .iload_n 3, 1, 702), (702, .iconst 1, 1, 703), (703, .iadd, 1, 704), (704, .iaload, 1, 705), (705, .aload_n 0, 1, 706)]
set_option maxRecDepth 100000 in
theorem dt_L_law_8 : DT cL_law tdt_L_law_8 := by unfold DT; decide +kernel
def tdt_L_law_9 : List (Nat × Instr × Nat × Nat) := [(706, .iload_n 3, 1, 707), (707, .iconst 2, 1, 708), (708, .iadd, 1, 709), (709, .iaload, 1, 710), (710, .invokevirtual 93, 3, 713), (713, .aload_n 2, 1, 714), (714, .aload_n 0, 1, 715), (715, .iload_n 3, 1, 716), (716, .iconst 1, 1, 717), (717, .iadd, 1, 718), (718, .iaload, 1, 719), (719, .aload_n 0, 1, 720), (720, .iload_n 3, 1, 721), (721, .iconst 2, 1, 722), (722, .iadd, 1, 723), (723, .iaload, 1, 724), (724, .invokevirtual 96, 3, 727), (727, .if_icmp .eq 267, 3, 730), (730, .iconst 0, 1, 731), (731, .ireturn, 1, 732), (732, .aload_n 1, 1, 733), (733, .aload_n 0, 1, 734), (734, .iload_n 3, 1, 735), (735, .iconst 1, 1, 736), (736, .iadd, 1, 737), (737, .iaload, 1, 738), (738, .aload_n 0, 1, 739), (739, .iload_n 3, 1, 740), (740, .iconst 2, 1, 741), (741, .iadd, 1, 742), (742, .iaload, 1, 743), (743, .aload_n 0, 1, 744), (744, .iload_n 3, 1, 745), (745, .iconst 3, 1, 746), (746, .iadd, 1, 747), (747, .iaload, 1, 748), (748, .invokevirtual 97, 3, 751), (751, .aload_n 2, 1, 752), (752, .aload_n 0, 1, 753), (753, .iload_n 3, 1, 754), (754, .iconst 1, 1, 755), (755, .iadd, 1, 756), (756, .iaload, 1, 757), (757, .aload_n 0, 1, 758), (758, .iload_n 3, 1, 759), (759, .iconst 2, 1, 760), (760, .iadd, 1, 761), (761, .iaload, 1, 762), (762, .aload_n 0, 1, 763), (763, .iload_n 3, 1, 764)]
set_option maxRecDepth 100000 in
theorem dt_L_law_9 : DT cL_law tdt_L_law_9 := by unfold DT; decide +kernel
def tdt_L_law_10 : List (Nat × Instr × Nat × Nat) := [(764, .iconst 3, 1, 765), (765, .iadd, 1, 766), (766, .iaload, 1, 767), (767, .invokevirtual 100, 3, 770), (770, .if_icmp .eq 224, 3, 773), (773, .iconst 0, 1, 774), (774, .ireturn, 1, 775), (775, .aload_n 1, 1, 776), (776, .aload_n 0, 1, 777), (777, .iload_n 3, 1, 778), (778, .iconst 1, 1, 779), (779, .iadd, 1, 780), (780, .iaload, 1, 781), (781, .aload_n 0, 1, 782), (782, .iload_n 3, 1, 783), (783, .iconst 2, 1, 784), (784, .iadd, 1, 785), (785, .iaload, 1, 786), (786, .aload_n 0, 1, 787), (787, .iload_n 3, 1, 788), (788, .iconst 3, 1, 789), (789, .iadd, 1, 790), (790, .iaload, 1, 791), (791, .invokevirtual 101, 3, 794), (794, .aload_n 2, 1, 795), (795, .aload_n 0, 1, 796), (796, .iload_n 3, 1, 797), (797, .iconst 1, 1, 798), (798, .iadd, 1, 799), (799, .iaload, 1, 800), (800, .aload_n 0, 1, 801), (801, .iload_n 3, 1, 802), (802, .iconst 2, 1, 803), (803, .iadd, 1, 804), (804, .iaload, 1, 805), (805, .aload_n 0, 1, 806), (806, .iload_n 3, 1, 807), (807, .iconst 3, 1, 808), (808, .iadd, 1, 809), (809, .iaload, 1, 810), (810, .invokevirtual 104, 3, 813), (813, .if_icmp .eq 181, 3, 816), (816, .iconst 0, 1, 817), (817, .ireturn, 1, 818), (818, .aload_n 1, 1, 819), (819, .invokevirtual 105, 3, 822), (822, .aload_n 2, 1, 823), (823, .invokevirtual 108, 3, 826), (826, .if_icmp .eq 168, 3, 829), (829, .iconst 0, 1, 830)]
set_option maxRecDepth 100000 in
theorem dt_L_law_10 : DT cL_law tdt_L_law_10 := by unfold DT; decide +kernel
def tdt_L_law_11 : List (Nat × Instr × Nat × Nat) := [(830, .ireturn, 1, 831), (831, .aload_n 1, 1, 832), (832, .aload_n 0, 1, 833), (833, .iload_n 3, 1, 834), (834, .iconst 1, 1, 835), (835, .iadd, 1, 836), (836, .iaload, 1, 837), (837, .aload_n 0, 1, 838), (838, .iload_n 3, 1, 839), (839, .iconst 2, 1, 840), (840, .iadd, 1, 841), (841, .iaload, 1, 842), (842, .invokevirtual 109, 3, 845), (845, .aload_n 2, 1, 846), (846, .aload_n 0, 1, 847), (847, .iload_n 3, 1, 848), (848, .iconst 1, 1, 849), (849, .iadd, 1, 850), (850, .iaload, 1, 851), (851, .aload_n 0, 1, 852), (852, .iload_n 3, 1, 853), (853, .iconst 2, 1, 854), (854, .iadd, 1, 855), (855, .iaload, 1, 856), (856, .invokevirtual 112, 3, 859), (859, .if_icmp .eq 135, 3, 862), (862, .iconst 0, 1, 863), (863, .ireturn, 1, 864), (864, .aload_n 1, 1, 865), (865, .aload_n 0, 1, 866), (866, .iload_n 3, 1, 867), (867, .iconst 1, 1, 868), (868, .iadd, 1, 869), (869, .iaload, 1, 870), (870, .invokevirtual 113, 3, 873), (873, .aload_n 2, 1, 874), (874, .aload_n 0, 1, 875), (875, .iload_n 3, 1, 876), (876, .iconst 1, 1, 877), (877, .iadd, 1, 878), (878, .iaload, 1, 879), (879, .invokevirtual 116, 3, 882), (882, .lcmp, 1, 883), (883, .ifCond .eq 111, 3, 886), (886, .iconst 0, 1, 887), (887, .ireturn, 1, 888), (888, .aload_n 1, 1, 889), (889, .aload_n 0, 1, 890), (890, .iload_n 3, 1, 891), (891, .iconst 1, 1, 892)]
set_option maxRecDepth 100000 in
theorem dt_L_law_11 : DT cL_law tdt_L_law_11 := by unfold DT; decide +kernel
def tdt_L_law_12 : List (Nat × Instr × Nat × Nat) := [(892, .iadd, 1, 893), (893, .iaload, 1, 894), (894, .invokevirtual 117, 3, 897), (897, .aload_n 2, 1, 898), (898, .aload_n 0, 1, 899), (899, .iload_n 3, 1, 900), (900, .iconst 1, 1, 901), (901, .iadd, 1, 902), (902, .iaload, 1, 903), (903, .invokevirtual 120, 3, 906), (906, .if_icmp .eq 88, 3, 909), (909, .iconst 0, 1, 910), (910, .ireturn, 1, 911), (911, .aload_n 1, 1, 912), (912, .aload_n 0, 1, 913), (913, .iload_n 3, 1, 914), (914, .iconst 1, 1, 915), (915, .iadd, 1, 916), (916, .iaload, 1, 917), (917, .invokevirtual 121, 3, 920), (920, .aload_n 2, 1, 921), (921, .aload_n 0, 1, 922), (922, .iload_n 3, 1, 923), (923, .iconst 1, 1, 924), (924, .iadd, 1, 925), (925, .iaload, 1, 926), (926, .invokevirtual 124, 3, 929), (929, .if_icmp .eq 65, 3, 932), (932, .iconst 0, 1, 933), (933, .ireturn, 1, 934), (934, .aload_n 1, 1, 935), (935, .aload_n 0, 1, 936), (936, .iload_n 3, 1, 937), (937, .iconst 1, 1, 938), (938, .iadd, 1, 939), (939, .iaload, 1, 940), (940, .invokevirtual 125, 3, 943), (943, .aload_n 2, 1, 944), (944, .aload_n 0, 1, 945), (945, .iload_n 3, 1, 946), (946, .iconst 1, 1, 947), (947, .iadd, 1, 948), (948, .iaload, 1, 949), (949, .invokevirtual 128, 3, 952), (952, .if_icmp .eq 42, 3, 955), (955, .iconst 0, 1, 956), (956, .ireturn, 1, 957), (957, .aload_n 1, 1, 958), (958, .aload_n 0, 1, 959), (959, .iload_n 3, 1, 960)]
set_option maxRecDepth 100000 in
theorem dt_L_law_12 : DT cL_law tdt_L_law_12 := by unfold DT; decide +kernel
def tdt_L_law_13 : List (Nat × Instr × Nat × Nat) := [(960, .iconst 1, 1, 961), (961, .iadd, 1, 962), (962, .iaload, 1, 963), (963, .invokevirtual 129, 3, 966), (966, .aload_n 2, 1, 967), (967, .aload_n 0, 1, 968), (968, .iload_n 3, 1, 969), (969, .iconst 1, 1, 970), (970, .iadd, 1, 971), (971, .iaload, 1, 972), (972, .invokevirtual 132, 3, 975), (975, .if_icmp .eq 19, 3, 978), (978, .iconst 0, 1, 979), (979, .ireturn, 1, 980), (980, .aload_n 1, 1, 981), (981, .invokevirtual 133, 3, 984), (984, .aload_n 2, 1, 985), (985, .invokevirtual 137, 3, 988), (988, .lcmp, 1, 989), (989, .ifCond .eq 5, 3, 992), (992, .iconst 0, 1, 993), (993, .ireturn, 1, 994), (994, .iinc 3 4, 3, 997), (997, .goto (-979), 3, 1000), (1000, .iconst 1, 1, 1001), (1001, .ireturn, 1, 1002)]
set_option maxRecDepth 100000 in
theorem dt_L_law_13 : DT cL_law tdt_L_law_13 := by unfold DT; decide +kernel
theorem DT.app {b : ByteArray} {t u : List (Nat × Instr × Nat × Nat)} (h : DT b t) (h' : DT b u) : DT b (t ++ u) := fun q hq => (List.mem_append.mp hq).elim (h q) (h' q)
theorem dt_L_law : DT cL_law (tdt_L_law_0 ++ (tdt_L_law_1 ++ (tdt_L_law_2 ++ (tdt_L_law_3 ++ (tdt_L_law_4 ++ (tdt_L_law_5 ++ (tdt_L_law_6 ++ (tdt_L_law_7 ++ (tdt_L_law_8 ++ (tdt_L_law_9 ++ (tdt_L_law_10 ++ (tdt_L_law_11 ++ (tdt_L_law_12 ++ (tdt_L_law_13)))))))))))))) := dt_L_law_0.app (dt_L_law_1.app (dt_L_law_2.app (dt_L_law_3.app (dt_L_law_4.app (dt_L_law_5.app (dt_L_law_6.app (dt_L_law_7.app (dt_L_law_8.app (dt_L_law_9.app (dt_L_law_10.app (dt_L_law_11.app (dt_L_law_12.app (dt_L_law_13)))))))))))))
theorem kb_31 : (Int8.ofInt 31).toInt32 = (31 : Int32) := by decide +kernel
theorem cn_X11_places : CFn M_X11_places 1 := ⟨tbl_in 428 (by decide +kernel) (by decide +kernel), tbl_in 109 (by decide +kernel) (by decide +kernel), by decide, by decide +kernel, by decide +kernel, by decide +kernel⟩
theorem cf_L_13 : CFV RL 13 M_X11_places 1 := ⟨cn_X11_places, Or.inl (tbl_in 425 (by decide +kernel) (by decide +kernel)), tbl_in 426 (by decide +kernel) (by decide +kernel), tbl_in 427 (by decide +kernel) (by decide +kernel)⟩
theorem cn_X12_places : CFn M_X12_places 1 := ⟨tbl_in 1040 (by decide +kernel) (by decide +kernel), tbl_in 121 (by decide +kernel) (by decide +kernel), by decide, by decide +kernel, by decide +kernel, by decide +kernel⟩
theorem cf_L_17 : CFV RL 17 M_X12_places 1 := ⟨cn_X12_places, Or.inl (tbl_in 1037 (by decide +kernel) (by decide +kernel)), tbl_in 1038 (by decide +kernel) (by decide +kernel), tbl_in 1039 (by decide +kernel) (by decide +kernel)⟩
theorem cn_X11_person : CFn M_X11_person 2 := ⟨tbl_in 444 (by decide +kernel) (by decide +kernel), tbl_in 109 (by decide +kernel) (by decide +kernel), by decide, by decide +kernel, by decide +kernel, by decide +kernel⟩
theorem cf_L_18 : CFV RL 18 M_X11_person 2 := ⟨cn_X11_person, Or.inl (tbl_in 441 (by decide +kernel) (by decide +kernel)), tbl_in 442 (by decide +kernel) (by decide +kernel), tbl_in 443 (by decide +kernel) (by decide +kernel)⟩
theorem cn_X12_person : CFn M_X12_person 2 := ⟨tbl_in 1056 (by decide +kernel) (by decide +kernel), tbl_in 121 (by decide +kernel) (by decide +kernel), by decide, by decide +kernel, by decide +kernel, by decide +kernel⟩
theorem cf_L_22 : CFV RL 22 M_X12_person 2 := ⟨cn_X12_person, Or.inl (tbl_in 1053 (by decide +kernel) (by decide +kernel)), tbl_in 1054 (by decide +kernel) (by decide +kernel), tbl_in 1055 (by decide +kernel) (by decide +kernel)⟩
theorem cn_X11_errand : CFn M_X11_errand 3 := ⟨tbl_in 459 (by decide +kernel) (by decide +kernel), tbl_in 109 (by decide +kernel) (by decide +kernel), by decide, by decide +kernel, by decide +kernel, by decide +kernel⟩
theorem cf_L_23 : CFV RL 23 M_X11_errand 3 := ⟨cn_X11_errand, Or.inl (tbl_in 456 (by decide +kernel) (by decide +kernel)), tbl_in 457 (by decide +kernel) (by decide +kernel), tbl_in 458 (by decide +kernel) (by decide +kernel)⟩
theorem cn_X12_errand : CFn M_X12_errand 3 := ⟨tbl_in 1073 (by decide +kernel) (by decide +kernel), tbl_in 121 (by decide +kernel) (by decide +kernel), by decide, by decide +kernel, by decide +kernel, by decide +kernel⟩
theorem cf_L_27 : CFV RL 27 M_X12_errand 3 := ⟨cn_X12_errand, Or.inl (tbl_in 1070 (by decide +kernel) (by decide +kernel)), tbl_in 1071 (by decide +kernel) (by decide +kernel), tbl_in 1072 (by decide +kernel) (by decide +kernel)⟩
theorem cn_X11_drop : CFn M_X11_drop 1 := ⟨tbl_in 479 (by decide +kernel) (by decide +kernel), tbl_in 109 (by decide +kernel) (by decide +kernel), by decide, by decide +kernel, by decide +kernel, by decide +kernel⟩
theorem cf_L_28 : CFV RL 28 M_X11_drop 1 := ⟨cn_X11_drop, Or.inl (tbl_in 476 (by decide +kernel) (by decide +kernel)), tbl_in 477 (by decide +kernel) (by decide +kernel), tbl_in 478 (by decide +kernel) (by decide +kernel)⟩
theorem cn_X12_drop : CFn M_X12_drop 1 := ⟨tbl_in 1088 (by decide +kernel) (by decide +kernel), tbl_in 121 (by decide +kernel) (by decide +kernel), by decide, by decide +kernel, by decide +kernel, by decide +kernel⟩
theorem cf_L_31 : CFV RL 31 M_X12_drop 1 := ⟨cn_X12_drop, Or.inl (tbl_in 1085 (by decide +kernel) (by decide +kernel)), tbl_in 1086 (by decide +kernel) (by decide +kernel), tbl_in 1087 (by decide +kernel) (by decide +kernel)⟩
theorem cl_L_32 : Cond.constantLong RL 32 4294967295 ∈ tbl := tbl_in 1393 (by decide +kernel) (by decide +kernel)
theorem cn_X11_type : CFn M_X11_type 2 := ⟨tbl_in 487 (by decide +kernel) (by decide +kernel), tbl_in 109 (by decide +kernel) (by decide +kernel), by decide, by decide +kernel, by decide +kernel, by decide +kernel⟩
theorem cf_L_34 : CFV RL 34 M_X11_type 2 := ⟨cn_X11_type, Or.inl (tbl_in 484 (by decide +kernel) (by decide +kernel)), tbl_in 485 (by decide +kernel) (by decide +kernel), tbl_in 486 (by decide +kernel) (by decide +kernel)⟩
theorem cn_X12_type : CFn M_X12_type 2 := ⟨tbl_in 1305 (by decide +kernel) (by decide +kernel), tbl_in 121 (by decide +kernel) (by decide +kernel), by decide, by decide +kernel, by decide +kernel, by decide +kernel⟩
theorem cf_L_38 : CFV RL 38 M_X12_type 2 := ⟨cn_X12_type, Or.inl (tbl_in 1302 (by decide +kernel) (by decide +kernel)), tbl_in 1303 (by decide +kernel) (by decide +kernel), tbl_in 1304 (by decide +kernel) (by decide +kernel)⟩
theorem cn_X11_clear : CFn M_X11_clear 0 := ⟨tbl_in 491 (by decide +kernel) (by decide +kernel), tbl_in 109 (by decide +kernel) (by decide +kernel), by decide, by decide +kernel, by decide +kernel, by decide +kernel⟩
theorem cf_L_39 : CFV RL 39 M_X11_clear 0 := ⟨cn_X11_clear, Or.inl (tbl_in 488 (by decide +kernel) (by decide +kernel)), tbl_in 489 (by decide +kernel) (by decide +kernel), tbl_in 490 (by decide +kernel) (by decide +kernel)⟩
theorem cn_X12_clear : CFn M_X12_clear 0 := ⟨tbl_in 1311 (by decide +kernel) (by decide +kernel), tbl_in 121 (by decide +kernel) (by decide +kernel), by decide, by decide +kernel, by decide +kernel, by decide +kernel⟩
theorem cf_L_43 : CFV RL 43 M_X12_clear 0 := ⟨cn_X12_clear, Or.inl (tbl_in 1308 (by decide +kernel) (by decide +kernel)), tbl_in 1309 (by decide +kernel) (by decide +kernel), tbl_in 1310 (by decide +kernel) (by decide +kernel)⟩
theorem cn_X11_read : CFn M_X11_read 0 := ⟨tbl_in 495 (by decide +kernel) (by decide +kernel), tbl_in 109 (by decide +kernel) (by decide +kernel), by decide, by decide +kernel, by decide +kernel, by decide +kernel⟩
theorem cf_L_44 : CFV RL 44 M_X11_read 0 := ⟨cn_X11_read, Or.inl (tbl_in 492 (by decide +kernel) (by decide +kernel)), tbl_in 493 (by decide +kernel) (by decide +kernel), tbl_in 494 (by decide +kernel) (by decide +kernel)⟩
theorem cn_X12_read : CFn M_X12_read 0 := ⟨tbl_in 1315 (by decide +kernel) (by decide +kernel), tbl_in 121 (by decide +kernel) (by decide +kernel), by decide, by decide +kernel, by decide +kernel, by decide +kernel⟩
theorem cf_L_47 : CFV RL 47 M_X12_read 0 := ⟨cn_X12_read, Or.inl (tbl_in 1312 (by decide +kernel) (by decide +kernel)), tbl_in 1313 (by decide +kernel) (by decide +kernel), tbl_in 1314 (by decide +kernel) (by decide +kernel)⟩
theorem cn_X11_day : CFn M_X11_day 2 := ⟨tbl_in 613 (by decide +kernel) (by decide +kernel), tbl_in 109 (by decide +kernel) (by decide +kernel), by decide, by decide +kernel, by decide +kernel, by decide +kernel⟩
theorem cf_L_48 : CFV RL 48 M_X11_day 2 := ⟨cn_X11_day, Or.inl (tbl_in 610 (by decide +kernel) (by decide +kernel)), tbl_in 611 (by decide +kernel) (by decide +kernel), tbl_in 612 (by decide +kernel) (by decide +kernel)⟩
theorem cn_X12_day : CFn M_X12_day 2 := ⟨tbl_in 1096 (by decide +kernel) (by decide +kernel), tbl_in 121 (by decide +kernel) (by decide +kernel), by decide, by decide +kernel, by decide +kernel, by decide +kernel⟩
theorem cf_L_51 : CFV RL 51 M_X12_day 2 := ⟨cn_X12_day, Or.inl (tbl_in 1093 (by decide +kernel) (by decide +kernel)), tbl_in 1094 (by decide +kernel) (by decide +kernel), tbl_in 1095 (by decide +kernel) (by decide +kernel)⟩
theorem cn_X11_best : CFn M_X11_best 1 := ⟨tbl_in 706 (by decide +kernel) (by decide +kernel), tbl_in 109 (by decide +kernel) (by decide +kernel), by decide, by decide +kernel, by decide +kernel, by decide +kernel⟩
theorem cf_L_52 : CFV RL 52 M_X11_best 1 := ⟨cn_X11_best, Or.inl (tbl_in 703 (by decide +kernel) (by decide +kernel)), tbl_in 704 (by decide +kernel) (by decide +kernel), tbl_in 705 (by decide +kernel) (by decide +kernel)⟩
theorem cn_X12_best : CFn M_X12_best 1 := ⟨tbl_in 1160 (by decide +kernel) (by decide +kernel), tbl_in 121 (by decide +kernel) (by decide +kernel), by decide, by decide +kernel, by decide +kernel, by decide +kernel⟩
theorem cf_L_55 : CFV RL 55 M_X12_best 1 := ⟨cn_X12_best, Or.inl (tbl_in 1157 (by decide +kernel) (by decide +kernel)), tbl_in 1158 (by decide +kernel) (by decide +kernel), tbl_in 1159 (by decide +kernel) (by decide +kernel)⟩
theorem cn_X11_most : CFn M_X11_most 1 := ⟨tbl_in 739 (by decide +kernel) (by decide +kernel), tbl_in 109 (by decide +kernel) (by decide +kernel), by decide, by decide +kernel, by decide +kernel, by decide +kernel⟩
theorem cf_L_56 : CFV RL 56 M_X11_most 1 := ⟨cn_X11_most, Or.inl (tbl_in 736 (by decide +kernel) (by decide +kernel)), tbl_in 737 (by decide +kernel) (by decide +kernel), tbl_in 738 (by decide +kernel) (by decide +kernel)⟩
theorem cn_X12_most : CFn M_X12_most 1 := ⟨tbl_in 1176 (by decide +kernel) (by decide +kernel), tbl_in 121 (by decide +kernel) (by decide +kernel), by decide, by decide +kernel, by decide +kernel, by decide +kernel⟩
theorem cf_L_59 : CFV RL 59 M_X12_most 1 := ⟨cn_X12_most, Or.inl (tbl_in 1173 (by decide +kernel) (by decide +kernel)), tbl_in 1174 (by decide +kernel) (by decide +kernel), tbl_in 1175 (by decide +kernel) (by decide +kernel)⟩
theorem cn_X11_lot : CFn M_X11_lot 2 := ⟨tbl_in 780 (by decide +kernel) (by decide +kernel), tbl_in 109 (by decide +kernel) (by decide +kernel), by decide, by decide +kernel, by decide +kernel, by decide +kernel⟩
theorem cf_L_60 : CFV RL 60 M_X11_lot 2 := ⟨cn_X11_lot, Or.inl (tbl_in 777 (by decide +kernel) (by decide +kernel)), tbl_in 778 (by decide +kernel) (by decide +kernel), tbl_in 779 (by decide +kernel) (by decide +kernel)⟩
theorem cn_X12_lot : CFn M_X12_lot 2 := ⟨tbl_in 1198 (by decide +kernel) (by decide +kernel), tbl_in 121 (by decide +kernel) (by decide +kernel), by decide, by decide +kernel, by decide +kernel, by decide +kernel⟩
theorem cf_L_63 : CFV RL 63 M_X12_lot 2 := ⟨cn_X12_lot, Or.inl (tbl_in 1195 (by decide +kernel) (by decide +kernel)), tbl_in 1196 (by decide +kernel) (by decide +kernel), tbl_in 1197 (by decide +kernel) (by decide +kernel)⟩
theorem cn_X11_rows : CFn M_X11_rows 1 := ⟨tbl_in 802 (by decide +kernel) (by decide +kernel), tbl_in 109 (by decide +kernel) (by decide +kernel), by decide, by decide +kernel, by decide +kernel, by decide +kernel⟩
theorem cf_L_64 : CFV RL 64 M_X11_rows 1 := ⟨cn_X11_rows, Or.inl (tbl_in 799 (by decide +kernel) (by decide +kernel)), tbl_in 800 (by decide +kernel) (by decide +kernel), tbl_in 801 (by decide +kernel) (by decide +kernel)⟩
theorem cn_X12_rows : CFn M_X12_rows 1 := ⟨tbl_in 1207 (by decide +kernel) (by decide +kernel), tbl_in 121 (by decide +kernel) (by decide +kernel), by decide, by decide +kernel, by decide +kernel, by decide +kernel⟩
theorem cf_L_68 : CFV RL 68 M_X12_rows 1 := ⟨cn_X12_rows, Or.inl (tbl_in 1204 (by decide +kernel) (by decide +kernel)), tbl_in 1205 (by decide +kernel) (by decide +kernel), tbl_in 1206 (by decide +kernel) (by decide +kernel)⟩
theorem cn_X11_gain : CFn M_X11_gain 2 := ⟨tbl_in 813 (by decide +kernel) (by decide +kernel), tbl_in 109 (by decide +kernel) (by decide +kernel), by decide, by decide +kernel, by decide +kernel, by decide +kernel⟩
theorem cf_L_69 : CFV RL 69 M_X11_gain 2 := ⟨cn_X11_gain, Or.inl (tbl_in 810 (by decide +kernel) (by decide +kernel)), tbl_in 811 (by decide +kernel) (by decide +kernel), tbl_in 812 (by decide +kernel) (by decide +kernel)⟩
theorem cn_X12_gain : CFn M_X12_gain 2 := ⟨tbl_in 1226 (by decide +kernel) (by decide +kernel), tbl_in 121 (by decide +kernel) (by decide +kernel), by decide, by decide +kernel, by decide +kernel, by decide +kernel⟩
theorem cf_L_72 : CFV RL 72 M_X12_gain 2 := ⟨cn_X12_gain, Or.inl (tbl_in 1223 (by decide +kernel) (by decide +kernel)), tbl_in 1224 (by decide +kernel) (by decide +kernel), tbl_in 1225 (by decide +kernel) (by decide +kernel)⟩
theorem cn_X11_leaves : CFn M_X11_leaves 3 := ⟨tbl_in 820 (by decide +kernel) (by decide +kernel), tbl_in 109 (by decide +kernel) (by decide +kernel), by decide, by decide +kernel, by decide +kernel, by decide +kernel⟩
theorem cf_L_73 : CFV RL 73 M_X11_leaves 3 := ⟨cn_X11_leaves, Or.inl (tbl_in 817 (by decide +kernel) (by decide +kernel)), tbl_in 818 (by decide +kernel) (by decide +kernel), tbl_in 819 (by decide +kernel) (by decide +kernel)⟩
theorem cn_X12_leaves : CFn M_X12_leaves 3 := ⟨tbl_in 1232 (by decide +kernel) (by decide +kernel), tbl_in 121 (by decide +kernel) (by decide +kernel), by decide, by decide +kernel, by decide +kernel, by decide +kernel⟩
theorem cf_L_76 : CFV RL 76 M_X12_leaves 3 := ⟨cn_X12_leaves, Or.inl (tbl_in 1229 (by decide +kernel) (by decide +kernel)), tbl_in 1230 (by decide +kernel) (by decide +kernel), tbl_in 1231 (by decide +kernel) (by decide +kernel)⟩
theorem cn_X11_fair : CFn M_X11_fair 1 := ⟨tbl_in 824 (by decide +kernel) (by decide +kernel), tbl_in 109 (by decide +kernel) (by decide +kernel), by decide, by decide +kernel, by decide +kernel, by decide +kernel⟩
theorem cf_L_77 : CFV RL 77 M_X11_fair 1 := ⟨cn_X11_fair, Or.inl (tbl_in 821 (by decide +kernel) (by decide +kernel)), tbl_in 822 (by decide +kernel) (by decide +kernel), tbl_in 823 (by decide +kernel) (by decide +kernel)⟩
theorem cn_X12_fair : CFn M_X12_fair 1 := ⟨tbl_in 1240 (by decide +kernel) (by decide +kernel), tbl_in 121 (by decide +kernel) (by decide +kernel), by decide, by decide +kernel, by decide +kernel, by decide +kernel⟩
theorem cf_L_80 : CFV RL 80 M_X12_fair 1 := ⟨cn_X12_fair, Or.inl (tbl_in 1237 (by decide +kernel) (by decide +kernel)), tbl_in 1238 (by decide +kernel) (by decide +kernel), tbl_in 1239 (by decide +kernel) (by decide +kernel)⟩
theorem cn_X11_week : CFn M_X11_week 3 := ⟨tbl_in 832 (by decide +kernel) (by decide +kernel), tbl_in 109 (by decide +kernel) (by decide +kernel), by decide, by decide +kernel, by decide +kernel, by decide +kernel⟩
theorem cf_L_81 : CFV RL 81 M_X11_week 3 := ⟨cn_X11_week, Or.inl (tbl_in 829 (by decide +kernel) (by decide +kernel)), tbl_in 830 (by decide +kernel) (by decide +kernel), tbl_in 831 (by decide +kernel) (by decide +kernel)⟩
theorem cn_X12_week : CFn M_X12_week 3 := ⟨tbl_in 1249 (by decide +kernel) (by decide +kernel), tbl_in 121 (by decide +kernel) (by decide +kernel), by decide, by decide +kernel, by decide +kernel, by decide +kernel⟩
theorem cf_L_84 : CFV RL 84 M_X12_week 3 := ⟨cn_X12_week, Or.inl (tbl_in 1246 (by decide +kernel) (by decide +kernel)), tbl_in 1247 (by decide +kernel) (by decide +kernel), tbl_in 1248 (by decide +kernel) (by decide +kernel)⟩
theorem cn_X11_loose : CFn M_X11_loose 0 := ⟨tbl_in 845 (by decide +kernel) (by decide +kernel), tbl_in 109 (by decide +kernel) (by decide +kernel), by decide, by decide +kernel, by decide +kernel, by decide +kernel⟩
theorem cf_L_85 : CFV RL 85 M_X11_loose 0 := ⟨cn_X11_loose, Or.inl (tbl_in 842 (by decide +kernel) (by decide +kernel)), tbl_in 843 (by decide +kernel) (by decide +kernel), tbl_in 844 (by decide +kernel) (by decide +kernel)⟩
theorem cn_X12_loose : CFn M_X12_loose 0 := ⟨tbl_in 1253 (by decide +kernel) (by decide +kernel), tbl_in 121 (by decide +kernel) (by decide +kernel), by decide, by decide +kernel, by decide +kernel, by decide +kernel⟩
theorem cf_L_88 : CFV RL 88 M_X12_loose 0 := ⟨cn_X12_loose, Or.inl (tbl_in 1250 (by decide +kernel) (by decide +kernel)), tbl_in 1251 (by decide +kernel) (by decide +kernel), tbl_in 1252 (by decide +kernel) (by decide +kernel)⟩
theorem cn_X11_knows : CFn M_X11_knows 2 := ⟨tbl_in 849 (by decide +kernel) (by decide +kernel), tbl_in 109 (by decide +kernel) (by decide +kernel), by decide, by decide +kernel, by decide +kernel, by decide +kernel⟩
theorem cf_L_89 : CFV RL 89 M_X11_knows 2 := ⟨cn_X11_knows, Or.inl (tbl_in 846 (by decide +kernel) (by decide +kernel)), tbl_in 847 (by decide +kernel) (by decide +kernel), tbl_in 848 (by decide +kernel) (by decide +kernel)⟩
theorem cn_X12_knows : CFn M_X12_knows 2 := ⟨tbl_in 1257 (by decide +kernel) (by decide +kernel), tbl_in 121 (by decide +kernel) (by decide +kernel), by decide, by decide +kernel, by decide +kernel, by decide +kernel⟩
theorem cf_L_92 : CFV RL 92 M_X12_knows 2 := ⟨cn_X12_knows, Or.inl (tbl_in 1254 (by decide +kernel) (by decide +kernel)), tbl_in 1255 (by decide +kernel) (by decide +kernel), tbl_in 1256 (by decide +kernel) (by decide +kernel)⟩
theorem cn_X11_when : CFn M_X11_when 2 := ⟨tbl_in 858 (by decide +kernel) (by decide +kernel), tbl_in 109 (by decide +kernel) (by decide +kernel), by decide, by decide +kernel, by decide +kernel, by decide +kernel⟩
theorem cf_L_93 : CFV RL 93 M_X11_when 2 := ⟨cn_X11_when, Or.inl (tbl_in 855 (by decide +kernel) (by decide +kernel)), tbl_in 856 (by decide +kernel) (by decide +kernel), tbl_in 857 (by decide +kernel) (by decide +kernel)⟩
theorem cn_X12_when : CFn M_X12_when 2 := ⟨tbl_in 1269 (by decide +kernel) (by decide +kernel), tbl_in 121 (by decide +kernel) (by decide +kernel), by decide, by decide +kernel, by decide +kernel, by decide +kernel⟩
theorem cf_L_96 : CFV RL 96 M_X12_when 2 := ⟨cn_X12_when, Or.inl (tbl_in 1266 (by decide +kernel) (by decide +kernel)), tbl_in 1267 (by decide +kernel) (by decide +kernel), tbl_in 1268 (by decide +kernel) (by decide +kernel)⟩
theorem cn_X11_rope : CFn M_X11_rope 3 := ⟨tbl_in 862 (by decide +kernel) (by decide +kernel), tbl_in 109 (by decide +kernel) (by decide +kernel), by decide, by decide +kernel, by decide +kernel, by decide +kernel⟩
theorem cf_L_97 : CFV RL 97 M_X11_rope 3 := ⟨cn_X11_rope, Or.inl (tbl_in 859 (by decide +kernel) (by decide +kernel)), tbl_in 860 (by decide +kernel) (by decide +kernel), tbl_in 861 (by decide +kernel) (by decide +kernel)⟩
theorem cn_X12_rope : CFn M_X12_rope 3 := ⟨tbl_in 1273 (by decide +kernel) (by decide +kernel), tbl_in 121 (by decide +kernel) (by decide +kernel), by decide, by decide +kernel, by decide +kernel, by decide +kernel⟩
theorem cf_L_100 : CFV RL 100 M_X12_rope 3 := ⟨cn_X12_rope, Or.inl (tbl_in 1270 (by decide +kernel) (by decide +kernel)), tbl_in 1271 (by decide +kernel) (by decide +kernel), tbl_in 1272 (by decide +kernel) (by decide +kernel)⟩
theorem cn_X11_sight : CFn M_X11_sight 3 := ⟨tbl_in 876 (by decide +kernel) (by decide +kernel), tbl_in 109 (by decide +kernel) (by decide +kernel), by decide, by decide +kernel, by decide +kernel, by decide +kernel⟩
theorem cf_L_101 : CFV RL 101 M_X11_sight 3 := ⟨cn_X11_sight, Or.inl (tbl_in 873 (by decide +kernel) (by decide +kernel)), tbl_in 874 (by decide +kernel) (by decide +kernel), tbl_in 875 (by decide +kernel) (by decide +kernel)⟩
theorem cn_X12_sight : CFn M_X12_sight 3 := ⟨tbl_in 1289 (by decide +kernel) (by decide +kernel), tbl_in 121 (by decide +kernel) (by decide +kernel), by decide, by decide +kernel, by decide +kernel, by decide +kernel⟩
theorem cf_L_104 : CFV RL 104 M_X12_sight 3 := ⟨cn_X12_sight, Or.inl (tbl_in 1286 (by decide +kernel) (by decide +kernel)), tbl_in 1287 (by decide +kernel) (by decide +kernel), tbl_in 1288 (by decide +kernel) (by decide +kernel)⟩
theorem cn_X11_blind : CFn M_X11_blind 0 := ⟨tbl_in 884 (by decide +kernel) (by decide +kernel), tbl_in 109 (by decide +kernel) (by decide +kernel), by decide, by decide +kernel, by decide +kernel, by decide +kernel⟩
theorem cf_L_105 : CFV RL 105 M_X11_blind 0 := ⟨cn_X11_blind, Or.inl (tbl_in 881 (by decide +kernel) (by decide +kernel)), tbl_in 882 (by decide +kernel) (by decide +kernel), tbl_in 883 (by decide +kernel) (by decide +kernel)⟩
theorem cn_X12_blind : CFn M_X12_blind 0 := ⟨tbl_in 1293 (by decide +kernel) (by decide +kernel), tbl_in 121 (by decide +kernel) (by decide +kernel), by decide, by decide +kernel, by decide +kernel, by decide +kernel⟩
theorem cf_L_108 : CFV RL 108 M_X12_blind 0 := ⟨cn_X12_blind, Or.inl (tbl_in 1290 (by decide +kernel) (by decide +kernel)), tbl_in 1291 (by decide +kernel) (by decide +kernel), tbl_in 1292 (by decide +kernel) (by decide +kernel)⟩
theorem cn_X11_which : CFn M_X11_which 2 := ⟨tbl_in 888 (by decide +kernel) (by decide +kernel), tbl_in 109 (by decide +kernel) (by decide +kernel), by decide, by decide +kernel, by decide +kernel, by decide +kernel⟩
theorem cf_L_109 : CFV RL 109 M_X11_which 2 := ⟨cn_X11_which, Or.inl (tbl_in 885 (by decide +kernel) (by decide +kernel)), tbl_in 886 (by decide +kernel) (by decide +kernel), tbl_in 887 (by decide +kernel) (by decide +kernel)⟩
theorem cn_X12_which : CFn M_X12_which 2 := ⟨tbl_in 1297 (by decide +kernel) (by decide +kernel), tbl_in 121 (by decide +kernel) (by decide +kernel), by decide, by decide +kernel, by decide +kernel, by decide +kernel⟩
theorem cf_L_112 : CFV RL 112 M_X12_which 2 := ⟨cn_X12_which, Or.inl (tbl_in 1294 (by decide +kernel) (by decide +kernel)), tbl_in 1295 (by decide +kernel) (by decide +kernel), tbl_in 1296 (by decide +kernel) (by decide +kernel)⟩
theorem cn_X11_part : CFn M_X11_part 1 := ⟨tbl_in 896 (by decide +kernel) (by decide +kernel), tbl_in 109 (by decide +kernel) (by decide +kernel), by decide, by decide +kernel, by decide +kernel, by decide +kernel⟩
theorem cf_L_113 : CFV RL 113 M_X11_part 1 := ⟨cn_X11_part, Or.inl (tbl_in 893 (by decide +kernel) (by decide +kernel)), tbl_in 894 (by decide +kernel) (by decide +kernel), tbl_in 895 (by decide +kernel) (by decide +kernel)⟩
theorem cn_X12_part : CFn M_X12_part 1 := ⟨tbl_in 1357 (by decide +kernel) (by decide +kernel), tbl_in 121 (by decide +kernel) (by decide +kernel), by decide, by decide +kernel, by decide +kernel, by decide +kernel⟩
theorem cf_L_116 : CFV RL 116 M_X12_part 1 := ⟨cn_X12_part, Or.inl (tbl_in 1354 (by decide +kernel) (by decide +kernel)), tbl_in 1355 (by decide +kernel) (by decide +kernel), tbl_in 1356 (by decide +kernel) (by decide +kernel)⟩
theorem cn_X11_image : CFn M_X11_image 1 := ⟨tbl_in 900 (by decide +kernel) (by decide +kernel), tbl_in 109 (by decide +kernel) (by decide +kernel), by decide, by decide +kernel, by decide +kernel, by decide +kernel⟩
theorem cf_L_117 : CFV RL 117 M_X11_image 1 := ⟨cn_X11_image, Or.inl (tbl_in 897 (by decide +kernel) (by decide +kernel)), tbl_in 898 (by decide +kernel) (by decide +kernel), tbl_in 899 (by decide +kernel) (by decide +kernel)⟩
theorem cn_X12_image : CFn M_X12_image 1 := ⟨tbl_in 1361 (by decide +kernel) (by decide +kernel), tbl_in 121 (by decide +kernel) (by decide +kernel), by decide, by decide +kernel, by decide +kernel, by decide +kernel⟩
theorem cf_L_120 : CFV RL 120 M_X12_image 1 := ⟨cn_X12_image, Or.inl (tbl_in 1358 (by decide +kernel) (by decide +kernel)), tbl_in 1359 (by decide +kernel) (by decide +kernel), tbl_in 1360 (by decide +kernel) (by decide +kernel)⟩
theorem cn_X11_from : CFn M_X11_from 1 := ⟨tbl_in 913 (by decide +kernel) (by decide +kernel), tbl_in 109 (by decide +kernel) (by decide +kernel), by decide, by decide +kernel, by decide +kernel, by decide +kernel⟩
theorem cf_L_121 : CFV RL 121 M_X11_from 1 := ⟨cn_X11_from, Or.inl (tbl_in 910 (by decide +kernel) (by decide +kernel)), tbl_in 911 (by decide +kernel) (by decide +kernel), tbl_in 912 (by decide +kernel) (by decide +kernel)⟩
theorem cn_X12_from : CFn M_X12_from 1 := ⟨tbl_in 1365 (by decide +kernel) (by decide +kernel), tbl_in 121 (by decide +kernel) (by decide +kernel), by decide, by decide +kernel, by decide +kernel, by decide +kernel⟩
theorem cf_L_124 : CFV RL 124 M_X12_from 1 := ⟨cn_X12_from, Or.inl (tbl_in 1362 (by decide +kernel) (by decide +kernel)), tbl_in 1363 (by decide +kernel) (by decide +kernel), tbl_in 1364 (by decide +kernel) (by decide +kernel)⟩
theorem cn_X11_status : CFn M_X11_status 1 := ⟨tbl_in 917 (by decide +kernel) (by decide +kernel), tbl_in 109 (by decide +kernel) (by decide +kernel), by decide, by decide +kernel, by decide +kernel, by decide +kernel⟩
theorem cf_L_125 : CFV RL 125 M_X11_status 1 := ⟨cn_X11_status, Or.inl (tbl_in 914 (by decide +kernel) (by decide +kernel)), tbl_in 915 (by decide +kernel) (by decide +kernel), tbl_in 916 (by decide +kernel) (by decide +kernel)⟩
theorem cn_X12_status : CFn M_X12_status 1 := ⟨tbl_in 1369 (by decide +kernel) (by decide +kernel), tbl_in 121 (by decide +kernel) (by decide +kernel), by decide, by decide +kernel, by decide +kernel, by decide +kernel⟩
theorem cf_L_128 : CFV RL 128 M_X12_status 1 := ⟨cn_X12_status, Or.inl (tbl_in 1366 (by decide +kernel) (by decide +kernel)), tbl_in 1367 (by decide +kernel) (by decide +kernel), tbl_in 1368 (by decide +kernel) (by decide +kernel)⟩
theorem cn_X11_count : CFn M_X11_count 1 := ⟨tbl_in 921 (by decide +kernel) (by decide +kernel), tbl_in 109 (by decide +kernel) (by decide +kernel), by decide, by decide +kernel, by decide +kernel, by decide +kernel⟩
theorem cf_L_129 : CFV RL 129 M_X11_count 1 := ⟨cn_X11_count, Or.inl (tbl_in 918 (by decide +kernel) (by decide +kernel)), tbl_in 919 (by decide +kernel) (by decide +kernel), tbl_in 920 (by decide +kernel) (by decide +kernel)⟩
theorem cn_X12_count : CFn M_X12_count 1 := ⟨tbl_in 1373 (by decide +kernel) (by decide +kernel), tbl_in 121 (by decide +kernel) (by decide +kernel), by decide, by decide +kernel, by decide +kernel, by decide +kernel⟩
theorem cf_L_132 : CFV RL 132 M_X12_count 1 := ⟨cn_X12_count, Or.inl (tbl_in 1370 (by decide +kernel) (by decide +kernel)), tbl_in 1371 (by decide +kernel) (by decide +kernel), tbl_in 1372 (by decide +kernel) (by decide +kernel)⟩
theorem cn_X11_digest : CFn M_X11_digest 0 := ⟨tbl_in 930 (by decide +kernel) (by decide +kernel), tbl_in 109 (by decide +kernel) (by decide +kernel), by decide, by decide +kernel, by decide +kernel, by decide +kernel⟩
theorem cf_L_133 : CFV RL 133 M_X11_digest 0 := ⟨cn_X11_digest, Or.inl (tbl_in 927 (by decide +kernel) (by decide +kernel)), tbl_in 928 (by decide +kernel) (by decide +kernel), tbl_in 929 (by decide +kernel) (by decide +kernel)⟩
theorem cn_X12_digest : CFn M_X12_digest 0 := ⟨tbl_in 1386 (by decide +kernel) (by decide +kernel), tbl_in 121 (by decide +kernel) (by decide +kernel), by decide, by decide +kernel, by decide +kernel, by decide +kernel⟩
theorem cf_L_137 : CFV RL 137 M_X12_digest 0 := ⟨cn_X12_digest, Or.inl (tbl_in 1383 (by decide +kernel) (by decide +kernel)), tbl_in 1384 (by decide +kernel) (by decide +kernel), tbl_in 1385 (by decide +kernel) (by decide +kernel)⟩
def b_law_18 (xs : Nat → Int32) (L : Nat) (x : (Sg × Int32)) : Option ((Sg × Int32) ⊕ ((Sg × Int32) ⊕ (Int32 × Sg))) :=
  if ((Int32.ofNat L) - 4) < x.2 then
    some (.inr (.inl (x.1, x.2)))
  else
    if inB x.2 L = true then
      if ((xs (Int32.toNatClampNeg x.2)) &&& 31) = 0 then
        if inB (x.2 + 1) L = true then
          (s_x_places x.1 (xs (Int32.toNatClampNeg (x.2 + 1)))).bind fun q5 =>
          if inB (x.2 + 1) L = true then
            (s_m_places q5.2 (xs (Int32.toNatClampNeg (x.2 + 1)))).bind fun q7 =>
            if q5.1 = q7.1 then
              lt (x.2 + 4 : Int32) fun x9 =>
              some (.inl (q7.2, x9))
            else
              some (.inr (.inr (0, q7.2)))
          else none
        else none
      else
        if ((xs (Int32.toNatClampNeg x.2)) &&& 31) = 1 then
          if inB (x.2 + 1) L = true then
            if inB (x.2 + 2) L = true then
              (s_x_person x.1 (xs (Int32.toNatClampNeg (x.2 + 1))) (xs (Int32.toNatClampNeg (x.2 + 2)))).bind fun q13 =>
              if inB (x.2 + 1) L = true then
                if inB (x.2 + 2) L = true then
                  (s_m_person q13.2 (xs (Int32.toNatClampNeg (x.2 + 1))) (xs (Int32.toNatClampNeg (x.2 + 2)))).bind fun q16 =>
                  if q13.1 = q16.1 then
                    lt (x.2 + 4 : Int32) fun x18 =>
                    some (.inl (q16.2, x18))
                  else
                    some (.inr (.inr (0, q16.2)))
                else none
              else none
            else none
          else none
        else
          if ((xs (Int32.toNatClampNeg x.2)) &&& 31) = 2 then
            if inB (x.2 + 1) L = true then
              if inB (x.2 + 2) L = true then
                if inB (x.2 + 3) L = true then
                  (s_x_errand x.1 (xs (Int32.toNatClampNeg (x.2 + 1))) (xs (Int32.toNatClampNeg (x.2 + 2))) (xs (Int32.toNatClampNeg (x.2 + 3)))).bind fun q23 =>
                  if inB (x.2 + 1) L = true then
                    if inB (x.2 + 2) L = true then
                      if inB (x.2 + 3) L = true then
                        (s_m_errand q23.2 (xs (Int32.toNatClampNeg (x.2 + 1))) (xs (Int32.toNatClampNeg (x.2 + 2))) (xs (Int32.toNatClampNeg (x.2 + 3)))).bind fun q27 =>
                        if q23.1 = q27.1 then
                          lt (x.2 + 4 : Int32) fun x29 =>
                          some (.inl (q27.2, x29))
                        else
                          some (.inr (.inr (0, q27.2)))
                      else none
                    else none
                  else none
                else none
              else none
            else none
          else
            if ((xs (Int32.toNatClampNeg x.2)) &&& 31) = 3 then
              if inB (x.2 + 1) L = true then
                (s_x_drop x.1 (xs (Int32.toNatClampNeg (x.2 + 1)))).bind fun q32 =>
                if inB (x.2 + 1) L = true then
                  (s_m_drop q32.2 (xs (Int32.toNatClampNeg (x.2 + 1)))).bind fun q34 =>
                  if q32.1 = q34.1 then
                    lt (x.2 + 4 : Int32) fun x36 =>
                    some (.inl (q34.2, x36))
                  else
                    some (.inr (.inr (0, q34.2)))
                else none
              else none
            else
              if ((xs (Int32.toNatClampNeg x.2)) &&& 31) = 4 then
                if inB (x.2 + 1) L = true then
                  if inB (x.2 + 2) L = true then
                    if inB (x.2 + 3) L = true then
                      (s_x_type x.1 ((((Int32.toInt64 (xs (Int32.toNatClampNeg (x.2 + 1)))) : Int64) <<< ((Int32.toInt64 32) &&& 63)) ||| ((Int32.toInt64 (xs (Int32.toNatClampNeg (x.2 + 2)))) &&& 4294967295)) (xs (Int32.toNatClampNeg (x.2 + 3)))).bind fun q41 =>
                      if inB (x.2 + 1) L = true then
                        if inB (x.2 + 2) L = true then
                          if inB (x.2 + 3) L = true then
                            (s_m_type q41.2 ((((Int32.toInt64 (xs (Int32.toNatClampNeg (x.2 + 1)))) : Int64) <<< ((Int32.toInt64 32) &&& 63)) ||| ((Int32.toInt64 (xs (Int32.toNatClampNeg (x.2 + 2)))) &&& 4294967295)) (xs (Int32.toNatClampNeg (x.2 + 3)))).bind fun q45 =>
                            if q41.1 = q45.1 then
                              lt (x.2 + 4 : Int32) fun x47 =>
                              some (.inl (q45.2, x47))
                            else
                              some (.inr (.inr (0, q45.2)))
                          else none
                        else none
                      else none
                    else none
                  else none
                else none
              else
                if ((xs (Int32.toNatClampNeg x.2)) &&& 31) = 5 then
                  (s_x_clear x.1 ).bind fun q49 =>
                  (s_m_clear q49.2 ).bind fun q50 =>
                  if q49.1 = q50.1 then
                    lt (x.2 + 4 : Int32) fun x52 =>
                    some (.inl (q50.2, x52))
                  else
                    some (.inr (.inr (0, q50.2)))
                else
                  if ((xs (Int32.toNatClampNeg x.2)) &&& 31) = 6 then
                    (s_x_read x.1 ).bind fun q54 =>
                    (s_m_read q54.2 ).bind fun q55 =>
                    if q54.1 = q55.1 then
                      lt (x.2 + 4 : Int32) fun x57 =>
                      some (.inl (q55.2, x57))
                    else
                      some (.inr (.inr (0, q55.2)))
                  else
                    if ((xs (Int32.toNatClampNeg x.2)) &&& 31) = 7 then
                      if inB (x.2 + 1) L = true then
                        if inB (x.2 + 2) L = true then
                          (s_x_day x.1 (xs (Int32.toNatClampNeg (x.2 + 1))) (xs (Int32.toNatClampNeg (x.2 + 2)))).bind fun q61 =>
                          if inB (x.2 + 1) L = true then
                            if inB (x.2 + 2) L = true then
                              (s_m_day q61.2 (xs (Int32.toNatClampNeg (x.2 + 1))) (xs (Int32.toNatClampNeg (x.2 + 2)))).bind fun q64 =>
                              if q61.1 = q64.1 then
                                lt (x.2 + 4 : Int32) fun x66 =>
                                some (.inl (q64.2, x66))
                              else
                                some (.inr (.inr (0, q64.2)))
                            else none
                          else none
                        else none
                      else none
                    else
                      if ((xs (Int32.toNatClampNeg x.2)) &&& 31) = 8 then
                        if inB (x.2 + 1) L = true then
                          (s_x_best x.1 (xs (Int32.toNatClampNeg (x.2 + 1)))).bind fun q69 =>
                          if inB (x.2 + 1) L = true then
                            (s_m_best q69.2 (xs (Int32.toNatClampNeg (x.2 + 1)))).bind fun q71 =>
                            if q69.1 = q71.1 then
                              lt (x.2 + 4 : Int32) fun x73 =>
                              some (.inl (q71.2, x73))
                            else
                              some (.inr (.inr (0, q71.2)))
                          else none
                        else none
                      else
                        if ((xs (Int32.toNatClampNeg x.2)) &&& 31) = 9 then
                          if inB (x.2 + 1) L = true then
                            (s_x_most x.1 (xs (Int32.toNatClampNeg (x.2 + 1)))).bind fun q76 =>
                            if inB (x.2 + 1) L = true then
                              (s_m_most q76.2 (xs (Int32.toNatClampNeg (x.2 + 1)))).bind fun q78 =>
                              if q76.1 = q78.1 then
                                lt (x.2 + 4 : Int32) fun x80 =>
                                some (.inl (q78.2, x80))
                              else
                                some (.inr (.inr (0, q78.2)))
                            else none
                          else none
                        else
                          if ((xs (Int32.toNatClampNeg x.2)) &&& 31) = 10 then
                            if inB (x.2 + 1) L = true then
                              if inB (x.2 + 2) L = true then
                                (s_x_lot x.1 (xs (Int32.toNatClampNeg (x.2 + 1))) (xs (Int32.toNatClampNeg (x.2 + 2)))).bind fun q84 =>
                                if inB (x.2 + 1) L = true then
                                  if inB (x.2 + 2) L = true then
                                    (s_m_lot q84.2 (xs (Int32.toNatClampNeg (x.2 + 1))) (xs (Int32.toNatClampNeg (x.2 + 2)))).bind fun q87 =>
                                    if q84.1 = q87.1 then
                                      lt (x.2 + 4 : Int32) fun x89 =>
                                      some (.inl (q87.2, x89))
                                    else
                                      some (.inr (.inr (0, q87.2)))
                                  else none
                                else none
                              else none
                            else none
                          else
                            if ((xs (Int32.toNatClampNeg x.2)) &&& 31) = 11 then
                              if inB (x.2 + 1) L = true then
                                (s_x_rows x.1 (xs (Int32.toNatClampNeg (x.2 + 1)))).bind fun q92 =>
                                if inB (x.2 + 1) L = true then
                                  (s_m_rows q92.2 (xs (Int32.toNatClampNeg (x.2 + 1)))).bind fun q94 =>
                                  if (lg_cmp q92.1 q94.1) = 0 then
                                    lt (x.2 + 4 : Int32) fun x96 =>
                                    some (.inl (q94.2, x96))
                                  else
                                    some (.inr (.inr (0, q94.2)))
                                else none
                              else none
                            else
                              if ((xs (Int32.toNatClampNeg x.2)) &&& 31) = 12 then
                                if inB (x.2 + 1) L = true then
                                  if inB (x.2 + 2) L = true then
                                    (s_x_gain x.1 (xs (Int32.toNatClampNeg (x.2 + 1))) (xs (Int32.toNatClampNeg (x.2 + 2)))).bind fun q100 =>
                                    if inB (x.2 + 1) L = true then
                                      if inB (x.2 + 2) L = true then
                                        (s_m_gain q100.2 (xs (Int32.toNatClampNeg (x.2 + 1))) (xs (Int32.toNatClampNeg (x.2 + 2)))).bind fun q103 =>
                                        if q100.1 = q103.1 then
                                          lt (x.2 + 4 : Int32) fun x105 =>
                                          some (.inl (q103.2, x105))
                                        else
                                          some (.inr (.inr (0, q103.2)))
                                      else none
                                    else none
                                  else none
                                else none
                              else
                                if ((xs (Int32.toNatClampNeg x.2)) &&& 31) = 13 then
                                  if inB (x.2 + 1) L = true then
                                    if inB (x.2 + 2) L = true then
                                      if inB (x.2 + 3) L = true then
                                        (s_x_leaves x.1 (xs (Int32.toNatClampNeg (x.2 + 1))) (xs (Int32.toNatClampNeg (x.2 + 2))) (xs (Int32.toNatClampNeg (x.2 + 3)))).bind fun q110 =>
                                        if inB (x.2 + 1) L = true then
                                          if inB (x.2 + 2) L = true then
                                            if inB (x.2 + 3) L = true then
                                              (s_m_leaves q110.2 (xs (Int32.toNatClampNeg (x.2 + 1))) (xs (Int32.toNatClampNeg (x.2 + 2))) (xs (Int32.toNatClampNeg (x.2 + 3)))).bind fun q114 =>
                                              if q110.1 = q114.1 then
                                                lt (x.2 + 4 : Int32) fun x116 =>
                                                some (.inl (q114.2, x116))
                                              else
                                                some (.inr (.inr (0, q114.2)))
                                            else none
                                          else none
                                        else none
                                      else none
                                    else none
                                  else none
                                else
                                  if ((xs (Int32.toNatClampNeg x.2)) &&& 31) = 14 then
                                    if inB (x.2 + 1) L = true then
                                      (s_x_fair x.1 (xs (Int32.toNatClampNeg (x.2 + 1)))).bind fun q119 =>
                                      if inB (x.2 + 1) L = true then
                                        (s_m_fair q119.2 (xs (Int32.toNatClampNeg (x.2 + 1)))).bind fun q121 =>
                                        if q119.1 = q121.1 then
                                          lt (x.2 + 4 : Int32) fun x123 =>
                                          some (.inl (q121.2, x123))
                                        else
                                          some (.inr (.inr (0, q121.2)))
                                      else none
                                    else none
                                  else
                                    if ((xs (Int32.toNatClampNeg x.2)) &&& 31) = 15 then
                                      if inB (x.2 + 1) L = true then
                                        if inB (x.2 + 2) L = true then
                                          if inB (x.2 + 3) L = true then
                                            (s_x_week x.1 (xs (Int32.toNatClampNeg (x.2 + 1))) (xs (Int32.toNatClampNeg (x.2 + 2))) (xs (Int32.toNatClampNeg (x.2 + 3)))).bind fun q128 =>
                                            if inB (x.2 + 1) L = true then
                                              if inB (x.2 + 2) L = true then
                                                if inB (x.2 + 3) L = true then
                                                  (s_m_week q128.2 (xs (Int32.toNatClampNeg (x.2 + 1))) (xs (Int32.toNatClampNeg (x.2 + 2))) (xs (Int32.toNatClampNeg (x.2 + 3)))).bind fun q132 =>
                                                  if q128.1 = q132.1 then
                                                    lt (x.2 + 4 : Int32) fun x134 =>
                                                    some (.inl (q132.2, x134))
                                                  else
                                                    some (.inr (.inr (0, q132.2)))
                                                else none
                                              else none
                                            else none
                                          else none
                                        else none
                                      else none
                                    else
                                      if ((xs (Int32.toNatClampNeg x.2)) &&& 31) = 16 then
                                        (s_x_loose x.1 ).bind fun q136 =>
                                        (s_m_loose q136.2 ).bind fun q137 =>
                                        if q136.1 = q137.1 then
                                          lt (x.2 + 4 : Int32) fun x139 =>
                                          some (.inl (q137.2, x139))
                                        else
                                          some (.inr (.inr (0, q137.2)))
                                      else
                                        if ((xs (Int32.toNatClampNeg x.2)) &&& 31) = 17 then
                                          if inB (x.2 + 1) L = true then
                                            if inB (x.2 + 2) L = true then
                                              (s_x_knows x.1 (xs (Int32.toNatClampNeg (x.2 + 1))) (xs (Int32.toNatClampNeg (x.2 + 2)))).bind fun q143 =>
                                              if inB (x.2 + 1) L = true then
                                                if inB (x.2 + 2) L = true then
                                                  (s_m_knows q143.2 (xs (Int32.toNatClampNeg (x.2 + 1))) (xs (Int32.toNatClampNeg (x.2 + 2)))).bind fun q146 =>
                                                  if q143.1 = q146.1 then
                                                    lt (x.2 + 4 : Int32) fun x148 =>
                                                    some (.inl (q146.2, x148))
                                                  else
                                                    some (.inr (.inr (0, q146.2)))
                                                else none
                                              else none
                                            else none
                                          else none
                                        else
                                          if ((xs (Int32.toNatClampNeg x.2)) &&& 31) = 18 then
                                            if inB (x.2 + 1) L = true then
                                              if inB (x.2 + 2) L = true then
                                                (s_x_when x.1 (xs (Int32.toNatClampNeg (x.2 + 1))) (xs (Int32.toNatClampNeg (x.2 + 2)))).bind fun q152 =>
                                                if inB (x.2 + 1) L = true then
                                                  if inB (x.2 + 2) L = true then
                                                    (s_m_when q152.2 (xs (Int32.toNatClampNeg (x.2 + 1))) (xs (Int32.toNatClampNeg (x.2 + 2)))).bind fun q155 =>
                                                    if q152.1 = q155.1 then
                                                      lt (x.2 + 4 : Int32) fun x157 =>
                                                      some (.inl (q155.2, x157))
                                                    else
                                                      some (.inr (.inr (0, q155.2)))
                                                  else none
                                                else none
                                              else none
                                            else none
                                          else
                                            if ((xs (Int32.toNatClampNeg x.2)) &&& 31) = 19 then
                                              if inB (x.2 + 1) L = true then
                                                if inB (x.2 + 2) L = true then
                                                  if inB (x.2 + 3) L = true then
                                                    (s_x_rope x.1 (xs (Int32.toNatClampNeg (x.2 + 1))) (xs (Int32.toNatClampNeg (x.2 + 2))) (xs (Int32.toNatClampNeg (x.2 + 3)))).bind fun q162 =>
                                                    if inB (x.2 + 1) L = true then
                                                      if inB (x.2 + 2) L = true then
                                                        if inB (x.2 + 3) L = true then
                                                          (s_m_rope q162.2 (xs (Int32.toNatClampNeg (x.2 + 1))) (xs (Int32.toNatClampNeg (x.2 + 2))) (xs (Int32.toNatClampNeg (x.2 + 3)))).bind fun q166 =>
                                                          if q162.1 = q166.1 then
                                                            lt (x.2 + 4 : Int32) fun x168 =>
                                                            some (.inl (q166.2, x168))
                                                          else
                                                            some (.inr (.inr (0, q166.2)))
                                                        else none
                                                      else none
                                                    else none
                                                  else none
                                                else none
                                              else none
                                            else
                                              if ((xs (Int32.toNatClampNeg x.2)) &&& 31) = 20 then
                                                if inB (x.2 + 1) L = true then
                                                  if inB (x.2 + 2) L = true then
                                                    if inB (x.2 + 3) L = true then
                                                      (s_x_sight x.1 (xs (Int32.toNatClampNeg (x.2 + 1))) (xs (Int32.toNatClampNeg (x.2 + 2))) (xs (Int32.toNatClampNeg (x.2 + 3)))).bind fun q173 =>
                                                      if inB (x.2 + 1) L = true then
                                                        if inB (x.2 + 2) L = true then
                                                          if inB (x.2 + 3) L = true then
                                                            (s_m_sight q173.2 (xs (Int32.toNatClampNeg (x.2 + 1))) (xs (Int32.toNatClampNeg (x.2 + 2))) (xs (Int32.toNatClampNeg (x.2 + 3)))).bind fun q177 =>
                                                            if q173.1 = q177.1 then
                                                              lt (x.2 + 4 : Int32) fun x179 =>
                                                              some (.inl (q177.2, x179))
                                                            else
                                                              some (.inr (.inr (0, q177.2)))
                                                          else none
                                                        else none
                                                      else none
                                                    else none
                                                  else none
                                                else none
                                              else
                                                if ((xs (Int32.toNatClampNeg x.2)) &&& 31) = 21 then
                                                  (s_x_blind x.1 ).bind fun q181 =>
                                                  (s_m_blind q181.2 ).bind fun q182 =>
                                                  if q181.1 = q182.1 then
                                                    lt (x.2 + 4 : Int32) fun x184 =>
                                                    some (.inl (q182.2, x184))
                                                  else
                                                    some (.inr (.inr (0, q182.2)))
                                                else
                                                  if ((xs (Int32.toNatClampNeg x.2)) &&& 31) = 22 then
                                                    if inB (x.2 + 1) L = true then
                                                      if inB (x.2 + 2) L = true then
                                                        (s_x_which x.1 (xs (Int32.toNatClampNeg (x.2 + 1))) (xs (Int32.toNatClampNeg (x.2 + 2)))).bind fun q188 =>
                                                        if inB (x.2 + 1) L = true then
                                                          if inB (x.2 + 2) L = true then
                                                            (s_m_which q188.2 (xs (Int32.toNatClampNeg (x.2 + 1))) (xs (Int32.toNatClampNeg (x.2 + 2)))).bind fun q191 =>
                                                            if q188.1 = q191.1 then
                                                              lt (x.2 + 4 : Int32) fun x193 =>
                                                              some (.inl (q191.2, x193))
                                                            else
                                                              some (.inr (.inr (0, q191.2)))
                                                          else none
                                                        else none
                                                      else none
                                                    else none
                                                  else
                                                    if ((xs (Int32.toNatClampNeg x.2)) &&& 31) = 23 then
                                                      if inB (x.2 + 1) L = true then
                                                        (s_x_part x.1 (xs (Int32.toNatClampNeg (x.2 + 1)))).bind fun q196 =>
                                                        if inB (x.2 + 1) L = true then
                                                          (s_m_part q196.2 (xs (Int32.toNatClampNeg (x.2 + 1)))).bind fun q198 =>
                                                          if (lg_cmp q196.1 q198.1) = 0 then
                                                            lt (x.2 + 4 : Int32) fun x200 =>
                                                            some (.inl (q198.2, x200))
                                                          else
                                                            some (.inr (.inr (0, q198.2)))
                                                        else none
                                                      else none
                                                    else
                                                      if ((xs (Int32.toNatClampNeg x.2)) &&& 31) = 24 then
                                                        if inB (x.2 + 1) L = true then
                                                          (s_x_image x.1 (xs (Int32.toNatClampNeg (x.2 + 1)))).bind fun q203 =>
                                                          if inB (x.2 + 1) L = true then
                                                            (s_m_image q203.2 (xs (Int32.toNatClampNeg (x.2 + 1)))).bind fun q205 =>
                                                            if q203.1 = q205.1 then
                                                              lt (x.2 + 4 : Int32) fun x207 =>
                                                              some (.inl (q205.2, x207))
                                                            else
                                                              some (.inr (.inr (0, q205.2)))
                                                          else none
                                                        else none
                                                      else
                                                        if ((xs (Int32.toNatClampNeg x.2)) &&& 31) = 25 then
                                                          if inB (x.2 + 1) L = true then
                                                            (s_x_from x.1 (xs (Int32.toNatClampNeg (x.2 + 1)))).bind fun q210 =>
                                                            if inB (x.2 + 1) L = true then
                                                              (s_m_from q210.2 (xs (Int32.toNatClampNeg (x.2 + 1)))).bind fun q212 =>
                                                              if q210.1 = q212.1 then
                                                                lt (x.2 + 4 : Int32) fun x214 =>
                                                                some (.inl (q212.2, x214))
                                                              else
                                                                some (.inr (.inr (0, q212.2)))
                                                            else none
                                                          else none
                                                        else
                                                          if ((xs (Int32.toNatClampNeg x.2)) &&& 31) = 26 then
                                                            if inB (x.2 + 1) L = true then
                                                              (s_x_status x.1 (xs (Int32.toNatClampNeg (x.2 + 1)))).bind fun q217 =>
                                                              if inB (x.2 + 1) L = true then
                                                                (s_m_status q217.2 (xs (Int32.toNatClampNeg (x.2 + 1)))).bind fun q219 =>
                                                                if q217.1 = q219.1 then
                                                                  lt (x.2 + 4 : Int32) fun x221 =>
                                                                  some (.inl (q219.2, x221))
                                                                else
                                                                  some (.inr (.inr (0, q219.2)))
                                                              else none
                                                            else none
                                                          else
                                                            if ((xs (Int32.toNatClampNeg x.2)) &&& 31) = 27 then
                                                              if inB (x.2 + 1) L = true then
                                                                (s_x_count x.1 (xs (Int32.toNatClampNeg (x.2 + 1)))).bind fun q224 =>
                                                                if inB (x.2 + 1) L = true then
                                                                  (s_m_count q224.2 (xs (Int32.toNatClampNeg (x.2 + 1)))).bind fun q226 =>
                                                                  if q224.1 = q226.1 then
                                                                    lt (x.2 + 4 : Int32) fun x228 =>
                                                                    some (.inl (q226.2, x228))
                                                                  else
                                                                    some (.inr (.inr (0, q226.2)))
                                                                else none
                                                              else none
                                                            else
                                                              if ((xs (Int32.toNatClampNeg x.2)) &&& 31) = 28 then
                                                                (s_x_digest x.1 ).bind fun q230 =>
                                                                (s_m_digest x.1 ).bind fun q231 =>
                                                                if (lg_cmp q230 q231) = 0 then
                                                                  lt (x.2 + 4 : Int32) fun x233 =>
                                                                  some (.inl (x.1, x233))
                                                                else
                                                                  some (.inr (.inr (0, x.1)))
                                                              else
                                                                lt (x.2 + 4 : Int32) fun x234 =>
                                                                some (.inl (x.1, x234))
    else none
def s_law (xs : Nat → Int32) (L : Nat) (σ : Sg) : Option (Int32 × Sg) :=
  (lp (b_law_18 xs L) 100000 (σ, 0)).bind fun o235 =>
  oElim o235 (fun y236 =>
    some (1, y236.1)) (fun q237 => some q237)
section LAWW
variable {p : Program} {l : Launch} {e : Env} {s : State} {m : MethodId} {args : Array Value} {below : List Frame} {meth : Method} {c : Code} {D : va_G} {tc : Nat → ClassId} {ad : Nat → Nat} {A : Nat → Prop} {Q : State → Prop} {kc ks : Nat}
set_option maxRecDepth 100000 in
set_option maxHeartbeats 8000000 in
theorem wb_law_18 (xs : Nat → Int32) (L : Nat) (x : (Sg × Int32)) (hC : CxW SK M_L_law p s m args meth c D tc ad A) (hX : SX ad s s.heap) (hXA : ∀ q, q < s.heap.size → ¬ A q) (hf : kc ≤ room_1.cells ∧ ks ≤ room_1.slots) (hxs : va_X (ad 99) L xs s s.heap) (hbl : ad 99 < s.heap.size) (hbA : ¬ A (ad 99)) (hend : ∀ (pc pc' : Nat) (ls : List (Nat × Value)) (σ : Sg), Dc M_L_law.2.1 pc .ireturn 1 pc' → Ew SK M_L_law p l e room_1 s m args below meth c D tc ad A Q kc ks pc ls [.int 1] σ) (o : ((Sg × Int32) ⊕ ((Sg × Int32) ⊕ (Int32 × Sg)))) (h : (b_law_18 xs L x) = some o) (hc : ∀ y : (Sg × Int32), o = .inl y → Ew SK M_L_law p l e room_1 s m args below meth c D tc ad A Q kc ks 18 [(0, .ref 99), (1, .ref 0), (2, .ref 71), (3, .int y.2)] [] y.1) (he : ∀ y : (Sg × Int32), o = .inr (.inl y) → Ew SK M_L_law p l e room_1 s m args below meth c D tc ad A Q kc ks 1000 [] [] y.1) (hr : ∀ q : (Int32 × Sg), o = .inr (.inr q) → q.1 = 1) : Ew SK M_L_law p l e room_1 s m args below meth c D tc ad A Q kc ks 18 [(0, .ref 99), (1, .ref 0), (2, .ref 71), (3, .int x.2)] [] x.1 := by
  unfold b_law_18 at h
  refine Ew_iload_n hC 3 (dt_L_law.at 10 rfl) rfl ?_
  refine Ew_aload_n hC 0 (dt_L_law.at 11 rfl) rfl ?_
  refine Ew_slen hC hxs hbl hbA (dt_L_law.at 12 rfl) ?_
  refine Ew_iconst hC (dt_L_law.at 13 rfl) ki_4 ?_
  refine Ew_isub hC (dt_L_law.at 14 rfl) ?_
  refine Ew_icmp_gt hC (tgt := 1000) (dt_L_law.at 15 rfl) (by decide) (fun c1 => ?_) (fun c1 => ?_)
  · replace h := oPos h c1
    refine Ew_sub hC [] (ls' := []) rfl ?_
    exact he (x.1, x.2) (Option.some.inj h).symm
  · replace h := oNeg h c1
    refine Ew_aload_n hC 0 (dt_L_law.at 16 rfl) rfl ?_
    refine Ew_iload_n hC 3 (dt_L_law.at 17 rfl) rfl ?_
    obtain ⟨g2, h⟩ := oGuard h
    refine Ew_sld hC hxs hbl hbA (dt_L_law.at 18 rfl) g2 ?_
    refine Ew_bipush hC (dt_L_law.at 19 rfl) kb_31 ?_
    refine Ew_iand hC (dt_L_law.at 20 rfl) ?_
    by_cases c3 : ((xs (Int32.toNatClampNeg x.2)) &&& 31) = 0
    · replace h := oPos h c3
      refine Ew_tblIn hC (tgt := 164) (off := 132) (dt_L_law.at 21 rfl) (by rw [c3]; decide) (by rw [c3]; decide) (by rw [c3]; decide) (by decide) ?_
      refine Ew_aload_n hC 1 (dt_L_law.at 22 rfl) rfl ?_
      refine Ew_aload_n hC 0 (dt_L_law.at 23 rfl) rfl ?_
      refine Ew_iload_n hC 3 (dt_L_law.at 24 rfl) rfl ?_
      refine Ew_iconst hC (dt_L_law.at 25 rfl) ki_1 ?_
      refine Ew_iadd hC (dt_L_law.at 26 rfl) ?_
      obtain ⟨g4, h⟩ := oGuard h
      refine Ew_sld hC hxs hbl hbA (dt_L_law.at 27 rfl) g4 ?_
      obtain ⟨q5, hq5, h⟩ := oBind h
      refine Ew_callV hC hX hXA hf (st := []) (st' := [.int q5.1]) [.int (xs (Int32.toNatClampNeg (x.2 + 1)))] (dt_L_law.at 28 rfl) cf_L_13 (w_x_places x.1 (xs (Int32.toNatClampNeg (x.2 + 1))) q5 hq5) ⟨Nat.le_of_ble_eq_true rfl, Nat.le_of_ble_eq_true rfl⟩ sk_0 rfl rfl rfl (Nat.le_of_ble_eq_true rfl) rfl ?_
      refine Ew_aload_n hC 2 (dt_L_law.at 29 rfl) rfl ?_
      refine Ew_aload_n hC 0 (dt_L_law.at 30 rfl) rfl ?_
      refine Ew_iload_n hC 3 (dt_L_law.at 31 rfl) rfl ?_
      refine Ew_iconst hC (dt_L_law.at 32 rfl) ki_1 ?_
      refine Ew_iadd hC (dt_L_law.at 33 rfl) ?_
      obtain ⟨g6, h⟩ := oGuard h
      refine Ew_sld hC hxs hbl hbA (dt_L_law.at 34 rfl) g6 ?_
      obtain ⟨q7, hq7, h⟩ := oBind h
      refine Ew_callV hC hX hXA hf (st := [.int q5.1]) (st' := [.int q7.1, .int q5.1]) [.int (xs (Int32.toNatClampNeg (x.2 + 1)))] (dt_L_law.at 35 rfl) cf_L_17 (w_m_places q5.2 (xs (Int32.toNatClampNeg (x.2 + 1))) q7 hq7) ⟨Nat.le_of_ble_eq_true rfl, Nat.le_of_ble_eq_true rfl⟩ sk_71 rfl rfl rfl (Nat.le_of_ble_eq_true rfl) rfl ?_
      refine Ew_icmp_eq hC (tgt := 994) (dt_L_law.at 36 rfl) (by decide) (fun c8 => ?_) (fun c8 => ?_)
      · replace h := oPos h c8
        obtain ⟨x9, ex9⟩ : ∃ z : Int32, z = x.2 + 4 := ⟨_, rfl⟩
        replace h := oLt h ex9
        refine Ew_iinc hC (v := x9) 3 (dt_L_law.at 672 rfl) rfl (ex9.trans (congrArg (fun z => x.2 + z) ki_4.symm)) (by decide) (ls' := [(3, .int x9), (0, .ref 99), (1, .ref 0), (2, .ref 71)]) rfl ?_
        refine Ew_goto hC (tgt := 18) (dt_L_law.at 673 rfl) (by decide) ?_
        refine Ew_sub hC [1, 2, 3, 0] (ls' := [(0, .ref 99), (1, .ref 0), (2, .ref 71), (3, .int x9)]) rfl ?_
        exact hc (q7.2, x9) (Option.some.inj h).symm
      · replace h := oNeg h c8
        refine Ew_iconst hC (dt_L_law.at 37 rfl) ki_0 ?_
        exact absurd (hr _ (Option.some.inj h).symm) (show ¬ (0 : Int32) = 1 by decide)
    replace h := oNeg h c3
    by_cases c10 : ((xs (Int32.toNatClampNeg x.2)) &&& 31) = 1
    · replace h := oPos h c10
      refine Ew_tblIn hC (tgt := 187) (off := 155) (dt_L_law.at 21 rfl) (by rw [c10]; decide) (by rw [c10]; decide) (by rw [c10]; decide) (by decide) ?_
      refine Ew_aload_n hC 1 (dt_L_law.at 39 rfl) rfl ?_
      refine Ew_aload_n hC 0 (dt_L_law.at 40 rfl) rfl ?_
      refine Ew_iload_n hC 3 (dt_L_law.at 41 rfl) rfl ?_
      refine Ew_iconst hC (dt_L_law.at 42 rfl) ki_1 ?_
      refine Ew_iadd hC (dt_L_law.at 43 rfl) ?_
      obtain ⟨g11, h⟩ := oGuard h
      refine Ew_sld hC hxs hbl hbA (dt_L_law.at 44 rfl) g11 ?_
      refine Ew_aload_n hC 0 (dt_L_law.at 45 rfl) rfl ?_
      refine Ew_iload_n hC 3 (dt_L_law.at 46 rfl) rfl ?_
      refine Ew_iconst hC (dt_L_law.at 47 rfl) ki_2 ?_
      refine Ew_iadd hC (dt_L_law.at 48 rfl) ?_
      obtain ⟨g12, h⟩ := oGuard h
      refine Ew_sld hC hxs hbl hbA (dt_L_law.at 49 rfl) g12 ?_
      obtain ⟨q13, hq13, h⟩ := oBind h
      refine Ew_callV hC hX hXA hf (st := []) (st' := [.int q13.1]) [.int (xs (Int32.toNatClampNeg (x.2 + 1))), .int (xs (Int32.toNatClampNeg (x.2 + 2)))] (dt_L_law.at 50 rfl) cf_L_18 (w_x_person x.1 (xs (Int32.toNatClampNeg (x.2 + 1))) (xs (Int32.toNatClampNeg (x.2 + 2))) q13 hq13) ⟨Nat.le_of_ble_eq_true rfl, Nat.le_of_ble_eq_true rfl⟩ sk_0 rfl rfl rfl (Nat.le_of_ble_eq_true rfl) rfl ?_
      refine Ew_aload_n hC 2 (dt_L_law.at 51 rfl) rfl ?_
      refine Ew_aload_n hC 0 (dt_L_law.at 52 rfl) rfl ?_
      refine Ew_iload_n hC 3 (dt_L_law.at 53 rfl) rfl ?_
      refine Ew_iconst hC (dt_L_law.at 54 rfl) ki_1 ?_
      refine Ew_iadd hC (dt_L_law.at 55 rfl) ?_
      obtain ⟨g14, h⟩ := oGuard h
      refine Ew_sld hC hxs hbl hbA (dt_L_law.at 56 rfl) g14 ?_
      refine Ew_aload_n hC 0 (dt_L_law.at 57 rfl) rfl ?_
      refine Ew_iload_n hC 3 (dt_L_law.at 58 rfl) rfl ?_
      refine Ew_iconst hC (dt_L_law.at 59 rfl) ki_2 ?_
      refine Ew_iadd hC (dt_L_law.at 60 rfl) ?_
      obtain ⟨g15, h⟩ := oGuard h
      refine Ew_sld hC hxs hbl hbA (dt_L_law.at 61 rfl) g15 ?_
      obtain ⟨q16, hq16, h⟩ := oBind h
      refine Ew_callV hC hX hXA hf (st := [.int q13.1]) (st' := [.int q16.1, .int q13.1]) [.int (xs (Int32.toNatClampNeg (x.2 + 1))), .int (xs (Int32.toNatClampNeg (x.2 + 2)))] (dt_L_law.at 62 rfl) cf_L_22 (w_m_person q13.2 (xs (Int32.toNatClampNeg (x.2 + 1))) (xs (Int32.toNatClampNeg (x.2 + 2))) q16 hq16) ⟨Nat.le_of_ble_eq_true rfl, Nat.le_of_ble_eq_true rfl⟩ sk_71 rfl rfl rfl (Nat.le_of_ble_eq_true rfl) rfl ?_
      refine Ew_icmp_eq hC (tgt := 994) (dt_L_law.at 63 rfl) (by decide) (fun c17 => ?_) (fun c17 => ?_)
      · replace h := oPos h c17
        obtain ⟨x18, ex18⟩ : ∃ z : Int32, z = x.2 + 4 := ⟨_, rfl⟩
        replace h := oLt h ex18
        refine Ew_iinc hC (v := x18) 3 (dt_L_law.at 672 rfl) rfl (ex18.trans (congrArg (fun z => x.2 + z) ki_4.symm)) (by decide) (ls' := [(3, .int x18), (0, .ref 99), (1, .ref 0), (2, .ref 71)]) rfl ?_
        refine Ew_goto hC (tgt := 18) (dt_L_law.at 673 rfl) (by decide) ?_
        refine Ew_sub hC [1, 2, 3, 0] (ls' := [(0, .ref 99), (1, .ref 0), (2, .ref 71), (3, .int x18)]) rfl ?_
        exact hc (q16.2, x18) (Option.some.inj h).symm
      · replace h := oNeg h c17
        refine Ew_iconst hC (dt_L_law.at 64 rfl) ki_0 ?_
        exact absurd (hr _ (Option.some.inj h).symm) (show ¬ (0 : Int32) = 1 by decide)
    replace h := oNeg h c10
    by_cases c19 : ((xs (Int32.toNatClampNeg x.2)) &&& 31) = 2
    · replace h := oPos h c19
      refine Ew_tblIn hC (tgt := 220) (off := 188) (dt_L_law.at 21 rfl) (by rw [c19]; decide) (by rw [c19]; decide) (by rw [c19]; decide) (by decide) ?_
      refine Ew_aload_n hC 1 (dt_L_law.at 66 rfl) rfl ?_
      refine Ew_aload_n hC 0 (dt_L_law.at 67 rfl) rfl ?_
      refine Ew_iload_n hC 3 (dt_L_law.at 68 rfl) rfl ?_
      refine Ew_iconst hC (dt_L_law.at 69 rfl) ki_1 ?_
      refine Ew_iadd hC (dt_L_law.at 70 rfl) ?_
      obtain ⟨g20, h⟩ := oGuard h
      refine Ew_sld hC hxs hbl hbA (dt_L_law.at 71 rfl) g20 ?_
      refine Ew_aload_n hC 0 (dt_L_law.at 72 rfl) rfl ?_
      refine Ew_iload_n hC 3 (dt_L_law.at 73 rfl) rfl ?_
      refine Ew_iconst hC (dt_L_law.at 74 rfl) ki_2 ?_
      refine Ew_iadd hC (dt_L_law.at 75 rfl) ?_
      obtain ⟨g21, h⟩ := oGuard h
      refine Ew_sld hC hxs hbl hbA (dt_L_law.at 76 rfl) g21 ?_
      refine Ew_aload_n hC 0 (dt_L_law.at 77 rfl) rfl ?_
      refine Ew_iload_n hC 3 (dt_L_law.at 78 rfl) rfl ?_
      refine Ew_iconst hC (dt_L_law.at 79 rfl) ki_3 ?_
      refine Ew_iadd hC (dt_L_law.at 80 rfl) ?_
      obtain ⟨g22, h⟩ := oGuard h
      refine Ew_sld hC hxs hbl hbA (dt_L_law.at 81 rfl) g22 ?_
      obtain ⟨q23, hq23, h⟩ := oBind h
      refine Ew_callV hC hX hXA hf (st := []) (st' := [.int q23.1]) [.int (xs (Int32.toNatClampNeg (x.2 + 1))), .int (xs (Int32.toNatClampNeg (x.2 + 2))), .int (xs (Int32.toNatClampNeg (x.2 + 3)))] (dt_L_law.at 82 rfl) cf_L_23 (w_x_errand x.1 (xs (Int32.toNatClampNeg (x.2 + 1))) (xs (Int32.toNatClampNeg (x.2 + 2))) (xs (Int32.toNatClampNeg (x.2 + 3))) q23 hq23) ⟨Nat.le_of_ble_eq_true rfl, Nat.le_of_ble_eq_true rfl⟩ sk_0 rfl rfl rfl (Nat.le_of_ble_eq_true rfl) rfl ?_
      refine Ew_aload_n hC 2 (dt_L_law.at 83 rfl) rfl ?_
      refine Ew_aload_n hC 0 (dt_L_law.at 84 rfl) rfl ?_
      refine Ew_iload_n hC 3 (dt_L_law.at 85 rfl) rfl ?_
      refine Ew_iconst hC (dt_L_law.at 86 rfl) ki_1 ?_
      refine Ew_iadd hC (dt_L_law.at 87 rfl) ?_
      obtain ⟨g24, h⟩ := oGuard h
      refine Ew_sld hC hxs hbl hbA (dt_L_law.at 88 rfl) g24 ?_
      refine Ew_aload_n hC 0 (dt_L_law.at 89 rfl) rfl ?_
      refine Ew_iload_n hC 3 (dt_L_law.at 90 rfl) rfl ?_
      refine Ew_iconst hC (dt_L_law.at 91 rfl) ki_2 ?_
      refine Ew_iadd hC (dt_L_law.at 92 rfl) ?_
      obtain ⟨g25, h⟩ := oGuard h
      refine Ew_sld hC hxs hbl hbA (dt_L_law.at 93 rfl) g25 ?_
      refine Ew_aload_n hC 0 (dt_L_law.at 94 rfl) rfl ?_
      refine Ew_iload_n hC 3 (dt_L_law.at 95 rfl) rfl ?_
      refine Ew_iconst hC (dt_L_law.at 96 rfl) ki_3 ?_
      refine Ew_iadd hC (dt_L_law.at 97 rfl) ?_
      obtain ⟨g26, h⟩ := oGuard h
      refine Ew_sld hC hxs hbl hbA (dt_L_law.at 98 rfl) g26 ?_
      obtain ⟨q27, hq27, h⟩ := oBind h
      refine Ew_callV hC hX hXA hf (st := [.int q23.1]) (st' := [.int q27.1, .int q23.1]) [.int (xs (Int32.toNatClampNeg (x.2 + 1))), .int (xs (Int32.toNatClampNeg (x.2 + 2))), .int (xs (Int32.toNatClampNeg (x.2 + 3)))] (dt_L_law.at 99 rfl) cf_L_27 (w_m_errand q23.2 (xs (Int32.toNatClampNeg (x.2 + 1))) (xs (Int32.toNatClampNeg (x.2 + 2))) (xs (Int32.toNatClampNeg (x.2 + 3))) q27 hq27) ⟨Nat.le_of_ble_eq_true rfl, Nat.le_of_ble_eq_true rfl⟩ sk_71 rfl rfl rfl (Nat.le_of_ble_eq_true rfl) rfl ?_
      refine Ew_icmp_eq hC (tgt := 994) (dt_L_law.at 100 rfl) (by decide) (fun c28 => ?_) (fun c28 => ?_)
      · replace h := oPos h c28
        obtain ⟨x29, ex29⟩ : ∃ z : Int32, z = x.2 + 4 := ⟨_, rfl⟩
        replace h := oLt h ex29
        refine Ew_iinc hC (v := x29) 3 (dt_L_law.at 672 rfl) rfl (ex29.trans (congrArg (fun z => x.2 + z) ki_4.symm)) (by decide) (ls' := [(3, .int x29), (0, .ref 99), (1, .ref 0), (2, .ref 71)]) rfl ?_
        refine Ew_goto hC (tgt := 18) (dt_L_law.at 673 rfl) (by decide) ?_
        refine Ew_sub hC [1, 2, 3, 0] (ls' := [(0, .ref 99), (1, .ref 0), (2, .ref 71), (3, .int x29)]) rfl ?_
        exact hc (q27.2, x29) (Option.some.inj h).symm
      · replace h := oNeg h c28
        refine Ew_iconst hC (dt_L_law.at 101 rfl) ki_0 ?_
        exact absurd (hr _ (Option.some.inj h).symm) (show ¬ (0 : Int32) = 1 by decide)
    replace h := oNeg h c19
    by_cases c30 : ((xs (Int32.toNatClampNeg x.2)) &&& 31) = 3
    · replace h := oPos h c30
      refine Ew_tblIn hC (tgt := 263) (off := 231) (dt_L_law.at 21 rfl) (by rw [c30]; decide) (by rw [c30]; decide) (by rw [c30]; decide) (by decide) ?_
      refine Ew_aload_n hC 1 (dt_L_law.at 103 rfl) rfl ?_
      refine Ew_aload_n hC 0 (dt_L_law.at 104 rfl) rfl ?_
      refine Ew_iload_n hC 3 (dt_L_law.at 105 rfl) rfl ?_
      refine Ew_iconst hC (dt_L_law.at 106 rfl) ki_1 ?_
      refine Ew_iadd hC (dt_L_law.at 107 rfl) ?_
      obtain ⟨g31, h⟩ := oGuard h
      refine Ew_sld hC hxs hbl hbA (dt_L_law.at 108 rfl) g31 ?_
      obtain ⟨q32, hq32, h⟩ := oBind h
      refine Ew_callV hC hX hXA hf (st := []) (st' := [.int q32.1]) [.int (xs (Int32.toNatClampNeg (x.2 + 1)))] (dt_L_law.at 109 rfl) cf_L_28 (w_x_drop x.1 (xs (Int32.toNatClampNeg (x.2 + 1))) q32 hq32) ⟨Nat.le_of_ble_eq_true rfl, Nat.le_of_ble_eq_true rfl⟩ sk_0 rfl rfl rfl (Nat.le_of_ble_eq_true rfl) rfl ?_
      refine Ew_aload_n hC 2 (dt_L_law.at 110 rfl) rfl ?_
      refine Ew_aload_n hC 0 (dt_L_law.at 111 rfl) rfl ?_
      refine Ew_iload_n hC 3 (dt_L_law.at 112 rfl) rfl ?_
      refine Ew_iconst hC (dt_L_law.at 113 rfl) ki_1 ?_
      refine Ew_iadd hC (dt_L_law.at 114 rfl) ?_
      obtain ⟨g33, h⟩ := oGuard h
      refine Ew_sld hC hxs hbl hbA (dt_L_law.at 115 rfl) g33 ?_
      obtain ⟨q34, hq34, h⟩ := oBind h
      refine Ew_callV hC hX hXA hf (st := [.int q32.1]) (st' := [.int q34.1, .int q32.1]) [.int (xs (Int32.toNatClampNeg (x.2 + 1)))] (dt_L_law.at 116 rfl) cf_L_31 (w_m_drop q32.2 (xs (Int32.toNatClampNeg (x.2 + 1))) q34 hq34) ⟨Nat.le_of_ble_eq_true rfl, Nat.le_of_ble_eq_true rfl⟩ sk_71 rfl rfl rfl (Nat.le_of_ble_eq_true rfl) rfl ?_
      refine Ew_icmp_eq hC (tgt := 994) (dt_L_law.at 117 rfl) (by decide) (fun c35 => ?_) (fun c35 => ?_)
      · replace h := oPos h c35
        obtain ⟨x36, ex36⟩ : ∃ z : Int32, z = x.2 + 4 := ⟨_, rfl⟩
        replace h := oLt h ex36
        refine Ew_iinc hC (v := x36) 3 (dt_L_law.at 672 rfl) rfl (ex36.trans (congrArg (fun z => x.2 + z) ki_4.symm)) (by decide) (ls' := [(3, .int x36), (0, .ref 99), (1, .ref 0), (2, .ref 71)]) rfl ?_
        refine Ew_goto hC (tgt := 18) (dt_L_law.at 673 rfl) (by decide) ?_
        refine Ew_sub hC [1, 2, 3, 0] (ls' := [(0, .ref 99), (1, .ref 0), (2, .ref 71), (3, .int x36)]) rfl ?_
        exact hc (q34.2, x36) (Option.some.inj h).symm
      · replace h := oNeg h c35
        refine Ew_iconst hC (dt_L_law.at 118 rfl) ki_0 ?_
        exact absurd (hr _ (Option.some.inj h).symm) (show ¬ (0 : Int32) = 1 by decide)
    replace h := oNeg h c30
    by_cases c37 : ((xs (Int32.toNatClampNeg x.2)) &&& 31) = 4
    · replace h := oPos h c37
      refine Ew_tblIn hC (tgt := 286) (off := 254) (dt_L_law.at 21 rfl) (by rw [c37]; decide) (by rw [c37]; decide) (by rw [c37]; decide) (by decide) ?_
      refine Ew_aload_n hC 1 (dt_L_law.at 120 rfl) rfl ?_
      refine Ew_aload_n hC 0 (dt_L_law.at 121 rfl) rfl ?_
      refine Ew_iload_n hC 3 (dt_L_law.at 122 rfl) rfl ?_
      refine Ew_iconst hC (dt_L_law.at 123 rfl) ki_1 ?_
      refine Ew_iadd hC (dt_L_law.at 124 rfl) ?_
      obtain ⟨g38, h⟩ := oGuard h
      refine Ew_sld hC hxs hbl hbA (dt_L_law.at 125 rfl) g38 ?_
      refine Ew_i2l hC (dt_L_law.at 126 rfl) ?_
      refine Ew_bipush hC (dt_L_law.at 127 rfl) kb_32 ?_
      refine Ew_lshl hC (dt_L_law.at 128 rfl) ?_
      refine Ew_aload_n hC 0 (dt_L_law.at 129 rfl) rfl ?_
      refine Ew_iload_n hC 3 (dt_L_law.at 130 rfl) rfl ?_
      refine Ew_iconst hC (dt_L_law.at 131 rfl) ki_2 ?_
      refine Ew_iadd hC (dt_L_law.at 132 rfl) ?_
      obtain ⟨g39, h⟩ := oGuard h
      refine Ew_sld hC hxs hbl hbA (dt_L_law.at 133 rfl) g39 ?_
      refine Ew_i2l hC (dt_L_law.at 134 rfl) ?_
      refine Ew_ldc2 hC (dt_L_law.at 135 rfl) cl_L_32 ?_
      refine Ew_land hC (dt_L_law.at 136 rfl) ?_
      refine Ew_lor hC (dt_L_law.at 137 rfl) ?_
      refine Ew_aload_n hC 0 (dt_L_law.at 138 rfl) rfl ?_
      refine Ew_iload_n hC 3 (dt_L_law.at 139 rfl) rfl ?_
      refine Ew_iconst hC (dt_L_law.at 140 rfl) ki_3 ?_
      refine Ew_iadd hC (dt_L_law.at 141 rfl) ?_
      obtain ⟨g40, h⟩ := oGuard h
      refine Ew_sld hC hxs hbl hbA (dt_L_law.at 142 rfl) g40 ?_
      obtain ⟨q41, hq41, h⟩ := oBind h
      refine Ew_callV hC hX hXA hf (st := []) (st' := [.int q41.1]) [.long ((((Int32.toInt64 (xs (Int32.toNatClampNeg (x.2 + 1)))) : Int64) <<< ((Int32.toInt64 32) &&& 63)) ||| ((Int32.toInt64 (xs (Int32.toNatClampNeg (x.2 + 2)))) &&& 4294967295)), .int (xs (Int32.toNatClampNeg (x.2 + 3)))] (dt_L_law.at 143 rfl) cf_L_34 (w_x_type x.1 ((((Int32.toInt64 (xs (Int32.toNatClampNeg (x.2 + 1)))) : Int64) <<< ((Int32.toInt64 32) &&& 63)) ||| ((Int32.toInt64 (xs (Int32.toNatClampNeg (x.2 + 2)))) &&& 4294967295)) (xs (Int32.toNatClampNeg (x.2 + 3))) q41 hq41) ⟨Nat.le_of_ble_eq_true rfl, Nat.le_of_ble_eq_true rfl⟩ sk_0 rfl rfl rfl (Nat.le_of_ble_eq_true rfl) rfl ?_
      refine Ew_aload_n hC 2 (dt_L_law.at 144 rfl) rfl ?_
      refine Ew_aload_n hC 0 (dt_L_law.at 145 rfl) rfl ?_
      refine Ew_iload_n hC 3 (dt_L_law.at 146 rfl) rfl ?_
      refine Ew_iconst hC (dt_L_law.at 147 rfl) ki_1 ?_
      refine Ew_iadd hC (dt_L_law.at 148 rfl) ?_
      obtain ⟨g42, h⟩ := oGuard h
      refine Ew_sld hC hxs hbl hbA (dt_L_law.at 149 rfl) g42 ?_
      refine Ew_i2l hC (dt_L_law.at 150 rfl) ?_
      refine Ew_bipush hC (dt_L_law.at 151 rfl) kb_32 ?_
      refine Ew_lshl hC (dt_L_law.at 152 rfl) ?_
      refine Ew_aload_n hC 0 (dt_L_law.at 153 rfl) rfl ?_
      refine Ew_iload_n hC 3 (dt_L_law.at 154 rfl) rfl ?_
      refine Ew_iconst hC (dt_L_law.at 155 rfl) ki_2 ?_
      refine Ew_iadd hC (dt_L_law.at 156 rfl) ?_
      obtain ⟨g43, h⟩ := oGuard h
      refine Ew_sld hC hxs hbl hbA (dt_L_law.at 157 rfl) g43 ?_
      refine Ew_i2l hC (dt_L_law.at 158 rfl) ?_
      refine Ew_ldc2 hC (dt_L_law.at 159 rfl) cl_L_32 ?_
      refine Ew_land hC (dt_L_law.at 160 rfl) ?_
      refine Ew_lor hC (dt_L_law.at 161 rfl) ?_
      refine Ew_aload_n hC 0 (dt_L_law.at 162 rfl) rfl ?_
      refine Ew_iload_n hC 3 (dt_L_law.at 163 rfl) rfl ?_
      refine Ew_iconst hC (dt_L_law.at 164 rfl) ki_3 ?_
      refine Ew_iadd hC (dt_L_law.at 165 rfl) ?_
      obtain ⟨g44, h⟩ := oGuard h
      refine Ew_sld hC hxs hbl hbA (dt_L_law.at 166 rfl) g44 ?_
      obtain ⟨q45, hq45, h⟩ := oBind h
      refine Ew_callV hC hX hXA hf (st := [.int q41.1]) (st' := [.int q45.1, .int q41.1]) [.long ((((Int32.toInt64 (xs (Int32.toNatClampNeg (x.2 + 1)))) : Int64) <<< ((Int32.toInt64 32) &&& 63)) ||| ((Int32.toInt64 (xs (Int32.toNatClampNeg (x.2 + 2)))) &&& 4294967295)), .int (xs (Int32.toNatClampNeg (x.2 + 3)))] (dt_L_law.at 167 rfl) cf_L_38 (w_m_type q41.2 ((((Int32.toInt64 (xs (Int32.toNatClampNeg (x.2 + 1)))) : Int64) <<< ((Int32.toInt64 32) &&& 63)) ||| ((Int32.toInt64 (xs (Int32.toNatClampNeg (x.2 + 2)))) &&& 4294967295)) (xs (Int32.toNatClampNeg (x.2 + 3))) q45 hq45) ⟨Nat.le_of_ble_eq_true rfl, Nat.le_of_ble_eq_true rfl⟩ sk_71 rfl rfl rfl (Nat.le_of_ble_eq_true rfl) rfl ?_
      refine Ew_icmp_eq hC (tgt := 994) (dt_L_law.at 168 rfl) (by decide) (fun c46 => ?_) (fun c46 => ?_)
      · replace h := oPos h c46
        obtain ⟨x47, ex47⟩ : ∃ z : Int32, z = x.2 + 4 := ⟨_, rfl⟩
        replace h := oLt h ex47
        refine Ew_iinc hC (v := x47) 3 (dt_L_law.at 672 rfl) rfl (ex47.trans (congrArg (fun z => x.2 + z) ki_4.symm)) (by decide) (ls' := [(3, .int x47), (0, .ref 99), (1, .ref 0), (2, .ref 71)]) rfl ?_
        refine Ew_goto hC (tgt := 18) (dt_L_law.at 673 rfl) (by decide) ?_
        refine Ew_sub hC [1, 2, 3, 0] (ls' := [(0, .ref 99), (1, .ref 0), (2, .ref 71), (3, .int x47)]) rfl ?_
        exact hc (q45.2, x47) (Option.some.inj h).symm
      · replace h := oNeg h c46
        refine Ew_iconst hC (dt_L_law.at 169 rfl) ki_0 ?_
        exact absurd (hr _ (Option.some.inj h).symm) (show ¬ (0 : Int32) = 1 by decide)
    replace h := oNeg h c37
    by_cases c48 : ((xs (Int32.toNatClampNeg x.2)) &&& 31) = 5
    · replace h := oPos h c48
      refine Ew_tblIn hC (tgt := 349) (off := 317) (dt_L_law.at 21 rfl) (by rw [c48]; decide) (by rw [c48]; decide) (by rw [c48]; decide) (by decide) ?_
      refine Ew_aload_n hC 1 (dt_L_law.at 171 rfl) rfl ?_
      obtain ⟨q49, hq49, h⟩ := oBind h
      refine Ew_callV hC hX hXA hf (st := []) (st' := [.int q49.1]) [] (dt_L_law.at 172 rfl) cf_L_39 (w_x_clear x.1  q49 hq49) ⟨Nat.le_of_ble_eq_true rfl, Nat.le_of_ble_eq_true rfl⟩ sk_0 rfl rfl rfl (Nat.le_of_ble_eq_true rfl) rfl ?_
      refine Ew_aload_n hC 2 (dt_L_law.at 173 rfl) rfl ?_
      obtain ⟨q50, hq50, h⟩ := oBind h
      refine Ew_callV hC hX hXA hf (st := [.int q49.1]) (st' := [.int q50.1, .int q49.1]) [] (dt_L_law.at 174 rfl) cf_L_43 (w_m_clear q49.2  q50 hq50) ⟨Nat.le_of_ble_eq_true rfl, Nat.le_of_ble_eq_true rfl⟩ sk_71 rfl rfl rfl (Nat.le_of_ble_eq_true rfl) rfl ?_
      refine Ew_icmp_eq hC (tgt := 994) (dt_L_law.at 175 rfl) (by decide) (fun c51 => ?_) (fun c51 => ?_)
      · replace h := oPos h c51
        obtain ⟨x52, ex52⟩ : ∃ z : Int32, z = x.2 + 4 := ⟨_, rfl⟩
        replace h := oLt h ex52
        refine Ew_iinc hC (v := x52) 3 (dt_L_law.at 672 rfl) rfl (ex52.trans (congrArg (fun z => x.2 + z) ki_4.symm)) (by decide) (ls' := [(3, .int x52), (0, .ref 99), (1, .ref 0), (2, .ref 71)]) rfl ?_
        refine Ew_goto hC (tgt := 18) (dt_L_law.at 673 rfl) (by decide) ?_
        refine Ew_sub hC [1, 2, 3, 0] (ls' := [(0, .ref 99), (1, .ref 0), (2, .ref 71), (3, .int x52)]) rfl ?_
        exact hc (q50.2, x52) (Option.some.inj h).symm
      · replace h := oNeg h c51
        refine Ew_iconst hC (dt_L_law.at 176 rfl) ki_0 ?_
        exact absurd (hr _ (Option.some.inj h).symm) (show ¬ (0 : Int32) = 1 by decide)
    replace h := oNeg h c48
    by_cases c53 : ((xs (Int32.toNatClampNeg x.2)) &&& 31) = 6
    · replace h := oPos h c53
      refine Ew_tblIn hC (tgt := 362) (off := 330) (dt_L_law.at 21 rfl) (by rw [c53]; decide) (by rw [c53]; decide) (by rw [c53]; decide) (by decide) ?_
      refine Ew_aload_n hC 1 (dt_L_law.at 178 rfl) rfl ?_
      obtain ⟨q54, hq54, h⟩ := oBind h
      refine Ew_callV hC hX hXA hf (st := []) (st' := [.int q54.1]) [] (dt_L_law.at 179 rfl) cf_L_44 (w_x_read x.1  q54 hq54) ⟨Nat.le_of_ble_eq_true rfl, Nat.le_of_ble_eq_true rfl⟩ sk_0 rfl rfl rfl (Nat.le_of_ble_eq_true rfl) rfl ?_
      refine Ew_aload_n hC 2 (dt_L_law.at 180 rfl) rfl ?_
      obtain ⟨q55, hq55, h⟩ := oBind h
      refine Ew_callV hC hX hXA hf (st := [.int q54.1]) (st' := [.int q55.1, .int q54.1]) [] (dt_L_law.at 181 rfl) cf_L_47 (w_m_read q54.2  q55 hq55) ⟨Nat.le_of_ble_eq_true rfl, Nat.le_of_ble_eq_true rfl⟩ sk_71 rfl rfl rfl (Nat.le_of_ble_eq_true rfl) rfl ?_
      refine Ew_icmp_eq hC (tgt := 994) (dt_L_law.at 182 rfl) (by decide) (fun c56 => ?_) (fun c56 => ?_)
      · replace h := oPos h c56
        obtain ⟨x57, ex57⟩ : ∃ z : Int32, z = x.2 + 4 := ⟨_, rfl⟩
        replace h := oLt h ex57
        refine Ew_iinc hC (v := x57) 3 (dt_L_law.at 672 rfl) rfl (ex57.trans (congrArg (fun z => x.2 + z) ki_4.symm)) (by decide) (ls' := [(3, .int x57), (0, .ref 99), (1, .ref 0), (2, .ref 71)]) rfl ?_
        refine Ew_goto hC (tgt := 18) (dt_L_law.at 673 rfl) (by decide) ?_
        refine Ew_sub hC [1, 2, 3, 0] (ls' := [(0, .ref 99), (1, .ref 0), (2, .ref 71), (3, .int x57)]) rfl ?_
        exact hc (q55.2, x57) (Option.some.inj h).symm
      · replace h := oNeg h c56
        refine Ew_iconst hC (dt_L_law.at 183 rfl) ki_0 ?_
        exact absurd (hr _ (Option.some.inj h).symm) (show ¬ (0 : Int32) = 1 by decide)
    replace h := oNeg h c53
    by_cases c58 : ((xs (Int32.toNatClampNeg x.2)) &&& 31) = 7
    · replace h := oPos h c58
      refine Ew_tblIn hC (tgt := 375) (off := 343) (dt_L_law.at 21 rfl) (by rw [c58]; decide) (by rw [c58]; decide) (by rw [c58]; decide) (by decide) ?_
      refine Ew_aload_n hC 1 (dt_L_law.at 185 rfl) rfl ?_
      refine Ew_aload_n hC 0 (dt_L_law.at 186 rfl) rfl ?_
      refine Ew_iload_n hC 3 (dt_L_law.at 187 rfl) rfl ?_
      refine Ew_iconst hC (dt_L_law.at 188 rfl) ki_1 ?_
      refine Ew_iadd hC (dt_L_law.at 189 rfl) ?_
      obtain ⟨g59, h⟩ := oGuard h
      refine Ew_sld hC hxs hbl hbA (dt_L_law.at 190 rfl) g59 ?_
      refine Ew_aload_n hC 0 (dt_L_law.at 191 rfl) rfl ?_
      refine Ew_iload_n hC 3 (dt_L_law.at 192 rfl) rfl ?_
      refine Ew_iconst hC (dt_L_law.at 193 rfl) ki_2 ?_
      refine Ew_iadd hC (dt_L_law.at 194 rfl) ?_
      obtain ⟨g60, h⟩ := oGuard h
      refine Ew_sld hC hxs hbl hbA (dt_L_law.at 195 rfl) g60 ?_
      obtain ⟨q61, hq61, h⟩ := oBind h
      refine Ew_callV hC hX hXA hf (st := []) (st' := [.int q61.1]) [.int (xs (Int32.toNatClampNeg (x.2 + 1))), .int (xs (Int32.toNatClampNeg (x.2 + 2)))] (dt_L_law.at 196 rfl) cf_L_48 (w_x_day x.1 (xs (Int32.toNatClampNeg (x.2 + 1))) (xs (Int32.toNatClampNeg (x.2 + 2))) q61 hq61) ⟨Nat.le_of_ble_eq_true rfl, Nat.le_of_ble_eq_true rfl⟩ sk_0 rfl rfl rfl (Nat.le_of_ble_eq_true rfl) rfl ?_
      refine Ew_aload_n hC 2 (dt_L_law.at 197 rfl) rfl ?_
      refine Ew_aload_n hC 0 (dt_L_law.at 198 rfl) rfl ?_
      refine Ew_iload_n hC 3 (dt_L_law.at 199 rfl) rfl ?_
      refine Ew_iconst hC (dt_L_law.at 200 rfl) ki_1 ?_
      refine Ew_iadd hC (dt_L_law.at 201 rfl) ?_
      obtain ⟨g62, h⟩ := oGuard h
      refine Ew_sld hC hxs hbl hbA (dt_L_law.at 202 rfl) g62 ?_
      refine Ew_aload_n hC 0 (dt_L_law.at 203 rfl) rfl ?_
      refine Ew_iload_n hC 3 (dt_L_law.at 204 rfl) rfl ?_
      refine Ew_iconst hC (dt_L_law.at 205 rfl) ki_2 ?_
      refine Ew_iadd hC (dt_L_law.at 206 rfl) ?_
      obtain ⟨g63, h⟩ := oGuard h
      refine Ew_sld hC hxs hbl hbA (dt_L_law.at 207 rfl) g63 ?_
      obtain ⟨q64, hq64, h⟩ := oBind h
      refine Ew_callV hC hX hXA hf (st := [.int q61.1]) (st' := [.int q64.1, .int q61.1]) [.int (xs (Int32.toNatClampNeg (x.2 + 1))), .int (xs (Int32.toNatClampNeg (x.2 + 2)))] (dt_L_law.at 208 rfl) cf_L_51 (w_m_day q61.2 (xs (Int32.toNatClampNeg (x.2 + 1))) (xs (Int32.toNatClampNeg (x.2 + 2))) q64 hq64) ⟨Nat.le_of_ble_eq_true rfl, Nat.le_of_ble_eq_true rfl⟩ sk_71 rfl rfl rfl (Nat.le_of_ble_eq_true rfl) rfl ?_
      refine Ew_icmp_eq hC (tgt := 994) (dt_L_law.at 209 rfl) (by decide) (fun c65 => ?_) (fun c65 => ?_)
      · replace h := oPos h c65
        obtain ⟨x66, ex66⟩ : ∃ z : Int32, z = x.2 + 4 := ⟨_, rfl⟩
        replace h := oLt h ex66
        refine Ew_iinc hC (v := x66) 3 (dt_L_law.at 672 rfl) rfl (ex66.trans (congrArg (fun z => x.2 + z) ki_4.symm)) (by decide) (ls' := [(3, .int x66), (0, .ref 99), (1, .ref 0), (2, .ref 71)]) rfl ?_
        refine Ew_goto hC (tgt := 18) (dt_L_law.at 673 rfl) (by decide) ?_
        refine Ew_sub hC [1, 2, 3, 0] (ls' := [(0, .ref 99), (1, .ref 0), (2, .ref 71), (3, .int x66)]) rfl ?_
        exact hc (q64.2, x66) (Option.some.inj h).symm
      · replace h := oNeg h c65
        refine Ew_iconst hC (dt_L_law.at 210 rfl) ki_0 ?_
        exact absurd (hr _ (Option.some.inj h).symm) (show ¬ (0 : Int32) = 1 by decide)
    replace h := oNeg h c58
    by_cases c67 : ((xs (Int32.toNatClampNeg x.2)) &&& 31) = 8
    · replace h := oPos h c67
      refine Ew_tblIn hC (tgt := 408) (off := 376) (dt_L_law.at 21 rfl) (by rw [c67]; decide) (by rw [c67]; decide) (by rw [c67]; decide) (by decide) ?_
      refine Ew_aload_n hC 1 (dt_L_law.at 212 rfl) rfl ?_
      refine Ew_aload_n hC 0 (dt_L_law.at 213 rfl) rfl ?_
      refine Ew_iload_n hC 3 (dt_L_law.at 214 rfl) rfl ?_
      refine Ew_iconst hC (dt_L_law.at 215 rfl) ki_1 ?_
      refine Ew_iadd hC (dt_L_law.at 216 rfl) ?_
      obtain ⟨g68, h⟩ := oGuard h
      refine Ew_sld hC hxs hbl hbA (dt_L_law.at 217 rfl) g68 ?_
      obtain ⟨q69, hq69, h⟩ := oBind h
      refine Ew_callV hC hX hXA hf (st := []) (st' := [.int q69.1]) [.int (xs (Int32.toNatClampNeg (x.2 + 1)))] (dt_L_law.at 218 rfl) cf_L_52 (w_x_best x.1 (xs (Int32.toNatClampNeg (x.2 + 1))) q69 hq69) ⟨Nat.le_of_ble_eq_true rfl, Nat.le_of_ble_eq_true rfl⟩ sk_0 rfl rfl rfl (Nat.le_of_ble_eq_true rfl) rfl ?_
      refine Ew_aload_n hC 2 (dt_L_law.at 219 rfl) rfl ?_
      refine Ew_aload_n hC 0 (dt_L_law.at 220 rfl) rfl ?_
      refine Ew_iload_n hC 3 (dt_L_law.at 221 rfl) rfl ?_
      refine Ew_iconst hC (dt_L_law.at 222 rfl) ki_1 ?_
      refine Ew_iadd hC (dt_L_law.at 223 rfl) ?_
      obtain ⟨g70, h⟩ := oGuard h
      refine Ew_sld hC hxs hbl hbA (dt_L_law.at 224 rfl) g70 ?_
      obtain ⟨q71, hq71, h⟩ := oBind h
      refine Ew_callV hC hX hXA hf (st := [.int q69.1]) (st' := [.int q71.1, .int q69.1]) [.int (xs (Int32.toNatClampNeg (x.2 + 1)))] (dt_L_law.at 225 rfl) cf_L_55 (w_m_best q69.2 (xs (Int32.toNatClampNeg (x.2 + 1))) q71 hq71) ⟨Nat.le_of_ble_eq_true rfl, Nat.le_of_ble_eq_true rfl⟩ sk_71 rfl rfl rfl (Nat.le_of_ble_eq_true rfl) rfl ?_
      refine Ew_icmp_eq hC (tgt := 994) (dt_L_law.at 226 rfl) (by decide) (fun c72 => ?_) (fun c72 => ?_)
      · replace h := oPos h c72
        obtain ⟨x73, ex73⟩ : ∃ z : Int32, z = x.2 + 4 := ⟨_, rfl⟩
        replace h := oLt h ex73
        refine Ew_iinc hC (v := x73) 3 (dt_L_law.at 672 rfl) rfl (ex73.trans (congrArg (fun z => x.2 + z) ki_4.symm)) (by decide) (ls' := [(3, .int x73), (0, .ref 99), (1, .ref 0), (2, .ref 71)]) rfl ?_
        refine Ew_goto hC (tgt := 18) (dt_L_law.at 673 rfl) (by decide) ?_
        refine Ew_sub hC [1, 2, 3, 0] (ls' := [(0, .ref 99), (1, .ref 0), (2, .ref 71), (3, .int x73)]) rfl ?_
        exact hc (q71.2, x73) (Option.some.inj h).symm
      · replace h := oNeg h c72
        refine Ew_iconst hC (dt_L_law.at 227 rfl) ki_0 ?_
        exact absurd (hr _ (Option.some.inj h).symm) (show ¬ (0 : Int32) = 1 by decide)
    replace h := oNeg h c67
    by_cases c74 : ((xs (Int32.toNatClampNeg x.2)) &&& 31) = 9
    · replace h := oPos h c74
      refine Ew_tblIn hC (tgt := 431) (off := 399) (dt_L_law.at 21 rfl) (by rw [c74]; decide) (by rw [c74]; decide) (by rw [c74]; decide) (by decide) ?_
      refine Ew_aload_n hC 1 (dt_L_law.at 229 rfl) rfl ?_
      refine Ew_aload_n hC 0 (dt_L_law.at 230 rfl) rfl ?_
      refine Ew_iload_n hC 3 (dt_L_law.at 231 rfl) rfl ?_
      refine Ew_iconst hC (dt_L_law.at 232 rfl) ki_1 ?_
      refine Ew_iadd hC (dt_L_law.at 233 rfl) ?_
      obtain ⟨g75, h⟩ := oGuard h
      refine Ew_sld hC hxs hbl hbA (dt_L_law.at 234 rfl) g75 ?_
      obtain ⟨q76, hq76, h⟩ := oBind h
      refine Ew_callV hC hX hXA hf (st := []) (st' := [.int q76.1]) [.int (xs (Int32.toNatClampNeg (x.2 + 1)))] (dt_L_law.at 235 rfl) cf_L_56 (w_x_most x.1 (xs (Int32.toNatClampNeg (x.2 + 1))) q76 hq76) ⟨Nat.le_of_ble_eq_true rfl, Nat.le_of_ble_eq_true rfl⟩ sk_0 rfl rfl rfl (Nat.le_of_ble_eq_true rfl) rfl ?_
      refine Ew_aload_n hC 2 (dt_L_law.at 236 rfl) rfl ?_
      refine Ew_aload_n hC 0 (dt_L_law.at 237 rfl) rfl ?_
      refine Ew_iload_n hC 3 (dt_L_law.at 238 rfl) rfl ?_
      refine Ew_iconst hC (dt_L_law.at 239 rfl) ki_1 ?_
      refine Ew_iadd hC (dt_L_law.at 240 rfl) ?_
      obtain ⟨g77, h⟩ := oGuard h
      refine Ew_sld hC hxs hbl hbA (dt_L_law.at 241 rfl) g77 ?_
      obtain ⟨q78, hq78, h⟩ := oBind h
      refine Ew_callV hC hX hXA hf (st := [.int q76.1]) (st' := [.int q78.1, .int q76.1]) [.int (xs (Int32.toNatClampNeg (x.2 + 1)))] (dt_L_law.at 242 rfl) cf_L_59 (w_m_most q76.2 (xs (Int32.toNatClampNeg (x.2 + 1))) q78 hq78) ⟨Nat.le_of_ble_eq_true rfl, Nat.le_of_ble_eq_true rfl⟩ sk_71 rfl rfl rfl (Nat.le_of_ble_eq_true rfl) rfl ?_
      refine Ew_icmp_eq hC (tgt := 994) (dt_L_law.at 243 rfl) (by decide) (fun c79 => ?_) (fun c79 => ?_)
      · replace h := oPos h c79
        obtain ⟨x80, ex80⟩ : ∃ z : Int32, z = x.2 + 4 := ⟨_, rfl⟩
        replace h := oLt h ex80
        refine Ew_iinc hC (v := x80) 3 (dt_L_law.at 672 rfl) rfl (ex80.trans (congrArg (fun z => x.2 + z) ki_4.symm)) (by decide) (ls' := [(3, .int x80), (0, .ref 99), (1, .ref 0), (2, .ref 71)]) rfl ?_
        refine Ew_goto hC (tgt := 18) (dt_L_law.at 673 rfl) (by decide) ?_
        refine Ew_sub hC [1, 2, 3, 0] (ls' := [(0, .ref 99), (1, .ref 0), (2, .ref 71), (3, .int x80)]) rfl ?_
        exact hc (q78.2, x80) (Option.some.inj h).symm
      · replace h := oNeg h c79
        refine Ew_iconst hC (dt_L_law.at 244 rfl) ki_0 ?_
        exact absurd (hr _ (Option.some.inj h).symm) (show ¬ (0 : Int32) = 1 by decide)
    replace h := oNeg h c74
    by_cases c81 : ((xs (Int32.toNatClampNeg x.2)) &&& 31) = 10
    · replace h := oPos h c81
      refine Ew_tblIn hC (tgt := 454) (off := 422) (dt_L_law.at 21 rfl) (by rw [c81]; decide) (by rw [c81]; decide) (by rw [c81]; decide) (by decide) ?_
      refine Ew_aload_n hC 1 (dt_L_law.at 246 rfl) rfl ?_
      refine Ew_aload_n hC 0 (dt_L_law.at 247 rfl) rfl ?_
      refine Ew_iload_n hC 3 (dt_L_law.at 248 rfl) rfl ?_
      refine Ew_iconst hC (dt_L_law.at 249 rfl) ki_1 ?_
      refine Ew_iadd hC (dt_L_law.at 250 rfl) ?_
      obtain ⟨g82, h⟩ := oGuard h
      refine Ew_sld hC hxs hbl hbA (dt_L_law.at 251 rfl) g82 ?_
      refine Ew_aload_n hC 0 (dt_L_law.at 252 rfl) rfl ?_
      refine Ew_iload_n hC 3 (dt_L_law.at 253 rfl) rfl ?_
      refine Ew_iconst hC (dt_L_law.at 254 rfl) ki_2 ?_
      refine Ew_iadd hC (dt_L_law.at 255 rfl) ?_
      obtain ⟨g83, h⟩ := oGuard h
      refine Ew_sld hC hxs hbl hbA (dt_L_law.at 256 rfl) g83 ?_
      obtain ⟨q84, hq84, h⟩ := oBind h
      refine Ew_callV hC hX hXA hf (st := []) (st' := [.int q84.1]) [.int (xs (Int32.toNatClampNeg (x.2 + 1))), .int (xs (Int32.toNatClampNeg (x.2 + 2)))] (dt_L_law.at 257 rfl) cf_L_60 (w_x_lot x.1 (xs (Int32.toNatClampNeg (x.2 + 1))) (xs (Int32.toNatClampNeg (x.2 + 2))) q84 hq84) ⟨Nat.le_of_ble_eq_true rfl, Nat.le_of_ble_eq_true rfl⟩ sk_0 rfl rfl rfl (Nat.le_of_ble_eq_true rfl) rfl ?_
      refine Ew_aload_n hC 2 (dt_L_law.at 258 rfl) rfl ?_
      refine Ew_aload_n hC 0 (dt_L_law.at 259 rfl) rfl ?_
      refine Ew_iload_n hC 3 (dt_L_law.at 260 rfl) rfl ?_
      refine Ew_iconst hC (dt_L_law.at 261 rfl) ki_1 ?_
      refine Ew_iadd hC (dt_L_law.at 262 rfl) ?_
      obtain ⟨g85, h⟩ := oGuard h
      refine Ew_sld hC hxs hbl hbA (dt_L_law.at 263 rfl) g85 ?_
      refine Ew_aload_n hC 0 (dt_L_law.at 264 rfl) rfl ?_
      refine Ew_iload_n hC 3 (dt_L_law.at 265 rfl) rfl ?_
      refine Ew_iconst hC (dt_L_law.at 266 rfl) ki_2 ?_
      refine Ew_iadd hC (dt_L_law.at 267 rfl) ?_
      obtain ⟨g86, h⟩ := oGuard h
      refine Ew_sld hC hxs hbl hbA (dt_L_law.at 268 rfl) g86 ?_
      obtain ⟨q87, hq87, h⟩ := oBind h
      refine Ew_callV hC hX hXA hf (st := [.int q84.1]) (st' := [.int q87.1, .int q84.1]) [.int (xs (Int32.toNatClampNeg (x.2 + 1))), .int (xs (Int32.toNatClampNeg (x.2 + 2)))] (dt_L_law.at 269 rfl) cf_L_63 (w_m_lot q84.2 (xs (Int32.toNatClampNeg (x.2 + 1))) (xs (Int32.toNatClampNeg (x.2 + 2))) q87 hq87) ⟨Nat.le_of_ble_eq_true rfl, Nat.le_of_ble_eq_true rfl⟩ sk_71 rfl rfl rfl (Nat.le_of_ble_eq_true rfl) rfl ?_
      refine Ew_icmp_eq hC (tgt := 994) (dt_L_law.at 270 rfl) (by decide) (fun c88 => ?_) (fun c88 => ?_)
      · replace h := oPos h c88
        obtain ⟨x89, ex89⟩ : ∃ z : Int32, z = x.2 + 4 := ⟨_, rfl⟩
        replace h := oLt h ex89
        refine Ew_iinc hC (v := x89) 3 (dt_L_law.at 672 rfl) rfl (ex89.trans (congrArg (fun z => x.2 + z) ki_4.symm)) (by decide) (ls' := [(3, .int x89), (0, .ref 99), (1, .ref 0), (2, .ref 71)]) rfl ?_
        refine Ew_goto hC (tgt := 18) (dt_L_law.at 673 rfl) (by decide) ?_
        refine Ew_sub hC [1, 2, 3, 0] (ls' := [(0, .ref 99), (1, .ref 0), (2, .ref 71), (3, .int x89)]) rfl ?_
        exact hc (q87.2, x89) (Option.some.inj h).symm
      · replace h := oNeg h c88
        refine Ew_iconst hC (dt_L_law.at 271 rfl) ki_0 ?_
        exact absurd (hr _ (Option.some.inj h).symm) (show ¬ (0 : Int32) = 1 by decide)
    replace h := oNeg h c81
    by_cases c90 : ((xs (Int32.toNatClampNeg x.2)) &&& 31) = 11
    · replace h := oPos h c90
      refine Ew_tblIn hC (tgt := 487) (off := 455) (dt_L_law.at 21 rfl) (by rw [c90]; decide) (by rw [c90]; decide) (by rw [c90]; decide) (by decide) ?_
      refine Ew_aload_n hC 1 (dt_L_law.at 273 rfl) rfl ?_
      refine Ew_aload_n hC 0 (dt_L_law.at 274 rfl) rfl ?_
      refine Ew_iload_n hC 3 (dt_L_law.at 275 rfl) rfl ?_
      refine Ew_iconst hC (dt_L_law.at 276 rfl) ki_1 ?_
      refine Ew_iadd hC (dt_L_law.at 277 rfl) ?_
      obtain ⟨g91, h⟩ := oGuard h
      refine Ew_sld hC hxs hbl hbA (dt_L_law.at 278 rfl) g91 ?_
      obtain ⟨q92, hq92, h⟩ := oBind h
      refine Ew_callV hC hX hXA hf (st := []) (st' := [.long q92.1]) [.int (xs (Int32.toNatClampNeg (x.2 + 1)))] (dt_L_law.at 279 rfl) cf_L_64 (w_x_rows x.1 (xs (Int32.toNatClampNeg (x.2 + 1))) q92 hq92) ⟨Nat.le_of_ble_eq_true rfl, Nat.le_of_ble_eq_true rfl⟩ sk_0 rfl rfl rfl (Nat.le_of_ble_eq_true rfl) rfl ?_
      refine Ew_aload_n hC 2 (dt_L_law.at 280 rfl) rfl ?_
      refine Ew_aload_n hC 0 (dt_L_law.at 281 rfl) rfl ?_
      refine Ew_iload_n hC 3 (dt_L_law.at 282 rfl) rfl ?_
      refine Ew_iconst hC (dt_L_law.at 283 rfl) ki_1 ?_
      refine Ew_iadd hC (dt_L_law.at 284 rfl) ?_
      obtain ⟨g93, h⟩ := oGuard h
      refine Ew_sld hC hxs hbl hbA (dt_L_law.at 285 rfl) g93 ?_
      obtain ⟨q94, hq94, h⟩ := oBind h
      refine Ew_callV hC hX hXA hf (st := [.long q92.1]) (st' := [.long q94.1, .long q92.1]) [.int (xs (Int32.toNatClampNeg (x.2 + 1)))] (dt_L_law.at 286 rfl) cf_L_68 (w_m_rows q92.2 (xs (Int32.toNatClampNeg (x.2 + 1))) q94 hq94) ⟨Nat.le_of_ble_eq_true rfl, Nat.le_of_ble_eq_true rfl⟩ sk_71 rfl rfl rfl (Nat.le_of_ble_eq_true rfl) rfl ?_
      refine Ew_lcmp hC (dt_L_law.at 287 rfl) ?_
      refine Ew_if_eq hC (tgt := 994) (dt_L_law.at 288 rfl) (by decide) (fun c95 => ?_) (fun c95 => ?_)
      · replace h := oPos h c95
        obtain ⟨x96, ex96⟩ : ∃ z : Int32, z = x.2 + 4 := ⟨_, rfl⟩
        replace h := oLt h ex96
        refine Ew_iinc hC (v := x96) 3 (dt_L_law.at 672 rfl) rfl (ex96.trans (congrArg (fun z => x.2 + z) ki_4.symm)) (by decide) (ls' := [(3, .int x96), (0, .ref 99), (1, .ref 0), (2, .ref 71)]) rfl ?_
        refine Ew_goto hC (tgt := 18) (dt_L_law.at 673 rfl) (by decide) ?_
        refine Ew_sub hC [1, 2, 3, 0] (ls' := [(0, .ref 99), (1, .ref 0), (2, .ref 71), (3, .int x96)]) rfl ?_
        exact hc (q94.2, x96) (Option.some.inj h).symm
      · replace h := oNeg h c95
        refine Ew_iconst hC (dt_L_law.at 289 rfl) ki_0 ?_
        exact absurd (hr _ (Option.some.inj h).symm) (show ¬ (0 : Int32) = 1 by decide)
    replace h := oNeg h c90
    by_cases c97 : ((xs (Int32.toNatClampNeg x.2)) &&& 31) = 12
    · replace h := oPos h c97
      refine Ew_tblIn hC (tgt := 511) (off := 479) (dt_L_law.at 21 rfl) (by rw [c97]; decide) (by rw [c97]; decide) (by rw [c97]; decide) (by decide) ?_
      refine Ew_aload_n hC 1 (dt_L_law.at 291 rfl) rfl ?_
      refine Ew_aload_n hC 0 (dt_L_law.at 292 rfl) rfl ?_
      refine Ew_iload_n hC 3 (dt_L_law.at 293 rfl) rfl ?_
      refine Ew_iconst hC (dt_L_law.at 294 rfl) ki_1 ?_
      refine Ew_iadd hC (dt_L_law.at 295 rfl) ?_
      obtain ⟨g98, h⟩ := oGuard h
      refine Ew_sld hC hxs hbl hbA (dt_L_law.at 296 rfl) g98 ?_
      refine Ew_aload_n hC 0 (dt_L_law.at 297 rfl) rfl ?_
      refine Ew_iload_n hC 3 (dt_L_law.at 298 rfl) rfl ?_
      refine Ew_iconst hC (dt_L_law.at 299 rfl) ki_2 ?_
      refine Ew_iadd hC (dt_L_law.at 300 rfl) ?_
      obtain ⟨g99, h⟩ := oGuard h
      refine Ew_sld hC hxs hbl hbA (dt_L_law.at 301 rfl) g99 ?_
      obtain ⟨q100, hq100, h⟩ := oBind h
      refine Ew_callV hC hX hXA hf (st := []) (st' := [.int q100.1]) [.int (xs (Int32.toNatClampNeg (x.2 + 1))), .int (xs (Int32.toNatClampNeg (x.2 + 2)))] (dt_L_law.at 302 rfl) cf_L_69 (w_x_gain x.1 (xs (Int32.toNatClampNeg (x.2 + 1))) (xs (Int32.toNatClampNeg (x.2 + 2))) q100 hq100) ⟨Nat.le_of_ble_eq_true rfl, Nat.le_of_ble_eq_true rfl⟩ sk_0 rfl rfl rfl (Nat.le_of_ble_eq_true rfl) rfl ?_
      refine Ew_aload_n hC 2 (dt_L_law.at 303 rfl) rfl ?_
      refine Ew_aload_n hC 0 (dt_L_law.at 304 rfl) rfl ?_
      refine Ew_iload_n hC 3 (dt_L_law.at 305 rfl) rfl ?_
      refine Ew_iconst hC (dt_L_law.at 306 rfl) ki_1 ?_
      refine Ew_iadd hC (dt_L_law.at 307 rfl) ?_
      obtain ⟨g101, h⟩ := oGuard h
      refine Ew_sld hC hxs hbl hbA (dt_L_law.at 308 rfl) g101 ?_
      refine Ew_aload_n hC 0 (dt_L_law.at 309 rfl) rfl ?_
      refine Ew_iload_n hC 3 (dt_L_law.at 310 rfl) rfl ?_
      refine Ew_iconst hC (dt_L_law.at 311 rfl) ki_2 ?_
      refine Ew_iadd hC (dt_L_law.at 312 rfl) ?_
      obtain ⟨g102, h⟩ := oGuard h
      refine Ew_sld hC hxs hbl hbA (dt_L_law.at 313 rfl) g102 ?_
      obtain ⟨q103, hq103, h⟩ := oBind h
      refine Ew_callV hC hX hXA hf (st := [.int q100.1]) (st' := [.int q103.1, .int q100.1]) [.int (xs (Int32.toNatClampNeg (x.2 + 1))), .int (xs (Int32.toNatClampNeg (x.2 + 2)))] (dt_L_law.at 314 rfl) cf_L_72 (w_m_gain q100.2 (xs (Int32.toNatClampNeg (x.2 + 1))) (xs (Int32.toNatClampNeg (x.2 + 2))) q103 hq103) ⟨Nat.le_of_ble_eq_true rfl, Nat.le_of_ble_eq_true rfl⟩ sk_71 rfl rfl rfl (Nat.le_of_ble_eq_true rfl) rfl ?_
      refine Ew_icmp_eq hC (tgt := 994) (dt_L_law.at 315 rfl) (by decide) (fun c104 => ?_) (fun c104 => ?_)
      · replace h := oPos h c104
        obtain ⟨x105, ex105⟩ : ∃ z : Int32, z = x.2 + 4 := ⟨_, rfl⟩
        replace h := oLt h ex105
        refine Ew_iinc hC (v := x105) 3 (dt_L_law.at 672 rfl) rfl (ex105.trans (congrArg (fun z => x.2 + z) ki_4.symm)) (by decide) (ls' := [(3, .int x105), (0, .ref 99), (1, .ref 0), (2, .ref 71)]) rfl ?_
        refine Ew_goto hC (tgt := 18) (dt_L_law.at 673 rfl) (by decide) ?_
        refine Ew_sub hC [1, 2, 3, 0] (ls' := [(0, .ref 99), (1, .ref 0), (2, .ref 71), (3, .int x105)]) rfl ?_
        exact hc (q103.2, x105) (Option.some.inj h).symm
      · replace h := oNeg h c104
        refine Ew_iconst hC (dt_L_law.at 316 rfl) ki_0 ?_
        exact absurd (hr _ (Option.some.inj h).symm) (show ¬ (0 : Int32) = 1 by decide)
    replace h := oNeg h c97
    by_cases c106 : ((xs (Int32.toNatClampNeg x.2)) &&& 31) = 13
    · replace h := oPos h c106
      refine Ew_tblIn hC (tgt := 544) (off := 512) (dt_L_law.at 21 rfl) (by rw [c106]; decide) (by rw [c106]; decide) (by rw [c106]; decide) (by decide) ?_
      refine Ew_aload_n hC 1 (dt_L_law.at 318 rfl) rfl ?_
      refine Ew_aload_n hC 0 (dt_L_law.at 319 rfl) rfl ?_
      refine Ew_iload_n hC 3 (dt_L_law.at 320 rfl) rfl ?_
      refine Ew_iconst hC (dt_L_law.at 321 rfl) ki_1 ?_
      refine Ew_iadd hC (dt_L_law.at 322 rfl) ?_
      obtain ⟨g107, h⟩ := oGuard h
      refine Ew_sld hC hxs hbl hbA (dt_L_law.at 323 rfl) g107 ?_
      refine Ew_aload_n hC 0 (dt_L_law.at 324 rfl) rfl ?_
      refine Ew_iload_n hC 3 (dt_L_law.at 325 rfl) rfl ?_
      refine Ew_iconst hC (dt_L_law.at 326 rfl) ki_2 ?_
      refine Ew_iadd hC (dt_L_law.at 327 rfl) ?_
      obtain ⟨g108, h⟩ := oGuard h
      refine Ew_sld hC hxs hbl hbA (dt_L_law.at 328 rfl) g108 ?_
      refine Ew_aload_n hC 0 (dt_L_law.at 329 rfl) rfl ?_
      refine Ew_iload_n hC 3 (dt_L_law.at 330 rfl) rfl ?_
      refine Ew_iconst hC (dt_L_law.at 331 rfl) ki_3 ?_
      refine Ew_iadd hC (dt_L_law.at 332 rfl) ?_
      obtain ⟨g109, h⟩ := oGuard h
      refine Ew_sld hC hxs hbl hbA (dt_L_law.at 333 rfl) g109 ?_
      obtain ⟨q110, hq110, h⟩ := oBind h
      refine Ew_callV hC hX hXA hf (st := []) (st' := [.int q110.1]) [.int (xs (Int32.toNatClampNeg (x.2 + 1))), .int (xs (Int32.toNatClampNeg (x.2 + 2))), .int (xs (Int32.toNatClampNeg (x.2 + 3)))] (dt_L_law.at 334 rfl) cf_L_73 (w_x_leaves x.1 (xs (Int32.toNatClampNeg (x.2 + 1))) (xs (Int32.toNatClampNeg (x.2 + 2))) (xs (Int32.toNatClampNeg (x.2 + 3))) q110 hq110) ⟨Nat.le_of_ble_eq_true rfl, Nat.le_of_ble_eq_true rfl⟩ sk_0 rfl rfl rfl (Nat.le_of_ble_eq_true rfl) rfl ?_
      refine Ew_aload_n hC 2 (dt_L_law.at 335 rfl) rfl ?_
      refine Ew_aload_n hC 0 (dt_L_law.at 336 rfl) rfl ?_
      refine Ew_iload_n hC 3 (dt_L_law.at 337 rfl) rfl ?_
      refine Ew_iconst hC (dt_L_law.at 338 rfl) ki_1 ?_
      refine Ew_iadd hC (dt_L_law.at 339 rfl) ?_
      obtain ⟨g111, h⟩ := oGuard h
      refine Ew_sld hC hxs hbl hbA (dt_L_law.at 340 rfl) g111 ?_
      refine Ew_aload_n hC 0 (dt_L_law.at 341 rfl) rfl ?_
      refine Ew_iload_n hC 3 (dt_L_law.at 342 rfl) rfl ?_
      refine Ew_iconst hC (dt_L_law.at 343 rfl) ki_2 ?_
      refine Ew_iadd hC (dt_L_law.at 344 rfl) ?_
      obtain ⟨g112, h⟩ := oGuard h
      refine Ew_sld hC hxs hbl hbA (dt_L_law.at 345 rfl) g112 ?_
      refine Ew_aload_n hC 0 (dt_L_law.at 346 rfl) rfl ?_
      refine Ew_iload_n hC 3 (dt_L_law.at 347 rfl) rfl ?_
      refine Ew_iconst hC (dt_L_law.at 348 rfl) ki_3 ?_
      refine Ew_iadd hC (dt_L_law.at 349 rfl) ?_
      obtain ⟨g113, h⟩ := oGuard h
      refine Ew_sld hC hxs hbl hbA (dt_L_law.at 350 rfl) g113 ?_
      obtain ⟨q114, hq114, h⟩ := oBind h
      refine Ew_callV hC hX hXA hf (st := [.int q110.1]) (st' := [.int q114.1, .int q110.1]) [.int (xs (Int32.toNatClampNeg (x.2 + 1))), .int (xs (Int32.toNatClampNeg (x.2 + 2))), .int (xs (Int32.toNatClampNeg (x.2 + 3)))] (dt_L_law.at 351 rfl) cf_L_76 (w_m_leaves q110.2 (xs (Int32.toNatClampNeg (x.2 + 1))) (xs (Int32.toNatClampNeg (x.2 + 2))) (xs (Int32.toNatClampNeg (x.2 + 3))) q114 hq114) ⟨Nat.le_of_ble_eq_true rfl, Nat.le_of_ble_eq_true rfl⟩ sk_71 rfl rfl rfl (Nat.le_of_ble_eq_true rfl) rfl ?_
      refine Ew_icmp_eq hC (tgt := 994) (dt_L_law.at 352 rfl) (by decide) (fun c115 => ?_) (fun c115 => ?_)
      · replace h := oPos h c115
        obtain ⟨x116, ex116⟩ : ∃ z : Int32, z = x.2 + 4 := ⟨_, rfl⟩
        replace h := oLt h ex116
        refine Ew_iinc hC (v := x116) 3 (dt_L_law.at 672 rfl) rfl (ex116.trans (congrArg (fun z => x.2 + z) ki_4.symm)) (by decide) (ls' := [(3, .int x116), (0, .ref 99), (1, .ref 0), (2, .ref 71)]) rfl ?_
        refine Ew_goto hC (tgt := 18) (dt_L_law.at 673 rfl) (by decide) ?_
        refine Ew_sub hC [1, 2, 3, 0] (ls' := [(0, .ref 99), (1, .ref 0), (2, .ref 71), (3, .int x116)]) rfl ?_
        exact hc (q114.2, x116) (Option.some.inj h).symm
      · replace h := oNeg h c115
        refine Ew_iconst hC (dt_L_law.at 353 rfl) ki_0 ?_
        exact absurd (hr _ (Option.some.inj h).symm) (show ¬ (0 : Int32) = 1 by decide)
    replace h := oNeg h c106
    by_cases c117 : ((xs (Int32.toNatClampNeg x.2)) &&& 31) = 14
    · replace h := oPos h c117
      refine Ew_tblIn hC (tgt := 587) (off := 555) (dt_L_law.at 21 rfl) (by rw [c117]; decide) (by rw [c117]; decide) (by rw [c117]; decide) (by decide) ?_
      refine Ew_aload_n hC 1 (dt_L_law.at 355 rfl) rfl ?_
      refine Ew_aload_n hC 0 (dt_L_law.at 356 rfl) rfl ?_
      refine Ew_iload_n hC 3 (dt_L_law.at 357 rfl) rfl ?_
      refine Ew_iconst hC (dt_L_law.at 358 rfl) ki_1 ?_
      refine Ew_iadd hC (dt_L_law.at 359 rfl) ?_
      obtain ⟨g118, h⟩ := oGuard h
      refine Ew_sld hC hxs hbl hbA (dt_L_law.at 360 rfl) g118 ?_
      obtain ⟨q119, hq119, h⟩ := oBind h
      refine Ew_callV hC hX hXA hf (st := []) (st' := [.int q119.1]) [.int (xs (Int32.toNatClampNeg (x.2 + 1)))] (dt_L_law.at 361 rfl) cf_L_77 (w_x_fair x.1 (xs (Int32.toNatClampNeg (x.2 + 1))) q119 hq119) ⟨Nat.le_of_ble_eq_true rfl, Nat.le_of_ble_eq_true rfl⟩ sk_0 rfl rfl rfl (Nat.le_of_ble_eq_true rfl) rfl ?_
      refine Ew_aload_n hC 2 (dt_L_law.at 362 rfl) rfl ?_
      refine Ew_aload_n hC 0 (dt_L_law.at 363 rfl) rfl ?_
      refine Ew_iload_n hC 3 (dt_L_law.at 364 rfl) rfl ?_
      refine Ew_iconst hC (dt_L_law.at 365 rfl) ki_1 ?_
      refine Ew_iadd hC (dt_L_law.at 366 rfl) ?_
      obtain ⟨g120, h⟩ := oGuard h
      refine Ew_sld hC hxs hbl hbA (dt_L_law.at 367 rfl) g120 ?_
      obtain ⟨q121, hq121, h⟩ := oBind h
      refine Ew_callV hC hX hXA hf (st := [.int q119.1]) (st' := [.int q121.1, .int q119.1]) [.int (xs (Int32.toNatClampNeg (x.2 + 1)))] (dt_L_law.at 368 rfl) cf_L_80 (w_m_fair q119.2 (xs (Int32.toNatClampNeg (x.2 + 1))) q121 hq121) ⟨Nat.le_of_ble_eq_true rfl, Nat.le_of_ble_eq_true rfl⟩ sk_71 rfl rfl rfl (Nat.le_of_ble_eq_true rfl) rfl ?_
      refine Ew_icmp_eq hC (tgt := 994) (dt_L_law.at 369 rfl) (by decide) (fun c122 => ?_) (fun c122 => ?_)
      · replace h := oPos h c122
        obtain ⟨x123, ex123⟩ : ∃ z : Int32, z = x.2 + 4 := ⟨_, rfl⟩
        replace h := oLt h ex123
        refine Ew_iinc hC (v := x123) 3 (dt_L_law.at 672 rfl) rfl (ex123.trans (congrArg (fun z => x.2 + z) ki_4.symm)) (by decide) (ls' := [(3, .int x123), (0, .ref 99), (1, .ref 0), (2, .ref 71)]) rfl ?_
        refine Ew_goto hC (tgt := 18) (dt_L_law.at 673 rfl) (by decide) ?_
        refine Ew_sub hC [1, 2, 3, 0] (ls' := [(0, .ref 99), (1, .ref 0), (2, .ref 71), (3, .int x123)]) rfl ?_
        exact hc (q121.2, x123) (Option.some.inj h).symm
      · replace h := oNeg h c122
        refine Ew_iconst hC (dt_L_law.at 370 rfl) ki_0 ?_
        exact absurd (hr _ (Option.some.inj h).symm) (show ¬ (0 : Int32) = 1 by decide)
    replace h := oNeg h c117
    by_cases c124 : ((xs (Int32.toNatClampNeg x.2)) &&& 31) = 15
    · replace h := oPos h c124
      refine Ew_tblIn hC (tgt := 610) (off := 578) (dt_L_law.at 21 rfl) (by rw [c124]; decide) (by rw [c124]; decide) (by rw [c124]; decide) (by decide) ?_
      refine Ew_aload_n hC 1 (dt_L_law.at 372 rfl) rfl ?_
      refine Ew_aload_n hC 0 (dt_L_law.at 373 rfl) rfl ?_
      refine Ew_iload_n hC 3 (dt_L_law.at 374 rfl) rfl ?_
      refine Ew_iconst hC (dt_L_law.at 375 rfl) ki_1 ?_
      refine Ew_iadd hC (dt_L_law.at 376 rfl) ?_
      obtain ⟨g125, h⟩ := oGuard h
      refine Ew_sld hC hxs hbl hbA (dt_L_law.at 377 rfl) g125 ?_
      refine Ew_aload_n hC 0 (dt_L_law.at 378 rfl) rfl ?_
      refine Ew_iload_n hC 3 (dt_L_law.at 379 rfl) rfl ?_
      refine Ew_iconst hC (dt_L_law.at 380 rfl) ki_2 ?_
      refine Ew_iadd hC (dt_L_law.at 381 rfl) ?_
      obtain ⟨g126, h⟩ := oGuard h
      refine Ew_sld hC hxs hbl hbA (dt_L_law.at 382 rfl) g126 ?_
      refine Ew_aload_n hC 0 (dt_L_law.at 383 rfl) rfl ?_
      refine Ew_iload_n hC 3 (dt_L_law.at 384 rfl) rfl ?_
      refine Ew_iconst hC (dt_L_law.at 385 rfl) ki_3 ?_
      refine Ew_iadd hC (dt_L_law.at 386 rfl) ?_
      obtain ⟨g127, h⟩ := oGuard h
      refine Ew_sld hC hxs hbl hbA (dt_L_law.at 387 rfl) g127 ?_
      obtain ⟨q128, hq128, h⟩ := oBind h
      refine Ew_callV hC hX hXA hf (st := []) (st' := [.int q128.1]) [.int (xs (Int32.toNatClampNeg (x.2 + 1))), .int (xs (Int32.toNatClampNeg (x.2 + 2))), .int (xs (Int32.toNatClampNeg (x.2 + 3)))] (dt_L_law.at 388 rfl) cf_L_81 (w_x_week x.1 (xs (Int32.toNatClampNeg (x.2 + 1))) (xs (Int32.toNatClampNeg (x.2 + 2))) (xs (Int32.toNatClampNeg (x.2 + 3))) q128 hq128) ⟨Nat.le_of_ble_eq_true rfl, Nat.le_of_ble_eq_true rfl⟩ sk_0 rfl rfl rfl (Nat.le_of_ble_eq_true rfl) rfl ?_
      refine Ew_aload_n hC 2 (dt_L_law.at 389 rfl) rfl ?_
      refine Ew_aload_n hC 0 (dt_L_law.at 390 rfl) rfl ?_
      refine Ew_iload_n hC 3 (dt_L_law.at 391 rfl) rfl ?_
      refine Ew_iconst hC (dt_L_law.at 392 rfl) ki_1 ?_
      refine Ew_iadd hC (dt_L_law.at 393 rfl) ?_
      obtain ⟨g129, h⟩ := oGuard h
      refine Ew_sld hC hxs hbl hbA (dt_L_law.at 394 rfl) g129 ?_
      refine Ew_aload_n hC 0 (dt_L_law.at 395 rfl) rfl ?_
      refine Ew_iload_n hC 3 (dt_L_law.at 396 rfl) rfl ?_
      refine Ew_iconst hC (dt_L_law.at 397 rfl) ki_2 ?_
      refine Ew_iadd hC (dt_L_law.at 398 rfl) ?_
      obtain ⟨g130, h⟩ := oGuard h
      refine Ew_sld hC hxs hbl hbA (dt_L_law.at 399 rfl) g130 ?_
      refine Ew_aload_n hC 0 (dt_L_law.at 400 rfl) rfl ?_
      refine Ew_iload_n hC 3 (dt_L_law.at 401 rfl) rfl ?_
      refine Ew_iconst hC (dt_L_law.at 402 rfl) ki_3 ?_
      refine Ew_iadd hC (dt_L_law.at 403 rfl) ?_
      obtain ⟨g131, h⟩ := oGuard h
      refine Ew_sld hC hxs hbl hbA (dt_L_law.at 404 rfl) g131 ?_
      obtain ⟨q132, hq132, h⟩ := oBind h
      refine Ew_callV hC hX hXA hf (st := [.int q128.1]) (st' := [.int q132.1, .int q128.1]) [.int (xs (Int32.toNatClampNeg (x.2 + 1))), .int (xs (Int32.toNatClampNeg (x.2 + 2))), .int (xs (Int32.toNatClampNeg (x.2 + 3)))] (dt_L_law.at 405 rfl) cf_L_84 (w_m_week q128.2 (xs (Int32.toNatClampNeg (x.2 + 1))) (xs (Int32.toNatClampNeg (x.2 + 2))) (xs (Int32.toNatClampNeg (x.2 + 3))) q132 hq132) ⟨Nat.le_of_ble_eq_true rfl, Nat.le_of_ble_eq_true rfl⟩ sk_71 rfl rfl rfl (Nat.le_of_ble_eq_true rfl) rfl ?_
      refine Ew_icmp_eq hC (tgt := 994) (dt_L_law.at 406 rfl) (by decide) (fun c133 => ?_) (fun c133 => ?_)
      · replace h := oPos h c133
        obtain ⟨x134, ex134⟩ : ∃ z : Int32, z = x.2 + 4 := ⟨_, rfl⟩
        replace h := oLt h ex134
        refine Ew_iinc hC (v := x134) 3 (dt_L_law.at 672 rfl) rfl (ex134.trans (congrArg (fun z => x.2 + z) ki_4.symm)) (by decide) (ls' := [(3, .int x134), (0, .ref 99), (1, .ref 0), (2, .ref 71)]) rfl ?_
        refine Ew_goto hC (tgt := 18) (dt_L_law.at 673 rfl) (by decide) ?_
        refine Ew_sub hC [1, 2, 3, 0] (ls' := [(0, .ref 99), (1, .ref 0), (2, .ref 71), (3, .int x134)]) rfl ?_
        exact hc (q132.2, x134) (Option.some.inj h).symm
      · replace h := oNeg h c133
        refine Ew_iconst hC (dt_L_law.at 407 rfl) ki_0 ?_
        exact absurd (hr _ (Option.some.inj h).symm) (show ¬ (0 : Int32) = 1 by decide)
    replace h := oNeg h c124
    by_cases c135 : ((xs (Int32.toNatClampNeg x.2)) &&& 31) = 16
    · replace h := oPos h c135
      refine Ew_tblIn hC (tgt := 653) (off := 621) (dt_L_law.at 21 rfl) (by rw [c135]; decide) (by rw [c135]; decide) (by rw [c135]; decide) (by decide) ?_
      refine Ew_aload_n hC 1 (dt_L_law.at 409 rfl) rfl ?_
      obtain ⟨q136, hq136, h⟩ := oBind h
      refine Ew_callV hC hX hXA hf (st := []) (st' := [.int q136.1]) [] (dt_L_law.at 410 rfl) cf_L_85 (w_x_loose x.1  q136 hq136) ⟨Nat.le_of_ble_eq_true rfl, Nat.le_of_ble_eq_true rfl⟩ sk_0 rfl rfl rfl (Nat.le_of_ble_eq_true rfl) rfl ?_
      refine Ew_aload_n hC 2 (dt_L_law.at 411 rfl) rfl ?_
      obtain ⟨q137, hq137, h⟩ := oBind h
      refine Ew_callV hC hX hXA hf (st := [.int q136.1]) (st' := [.int q137.1, .int q136.1]) [] (dt_L_law.at 412 rfl) cf_L_88 (w_m_loose q136.2  q137 hq137) ⟨Nat.le_of_ble_eq_true rfl, Nat.le_of_ble_eq_true rfl⟩ sk_71 rfl rfl rfl (Nat.le_of_ble_eq_true rfl) rfl ?_
      refine Ew_icmp_eq hC (tgt := 994) (dt_L_law.at 413 rfl) (by decide) (fun c138 => ?_) (fun c138 => ?_)
      · replace h := oPos h c138
        obtain ⟨x139, ex139⟩ : ∃ z : Int32, z = x.2 + 4 := ⟨_, rfl⟩
        replace h := oLt h ex139
        refine Ew_iinc hC (v := x139) 3 (dt_L_law.at 672 rfl) rfl (ex139.trans (congrArg (fun z => x.2 + z) ki_4.symm)) (by decide) (ls' := [(3, .int x139), (0, .ref 99), (1, .ref 0), (2, .ref 71)]) rfl ?_
        refine Ew_goto hC (tgt := 18) (dt_L_law.at 673 rfl) (by decide) ?_
        refine Ew_sub hC [1, 2, 3, 0] (ls' := [(0, .ref 99), (1, .ref 0), (2, .ref 71), (3, .int x139)]) rfl ?_
        exact hc (q137.2, x139) (Option.some.inj h).symm
      · replace h := oNeg h c138
        refine Ew_iconst hC (dt_L_law.at 414 rfl) ki_0 ?_
        exact absurd (hr _ (Option.some.inj h).symm) (show ¬ (0 : Int32) = 1 by decide)
    replace h := oNeg h c135
    by_cases c140 : ((xs (Int32.toNatClampNeg x.2)) &&& 31) = 17
    · replace h := oPos h c140
      refine Ew_tblIn hC (tgt := 666) (off := 634) (dt_L_law.at 21 rfl) (by rw [c140]; decide) (by rw [c140]; decide) (by rw [c140]; decide) (by decide) ?_
      refine Ew_aload_n hC 1 (dt_L_law.at 416 rfl) rfl ?_
      refine Ew_aload_n hC 0 (dt_L_law.at 417 rfl) rfl ?_
      refine Ew_iload_n hC 3 (dt_L_law.at 418 rfl) rfl ?_
      refine Ew_iconst hC (dt_L_law.at 419 rfl) ki_1 ?_
      refine Ew_iadd hC (dt_L_law.at 420 rfl) ?_
      obtain ⟨g141, h⟩ := oGuard h
      refine Ew_sld hC hxs hbl hbA (dt_L_law.at 421 rfl) g141 ?_
      refine Ew_aload_n hC 0 (dt_L_law.at 422 rfl) rfl ?_
      refine Ew_iload_n hC 3 (dt_L_law.at 423 rfl) rfl ?_
      refine Ew_iconst hC (dt_L_law.at 424 rfl) ki_2 ?_
      refine Ew_iadd hC (dt_L_law.at 425 rfl) ?_
      obtain ⟨g142, h⟩ := oGuard h
      refine Ew_sld hC hxs hbl hbA (dt_L_law.at 426 rfl) g142 ?_
      obtain ⟨q143, hq143, h⟩ := oBind h
      refine Ew_callV hC hX hXA hf (st := []) (st' := [.int q143.1]) [.int (xs (Int32.toNatClampNeg (x.2 + 1))), .int (xs (Int32.toNatClampNeg (x.2 + 2)))] (dt_L_law.at 427 rfl) cf_L_89 (w_x_knows x.1 (xs (Int32.toNatClampNeg (x.2 + 1))) (xs (Int32.toNatClampNeg (x.2 + 2))) q143 hq143) ⟨Nat.le_of_ble_eq_true rfl, Nat.le_of_ble_eq_true rfl⟩ sk_0 rfl rfl rfl (Nat.le_of_ble_eq_true rfl) rfl ?_
      refine Ew_aload_n hC 2 (dt_L_law.at 428 rfl) rfl ?_
      refine Ew_aload_n hC 0 (dt_L_law.at 429 rfl) rfl ?_
      refine Ew_iload_n hC 3 (dt_L_law.at 430 rfl) rfl ?_
      refine Ew_iconst hC (dt_L_law.at 431 rfl) ki_1 ?_
      refine Ew_iadd hC (dt_L_law.at 432 rfl) ?_
      obtain ⟨g144, h⟩ := oGuard h
      refine Ew_sld hC hxs hbl hbA (dt_L_law.at 433 rfl) g144 ?_
      refine Ew_aload_n hC 0 (dt_L_law.at 434 rfl) rfl ?_
      refine Ew_iload_n hC 3 (dt_L_law.at 435 rfl) rfl ?_
      refine Ew_iconst hC (dt_L_law.at 436 rfl) ki_2 ?_
      refine Ew_iadd hC (dt_L_law.at 437 rfl) ?_
      obtain ⟨g145, h⟩ := oGuard h
      refine Ew_sld hC hxs hbl hbA (dt_L_law.at 438 rfl) g145 ?_
      obtain ⟨q146, hq146, h⟩ := oBind h
      refine Ew_callV hC hX hXA hf (st := [.int q143.1]) (st' := [.int q146.1, .int q143.1]) [.int (xs (Int32.toNatClampNeg (x.2 + 1))), .int (xs (Int32.toNatClampNeg (x.2 + 2)))] (dt_L_law.at 439 rfl) cf_L_92 (w_m_knows q143.2 (xs (Int32.toNatClampNeg (x.2 + 1))) (xs (Int32.toNatClampNeg (x.2 + 2))) q146 hq146) ⟨Nat.le_of_ble_eq_true rfl, Nat.le_of_ble_eq_true rfl⟩ sk_71 rfl rfl rfl (Nat.le_of_ble_eq_true rfl) rfl ?_
      refine Ew_icmp_eq hC (tgt := 994) (dt_L_law.at 440 rfl) (by decide) (fun c147 => ?_) (fun c147 => ?_)
      · replace h := oPos h c147
        obtain ⟨x148, ex148⟩ : ∃ z : Int32, z = x.2 + 4 := ⟨_, rfl⟩
        replace h := oLt h ex148
        refine Ew_iinc hC (v := x148) 3 (dt_L_law.at 672 rfl) rfl (ex148.trans (congrArg (fun z => x.2 + z) ki_4.symm)) (by decide) (ls' := [(3, .int x148), (0, .ref 99), (1, .ref 0), (2, .ref 71)]) rfl ?_
        refine Ew_goto hC (tgt := 18) (dt_L_law.at 673 rfl) (by decide) ?_
        refine Ew_sub hC [1, 2, 3, 0] (ls' := [(0, .ref 99), (1, .ref 0), (2, .ref 71), (3, .int x148)]) rfl ?_
        exact hc (q146.2, x148) (Option.some.inj h).symm
      · replace h := oNeg h c147
        refine Ew_iconst hC (dt_L_law.at 441 rfl) ki_0 ?_
        exact absurd (hr _ (Option.some.inj h).symm) (show ¬ (0 : Int32) = 1 by decide)
    replace h := oNeg h c140
    by_cases c149 : ((xs (Int32.toNatClampNeg x.2)) &&& 31) = 18
    · replace h := oPos h c149
      refine Ew_tblIn hC (tgt := 699) (off := 667) (dt_L_law.at 21 rfl) (by rw [c149]; decide) (by rw [c149]; decide) (by rw [c149]; decide) (by decide) ?_
      refine Ew_aload_n hC 1 (dt_L_law.at 443 rfl) rfl ?_
      refine Ew_aload_n hC 0 (dt_L_law.at 444 rfl) rfl ?_
      refine Ew_iload_n hC 3 (dt_L_law.at 445 rfl) rfl ?_
      refine Ew_iconst hC (dt_L_law.at 446 rfl) ki_1 ?_
      refine Ew_iadd hC (dt_L_law.at 447 rfl) ?_
      obtain ⟨g150, h⟩ := oGuard h
      refine Ew_sld hC hxs hbl hbA (dt_L_law.at 448 rfl) g150 ?_
      refine Ew_aload_n hC 0 (dt_L_law.at 449 rfl) rfl ?_
      refine Ew_iload_n hC 3 (dt_L_law.at 450 rfl) rfl ?_
      refine Ew_iconst hC (dt_L_law.at 451 rfl) ki_2 ?_
      refine Ew_iadd hC (dt_L_law.at 452 rfl) ?_
      obtain ⟨g151, h⟩ := oGuard h
      refine Ew_sld hC hxs hbl hbA (dt_L_law.at 453 rfl) g151 ?_
      obtain ⟨q152, hq152, h⟩ := oBind h
      refine Ew_callV hC hX hXA hf (st := []) (st' := [.int q152.1]) [.int (xs (Int32.toNatClampNeg (x.2 + 1))), .int (xs (Int32.toNatClampNeg (x.2 + 2)))] (dt_L_law.at 454 rfl) cf_L_93 (w_x_when x.1 (xs (Int32.toNatClampNeg (x.2 + 1))) (xs (Int32.toNatClampNeg (x.2 + 2))) q152 hq152) ⟨Nat.le_of_ble_eq_true rfl, Nat.le_of_ble_eq_true rfl⟩ sk_0 rfl rfl rfl (Nat.le_of_ble_eq_true rfl) rfl ?_
      refine Ew_aload_n hC 2 (dt_L_law.at 455 rfl) rfl ?_
      refine Ew_aload_n hC 0 (dt_L_law.at 456 rfl) rfl ?_
      refine Ew_iload_n hC 3 (dt_L_law.at 457 rfl) rfl ?_
      refine Ew_iconst hC (dt_L_law.at 458 rfl) ki_1 ?_
      refine Ew_iadd hC (dt_L_law.at 459 rfl) ?_
      obtain ⟨g153, h⟩ := oGuard h
      refine Ew_sld hC hxs hbl hbA (dt_L_law.at 460 rfl) g153 ?_
      refine Ew_aload_n hC 0 (dt_L_law.at 461 rfl) rfl ?_
      refine Ew_iload_n hC 3 (dt_L_law.at 462 rfl) rfl ?_
      refine Ew_iconst hC (dt_L_law.at 463 rfl) ki_2 ?_
      refine Ew_iadd hC (dt_L_law.at 464 rfl) ?_
      obtain ⟨g154, h⟩ := oGuard h
      refine Ew_sld hC hxs hbl hbA (dt_L_law.at 465 rfl) g154 ?_
      obtain ⟨q155, hq155, h⟩ := oBind h
      refine Ew_callV hC hX hXA hf (st := [.int q152.1]) (st' := [.int q155.1, .int q152.1]) [.int (xs (Int32.toNatClampNeg (x.2 + 1))), .int (xs (Int32.toNatClampNeg (x.2 + 2)))] (dt_L_law.at 466 rfl) cf_L_96 (w_m_when q152.2 (xs (Int32.toNatClampNeg (x.2 + 1))) (xs (Int32.toNatClampNeg (x.2 + 2))) q155 hq155) ⟨Nat.le_of_ble_eq_true rfl, Nat.le_of_ble_eq_true rfl⟩ sk_71 rfl rfl rfl (Nat.le_of_ble_eq_true rfl) rfl ?_
      refine Ew_icmp_eq hC (tgt := 994) (dt_L_law.at 467 rfl) (by decide) (fun c156 => ?_) (fun c156 => ?_)
      · replace h := oPos h c156
        obtain ⟨x157, ex157⟩ : ∃ z : Int32, z = x.2 + 4 := ⟨_, rfl⟩
        replace h := oLt h ex157
        refine Ew_iinc hC (v := x157) 3 (dt_L_law.at 672 rfl) rfl (ex157.trans (congrArg (fun z => x.2 + z) ki_4.symm)) (by decide) (ls' := [(3, .int x157), (0, .ref 99), (1, .ref 0), (2, .ref 71)]) rfl ?_
        refine Ew_goto hC (tgt := 18) (dt_L_law.at 673 rfl) (by decide) ?_
        refine Ew_sub hC [1, 2, 3, 0] (ls' := [(0, .ref 99), (1, .ref 0), (2, .ref 71), (3, .int x157)]) rfl ?_
        exact hc (q155.2, x157) (Option.some.inj h).symm
      · replace h := oNeg h c156
        refine Ew_iconst hC (dt_L_law.at 468 rfl) ki_0 ?_
        exact absurd (hr _ (Option.some.inj h).symm) (show ¬ (0 : Int32) = 1 by decide)
    replace h := oNeg h c149
    by_cases c158 : ((xs (Int32.toNatClampNeg x.2)) &&& 31) = 19
    · replace h := oPos h c158
      refine Ew_tblIn hC (tgt := 732) (off := 700) (dt_L_law.at 21 rfl) (by rw [c158]; decide) (by rw [c158]; decide) (by rw [c158]; decide) (by decide) ?_
      refine Ew_aload_n hC 1 (dt_L_law.at 470 rfl) rfl ?_
      refine Ew_aload_n hC 0 (dt_L_law.at 471 rfl) rfl ?_
      refine Ew_iload_n hC 3 (dt_L_law.at 472 rfl) rfl ?_
      refine Ew_iconst hC (dt_L_law.at 473 rfl) ki_1 ?_
      refine Ew_iadd hC (dt_L_law.at 474 rfl) ?_
      obtain ⟨g159, h⟩ := oGuard h
      refine Ew_sld hC hxs hbl hbA (dt_L_law.at 475 rfl) g159 ?_
      refine Ew_aload_n hC 0 (dt_L_law.at 476 rfl) rfl ?_
      refine Ew_iload_n hC 3 (dt_L_law.at 477 rfl) rfl ?_
      refine Ew_iconst hC (dt_L_law.at 478 rfl) ki_2 ?_
      refine Ew_iadd hC (dt_L_law.at 479 rfl) ?_
      obtain ⟨g160, h⟩ := oGuard h
      refine Ew_sld hC hxs hbl hbA (dt_L_law.at 480 rfl) g160 ?_
      refine Ew_aload_n hC 0 (dt_L_law.at 481 rfl) rfl ?_
      refine Ew_iload_n hC 3 (dt_L_law.at 482 rfl) rfl ?_
      refine Ew_iconst hC (dt_L_law.at 483 rfl) ki_3 ?_
      refine Ew_iadd hC (dt_L_law.at 484 rfl) ?_
      obtain ⟨g161, h⟩ := oGuard h
      refine Ew_sld hC hxs hbl hbA (dt_L_law.at 485 rfl) g161 ?_
      obtain ⟨q162, hq162, h⟩ := oBind h
      refine Ew_callV hC hX hXA hf (st := []) (st' := [.int q162.1]) [.int (xs (Int32.toNatClampNeg (x.2 + 1))), .int (xs (Int32.toNatClampNeg (x.2 + 2))), .int (xs (Int32.toNatClampNeg (x.2 + 3)))] (dt_L_law.at 486 rfl) cf_L_97 (w_x_rope x.1 (xs (Int32.toNatClampNeg (x.2 + 1))) (xs (Int32.toNatClampNeg (x.2 + 2))) (xs (Int32.toNatClampNeg (x.2 + 3))) q162 hq162) ⟨Nat.le_of_ble_eq_true rfl, Nat.le_of_ble_eq_true rfl⟩ sk_0 rfl rfl rfl (Nat.le_of_ble_eq_true rfl) rfl ?_
      refine Ew_aload_n hC 2 (dt_L_law.at 487 rfl) rfl ?_
      refine Ew_aload_n hC 0 (dt_L_law.at 488 rfl) rfl ?_
      refine Ew_iload_n hC 3 (dt_L_law.at 489 rfl) rfl ?_
      refine Ew_iconst hC (dt_L_law.at 490 rfl) ki_1 ?_
      refine Ew_iadd hC (dt_L_law.at 491 rfl) ?_
      obtain ⟨g163, h⟩ := oGuard h
      refine Ew_sld hC hxs hbl hbA (dt_L_law.at 492 rfl) g163 ?_
      refine Ew_aload_n hC 0 (dt_L_law.at 493 rfl) rfl ?_
      refine Ew_iload_n hC 3 (dt_L_law.at 494 rfl) rfl ?_
      refine Ew_iconst hC (dt_L_law.at 495 rfl) ki_2 ?_
      refine Ew_iadd hC (dt_L_law.at 496 rfl) ?_
      obtain ⟨g164, h⟩ := oGuard h
      refine Ew_sld hC hxs hbl hbA (dt_L_law.at 497 rfl) g164 ?_
      refine Ew_aload_n hC 0 (dt_L_law.at 498 rfl) rfl ?_
      refine Ew_iload_n hC 3 (dt_L_law.at 499 rfl) rfl ?_
      refine Ew_iconst hC (dt_L_law.at 500 rfl) ki_3 ?_
      refine Ew_iadd hC (dt_L_law.at 501 rfl) ?_
      obtain ⟨g165, h⟩ := oGuard h
      refine Ew_sld hC hxs hbl hbA (dt_L_law.at 502 rfl) g165 ?_
      obtain ⟨q166, hq166, h⟩ := oBind h
      refine Ew_callV hC hX hXA hf (st := [.int q162.1]) (st' := [.int q166.1, .int q162.1]) [.int (xs (Int32.toNatClampNeg (x.2 + 1))), .int (xs (Int32.toNatClampNeg (x.2 + 2))), .int (xs (Int32.toNatClampNeg (x.2 + 3)))] (dt_L_law.at 503 rfl) cf_L_100 (w_m_rope q162.2 (xs (Int32.toNatClampNeg (x.2 + 1))) (xs (Int32.toNatClampNeg (x.2 + 2))) (xs (Int32.toNatClampNeg (x.2 + 3))) q166 hq166) ⟨Nat.le_of_ble_eq_true rfl, Nat.le_of_ble_eq_true rfl⟩ sk_71 rfl rfl rfl (Nat.le_of_ble_eq_true rfl) rfl ?_
      refine Ew_icmp_eq hC (tgt := 994) (dt_L_law.at 504 rfl) (by decide) (fun c167 => ?_) (fun c167 => ?_)
      · replace h := oPos h c167
        obtain ⟨x168, ex168⟩ : ∃ z : Int32, z = x.2 + 4 := ⟨_, rfl⟩
        replace h := oLt h ex168
        refine Ew_iinc hC (v := x168) 3 (dt_L_law.at 672 rfl) rfl (ex168.trans (congrArg (fun z => x.2 + z) ki_4.symm)) (by decide) (ls' := [(3, .int x168), (0, .ref 99), (1, .ref 0), (2, .ref 71)]) rfl ?_
        refine Ew_goto hC (tgt := 18) (dt_L_law.at 673 rfl) (by decide) ?_
        refine Ew_sub hC [1, 2, 3, 0] (ls' := [(0, .ref 99), (1, .ref 0), (2, .ref 71), (3, .int x168)]) rfl ?_
        exact hc (q166.2, x168) (Option.some.inj h).symm
      · replace h := oNeg h c167
        refine Ew_iconst hC (dt_L_law.at 505 rfl) ki_0 ?_
        exact absurd (hr _ (Option.some.inj h).symm) (show ¬ (0 : Int32) = 1 by decide)
    replace h := oNeg h c158
    by_cases c169 : ((xs (Int32.toNatClampNeg x.2)) &&& 31) = 20
    · replace h := oPos h c169
      refine Ew_tblIn hC (tgt := 775) (off := 743) (dt_L_law.at 21 rfl) (by rw [c169]; decide) (by rw [c169]; decide) (by rw [c169]; decide) (by decide) ?_
      refine Ew_aload_n hC 1 (dt_L_law.at 507 rfl) rfl ?_
      refine Ew_aload_n hC 0 (dt_L_law.at 508 rfl) rfl ?_
      refine Ew_iload_n hC 3 (dt_L_law.at 509 rfl) rfl ?_
      refine Ew_iconst hC (dt_L_law.at 510 rfl) ki_1 ?_
      refine Ew_iadd hC (dt_L_law.at 511 rfl) ?_
      obtain ⟨g170, h⟩ := oGuard h
      refine Ew_sld hC hxs hbl hbA (dt_L_law.at 512 rfl) g170 ?_
      refine Ew_aload_n hC 0 (dt_L_law.at 513 rfl) rfl ?_
      refine Ew_iload_n hC 3 (dt_L_law.at 514 rfl) rfl ?_
      refine Ew_iconst hC (dt_L_law.at 515 rfl) ki_2 ?_
      refine Ew_iadd hC (dt_L_law.at 516 rfl) ?_
      obtain ⟨g171, h⟩ := oGuard h
      refine Ew_sld hC hxs hbl hbA (dt_L_law.at 517 rfl) g171 ?_
      refine Ew_aload_n hC 0 (dt_L_law.at 518 rfl) rfl ?_
      refine Ew_iload_n hC 3 (dt_L_law.at 519 rfl) rfl ?_
      refine Ew_iconst hC (dt_L_law.at 520 rfl) ki_3 ?_
      refine Ew_iadd hC (dt_L_law.at 521 rfl) ?_
      obtain ⟨g172, h⟩ := oGuard h
      refine Ew_sld hC hxs hbl hbA (dt_L_law.at 522 rfl) g172 ?_
      obtain ⟨q173, hq173, h⟩ := oBind h
      refine Ew_callV hC hX hXA hf (st := []) (st' := [.int q173.1]) [.int (xs (Int32.toNatClampNeg (x.2 + 1))), .int (xs (Int32.toNatClampNeg (x.2 + 2))), .int (xs (Int32.toNatClampNeg (x.2 + 3)))] (dt_L_law.at 523 rfl) cf_L_101 (w_x_sight x.1 (xs (Int32.toNatClampNeg (x.2 + 1))) (xs (Int32.toNatClampNeg (x.2 + 2))) (xs (Int32.toNatClampNeg (x.2 + 3))) q173 hq173) ⟨Nat.le_of_ble_eq_true rfl, Nat.le_of_ble_eq_true rfl⟩ sk_0 rfl rfl rfl (Nat.le_of_ble_eq_true rfl) rfl ?_
      refine Ew_aload_n hC 2 (dt_L_law.at 524 rfl) rfl ?_
      refine Ew_aload_n hC 0 (dt_L_law.at 525 rfl) rfl ?_
      refine Ew_iload_n hC 3 (dt_L_law.at 526 rfl) rfl ?_
      refine Ew_iconst hC (dt_L_law.at 527 rfl) ki_1 ?_
      refine Ew_iadd hC (dt_L_law.at 528 rfl) ?_
      obtain ⟨g174, h⟩ := oGuard h
      refine Ew_sld hC hxs hbl hbA (dt_L_law.at 529 rfl) g174 ?_
      refine Ew_aload_n hC 0 (dt_L_law.at 530 rfl) rfl ?_
      refine Ew_iload_n hC 3 (dt_L_law.at 531 rfl) rfl ?_
      refine Ew_iconst hC (dt_L_law.at 532 rfl) ki_2 ?_
      refine Ew_iadd hC (dt_L_law.at 533 rfl) ?_
      obtain ⟨g175, h⟩ := oGuard h
      refine Ew_sld hC hxs hbl hbA (dt_L_law.at 534 rfl) g175 ?_
      refine Ew_aload_n hC 0 (dt_L_law.at 535 rfl) rfl ?_
      refine Ew_iload_n hC 3 (dt_L_law.at 536 rfl) rfl ?_
      refine Ew_iconst hC (dt_L_law.at 537 rfl) ki_3 ?_
      refine Ew_iadd hC (dt_L_law.at 538 rfl) ?_
      obtain ⟨g176, h⟩ := oGuard h
      refine Ew_sld hC hxs hbl hbA (dt_L_law.at 539 rfl) g176 ?_
      obtain ⟨q177, hq177, h⟩ := oBind h
      refine Ew_callV hC hX hXA hf (st := [.int q173.1]) (st' := [.int q177.1, .int q173.1]) [.int (xs (Int32.toNatClampNeg (x.2 + 1))), .int (xs (Int32.toNatClampNeg (x.2 + 2))), .int (xs (Int32.toNatClampNeg (x.2 + 3)))] (dt_L_law.at 540 rfl) cf_L_104 (w_m_sight q173.2 (xs (Int32.toNatClampNeg (x.2 + 1))) (xs (Int32.toNatClampNeg (x.2 + 2))) (xs (Int32.toNatClampNeg (x.2 + 3))) q177 hq177) ⟨Nat.le_of_ble_eq_true rfl, Nat.le_of_ble_eq_true rfl⟩ sk_71 rfl rfl rfl (Nat.le_of_ble_eq_true rfl) rfl ?_
      refine Ew_icmp_eq hC (tgt := 994) (dt_L_law.at 541 rfl) (by decide) (fun c178 => ?_) (fun c178 => ?_)
      · replace h := oPos h c178
        obtain ⟨x179, ex179⟩ : ∃ z : Int32, z = x.2 + 4 := ⟨_, rfl⟩
        replace h := oLt h ex179
        refine Ew_iinc hC (v := x179) 3 (dt_L_law.at 672 rfl) rfl (ex179.trans (congrArg (fun z => x.2 + z) ki_4.symm)) (by decide) (ls' := [(3, .int x179), (0, .ref 99), (1, .ref 0), (2, .ref 71)]) rfl ?_
        refine Ew_goto hC (tgt := 18) (dt_L_law.at 673 rfl) (by decide) ?_
        refine Ew_sub hC [1, 2, 3, 0] (ls' := [(0, .ref 99), (1, .ref 0), (2, .ref 71), (3, .int x179)]) rfl ?_
        exact hc (q177.2, x179) (Option.some.inj h).symm
      · replace h := oNeg h c178
        refine Ew_iconst hC (dt_L_law.at 542 rfl) ki_0 ?_
        exact absurd (hr _ (Option.some.inj h).symm) (show ¬ (0 : Int32) = 1 by decide)
    replace h := oNeg h c169
    by_cases c180 : ((xs (Int32.toNatClampNeg x.2)) &&& 31) = 21
    · replace h := oPos h c180
      refine Ew_tblIn hC (tgt := 818) (off := 786) (dt_L_law.at 21 rfl) (by rw [c180]; decide) (by rw [c180]; decide) (by rw [c180]; decide) (by decide) ?_
      refine Ew_aload_n hC 1 (dt_L_law.at 544 rfl) rfl ?_
      obtain ⟨q181, hq181, h⟩ := oBind h
      refine Ew_callV hC hX hXA hf (st := []) (st' := [.int q181.1]) [] (dt_L_law.at 545 rfl) cf_L_105 (w_x_blind x.1  q181 hq181) ⟨Nat.le_of_ble_eq_true rfl, Nat.le_of_ble_eq_true rfl⟩ sk_0 rfl rfl rfl (Nat.le_of_ble_eq_true rfl) rfl ?_
      refine Ew_aload_n hC 2 (dt_L_law.at 546 rfl) rfl ?_
      obtain ⟨q182, hq182, h⟩ := oBind h
      refine Ew_callV hC hX hXA hf (st := [.int q181.1]) (st' := [.int q182.1, .int q181.1]) [] (dt_L_law.at 547 rfl) cf_L_108 (w_m_blind q181.2  q182 hq182) ⟨Nat.le_of_ble_eq_true rfl, Nat.le_of_ble_eq_true rfl⟩ sk_71 rfl rfl rfl (Nat.le_of_ble_eq_true rfl) rfl ?_
      refine Ew_icmp_eq hC (tgt := 994) (dt_L_law.at 548 rfl) (by decide) (fun c183 => ?_) (fun c183 => ?_)
      · replace h := oPos h c183
        obtain ⟨x184, ex184⟩ : ∃ z : Int32, z = x.2 + 4 := ⟨_, rfl⟩
        replace h := oLt h ex184
        refine Ew_iinc hC (v := x184) 3 (dt_L_law.at 672 rfl) rfl (ex184.trans (congrArg (fun z => x.2 + z) ki_4.symm)) (by decide) (ls' := [(3, .int x184), (0, .ref 99), (1, .ref 0), (2, .ref 71)]) rfl ?_
        refine Ew_goto hC (tgt := 18) (dt_L_law.at 673 rfl) (by decide) ?_
        refine Ew_sub hC [1, 2, 3, 0] (ls' := [(0, .ref 99), (1, .ref 0), (2, .ref 71), (3, .int x184)]) rfl ?_
        exact hc (q182.2, x184) (Option.some.inj h).symm
      · replace h := oNeg h c183
        refine Ew_iconst hC (dt_L_law.at 549 rfl) ki_0 ?_
        exact absurd (hr _ (Option.some.inj h).symm) (show ¬ (0 : Int32) = 1 by decide)
    replace h := oNeg h c180
    by_cases c185 : ((xs (Int32.toNatClampNeg x.2)) &&& 31) = 22
    · replace h := oPos h c185
      refine Ew_tblIn hC (tgt := 831) (off := 799) (dt_L_law.at 21 rfl) (by rw [c185]; decide) (by rw [c185]; decide) (by rw [c185]; decide) (by decide) ?_
      refine Ew_aload_n hC 1 (dt_L_law.at 551 rfl) rfl ?_
      refine Ew_aload_n hC 0 (dt_L_law.at 552 rfl) rfl ?_
      refine Ew_iload_n hC 3 (dt_L_law.at 553 rfl) rfl ?_
      refine Ew_iconst hC (dt_L_law.at 554 rfl) ki_1 ?_
      refine Ew_iadd hC (dt_L_law.at 555 rfl) ?_
      obtain ⟨g186, h⟩ := oGuard h
      refine Ew_sld hC hxs hbl hbA (dt_L_law.at 556 rfl) g186 ?_
      refine Ew_aload_n hC 0 (dt_L_law.at 557 rfl) rfl ?_
      refine Ew_iload_n hC 3 (dt_L_law.at 558 rfl) rfl ?_
      refine Ew_iconst hC (dt_L_law.at 559 rfl) ki_2 ?_
      refine Ew_iadd hC (dt_L_law.at 560 rfl) ?_
      obtain ⟨g187, h⟩ := oGuard h
      refine Ew_sld hC hxs hbl hbA (dt_L_law.at 561 rfl) g187 ?_
      obtain ⟨q188, hq188, h⟩ := oBind h
      refine Ew_callV hC hX hXA hf (st := []) (st' := [.int q188.1]) [.int (xs (Int32.toNatClampNeg (x.2 + 1))), .int (xs (Int32.toNatClampNeg (x.2 + 2)))] (dt_L_law.at 562 rfl) cf_L_109 (w_x_which x.1 (xs (Int32.toNatClampNeg (x.2 + 1))) (xs (Int32.toNatClampNeg (x.2 + 2))) q188 hq188) ⟨Nat.le_of_ble_eq_true rfl, Nat.le_of_ble_eq_true rfl⟩ sk_0 rfl rfl rfl (Nat.le_of_ble_eq_true rfl) rfl ?_
      refine Ew_aload_n hC 2 (dt_L_law.at 563 rfl) rfl ?_
      refine Ew_aload_n hC 0 (dt_L_law.at 564 rfl) rfl ?_
      refine Ew_iload_n hC 3 (dt_L_law.at 565 rfl) rfl ?_
      refine Ew_iconst hC (dt_L_law.at 566 rfl) ki_1 ?_
      refine Ew_iadd hC (dt_L_law.at 567 rfl) ?_
      obtain ⟨g189, h⟩ := oGuard h
      refine Ew_sld hC hxs hbl hbA (dt_L_law.at 568 rfl) g189 ?_
      refine Ew_aload_n hC 0 (dt_L_law.at 569 rfl) rfl ?_
      refine Ew_iload_n hC 3 (dt_L_law.at 570 rfl) rfl ?_
      refine Ew_iconst hC (dt_L_law.at 571 rfl) ki_2 ?_
      refine Ew_iadd hC (dt_L_law.at 572 rfl) ?_
      obtain ⟨g190, h⟩ := oGuard h
      refine Ew_sld hC hxs hbl hbA (dt_L_law.at 573 rfl) g190 ?_
      obtain ⟨q191, hq191, h⟩ := oBind h
      refine Ew_callV hC hX hXA hf (st := [.int q188.1]) (st' := [.int q191.1, .int q188.1]) [.int (xs (Int32.toNatClampNeg (x.2 + 1))), .int (xs (Int32.toNatClampNeg (x.2 + 2)))] (dt_L_law.at 574 rfl) cf_L_112 (w_m_which q188.2 (xs (Int32.toNatClampNeg (x.2 + 1))) (xs (Int32.toNatClampNeg (x.2 + 2))) q191 hq191) ⟨Nat.le_of_ble_eq_true rfl, Nat.le_of_ble_eq_true rfl⟩ sk_71 rfl rfl rfl (Nat.le_of_ble_eq_true rfl) rfl ?_
      refine Ew_icmp_eq hC (tgt := 994) (dt_L_law.at 575 rfl) (by decide) (fun c192 => ?_) (fun c192 => ?_)
      · replace h := oPos h c192
        obtain ⟨x193, ex193⟩ : ∃ z : Int32, z = x.2 + 4 := ⟨_, rfl⟩
        replace h := oLt h ex193
        refine Ew_iinc hC (v := x193) 3 (dt_L_law.at 672 rfl) rfl (ex193.trans (congrArg (fun z => x.2 + z) ki_4.symm)) (by decide) (ls' := [(3, .int x193), (0, .ref 99), (1, .ref 0), (2, .ref 71)]) rfl ?_
        refine Ew_goto hC (tgt := 18) (dt_L_law.at 673 rfl) (by decide) ?_
        refine Ew_sub hC [1, 2, 3, 0] (ls' := [(0, .ref 99), (1, .ref 0), (2, .ref 71), (3, .int x193)]) rfl ?_
        exact hc (q191.2, x193) (Option.some.inj h).symm
      · replace h := oNeg h c192
        refine Ew_iconst hC (dt_L_law.at 576 rfl) ki_0 ?_
        exact absurd (hr _ (Option.some.inj h).symm) (show ¬ (0 : Int32) = 1 by decide)
    replace h := oNeg h c185
    by_cases c194 : ((xs (Int32.toNatClampNeg x.2)) &&& 31) = 23
    · replace h := oPos h c194
      refine Ew_tblIn hC (tgt := 864) (off := 832) (dt_L_law.at 21 rfl) (by rw [c194]; decide) (by rw [c194]; decide) (by rw [c194]; decide) (by decide) ?_
      refine Ew_aload_n hC 1 (dt_L_law.at 578 rfl) rfl ?_
      refine Ew_aload_n hC 0 (dt_L_law.at 579 rfl) rfl ?_
      refine Ew_iload_n hC 3 (dt_L_law.at 580 rfl) rfl ?_
      refine Ew_iconst hC (dt_L_law.at 581 rfl) ki_1 ?_
      refine Ew_iadd hC (dt_L_law.at 582 rfl) ?_
      obtain ⟨g195, h⟩ := oGuard h
      refine Ew_sld hC hxs hbl hbA (dt_L_law.at 583 rfl) g195 ?_
      obtain ⟨q196, hq196, h⟩ := oBind h
      refine Ew_callV hC hX hXA hf (st := []) (st' := [.long q196.1]) [.int (xs (Int32.toNatClampNeg (x.2 + 1)))] (dt_L_law.at 584 rfl) cf_L_113 (w_x_part x.1 (xs (Int32.toNatClampNeg (x.2 + 1))) q196 hq196) ⟨Nat.le_of_ble_eq_true rfl, Nat.le_of_ble_eq_true rfl⟩ sk_0 rfl rfl rfl (Nat.le_of_ble_eq_true rfl) rfl ?_
      refine Ew_aload_n hC 2 (dt_L_law.at 585 rfl) rfl ?_
      refine Ew_aload_n hC 0 (dt_L_law.at 586 rfl) rfl ?_
      refine Ew_iload_n hC 3 (dt_L_law.at 587 rfl) rfl ?_
      refine Ew_iconst hC (dt_L_law.at 588 rfl) ki_1 ?_
      refine Ew_iadd hC (dt_L_law.at 589 rfl) ?_
      obtain ⟨g197, h⟩ := oGuard h
      refine Ew_sld hC hxs hbl hbA (dt_L_law.at 590 rfl) g197 ?_
      obtain ⟨q198, hq198, h⟩ := oBind h
      refine Ew_callV hC hX hXA hf (st := [.long q196.1]) (st' := [.long q198.1, .long q196.1]) [.int (xs (Int32.toNatClampNeg (x.2 + 1)))] (dt_L_law.at 591 rfl) cf_L_116 (w_m_part q196.2 (xs (Int32.toNatClampNeg (x.2 + 1))) q198 hq198) ⟨Nat.le_of_ble_eq_true rfl, Nat.le_of_ble_eq_true rfl⟩ sk_71 rfl rfl rfl (Nat.le_of_ble_eq_true rfl) rfl ?_
      refine Ew_lcmp hC (dt_L_law.at 592 rfl) ?_
      refine Ew_if_eq hC (tgt := 994) (dt_L_law.at 593 rfl) (by decide) (fun c199 => ?_) (fun c199 => ?_)
      · replace h := oPos h c199
        obtain ⟨x200, ex200⟩ : ∃ z : Int32, z = x.2 + 4 := ⟨_, rfl⟩
        replace h := oLt h ex200
        refine Ew_iinc hC (v := x200) 3 (dt_L_law.at 672 rfl) rfl (ex200.trans (congrArg (fun z => x.2 + z) ki_4.symm)) (by decide) (ls' := [(3, .int x200), (0, .ref 99), (1, .ref 0), (2, .ref 71)]) rfl ?_
        refine Ew_goto hC (tgt := 18) (dt_L_law.at 673 rfl) (by decide) ?_
        refine Ew_sub hC [1, 2, 3, 0] (ls' := [(0, .ref 99), (1, .ref 0), (2, .ref 71), (3, .int x200)]) rfl ?_
        exact hc (q198.2, x200) (Option.some.inj h).symm
      · replace h := oNeg h c199
        refine Ew_iconst hC (dt_L_law.at 594 rfl) ki_0 ?_
        exact absurd (hr _ (Option.some.inj h).symm) (show ¬ (0 : Int32) = 1 by decide)
    replace h := oNeg h c194
    by_cases c201 : ((xs (Int32.toNatClampNeg x.2)) &&& 31) = 24
    · replace h := oPos h c201
      refine Ew_tblIn hC (tgt := 888) (off := 856) (dt_L_law.at 21 rfl) (by rw [c201]; decide) (by rw [c201]; decide) (by rw [c201]; decide) (by decide) ?_
      refine Ew_aload_n hC 1 (dt_L_law.at 596 rfl) rfl ?_
      refine Ew_aload_n hC 0 (dt_L_law.at 597 rfl) rfl ?_
      refine Ew_iload_n hC 3 (dt_L_law.at 598 rfl) rfl ?_
      refine Ew_iconst hC (dt_L_law.at 599 rfl) ki_1 ?_
      refine Ew_iadd hC (dt_L_law.at 600 rfl) ?_
      obtain ⟨g202, h⟩ := oGuard h
      refine Ew_sld hC hxs hbl hbA (dt_L_law.at 601 rfl) g202 ?_
      obtain ⟨q203, hq203, h⟩ := oBind h
      refine Ew_callV hC hX hXA hf (st := []) (st' := [.int q203.1]) [.int (xs (Int32.toNatClampNeg (x.2 + 1)))] (dt_L_law.at 602 rfl) cf_L_117 (w_x_image x.1 (xs (Int32.toNatClampNeg (x.2 + 1))) q203 hq203) ⟨Nat.le_of_ble_eq_true rfl, Nat.le_of_ble_eq_true rfl⟩ sk_0 rfl rfl rfl (Nat.le_of_ble_eq_true rfl) rfl ?_
      refine Ew_aload_n hC 2 (dt_L_law.at 603 rfl) rfl ?_
      refine Ew_aload_n hC 0 (dt_L_law.at 604 rfl) rfl ?_
      refine Ew_iload_n hC 3 (dt_L_law.at 605 rfl) rfl ?_
      refine Ew_iconst hC (dt_L_law.at 606 rfl) ki_1 ?_
      refine Ew_iadd hC (dt_L_law.at 607 rfl) ?_
      obtain ⟨g204, h⟩ := oGuard h
      refine Ew_sld hC hxs hbl hbA (dt_L_law.at 608 rfl) g204 ?_
      obtain ⟨q205, hq205, h⟩ := oBind h
      refine Ew_callV hC hX hXA hf (st := [.int q203.1]) (st' := [.int q205.1, .int q203.1]) [.int (xs (Int32.toNatClampNeg (x.2 + 1)))] (dt_L_law.at 609 rfl) cf_L_120 (w_m_image q203.2 (xs (Int32.toNatClampNeg (x.2 + 1))) q205 hq205) ⟨Nat.le_of_ble_eq_true rfl, Nat.le_of_ble_eq_true rfl⟩ sk_71 rfl rfl rfl (Nat.le_of_ble_eq_true rfl) rfl ?_
      refine Ew_icmp_eq hC (tgt := 994) (dt_L_law.at 610 rfl) (by decide) (fun c206 => ?_) (fun c206 => ?_)
      · replace h := oPos h c206
        obtain ⟨x207, ex207⟩ : ∃ z : Int32, z = x.2 + 4 := ⟨_, rfl⟩
        replace h := oLt h ex207
        refine Ew_iinc hC (v := x207) 3 (dt_L_law.at 672 rfl) rfl (ex207.trans (congrArg (fun z => x.2 + z) ki_4.symm)) (by decide) (ls' := [(3, .int x207), (0, .ref 99), (1, .ref 0), (2, .ref 71)]) rfl ?_
        refine Ew_goto hC (tgt := 18) (dt_L_law.at 673 rfl) (by decide) ?_
        refine Ew_sub hC [1, 2, 3, 0] (ls' := [(0, .ref 99), (1, .ref 0), (2, .ref 71), (3, .int x207)]) rfl ?_
        exact hc (q205.2, x207) (Option.some.inj h).symm
      · replace h := oNeg h c206
        refine Ew_iconst hC (dt_L_law.at 611 rfl) ki_0 ?_
        exact absurd (hr _ (Option.some.inj h).symm) (show ¬ (0 : Int32) = 1 by decide)
    replace h := oNeg h c201
    by_cases c208 : ((xs (Int32.toNatClampNeg x.2)) &&& 31) = 25
    · replace h := oPos h c208
      refine Ew_tblIn hC (tgt := 911) (off := 879) (dt_L_law.at 21 rfl) (by rw [c208]; decide) (by rw [c208]; decide) (by rw [c208]; decide) (by decide) ?_
      refine Ew_aload_n hC 1 (dt_L_law.at 613 rfl) rfl ?_
      refine Ew_aload_n hC 0 (dt_L_law.at 614 rfl) rfl ?_
      refine Ew_iload_n hC 3 (dt_L_law.at 615 rfl) rfl ?_
      refine Ew_iconst hC (dt_L_law.at 616 rfl) ki_1 ?_
      refine Ew_iadd hC (dt_L_law.at 617 rfl) ?_
      obtain ⟨g209, h⟩ := oGuard h
      refine Ew_sld hC hxs hbl hbA (dt_L_law.at 618 rfl) g209 ?_
      obtain ⟨q210, hq210, h⟩ := oBind h
      refine Ew_callV hC hX hXA hf (st := []) (st' := [.int q210.1]) [.int (xs (Int32.toNatClampNeg (x.2 + 1)))] (dt_L_law.at 619 rfl) cf_L_121 (w_x_from x.1 (xs (Int32.toNatClampNeg (x.2 + 1))) q210 hq210) ⟨Nat.le_of_ble_eq_true rfl, Nat.le_of_ble_eq_true rfl⟩ sk_0 rfl rfl rfl (Nat.le_of_ble_eq_true rfl) rfl ?_
      refine Ew_aload_n hC 2 (dt_L_law.at 620 rfl) rfl ?_
      refine Ew_aload_n hC 0 (dt_L_law.at 621 rfl) rfl ?_
      refine Ew_iload_n hC 3 (dt_L_law.at 622 rfl) rfl ?_
      refine Ew_iconst hC (dt_L_law.at 623 rfl) ki_1 ?_
      refine Ew_iadd hC (dt_L_law.at 624 rfl) ?_
      obtain ⟨g211, h⟩ := oGuard h
      refine Ew_sld hC hxs hbl hbA (dt_L_law.at 625 rfl) g211 ?_
      obtain ⟨q212, hq212, h⟩ := oBind h
      refine Ew_callV hC hX hXA hf (st := [.int q210.1]) (st' := [.int q212.1, .int q210.1]) [.int (xs (Int32.toNatClampNeg (x.2 + 1)))] (dt_L_law.at 626 rfl) cf_L_124 (w_m_from q210.2 (xs (Int32.toNatClampNeg (x.2 + 1))) q212 hq212) ⟨Nat.le_of_ble_eq_true rfl, Nat.le_of_ble_eq_true rfl⟩ sk_71 rfl rfl rfl (Nat.le_of_ble_eq_true rfl) rfl ?_
      refine Ew_icmp_eq hC (tgt := 994) (dt_L_law.at 627 rfl) (by decide) (fun c213 => ?_) (fun c213 => ?_)
      · replace h := oPos h c213
        obtain ⟨x214, ex214⟩ : ∃ z : Int32, z = x.2 + 4 := ⟨_, rfl⟩
        replace h := oLt h ex214
        refine Ew_iinc hC (v := x214) 3 (dt_L_law.at 672 rfl) rfl (ex214.trans (congrArg (fun z => x.2 + z) ki_4.symm)) (by decide) (ls' := [(3, .int x214), (0, .ref 99), (1, .ref 0), (2, .ref 71)]) rfl ?_
        refine Ew_goto hC (tgt := 18) (dt_L_law.at 673 rfl) (by decide) ?_
        refine Ew_sub hC [1, 2, 3, 0] (ls' := [(0, .ref 99), (1, .ref 0), (2, .ref 71), (3, .int x214)]) rfl ?_
        exact hc (q212.2, x214) (Option.some.inj h).symm
      · replace h := oNeg h c213
        refine Ew_iconst hC (dt_L_law.at 628 rfl) ki_0 ?_
        exact absurd (hr _ (Option.some.inj h).symm) (show ¬ (0 : Int32) = 1 by decide)
    replace h := oNeg h c208
    by_cases c215 : ((xs (Int32.toNatClampNeg x.2)) &&& 31) = 26
    · replace h := oPos h c215
      refine Ew_tblIn hC (tgt := 934) (off := 902) (dt_L_law.at 21 rfl) (by rw [c215]; decide) (by rw [c215]; decide) (by rw [c215]; decide) (by decide) ?_
      refine Ew_aload_n hC 1 (dt_L_law.at 630 rfl) rfl ?_
      refine Ew_aload_n hC 0 (dt_L_law.at 631 rfl) rfl ?_
      refine Ew_iload_n hC 3 (dt_L_law.at 632 rfl) rfl ?_
      refine Ew_iconst hC (dt_L_law.at 633 rfl) ki_1 ?_
      refine Ew_iadd hC (dt_L_law.at 634 rfl) ?_
      obtain ⟨g216, h⟩ := oGuard h
      refine Ew_sld hC hxs hbl hbA (dt_L_law.at 635 rfl) g216 ?_
      obtain ⟨q217, hq217, h⟩ := oBind h
      refine Ew_callV hC hX hXA hf (st := []) (st' := [.int q217.1]) [.int (xs (Int32.toNatClampNeg (x.2 + 1)))] (dt_L_law.at 636 rfl) cf_L_125 (w_x_status x.1 (xs (Int32.toNatClampNeg (x.2 + 1))) q217 hq217) ⟨Nat.le_of_ble_eq_true rfl, Nat.le_of_ble_eq_true rfl⟩ sk_0 rfl rfl rfl (Nat.le_of_ble_eq_true rfl) rfl ?_
      refine Ew_aload_n hC 2 (dt_L_law.at 637 rfl) rfl ?_
      refine Ew_aload_n hC 0 (dt_L_law.at 638 rfl) rfl ?_
      refine Ew_iload_n hC 3 (dt_L_law.at 639 rfl) rfl ?_
      refine Ew_iconst hC (dt_L_law.at 640 rfl) ki_1 ?_
      refine Ew_iadd hC (dt_L_law.at 641 rfl) ?_
      obtain ⟨g218, h⟩ := oGuard h
      refine Ew_sld hC hxs hbl hbA (dt_L_law.at 642 rfl) g218 ?_
      obtain ⟨q219, hq219, h⟩ := oBind h
      refine Ew_callV hC hX hXA hf (st := [.int q217.1]) (st' := [.int q219.1, .int q217.1]) [.int (xs (Int32.toNatClampNeg (x.2 + 1)))] (dt_L_law.at 643 rfl) cf_L_128 (w_m_status q217.2 (xs (Int32.toNatClampNeg (x.2 + 1))) q219 hq219) ⟨Nat.le_of_ble_eq_true rfl, Nat.le_of_ble_eq_true rfl⟩ sk_71 rfl rfl rfl (Nat.le_of_ble_eq_true rfl) rfl ?_
      refine Ew_icmp_eq hC (tgt := 994) (dt_L_law.at 644 rfl) (by decide) (fun c220 => ?_) (fun c220 => ?_)
      · replace h := oPos h c220
        obtain ⟨x221, ex221⟩ : ∃ z : Int32, z = x.2 + 4 := ⟨_, rfl⟩
        replace h := oLt h ex221
        refine Ew_iinc hC (v := x221) 3 (dt_L_law.at 672 rfl) rfl (ex221.trans (congrArg (fun z => x.2 + z) ki_4.symm)) (by decide) (ls' := [(3, .int x221), (0, .ref 99), (1, .ref 0), (2, .ref 71)]) rfl ?_
        refine Ew_goto hC (tgt := 18) (dt_L_law.at 673 rfl) (by decide) ?_
        refine Ew_sub hC [1, 2, 3, 0] (ls' := [(0, .ref 99), (1, .ref 0), (2, .ref 71), (3, .int x221)]) rfl ?_
        exact hc (q219.2, x221) (Option.some.inj h).symm
      · replace h := oNeg h c220
        refine Ew_iconst hC (dt_L_law.at 645 rfl) ki_0 ?_
        exact absurd (hr _ (Option.some.inj h).symm) (show ¬ (0 : Int32) = 1 by decide)
    replace h := oNeg h c215
    by_cases c222 : ((xs (Int32.toNatClampNeg x.2)) &&& 31) = 27
    · replace h := oPos h c222
      refine Ew_tblIn hC (tgt := 957) (off := 925) (dt_L_law.at 21 rfl) (by rw [c222]; decide) (by rw [c222]; decide) (by rw [c222]; decide) (by decide) ?_
      refine Ew_aload_n hC 1 (dt_L_law.at 647 rfl) rfl ?_
      refine Ew_aload_n hC 0 (dt_L_law.at 648 rfl) rfl ?_
      refine Ew_iload_n hC 3 (dt_L_law.at 649 rfl) rfl ?_
      refine Ew_iconst hC (dt_L_law.at 650 rfl) ki_1 ?_
      refine Ew_iadd hC (dt_L_law.at 651 rfl) ?_
      obtain ⟨g223, h⟩ := oGuard h
      refine Ew_sld hC hxs hbl hbA (dt_L_law.at 652 rfl) g223 ?_
      obtain ⟨q224, hq224, h⟩ := oBind h
      refine Ew_callV hC hX hXA hf (st := []) (st' := [.int q224.1]) [.int (xs (Int32.toNatClampNeg (x.2 + 1)))] (dt_L_law.at 653 rfl) cf_L_129 (w_x_count x.1 (xs (Int32.toNatClampNeg (x.2 + 1))) q224 hq224) ⟨Nat.le_of_ble_eq_true rfl, Nat.le_of_ble_eq_true rfl⟩ sk_0 rfl rfl rfl (Nat.le_of_ble_eq_true rfl) rfl ?_
      refine Ew_aload_n hC 2 (dt_L_law.at 654 rfl) rfl ?_
      refine Ew_aload_n hC 0 (dt_L_law.at 655 rfl) rfl ?_
      refine Ew_iload_n hC 3 (dt_L_law.at 656 rfl) rfl ?_
      refine Ew_iconst hC (dt_L_law.at 657 rfl) ki_1 ?_
      refine Ew_iadd hC (dt_L_law.at 658 rfl) ?_
      obtain ⟨g225, h⟩ := oGuard h
      refine Ew_sld hC hxs hbl hbA (dt_L_law.at 659 rfl) g225 ?_
      obtain ⟨q226, hq226, h⟩ := oBind h
      refine Ew_callV hC hX hXA hf (st := [.int q224.1]) (st' := [.int q226.1, .int q224.1]) [.int (xs (Int32.toNatClampNeg (x.2 + 1)))] (dt_L_law.at 660 rfl) cf_L_132 (w_m_count q224.2 (xs (Int32.toNatClampNeg (x.2 + 1))) q226 hq226) ⟨Nat.le_of_ble_eq_true rfl, Nat.le_of_ble_eq_true rfl⟩ sk_71 rfl rfl rfl (Nat.le_of_ble_eq_true rfl) rfl ?_
      refine Ew_icmp_eq hC (tgt := 994) (dt_L_law.at 661 rfl) (by decide) (fun c227 => ?_) (fun c227 => ?_)
      · replace h := oPos h c227
        obtain ⟨x228, ex228⟩ : ∃ z : Int32, z = x.2 + 4 := ⟨_, rfl⟩
        replace h := oLt h ex228
        refine Ew_iinc hC (v := x228) 3 (dt_L_law.at 672 rfl) rfl (ex228.trans (congrArg (fun z => x.2 + z) ki_4.symm)) (by decide) (ls' := [(3, .int x228), (0, .ref 99), (1, .ref 0), (2, .ref 71)]) rfl ?_
        refine Ew_goto hC (tgt := 18) (dt_L_law.at 673 rfl) (by decide) ?_
        refine Ew_sub hC [1, 2, 3, 0] (ls' := [(0, .ref 99), (1, .ref 0), (2, .ref 71), (3, .int x228)]) rfl ?_
        exact hc (q226.2, x228) (Option.some.inj h).symm
      · replace h := oNeg h c227
        refine Ew_iconst hC (dt_L_law.at 662 rfl) ki_0 ?_
        exact absurd (hr _ (Option.some.inj h).symm) (show ¬ (0 : Int32) = 1 by decide)
    replace h := oNeg h c222
    by_cases c229 : ((xs (Int32.toNatClampNeg x.2)) &&& 31) = 28
    · replace h := oPos h c229
      refine Ew_tblIn hC (tgt := 980) (off := 948) (dt_L_law.at 21 rfl) (by rw [c229]; decide) (by rw [c229]; decide) (by rw [c229]; decide) (by decide) ?_
      refine Ew_aload_n hC 1 (dt_L_law.at 664 rfl) rfl ?_
      obtain ⟨q230, hq230, h⟩ := oBind h
      refine Ew_callV hC hX hXA hf (st := []) (st' := [.long q230]) [] (dt_L_law.at 665 rfl) cf_L_133 (w_x_digest x.1  q230 hq230) ⟨Nat.le_of_ble_eq_true rfl, Nat.le_of_ble_eq_true rfl⟩ sk_0 rfl rfl rfl (Nat.le_of_ble_eq_true rfl) rfl ?_
      refine Ew_aload_n hC 2 (dt_L_law.at 666 rfl) rfl ?_
      obtain ⟨q231, hq231, h⟩ := oBind h
      refine Ew_callV hC hX hXA hf (st := [.long q230]) (st' := [.long q231, .long q230]) [] (dt_L_law.at 667 rfl) cf_L_137 (w_m_digest x.1  q231 hq231) ⟨Nat.le_of_ble_eq_true rfl, Nat.le_of_ble_eq_true rfl⟩ sk_71 rfl rfl rfl (Nat.le_of_ble_eq_true rfl) rfl ?_
      refine Ew_lcmp hC (dt_L_law.at 668 rfl) ?_
      refine Ew_if_eq hC (tgt := 994) (dt_L_law.at 669 rfl) (by decide) (fun c232 => ?_) (fun c232 => ?_)
      · replace h := oPos h c232
        obtain ⟨x233, ex233⟩ : ∃ z : Int32, z = x.2 + 4 := ⟨_, rfl⟩
        replace h := oLt h ex233
        refine Ew_iinc hC (v := x233) 3 (dt_L_law.at 672 rfl) rfl (ex233.trans (congrArg (fun z => x.2 + z) ki_4.symm)) (by decide) (ls' := [(3, .int x233), (0, .ref 99), (1, .ref 0), (2, .ref 71)]) rfl ?_
        refine Ew_goto hC (tgt := 18) (dt_L_law.at 673 rfl) (by decide) ?_
        refine Ew_sub hC [1, 2, 3, 0] (ls' := [(0, .ref 99), (1, .ref 0), (2, .ref 71), (3, .int x233)]) rfl ?_
        exact hc (x.1, x233) (Option.some.inj h).symm
      · replace h := oNeg h c232
        refine Ew_iconst hC (dt_L_law.at 670 rfl) ki_0 ?_
        exact absurd (hr _ (Option.some.inj h).symm) (show ¬ (0 : Int32) = 1 by decide)
    replace h := oNeg h c229
    refine Ew_tblOut hC (tgt := 994) (dt_L_law.at 21 rfl) (by have zc3 := i32_ne (k := 0) c3 (by decide); have zc10 := i32_ne (k := 1) c10 (by decide); have zc19 := i32_ne (k := 2) c19 (by decide); have zc30 := i32_ne (k := 3) c30 (by decide); have zc37 := i32_ne (k := 4) c37 (by decide); have zc48 := i32_ne (k := 5) c48 (by decide); have zc53 := i32_ne (k := 6) c53 (by decide); have zc58 := i32_ne (k := 7) c58 (by decide); have zc67 := i32_ne (k := 8) c67 (by decide); have zc74 := i32_ne (k := 9) c74 (by decide); have zc81 := i32_ne (k := 10) c81 (by decide); have zc90 := i32_ne (k := 11) c90 (by decide); have zc97 := i32_ne (k := 12) c97 (by decide); have zc106 := i32_ne (k := 13) c106 (by decide); have zc117 := i32_ne (k := 14) c117 (by decide); have zc124 := i32_ne (k := 15) c124 (by decide); have zc135 := i32_ne (k := 16) c135 (by decide); have zc140 := i32_ne (k := 17) c140 (by decide); have zc149 := i32_ne (k := 18) c149 (by decide); have zc158 := i32_ne (k := 19) c158 (by decide); have zc169 := i32_ne (k := 20) c169 (by decide); have zc180 := i32_ne (k := 21) c180 (by decide); have zc185 := i32_ne (k := 22) c185 (by decide); have zc194 := i32_ne (k := 23) c194 (by decide); have zc201 := i32_ne (k := 24) c201 (by decide); have zc208 := i32_ne (k := 25) c208 (by decide); have zc215 := i32_ne (k := 26) c215 (by decide); have zc222 := i32_ne (k := 27) c222 (by decide); have zc229 := i32_ne (k := 28) c229 (by decide); omega) (by decide) ?_
    obtain ⟨x234, ex234⟩ : ∃ z : Int32, z = x.2 + 4 := ⟨_, rfl⟩
    replace h := oLt h ex234
    refine Ew_iinc hC (v := x234) 3 (dt_L_law.at 672 rfl) rfl (ex234.trans (congrArg (fun z => x.2 + z) ki_4.symm)) (by decide) (ls' := [(3, .int x234), (0, .ref 99), (1, .ref 0), (2, .ref 71)]) rfl ?_
    refine Ew_goto hC (tgt := 18) (dt_L_law.at 673 rfl) (by decide) ?_
    refine Ew_sub hC [1, 2, 3, 0] (ls' := [(0, .ref 99), (1, .ref 0), (2, .ref 71), (3, .int x234)]) rfl ?_
    exact hc (x.1, x234) (Option.some.inj h).symm
set_option maxRecDepth 100000 in
set_option maxHeartbeats 8000000 in
theorem wl_law_18 (xs : Nat → Int32) (L : Nat) (hC : CxW SK M_L_law p s m args meth c D tc ad A) (hX : SX ad s s.heap) (hXA : ∀ q, q < s.heap.size → ¬ A q) (hf : kc ≤ room_1.cells ∧ ks ≤ room_1.slots) (hxs : va_X (ad 99) L xs s s.heap) (hbl : ad 99 < s.heap.size) (hbA : ¬ A (ad 99)) (hend : ∀ (pc pc' : Nat) (ls : List (Nat × Value)) (σ : Sg), Dc M_L_law.2.1 pc .ireturn 1 pc' → Ew SK M_L_law p l e room_1 s m args below meth c D tc ad A Q kc ks pc ls [.int 1] σ) (n : Nat) (x : (Sg × Int32)) (z : ((Sg × Int32) ⊕ (Int32 × Sg))) (h : lp (b_law_18 xs L) n x = some z) (he : ∀ y : (Sg × Int32), z = .inl y → Ew SK M_L_law p l e room_1 s m args below meth c D tc ad A Q kc ks 1000 [] [] y.1) (hr : ∀ q : (Int32 × Sg), z = .inr q → q.1 = 1) : Ew SK M_L_law p l e room_1 s m args below meth c D tc ad A Q kc ks 18 [(0, .ref 99), (1, .ref 0), (2, .ref 71), (3, .int x.2)] [] x.1 := by
  refine lp_ind (E := fun x : (Sg × Int32) => Ew SK M_L_law p l e room_1 s m args below meth c D tc ad A Q kc ks 18 [(0, .ref 99), (1, .ref 0), (2, .ref 71), (3, .int x.2)] [] x.1) (fun x => ⟨fun y hb hy => ?_, fun hb => ?_⟩) n x h
  · exact wb_law_18 xs L x hC hX hXA hf hxs hbl hbA hend _ hb (fun y' e => by cases e; exact hy) (fun y' e => by cases e) (fun y' e => by cases e)
  · exact wb_law_18 xs L x hC hX hXA hf hxs hbl hbA hend _ hb (fun y' e => by cases e) (fun y' e => he y' (Sum.inr.inj e)) (fun y' e => hr y' (Sum.inr.inj e))
set_option maxRecDepth 100000 in
set_option maxHeartbeats 8000000 in
theorem w_law (xs : Nat → Int32) (L : Nat) (hC : CxW SK M_L_law p s m args meth c D tc ad A) (hX : SX ad s s.heap) (hXA : ∀ q, q < s.heap.size → ¬ A q) (hf : kc ≤ room_1.cells ∧ ks ≤ room_1.slots) (hxs : va_X (ad 99) L xs s s.heap) (hbl : ad 99 < s.heap.size) (hbA : ¬ A (ad 99)) (hend : ∀ (pc pc' : Nat) (ls : List (Nat × Value)) (σ : Sg), Dc M_L_law.2.1 pc .ireturn 1 pc' → Ew SK M_L_law p l e room_1 s m args below meth c D tc ad A Q kc ks pc ls [.int 1] σ) (σ : Sg) (τ1 : Sg) (h : s_law xs L σ = some (1, τ1)) : Ew SK M_L_law p l e room_1 s m args below meth c D tc ad A Q kc ks 16 [(0, .ref 99), (1, .ref 0), (2, .ref 71)] [] σ := by
  unfold s_law at h
  refine Ew_iconst hC (dt_L_law.at 8 rfl) ki_0 ?_
  refine Ew_istore_n hC (dt_L_law.at 9 rfl) (by decide) (ls' := [(3, .int 0), (0, .ref 99), (1, .ref 0), (2, .ref 71)]) rfl ?_
  refine Ew_sub hC [1, 2, 3, 0] (ls' := [(0, .ref 99), (1, .ref 0), (2, .ref 71), (3, .int 0)]) rfl ?_
  obtain ⟨o235, ho235, h⟩ := oBind h
  refine wl_law_18 xs L hC hX hXA hf hxs hbl hbA hend 100000 (σ, 0) o235 ho235 (fun y236 ey => ?_) (fun q237 eq => ?_)
  · rw [ey] at h
    replace h := oElimL h
    refine Ew_iconst hC (dt_L_law.at 674 rfl) ki_1 ?_
    exact hend _ _ _ _ (dt_L_law.at 675 rfl)
  · rw [eq] at h
    replace h := oElimR h
    cases h; rfl
end LAWW

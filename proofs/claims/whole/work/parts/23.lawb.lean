noncomputable def tb_L (xs : Nat → Int32) (L : Nat) (cal : Cal SS) : List (Nat × Ins SS) := [(18, e_iload 3 19), (19, e_aload 0 20), (20, e_xlen L 21), (21, e_iconst (6) 23), (23, e_bin aSub 24), (24, e_cgt 1339 27), (27, e_aload 0 28), (28, e_iload 3 29), (29, e_xld xs L 30), (30, e_iconst (63) 32), (32, e_bin aAnd 33), (33, e_sw lawCs 1333), (192, e_aload 1 193), (193, e_aload 0 194), (194, e_iload 3 195), (195, e_iconst (1) 196), (196, e_bin aAdd 197), (197, e_xld xs L 198), (198, e_callV opsS cal 100 1 11 201), (201, e_aload 2 202), (202, e_aload 0 203), (203, e_iload 3 204), (204, e_iconst (1) 205), (205, e_bin aAdd 206), (206, e_xld xs L 207), (207, e_callV opsS cal 153 1 12 210), (210, e_ceq 1333 213), (213, e_iconst (0) 214), (214, e_iret), (215, e_aload 1 216), (216, e_aload 0 217), (217, e_iload 3 218), (218, e_iconst (1) 219), (219, e_bin aAdd 220), (220, e_xld xs L 221), (221, e_callV opsS cal 101 1 11 224), (224, e_aload 2 225), (225, e_aload 0 226), (226, e_iload 3 227), (227, e_iconst (1) 228), (228, e_bin aAdd 229), (229, e_xld xs L 230), (230, e_callV opsS cal 155 1 12 233), (233, e_ceq 1333 236), (236, e_iconst (0) 237), (237, e_iret), (238, e_aload 1 239), (239, e_aload 0 240), (240, e_iload 3 241), (241, e_iconst (1) 242), (242, e_bin aAdd 243), (243, e_xld xs L 244), (244, e_aload 0 245), (245, e_iload 3 246), (246, e_iconst (2) 247), (247, e_bin aAdd 248), (248, e_xld xs L 249), (249, e_callV opsS cal 102 2 11 252), (252, e_aload 2 253), (253, e_aload 0 254), (254, e_iload 3 255), (255, e_iconst (1) 256), (256, e_bin aAdd 257), (257, e_xld xs L 258), (258, e_aload 0 259), (259, e_iload 3 260), (260, e_iconst (2) 261), (261, e_bin aAdd 262), (262, e_xld xs L 263), (263, e_callV opsS cal 157 2 12 266), (266, e_ceq 1333 269), (269, e_iconst (0) 270), (270, e_iret), (271, e_aload 1 272), (272, e_aload 0 273), (273, e_iload 3 274), (274, e_iconst (1) 275), (275, e_bin aAdd 276), (276, e_xld xs L 277), (277, e_aload 0 278), (278, e_iload 3 279), (279, e_iconst (2) 280), (280, e_bin aAdd 281), (281, e_xld xs L 282), (282, e_aload 0 283), (283, e_iload 3 284), (284, e_iconst (3) 285), (285, e_bin aAdd 286), (286, e_xld xs L 287), (287, e_callV opsS cal 103 3 11 290), (290, e_aload 2 291), (291, e_aload 0 292), (292, e_iload 3 293), (293, e_iconst (1) 294), (294, e_bin aAdd 295), (295, e_xld xs L 296), (296, e_aload 0 297), (297, e_iload 3 298), (298, e_iconst (2) 299), (299, e_bin aAdd 300), (300, e_xld xs L 301), (301, e_aload 0 302), (302, e_iload 3 303), (303, e_iconst (3) 304), (304, e_bin aAdd 305), (305, e_xld xs L 306), (306, e_callV opsS cal 158 3 12 309), (309, e_ceq 1333 312), (312, e_iconst (0) 313), (313, e_iret), (314, e_aload 1 315), (315, e_aload 0 316), (316, e_iload 3 317), (317, e_iconst (1) 318), (318, e_bin aAdd 319), (319, e_xld xs L 320), (320, e_aload 0 321), (321, e_iload 3 322), (322, e_iconst (2) 323), (323, e_bin aAdd 324), (324, e_xld xs L 325), (325, e_aload 0 326), (326, e_iload 3 327), (327, e_iconst (3) 328), (328, e_bin aAdd 329), (329, e_xld xs L 330), (330, e_callV opsS cal 104 3 11 333), (333, e_aload 2 334), (334, e_aload 0 335), (335, e_iload 3 336), (336, e_iconst (1) 337), (337, e_bin aAdd 338), (338, e_xld xs L 339), (339, e_aload 0 340), (340, e_iload 3 341), (341, e_iconst (2) 342), (342, e_bin aAdd 343), (343, e_xld xs L 344), (344, e_aload 0 345), (345, e_iload 3 346), (346, e_iconst (3) 347), (347, e_bin aAdd 348), (348, e_xld xs L 349), (349, e_callV opsS cal 164 3 12 352), (352, e_ceq 1333 355), (355, e_iconst (0) 356), (356, e_iret), (357, e_aload 1 358), (358, e_aload 0 359), (359, e_iload 3 360), (360, e_iconst (1) 361), (361, e_bin aAdd 362), (362, e_xld xs L 363), (363, e_aload 0 364), (364, e_iload 3 365), (365, e_iconst (2) 366), (366, e_bin aAdd 367), (367, e_xld xs L 368), (368, e_callV opsS cal 105 2 11 371), (371, e_aload 2 372), (372, e_aload 0 373), (373, e_iload 3 374), (374, e_iconst (1) 375), (375, e_bin aAdd 376), (376, e_xld xs L 377), (377, e_aload 0 378), (378, e_iload 3 379), (379, e_iconst (2) 380), (380, e_bin aAdd 381), (381, e_xld xs L 382), (382, e_callV opsS cal 190 2 12 385), (385, e_ceq 1333 388), (388, e_iconst (0) 389), (389, e_iret), (390, e_aload 1 391), (391, e_aload 0 392), (392, e_iload 3 393), (393, e_iconst (1) 394), (394, e_bin aAdd 395), (395, e_xld xs L 396), (396, e_callV opsS cal 106 1 11 399), (399, e_aload 2 400), (400, e_aload 0 401), (401, e_iload 3 402), (402, e_iconst (1) 403), (403, e_bin aAdd 404), (404, e_xld xs L 405), (405, e_callV opsS cal 165 1 12 408), (408, e_ceq 1333 411), (411, e_iconst (0) 412), (412, e_iret), (413, e_aload 1 414), (414, e_callV opsS cal 107 0 11 417), (417, e_aload 2 418), (418, e_callV opsS cal 183 0 12 421), (421, e_ceq 1333 424), (424, e_iconst (0) 425), (425, e_iret), (426, e_aload 1 427), (427, e_aload 0 428), (428, e_iload 3 429), (429, e_iconst (1) 430), (430, e_bin aAdd 431), (431, e_xld xs L 432), (432, e_aload 0 433), (433, e_iload 3 434), (434, e_iconst (2) 435), (435, e_bin aAdd 436), (436, e_xld xs L 437), (437, e_callV opsS cal 108 2 11 440), (440, e_aload 2 441), (441, e_aload 0 442), (442, e_iload 3 443), (443, e_iconst (1) 444), (444, e_bin aAdd 445), (445, e_xld xs L 446), (446, e_aload 0 447), (447, e_iload 3 448), (448, e_iconst (2) 449), (449, e_bin aAdd 450), (450, e_xld xs L 451), (451, e_callV opsS cal 195 2 12 454), (454, e_ceq 1333 457), (457, e_iconst (0) 458), (458, e_iret), (459, e_aload 1 460), (460, e_aload 0 461), (461, e_iload 3 462), (462, e_iconst (1) 463), (463, e_bin aAdd 464), (464, e_xld xs L 465), (465, e_aload 0 466), (466, e_iload 3 467), (467, e_iconst (2) 468), (468, e_bin aAdd 469), (469, e_xld xs L 470), (470, e_callV opsS cal 109 2 11 473), (473, e_aload 2 474), (474, e_aload 0 475), (475, e_iload 3 476), (476, e_iconst (1) 477), (477, e_bin aAdd 478), (478, e_xld xs L 479), (479, e_aload 0 480), (480, e_iload 3 481), (481, e_iconst (2) 482), (482, e_bin aAdd 483), (483, e_xld xs L 484), (484, e_callV opsS cal 196 2 12 487), (487, e_ceq 1333 490), (490, e_iconst (0) 491), (491, e_iret), (492, e_aload 1 493), (493, e_aload 0 494), (494, e_iload 3 495), (495, e_iconst (1) 496), (496, e_bin aAdd 497), (497, e_xld xs L 498), (498, e_callV opsS cal 110 1 11 501), (501, e_aload 2 502), (502, e_aload 0 503), (503, e_iload 3 504), (504, e_iconst (1) 505), (505, e_bin aAdd 506), (506, e_xld xs L 507), (507, e_callV opsS cal 197 1 12 510), (510, e_ceq 1333 513), (513, e_iconst (0) 514), (514, e_iret), (515, e_aload 1 516), (516, e_callV opsS cal 111 0 11 519), (519, e_aload 2 520), (520, e_callV opsS cal 198 0 12 523), (523, e_ceq 1333 526), (526, e_iconst (0) 527), (527, e_iret), (528, e_aload 1 529), (529, e_aload 0 530), (530, e_iload 3 531), (531, e_iconst (1) 532), (532, e_bin aAdd 533), (533, e_xld xs L 534), (534, e_callV opsS cal 112 1 11 537), (537, e_aload 2 538), (538, e_aload 0 539), (539, e_iload 3 540), (540, e_iconst (1) 541), (541, e_bin aAdd 542), (542, e_xld xs L 543), (543, e_callV opsS cal 199 1 12 546), (546, e_ceq 1333 549), (549, e_iconst (0) 550), (550, e_iret), (551, e_aload 1 552), (552, e_aload 0 553), (553, e_iload 3 554), (554, e_iconst (1) 555), (555, e_bin aAdd 556), (556, e_xld xs L 557), (557, e_aload 0 558), (558, e_iload 3 559), (559, e_iconst (2) 560), (560, e_bin aAdd 561), (561, e_xld xs L 562), (562, e_callV opsS cal 113 2 11 565), (565, e_aload 2 566), (566, e_aload 0 567), (567, e_iload 3 568), (568, e_iconst (1) 569), (569, e_bin aAdd 570), (570, e_xld xs L 571), (571, e_aload 0 572), (572, e_iload 3 573), (573, e_iconst (2) 574), (574, e_bin aAdd 575), (575, e_xld xs L 576), (576, e_callV opsS cal 203 2 12 579), (579, e_ceq 1333 582), (582, e_iconst (0) 583), (583, e_iret), (584, e_aload 1 585), (585, e_aload 0 586), (586, e_iload 3 587), (587, e_iconst (1) 588), (588, e_bin aAdd 589), (589, e_xld xs L 590), (590, e_aload 0 591), (591, e_iload 3 592), (592, e_iconst (2) 593), (593, e_bin aAdd 594), (594, e_xld xs L 595), (595, e_aload 0 596), (596, e_iload 3 597), (597, e_iconst (3) 598), (598, e_bin aAdd 599), (599, e_xld xs L 600), (600, e_callV opsS cal 114 3 11 603), (603, e_aload 2 604), (604, e_aload 0 605), (605, e_iload 3 606), (606, e_iconst (1) 607), (607, e_bin aAdd 608), (608, e_xld xs L 609), (609, e_aload 0 610), (610, e_iload 3 611), (611, e_iconst (2) 612), (612, e_bin aAdd 613), (613, e_xld xs L 614), (614, e_aload 0 615), (615, e_iload 3 616), (616, e_iconst (3) 617), (617, e_bin aAdd 618), (618, e_xld xs L 619), (619, e_callV opsS cal 204 3 12 622), (622, e_ceq 1333 625), (625, e_iconst (0) 626), (626, e_iret), (627, e_aload 1 628), (628, e_aload 0 629), (629, e_iload 3 630), (630, e_iconst (1) 631), (631, e_bin aAdd 632), (632, e_xld xs L 633), (633, e_aload 0 634), (634, e_iload 3 635), (635, e_iconst (2) 636), (636, e_bin aAdd 637), (637, e_xld xs L 638), (638, e_aload 0 639), (639, e_iload 3 640), (640, e_iconst (3) 641), (641, e_bin aAdd 642), (642, e_xld xs L 643), (643, e_callV opsS cal 115 3 11 646), (646, e_aload 2 647), (647, e_aload 0 648), (648, e_iload 3 649), (649, e_iconst (1) 650), (650, e_bin aAdd 651), (651, e_xld xs L 652), (652, e_aload 0 653), (653, e_iload 3 654), (654, e_iconst (2) 655), (655, e_bin aAdd 656), (656, e_xld xs L 657), (657, e_aload 0 658), (658, e_iload 3 659), (659, e_iconst (3) 660), (660, e_bin aAdd 661), (661, e_xld xs L 662), (662, e_callV opsS cal 212 3 12 665), (665, e_lcmp 666), (666, e_ifeq 1333 669), (669, e_iconst (0) 670), (670, e_iret), (671, e_aload 1 672), (672, e_aload 0 673), (673, e_iload 3 674), (674, e_iconst (1) 675), (675, e_bin aAdd 676), (676, e_xld xs L 677), (677, e_aload 0 678), (678, e_iload 3 679), (679, e_iconst (2) 680), (680, e_bin aAdd 681), (681, e_xld xs L 682), (682, e_aload 0 683), (683, e_iload 3 684), (684, e_iconst (3) 685), (685, e_bin aAdd 686), (686, e_xld xs L 687), (687, e_callV opsS cal 116 3 11 690), (690, e_aload 2 691), (691, e_aload 0 692), (692, e_iload 3 693), (693, e_iconst (1) 694), (694, e_bin aAdd 695), (695, e_xld xs L 696), (696, e_aload 0 697), (697, e_iload 3 698), (698, e_iconst (2) 699), (699, e_bin aAdd 700), (700, e_xld xs L 701), (701, e_aload 0 702), (702, e_iload 3 703), (703, e_iconst (3) 704), (704, e_bin aAdd 705), (705, e_xld xs L 706), (706, e_callV opsS cal 213 3 12 709), (709, e_lcmp 710), (710, e_ifeq 1333 713), (713, e_iconst (0) 714), (714, e_iret), (715, e_aload 1 716), (716, e_aload 0 717), (717, e_iload 3 718), (718, e_iconst (1) 719), (719, e_bin aAdd 720), (720, e_xld xs L 721), (721, e_aload 0 722), (722, e_iload 3 723), (723, e_iconst (2) 724), (724, e_bin aAdd 725), (725, e_xld xs L 726), (726, e_callV opsS cal 117 2 11 729), (729, e_aload 2 730), (730, e_aload 0 731), (731, e_iload 3 732), (732, e_iconst (1) 733), (733, e_bin aAdd 734), (734, e_xld xs L 735), (735, e_aload 0 736), (736, e_iload 3 737), (737, e_iconst (2) 738), (738, e_bin aAdd 739), (739, e_xld xs L 740), (740, e_callV opsS cal 214 2 12 743), (743, e_ceq 1333 746), (746, e_iconst (0) 747), (747, e_iret), (748, e_aload 1 749), (749, e_aload 0 750), (750, e_iload 3 751), (751, e_iconst (1) 752), (752, e_bin aAdd 753), (753, e_xld xs L 754), (754, e_aload 0 755), (755, e_iload 3 756), (756, e_iconst (2) 757), (757, e_bin aAdd 758), (758, e_xld xs L 759), (759, e_callV opsS cal 118 2 11 762), (762, e_aload 2 763), (763, e_aload 0 764), (764, e_iload 3 765), (765, e_iconst (1) 766), (766, e_bin aAdd 767), (767, e_xld xs L 768), (768, e_aload 0 769), (769, e_iload 3 770), (770, e_iconst (2) 771), (771, e_bin aAdd 772), (772, e_xld xs L 773), (773, e_callV opsS cal 215 2 12 776), (776, e_ceq 1333 779), (779, e_iconst (0) 780), (780, e_iret), (781, e_aload 1 782), (782, e_aload 0 783), (783, e_iload 3 784), (784, e_iconst (1) 785), (785, e_bin aAdd 786), (786, e_xld xs L 787), (787, e_aload 0 788), (788, e_iload 3 789), (789, e_iconst (2) 790), (790, e_bin aAdd 791), (791, e_xld xs L 792), (792, e_aload 0 793), (793, e_iload 3 794), (794, e_iconst (3) 795), (795, e_bin aAdd 796), (796, e_xld xs L 797), (797, e_aload 0 798), (798, e_iload 3 799), (799, e_iconst (4) 800), (800, e_bin aAdd 801), (801, e_xld xs L 802), (802, e_callV opsS cal 119 4 11 805), (805, e_aload 2 806), (806, e_aload 0 807), (807, e_iload 3 808), (808, e_iconst (1) 809), (809, e_bin aAdd 810), (810, e_xld xs L 811), (811, e_aload 0 812), (812, e_iload 3 813), (813, e_iconst (2) 814), (814, e_bin aAdd 815), (815, e_xld xs L 816), (816, e_aload 0 817), (817, e_iload 3 818), (818, e_iconst (3) 819), (819, e_bin aAdd 820), (820, e_xld xs L 821), (821, e_aload 0 822), (822, e_iload 3 823), (823, e_iconst (4) 824), (824, e_bin aAdd 825), (825, e_xld xs L 826), (826, e_callV opsS cal 217 4 12 829), (829, e_ceq 1333 832), (832, e_iconst (0) 833), (833, e_iret), (834, e_aload 1 835), (835, e_aload 0 836), (836, e_iload 3 837), (837, e_iconst (1) 838), (838, e_bin aAdd 839), (839, e_xld xs L 840), (840, e_callV opsS cal 120 1 11 843), (843, e_aload 2 844), (844, e_aload 0 845), (845, e_iload 3 846), (846, e_iconst (1) 847), (847, e_bin aAdd 848), (848, e_xld xs L 849), (849, e_callV opsS cal 218 1 12 852), (852, e_ceq 1333 855), (855, e_iconst (0) 856), (856, e_iret), (857, e_aload 1 858), (858, e_aload 0 859), (859, e_iload 3 860), (860, e_iconst (1) 861), (861, e_bin aAdd 862), (862, e_xld xs L 863), (863, e_aload 0 864), (864, e_iload 3 865), (865, e_iconst (2) 866), (866, e_bin aAdd 867), (867, e_xld xs L 868), (868, e_callV opsS cal 121 2 11 871), (871, e_aload 2 872), (872, e_aload 0 873), (873, e_iload 3 874), (874, e_iconst (1) 875), (875, e_bin aAdd 876), (876, e_xld xs L 877), (877, e_aload 0 878), (878, e_iload 3 879), (879, e_iconst (2) 880), (880, e_bin aAdd 881), (881, e_xld xs L 882), (882, e_callV opsS cal 219 2 12 885), (885, e_ceq 1333 888), (888, e_iconst (0) 889), (889, e_iret), (890, e_aload 1 891), (891, e_callV opsS cal 122 0 11 894), (894, e_aload 2 895), (895, e_callV opsS cal 220 0 12 898), (898, e_ceq 1333 901), (901, e_iconst (0) 902), (902, e_iret), (903, e_aload 1 904), (904, e_callV opsS cal 123 0 11 907), (907, e_aload 2 908), (908, e_callV opsS cal 221 0 12 911), (911, e_ceq 1333 914), (914, e_iconst (0) 915), (915, e_iret), (916, e_aload 1 917), (917, e_callV opsS cal 124 0 11 920), (920, e_aload 2 921), (921, e_callV opsS cal 162 0 12 924), (924, e_ceq 1333 927), (927, e_iconst (0) 928), (928, e_iret), (929, e_aload 1 930), (930, e_callV opsS cal 125 0 11 933), (933, e_aload 2 934), (934, e_callV opsS cal 163 0 12 937), (937, e_ceq 1333 940), (940, e_iconst (0) 941), (941, e_iret), (942, e_aload 1 943), (943, e_aload 0 944), (944, e_iload 3 945), (945, e_iconst (1) 946), (946, e_bin aAdd 947), (947, e_xld xs L 948), (948, e_callV opsS cal 126 1 11 951), (951, e_aload 2 952), (952, e_aload 0 953), (953, e_iload 3 954), (954, e_iconst (1) 955), (955, e_bin aAdd 956), (956, e_xld xs L 957), (957, e_callV opsS cal 225 1 12 960), (960, e_ceq 1333 963), (963, e_iconst (0) 964), (964, e_iret), (965, e_aload 1 966), (966, e_aload 0 967), (967, e_iload 3 968), (968, e_iconst (1) 969), (969, e_bin aAdd 970), (970, e_xld xs L 971), (971, e_aload 0 972), (972, e_iload 3 973), (973, e_iconst (2) 974), (974, e_bin aAdd 975), (975, e_xld xs L 976), (976, e_aload 0 977), (977, e_iload 3 978), (978, e_iconst (3) 979), (979, e_bin aAdd 980), (980, e_xld xs L 981), (981, e_callV opsS cal 127 3 11 984), (984, e_aload 2 985), (985, e_aload 0 986), (986, e_iload 3 987), (987, e_iconst (1) 988), (988, e_bin aAdd 989), (989, e_xld xs L 990), (990, e_aload 0 991), (991, e_iload 3 992), (992, e_iconst (2) 993), (993, e_bin aAdd 994), (994, e_xld xs L 995), (995, e_aload 0 996), (996, e_iload 3 997), (997, e_iconst (3) 998), (998, e_bin aAdd 999), (999, e_xld xs L 1000), (1000, e_callV opsS cal 238 3 12 1003), (1003, e_ceq 1333 1006), (1006, e_iconst (0) 1007), (1007, e_iret), (1008, e_aload 1 1009), (1009, e_aload 0 1010), (1010, e_iload 3 1011), (1011, e_iconst (1) 1012), (1012, e_bin aAdd 1013), (1013, e_xld xs L 1014), (1014, e_callV opsS cal 128 1 11 1017), (1017, e_aload 2 1018), (1018, e_aload 0 1019), (1019, e_iload 3 1020), (1020, e_iconst (1) 1021), (1021, e_bin aAdd 1022), (1022, e_xld xs L 1023), (1023, e_callV opsS cal 224 1 12 1026), (1026, e_ceq 1333 1029), (1029, e_iconst (0) 1030), (1030, e_iret), (1031, e_aload 1 1032), (1032, e_aload 0 1033), (1033, e_iload 3 1034), (1034, e_iconst (1) 1035), (1035, e_bin aAdd 1036), (1036, e_xld xs L 1037), (1037, e_aload 0 1038), (1038, e_iload 3 1039), (1039, e_iconst (2) 1040), (1040, e_bin aAdd 1041), (1041, e_xld xs L 1042), (1042, e_callV opsS cal 129 2 11 1045), (1045, e_aload 2 1046), (1046, e_aload 0 1047), (1047, e_iload 3 1048), (1048, e_iconst (1) 1049), (1049, e_bin aAdd 1050), (1050, e_xld xs L 1051), (1051, e_aload 0 1052), (1052, e_iload 3 1053), (1053, e_iconst (2) 1054), (1054, e_bin aAdd 1055), (1055, e_xld xs L 1056), (1056, e_callV opsS cal 241 2 12 1059), (1059, e_ceq 1333 1062), (1062, e_iconst (0) 1063), (1063, e_iret), (1064, e_aload 1 1065), (1065, e_aload 0 1066), (1066, e_iload 3 1067), (1067, e_iconst (1) 1068), (1068, e_bin aAdd 1069), (1069, e_xld xs L 1070), (1070, e_aload 0 1071), (1071, e_iload 3 1072), (1072, e_iconst (2) 1073), (1073, e_bin aAdd 1074), (1074, e_xld xs L 1075), (1075, e_aload 0 1076), (1076, e_iload 3 1077), (1077, e_iconst (3) 1078), (1078, e_bin aAdd 1079), (1079, e_xld xs L 1080), (1080, e_callV opsS cal 130 3 11 1083), (1083, e_aload 2 1084), (1084, e_aload 0 1085), (1085, e_iload 3 1086), (1086, e_iconst (1) 1087), (1087, e_bin aAdd 1088), (1088, e_xld xs L 1089), (1089, e_aload 0 1090), (1090, e_iload 3 1091), (1091, e_iconst (2) 1092), (1092, e_bin aAdd 1093), (1093, e_xld xs L 1094), (1094, e_aload 0 1095), (1095, e_iload 3 1096), (1096, e_iconst (3) 1097), (1097, e_bin aAdd 1098), (1098, e_xld xs L 1099), (1099, e_callV opsS cal 242 3 12 1102), (1102, e_ceq 1333 1105), (1105, e_iconst (0) 1106), (1106, e_iret), (1107, e_aload 1 1108), (1108, e_aload 0 1109), (1109, e_iload 3 1110), (1110, e_iconst (1) 1111), (1111, e_bin aAdd 1112), (1112, e_xld xs L 1113), (1113, e_aload 0 1114), (1114, e_iload 3 1115), (1115, e_iconst (2) 1116), (1116, e_bin aAdd 1117), (1117, e_xld xs L 1118), (1118, e_aload 0 1119), (1119, e_iload 3 1120), (1120, e_iconst (3) 1121), (1121, e_bin aAdd 1122), (1122, e_xld xs L 1123), (1123, e_i2l 1124), (1124, e_iconst (32) 1126), (1126, e_lsh lShl 1127), (1127, e_aload 0 1128), (1128, e_iload 3 1129), (1129, e_iconst (4) 1130), (1130, e_bin aAdd 1131), (1131, e_xld xs L 1132), (1132, e_i2l 1133), (1133, e_lconst (4294967295) 1136), (1136, e_lbin lAnd 1137), (1137, e_lbin lOr 1138), (1138, e_callV opsS cal 131 3 11 1141), (1141, e_aload 2 1142), (1142, e_aload 0 1143), (1143, e_iload 3 1144), (1144, e_iconst (1) 1145), (1145, e_bin aAdd 1146), (1146, e_xld xs L 1147), (1147, e_aload 0 1148), (1148, e_iload 3 1149), (1149, e_iconst (2) 1150), (1150, e_bin aAdd 1151), (1151, e_xld xs L 1152), (1152, e_aload 0 1153), (1153, e_iload 3 1154), (1154, e_iconst (3) 1155), (1155, e_bin aAdd 1156), (1156, e_xld xs L 1157), (1157, e_i2l 1158), (1158, e_iconst (32) 1160), (1160, e_lsh lShl 1161), (1161, e_aload 0 1162), (1162, e_iload 3 1163), (1163, e_iconst (4) 1164), (1164, e_bin aAdd 1165), (1165, e_xld xs L 1166), (1166, e_i2l 1167), (1167, e_lconst (4294967295) 1170), (1170, e_lbin lAnd 1171), (1171, e_lbin lOr 1172), (1172, e_callV opsS cal 244 3 12 1175), (1175, e_ceq 1333 1178), (1178, e_iconst (0) 1179), (1179, e_iret), (1180, e_aload 1 1181), (1181, e_aload 0 1182), (1182, e_iload 3 1183), (1183, e_iconst (1) 1184), (1184, e_bin aAdd 1185), (1185, e_xld xs L 1186), (1186, e_aload 0 1187), (1187, e_iload 3 1188), (1188, e_iconst (2) 1189), (1189, e_bin aAdd 1190), (1190, e_xld xs L 1191), (1191, e_callV opsS cal 132 2 11 1194), (1194, e_aload 2 1195), (1195, e_aload 0 1196), (1196, e_iload 3 1197), (1197, e_iconst (1) 1198), (1198, e_bin aAdd 1199), (1199, e_xld xs L 1200), (1200, e_aload 0 1201), (1201, e_iload 3 1202), (1202, e_iconst (2) 1203), (1203, e_bin aAdd 1204), (1204, e_xld xs L 1205), (1205, e_callV opsS cal 245 2 12 1208), (1208, e_lcmp 1209), (1209, e_ifeq 1333 1212), (1212, e_iconst (0) 1213), (1213, e_iret), (1214, e_aload 1 1215), (1215, e_aload 0 1216), (1216, e_iload 3 1217), (1217, e_iconst (1) 1218), (1218, e_bin aAdd 1219), (1219, e_xld xs L 1220), (1220, e_aload 0 1221), (1221, e_iload 3 1222), (1222, e_iconst (2) 1223), (1223, e_bin aAdd 1224), (1224, e_xld xs L 1225), (1225, e_aload 0 1226), (1226, e_iload 3 1227), (1227, e_iconst (3) 1228), (1228, e_bin aAdd 1229), (1229, e_xld xs L 1230), (1230, e_aload 0 1231), (1231, e_iload 3 1232), (1232, e_iconst (4) 1233), (1233, e_bin aAdd 1234), (1234, e_xld xs L 1235), (1235, e_aload 0 1236), (1236, e_iload 3 1237), (1237, e_iconst (5) 1238), (1238, e_bin aAdd 1239), (1239, e_xld xs L 1240), (1240, e_callV opsS cal 133 5 11 1243), (1243, e_aload 2 1244), (1244, e_aload 0 1245), (1245, e_iload 3 1246), (1246, e_iconst (1) 1247), (1247, e_bin aAdd 1248), (1248, e_xld xs L 1249), (1249, e_aload 0 1250), (1250, e_iload 3 1251), (1251, e_iconst (2) 1252), (1252, e_bin aAdd 1253), (1253, e_xld xs L 1254), (1254, e_aload 0 1255), (1255, e_iload 3 1256), (1256, e_iconst (3) 1257), (1257, e_bin aAdd 1258), (1258, e_xld xs L 1259), (1259, e_aload 0 1260), (1260, e_iload 3 1261), (1261, e_iconst (4) 1262), (1262, e_bin aAdd 1263), (1263, e_xld xs L 1264), (1264, e_aload 0 1265), (1265, e_iload 3 1266), (1266, e_iconst (5) 1267), (1267, e_bin aAdd 1268), (1268, e_xld xs L 1269), (1269, e_callV opsS cal 246 5 12 1272), (1272, e_ceq 1333 1275), (1275, e_iconst (0) 1276), (1276, e_iret), (1277, e_aload 1 1278), (1278, e_aload 0 1279), (1279, e_iload 3 1280), (1280, e_iconst (1) 1281), (1281, e_bin aAdd 1282), (1282, e_xld xs L 1283), (1283, e_aload 0 1284), (1284, e_iload 3 1285), (1285, e_iconst (2) 1286), (1286, e_bin aAdd 1287), (1287, e_xld xs L 1288), (1288, e_callV opsS cal 134 2 11 1291), (1291, e_aload 2 1292), (1292, e_aload 0 1293), (1293, e_iload 3 1294), (1294, e_iconst (1) 1295), (1295, e_bin aAdd 1296), (1296, e_xld xs L 1297), (1297, e_aload 0 1298), (1298, e_iload 3 1299), (1299, e_iconst (2) 1300), (1300, e_bin aAdd 1301), (1301, e_xld xs L 1302), (1302, e_callV opsS cal 247 2 12 1305), (1305, e_ceq 1333 1308), (1308, e_iconst (0) 1309), (1309, e_iret), (1310, e_aload 1 1311), (1311, e_aload 0 1312), (1312, e_iload 3 1313), (1313, e_iconst (1) 1314), (1314, e_bin aAdd 1315), (1315, e_xld xs L 1316), (1316, e_callV opsS cal 135 1 11 1319), (1319, e_aload 2 1320), (1320, e_aload 0 1321), (1321, e_iload 3 1322), (1322, e_iconst (1) 1323), (1323, e_bin aAdd 1324), (1324, e_xld xs L 1325), (1325, e_callV opsS cal 239 1 12 1328), (1328, e_ceq 1333 1331), (1331, e_iconst (0) 1332), (1332, e_iret), (1333, e_iinc 3 (6) 1336), (1336, e_goto 18), (1339, e_iconst (1) 1340), (1340, e_iret)]
set_option maxRecDepth 100000 in
set_option maxHeartbeats 40000000 in
theorem tk_L {ad0 : Nat → Nat} {G : Gm} {A : Nat → Prop} {p : Program} {l : Launch} {e : Env} {R : Room} {s0 : State} {m : MethodId} {args : Array Value} {below : List Frame} {meth : Method} {c : Code} {Q : State → Prop} {n0 sl0 b L : Nat} {xs : Nat → Int32} {r : Int32 × SS} (X : Cx G A RL cL_law 4 p s0 m args c) {D' : Nat} {cal : Cal SS} (hcal : calOK l G opsS D' cal) (hRm : ∀ k, k ≤ 21 → D' + 1 ≤ R.frames ∧ 8 + (k + 11) + 40 * D' ≤ R.locals) (hnn : 113 ≤ n0 + R.cells) (hss : 6344 ≤ sl0 + R.slots) (hX : va_X b L xs s0 s0.heap) (hbl : b < s0.heap.size) (hbA : ¬ A b) (hGb : G.ex 4 = b) (hret : RetK G A cL_law n0 sl0 ad0 p l e R s0 m args below meth c Q opsS rI r .ireturn okI) : ∀ q ∈ tb_L xs L cal, OKi G A 4 n0 sl0 ad0 p l e R s0 m args below meth c Q opsS rI r q.1 q.2 :=
    okc (ok_iload_n (j := 3) X (by decide +kernel) rfl rfl) (
    okc (ok_aload_n (j := 0) X (by decide +kernel) rfl rfl) (
    okc (ok_xlen X hX hbl hbA hGb (by decide +kernel) rfl) (
    okc (ok_bipush (n := 6) X (by decide +kernel) rfl rfl) (
    okc (ok_isub X (by decide +kernel) rfl) (
    okc (ok_cgt (off := 1315) X (by decide +kernel) (by decide) rfl) (
    okc (ok_aload_n (j := 0) X (by decide +kernel) rfl rfl) (
    okc (ok_iload_n (j := 3) X (by decide +kernel) rfl rfl) (
    okc (ok_xld X hX hbl hbA hGb (by decide +kernel) rfl) (
    okc (ok_bipush (n := 63) X (by decide +kernel) rfl rfl) (
    okc (ok_iand X (by decide +kernel) rfl) (
    okc (ok_tsw (dflt := 1300) (lo := 0) (hi := 35) (offs := lawOffs) (cs := lawCs) (dd := 1333) (len := 159) X (by decide +kernel) law_out law_in) (
    okc (ok_aload_n (j := 1) X (by decide +kernel) rfl rfl) (
    okc (ok_aload_n (j := 0) X (by decide +kernel) rfl rfl) (
    okc (ok_iload_n (j := 3) X (by decide +kernel) rfl rfl) (
    okc (ok_iconst (n := 1) X (by decide +kernel) rfl rfl) (
    okc (ok_iadd X (by decide +kernel) rfl) (
    okc (ok_xld X hX hbl hbA hGb (by decide +kernel) rfl) (
    okc (ok_callVL (ci := 11) (C := RX11) (T := TX11) (N := 15) (Y := (yX11_place, cX11_place, 2, (some .int))) X hcal opsS_n hnn hss md_X11_place rfl (by decide) rfl wc_X11_place wl_L_13 wi_X11 wm_X11_place wv_X11_place (by decide +kernel) (hRm 2 (by decide)) (by decide +kernel) rfl) (
    okc (ok_aload_n (j := 2) X (by decide +kernel) rfl rfl) (
    okc (ok_aload_n (j := 0) X (by decide +kernel) rfl rfl) (
    okc (ok_iload_n (j := 3) X (by decide +kernel) rfl rfl) (
    okc (ok_iconst (n := 1) X (by decide +kernel) rfl rfl) (
    okc (ok_iadd X (by decide +kernel) rfl) (
    okc (ok_xld X hX hbl hbA hGb (by decide +kernel) rfl) (
    okc (ok_callVL (ci := 12) (C := RX12) (T := TX12) (N := 63) (Y := (yX12_place, cX12_place, 2, (some .int))) X hcal opsS_n hnn hss md_X12_place rfl (by decide) rfl wc_X12_place wl_L_17 wi_X12 wm_X12_place wv_X12_place (by decide +kernel) (hRm 2 (by decide)) (by decide +kernel) rfl) (
    okc (ok_ceq (off := 1123) X (by decide +kernel) (by decide) rfl) (
    okc (ok_iconst (n := 0) X (by decide +kernel) rfl rfl) (
    okc (ok_iret hret (by decide +kernel)) (
    okc (ok_aload_n (j := 1) X (by decide +kernel) rfl rfl) (
    okc (ok_aload_n (j := 0) X (by decide +kernel) rfl rfl) (
    okc (ok_iload_n (j := 3) X (by decide +kernel) rfl rfl) (
    okc (ok_iconst (n := 1) X (by decide +kernel) rfl rfl) (
    okc (ok_iadd X (by decide +kernel) rfl) (
    okc (ok_xld X hX hbl hbA hGb (by decide +kernel) rfl) (
    okc (ok_callVL (ci := 11) (C := RX11) (T := TX11) (N := 15) (Y := (yX11_way, cX11_way, 4, (some .int))) X hcal opsS_n hnn hss md_X11_way rfl (by decide) rfl wc_X11_way wl_L_18 wi_X11 wm_X11_way wv_X11_way (by decide +kernel) (hRm 4 (by decide)) (by decide +kernel) rfl) (
    okc (ok_aload_n (j := 2) X (by decide +kernel) rfl rfl) (
    okc (ok_aload_n (j := 0) X (by decide +kernel) rfl rfl) (
    okc (ok_iload_n (j := 3) X (by decide +kernel) rfl rfl) (
    okc (ok_iconst (n := 1) X (by decide +kernel) rfl rfl) (
    okc (ok_iadd X (by decide +kernel) rfl) (
    okc (ok_xld X hX hbl hbA hGb (by decide +kernel) rfl) (
    okc (ok_callVL (ci := 12) (C := RX12) (T := TX12) (N := 63) (Y := (yX12_way, cX12_way, 2, (some .int))) X hcal opsS_n hnn hss md_X12_way rfl (by decide) rfl wc_X12_way wl_L_21 wi_X12 wm_X12_way wv_X12_way (by decide +kernel) (hRm 2 (by decide)) (by decide +kernel) rfl) (
    okc (ok_ceq (off := 1100) X (by decide +kernel) (by decide) rfl) (
    okc (ok_iconst (n := 0) X (by decide +kernel) rfl rfl) (
    okc (ok_iret hret (by decide +kernel)) (
    okc (ok_aload_n (j := 1) X (by decide +kernel) rfl rfl) (
    okc (ok_aload_n (j := 0) X (by decide +kernel) rfl rfl) (
    okc (ok_iload_n (j := 3) X (by decide +kernel) rfl rfl) (
    okc (ok_iconst (n := 1) X (by decide +kernel) rfl rfl) (
    okc (ok_iadd X (by decide +kernel) rfl) (
    okc (ok_xld X hX hbl hbA hGb (by decide +kernel) rfl) (
    okc (ok_aload_n (j := 0) X (by decide +kernel) rfl rfl) (
    okc (ok_iload_n (j := 3) X (by decide +kernel) rfl rfl) (
    okc (ok_iconst (n := 2) X (by decide +kernel) rfl rfl) (
    okc (ok_iadd X (by decide +kernel) rfl) (
    okc (ok_xld X hX hbl hbA hGb (by decide +kernel) rfl) (
    okc (ok_callVL (ci := 11) (C := RX11) (T := TX11) (N := 15) (Y := (yX11_person, cX11_person, 3, (some .int))) X hcal opsS_n hnn hss md_X11_person rfl (by decide) rfl wc_X11_person wl_L_22 wi_X11 wm_X11_person wv_X11_person (by decide +kernel) (hRm 3 (by decide)) (by decide +kernel) rfl) (
    okc (ok_aload_n (j := 2) X (by decide +kernel) rfl rfl) (
    okc (ok_aload_n (j := 0) X (by decide +kernel) rfl rfl) (
    okc (ok_iload_n (j := 3) X (by decide +kernel) rfl rfl) (
    okc (ok_iconst (n := 1) X (by decide +kernel) rfl rfl) (
    okc (ok_iadd X (by decide +kernel) rfl) (
    okc (ok_xld X hX hbl hbA hGb (by decide +kernel) rfl) (
    okc (ok_aload_n (j := 0) X (by decide +kernel) rfl rfl) (
    okc (ok_iload_n (j := 3) X (by decide +kernel) rfl rfl) (
    okc (ok_iconst (n := 2) X (by decide +kernel) rfl rfl) (
    okc (ok_iadd X (by decide +kernel) rfl) (
    okc (ok_xld X hX hbl hbA hGb (by decide +kernel) rfl) (
    okc (ok_callVL (ci := 12) (C := RX12) (T := TX12) (N := 63) (Y := (yX12_person, cX12_person, 3, (some .int))) X hcal opsS_n hnn hss md_X12_person rfl (by decide) rfl wc_X12_person wl_L_26 wi_X12 wm_X12_person wv_X12_person (by decide +kernel) (hRm 3 (by decide)) (by decide +kernel) rfl) (
    okc (ok_ceq (off := 1067) X (by decide +kernel) (by decide) rfl) (
    okc (ok_iconst (n := 0) X (by decide +kernel) rfl rfl) (
    okc (ok_iret hret (by decide +kernel)) (
    okc (ok_aload_n (j := 1) X (by decide +kernel) rfl rfl) (
    okc (ok_aload_n (j := 0) X (by decide +kernel) rfl rfl) (
    okc (ok_iload_n (j := 3) X (by decide +kernel) rfl rfl) (
    okc (ok_iconst (n := 1) X (by decide +kernel) rfl rfl) (
    okc (ok_iadd X (by decide +kernel) rfl) (
    okc (ok_xld X hX hbl hbA hGb (by decide +kernel) rfl) (
    okc (ok_aload_n (j := 0) X (by decide +kernel) rfl rfl) (
    okc (ok_iload_n (j := 3) X (by decide +kernel) rfl rfl) (
    okc (ok_iconst (n := 2) X (by decide +kernel) rfl rfl) (
    okc (ok_iadd X (by decide +kernel) rfl) (
    okc (ok_xld X hX hbl hbA hGb (by decide +kernel) rfl) (
    okc (ok_aload_n (j := 0) X (by decide +kernel) rfl rfl) (
    okc (ok_iload_n (j := 3) X (by decide +kernel) rfl rfl) (
    okc (ok_iconst (n := 3) X (by decide +kernel) rfl rfl) (
    okc (ok_iadd X (by decide +kernel) rfl) (
    okc (ok_xld X hX hbl hbA hGb (by decide +kernel) rfl) (
    okc (ok_callVL (ci := 11) (C := RX11) (T := TX11) (N := 15) (Y := (yX11_people, cX11_people, 5, (some .int))) X hcal opsS_n hnn hss md_X11_people rfl (by decide) rfl wc_X11_people wl_L_27 wi_X11 wm_X11_people wv_X11_people (by decide +kernel) (hRm 5 (by decide)) (by decide +kernel) rfl) (
    okc (ok_aload_n (j := 2) X (by decide +kernel) rfl rfl) (
    okc (ok_aload_n (j := 0) X (by decide +kernel) rfl rfl) (
    okc (ok_iload_n (j := 3) X (by decide +kernel) rfl rfl) (
    okc (ok_iconst (n := 1) X (by decide +kernel) rfl rfl) (
    okc (ok_iadd X (by decide +kernel) rfl) (
    okc (ok_xld X hX hbl hbA hGb (by decide +kernel) rfl) (
    okc (ok_aload_n (j := 0) X (by decide +kernel) rfl rfl) (
    okc (ok_iload_n (j := 3) X (by decide +kernel) rfl rfl) (
    okc (ok_iconst (n := 2) X (by decide +kernel) rfl rfl) (
    okc (ok_iadd X (by decide +kernel) rfl) (
    okc (ok_xld X hX hbl hbA hGb (by decide +kernel) rfl) (
    okc (ok_aload_n (j := 0) X (by decide +kernel) rfl rfl) (
    okc (ok_iload_n (j := 3) X (by decide +kernel) rfl rfl) (
    okc (ok_iconst (n := 3) X (by decide +kernel) rfl rfl) (
    okc (ok_iadd X (by decide +kernel) rfl) (
    okc (ok_xld X hX hbl hbA hGb (by decide +kernel) rfl) (
    okc (ok_callVL (ci := 12) (C := RX12) (T := TX12) (N := 63) (Y := (yX12_people, cX12_people, 8, (some .int))) X hcal opsS_n hnn hss md_X12_people rfl (by decide) rfl wc_X12_people wl_L_31 wi_X12 wm_X12_people wv_X12_people (by decide +kernel) (hRm 8 (by decide)) (by decide +kernel) rfl) (
    okc (ok_ceq (off := 1024) X (by decide +kernel) (by decide) rfl) (
    okc (ok_iconst (n := 0) X (by decide +kernel) rfl rfl) (
    okc (ok_iret hret (by decide +kernel)) (
    okc (ok_aload_n (j := 1) X (by decide +kernel) rfl rfl) (
    okc (ok_aload_n (j := 0) X (by decide +kernel) rfl rfl) (
    okc (ok_iload_n (j := 3) X (by decide +kernel) rfl rfl) (
    okc (ok_iconst (n := 1) X (by decide +kernel) rfl rfl) (
    okc (ok_iadd X (by decide +kernel) rfl) (
    okc (ok_xld X hX hbl hbA hGb (by decide +kernel) rfl) (
    okc (ok_aload_n (j := 0) X (by decide +kernel) rfl rfl) (
    okc (ok_iload_n (j := 3) X (by decide +kernel) rfl rfl) (
    okc (ok_iconst (n := 2) X (by decide +kernel) rfl rfl) (
    okc (ok_iadd X (by decide +kernel) rfl) (
    okc (ok_xld X hX hbl hbA hGb (by decide +kernel) rfl) (
    okc (ok_aload_n (j := 0) X (by decide +kernel) rfl rfl) (
    okc (ok_iload_n (j := 3) X (by decide +kernel) rfl rfl) (
    okc (ok_iconst (n := 3) X (by decide +kernel) rfl rfl) (
    okc (ok_iadd X (by decide +kernel) rfl) (
    okc (ok_xld X hX hbl hbA hGb (by decide +kernel) rfl) (
    okc (ok_callVL (ci := 11) (C := RX11) (T := TX11) (N := 15) (Y := (yX11_mend, cX11_mend, 6, (some .int))) X hcal opsS_n hnn hss md_X11_mend rfl (by decide) rfl wc_X11_mend wl_L_32 wi_X11 wm_X11_mend wv_X11_mend (by decide +kernel) (hRm 6 (by decide)) (by decide +kernel) rfl) (
    okc (ok_aload_n (j := 2) X (by decide +kernel) rfl rfl) (
    okc (ok_aload_n (j := 0) X (by decide +kernel) rfl rfl) (
    okc (ok_iload_n (j := 3) X (by decide +kernel) rfl rfl) (
    okc (ok_iconst (n := 1) X (by decide +kernel) rfl rfl) (
    okc (ok_iadd X (by decide +kernel) rfl) (
    okc (ok_xld X hX hbl hbA hGb (by decide +kernel) rfl) (
    okc (ok_aload_n (j := 0) X (by decide +kernel) rfl rfl) (
    okc (ok_iload_n (j := 3) X (by decide +kernel) rfl rfl) (
    okc (ok_iconst (n := 2) X (by decide +kernel) rfl rfl) (
    okc (ok_iadd X (by decide +kernel) rfl) (
    okc (ok_xld X hX hbl hbA hGb (by decide +kernel) rfl) (
    okc (ok_aload_n (j := 0) X (by decide +kernel) rfl rfl) (
    okc (ok_iload_n (j := 3) X (by decide +kernel) rfl rfl) (
    okc (ok_iconst (n := 3) X (by decide +kernel) rfl rfl) (
    okc (ok_iadd X (by decide +kernel) rfl) (
    okc (ok_xld X hX hbl hbA hGb (by decide +kernel) rfl) (
    okc (ok_callVL (ci := 12) (C := RX12) (T := TX12) (N := 63) (Y := (yX12_mend, cX12_mend, 4, (some .int))) X hcal opsS_n hnn hss md_X12_mend rfl (by decide) rfl wc_X12_mend wl_L_35 wi_X12 wm_X12_mend wv_X12_mend (by decide +kernel) (hRm 4 (by decide)) (by decide +kernel) rfl) (
    okc (ok_ceq (off := 981) X (by decide +kernel) (by decide) rfl) (
    okc (ok_iconst (n := 0) X (by decide +kernel) rfl rfl) (
    okc (ok_iret hret (by decide +kernel)) (
    okc (ok_aload_n (j := 1) X (by decide +kernel) rfl rfl) (
    okc (ok_aload_n (j := 0) X (by decide +kernel) rfl rfl) (
    okc (ok_iload_n (j := 3) X (by decide +kernel) rfl rfl) (
    okc (ok_iconst (n := 1) X (by decide +kernel) rfl rfl) (
    okc (ok_iadd X (by decide +kernel) rfl) (
    okc (ok_xld X hX hbl hbA hGb (by decide +kernel) rfl) (
    okc (ok_aload_n (j := 0) X (by decide +kernel) rfl rfl) (
    okc (ok_iload_n (j := 3) X (by decide +kernel) rfl rfl) (
    okc (ok_iconst (n := 2) X (by decide +kernel) rfl rfl) (
    okc (ok_iadd X (by decide +kernel) rfl) (
    okc (ok_xld X hX hbl hbA hGb (by decide +kernel) rfl) (
    okc (ok_callVL (ci := 11) (C := RX11) (T := TX11) (N := 15) (Y := (yX11_of, cX11_of, 3, (some .int))) X hcal opsS_n hnn hss md_X11_of rfl (by decide) rfl wc_X11_of wl_L_36 wi_X11 wm_X11_of wv_X11_of (by decide +kernel) (hRm 3 (by decide)) (by decide +kernel) rfl) (
    okc (ok_aload_n (j := 2) X (by decide +kernel) rfl rfl) (
    okc (ok_aload_n (j := 0) X (by decide +kernel) rfl rfl) (
    okc (ok_iload_n (j := 3) X (by decide +kernel) rfl rfl) (
    okc (ok_iconst (n := 1) X (by decide +kernel) rfl rfl) (
    okc (ok_iadd X (by decide +kernel) rfl) (
    okc (ok_xld X hX hbl hbA hGb (by decide +kernel) rfl) (
    okc (ok_aload_n (j := 0) X (by decide +kernel) rfl rfl) (
    okc (ok_iload_n (j := 3) X (by decide +kernel) rfl rfl) (
    okc (ok_iconst (n := 2) X (by decide +kernel) rfl rfl) (
    okc (ok_iadd X (by decide +kernel) rfl) (
    okc (ok_xld X hX hbl hbA hGb (by decide +kernel) rfl) (
    okc (ok_callVL (ci := 12) (C := RX12) (T := TX12) (N := 63) (Y := (yX12_of, cX12_of, 3, (some .int))) X hcal opsS_n hnn hss md_X12_of rfl (by decide) rfl wc_X12_of wl_L_39 wi_X12 wm_X12_of wv_X12_of (by decide +kernel) (hRm 3 (by decide)) (by decide +kernel) rfl) (
    okc (ok_ceq (off := 948) X (by decide +kernel) (by decide) rfl) (
    okc (ok_iconst (n := 0) X (by decide +kernel) rfl rfl) (
    okc (ok_iret hret (by decide +kernel)) (
    okc (ok_aload_n (j := 1) X (by decide +kernel) rfl rfl) (
    okc (ok_aload_n (j := 0) X (by decide +kernel) rfl rfl) (
    okc (ok_iload_n (j := 3) X (by decide +kernel) rfl rfl) (
    okc (ok_iconst (n := 1) X (by decide +kernel) rfl rfl) (
    okc (ok_iadd X (by decide +kernel) rfl) (
    okc (ok_xld X hX hbl hbA hGb (by decide +kernel) rfl) (
    okc (ok_callVL (ci := 11) (C := RX11) (T := TX11) (N := 15) (Y := (yX11_feed, cX11_feed, 2, (some .int))) X hcal opsS_n hnn hss md_X11_feed rfl (by decide) rfl wc_X11_feed wl_L_40 wi_X11 wm_X11_feed wv_X11_feed (by decide +kernel) (hRm 2 (by decide)) (by decide +kernel) rfl) (
    okc (ok_aload_n (j := 2) X (by decide +kernel) rfl rfl) (
    okc (ok_aload_n (j := 0) X (by decide +kernel) rfl rfl) (
    okc (ok_iload_n (j := 3) X (by decide +kernel) rfl rfl) (
    okc (ok_iconst (n := 1) X (by decide +kernel) rfl rfl) (
    okc (ok_iadd X (by decide +kernel) rfl) (
    okc (ok_xld X hX hbl hbA hGb (by decide +kernel) rfl) (
    okc (ok_callVL (ci := 12) (C := RX12) (T := TX12) (N := 63) (Y := (yX12_feed, cX12_feed, 2, (some .int))) X hcal opsS_n hnn hss md_X12_feed rfl (by decide) rfl wc_X12_feed wl_L_43 wi_X12 wm_X12_feed wv_X12_feed (by decide +kernel) (hRm 2 (by decide)) (by decide +kernel) rfl) (
    okc (ok_ceq (off := 925) X (by decide +kernel) (by decide) rfl) (
    okc (ok_iconst (n := 0) X (by decide +kernel) rfl rfl) (
    okc (ok_iret hret (by decide +kernel)) (
    okc (ok_aload_n (j := 1) X (by decide +kernel) rfl rfl) (
    okc (ok_callVL (ci := 11) (C := RX11) (T := TX11) (N := 15) (Y := (yX11_law, cX11_law, 2, (some .int))) X hcal opsS_n hnn hss md_X11_law rfl (by decide) rfl wc_X11_law wl_L_44 wi_X11 wm_X11_law wv_X11_law (by decide +kernel) (hRm 2 (by decide)) (by decide +kernel) rfl) (
    okc (ok_aload_n (j := 2) X (by decide +kernel) rfl rfl) (
    okc (ok_callVL (ci := 12) (C := RX12) (T := TX12) (N := 63) (Y := (yX12_law, cX12_law, 2, (some .int))) X hcal opsS_n hnn hss md_X12_law rfl (by decide) rfl wc_X12_law wl_L_48 wi_X12 wm_X12_law wv_X12_law (by decide +kernel) (hRm 2 (by decide)) (by decide +kernel) rfl) (
    okc (ok_ceq (off := 912) X (by decide +kernel) (by decide) rfl) (
    okc (ok_iconst (n := 0) X (by decide +kernel) rfl rfl) (
    okc (ok_iret hret (by decide +kernel)) (
    okc (ok_aload_n (j := 1) X (by decide +kernel) rfl rfl) (
    okc (ok_aload_n (j := 0) X (by decide +kernel) rfl rfl) (
    okc (ok_iload_n (j := 3) X (by decide +kernel) rfl rfl) (
    okc (ok_iconst (n := 1) X (by decide +kernel) rfl rfl) (
    okc (ok_iadd X (by decide +kernel) rfl) (
    okc (ok_xld X hX hbl hbA hGb (by decide +kernel) rfl) (
    okc (ok_aload_n (j := 0) X (by decide +kernel) rfl rfl) (
    okc (ok_iload_n (j := 3) X (by decide +kernel) rfl rfl) (
    okc (ok_iconst (n := 2) X (by decide +kernel) rfl rfl) (
    okc (ok_iadd X (by decide +kernel) rfl) (
    okc (ok_xld X hX hbl hbA hGb (by decide +kernel) rfl) (
    okc (ok_callVL (ci := 11) (C := RX11) (T := TX11) (N := 15) (Y := (yX11_go, cX11_go, 3, (some .int))) X hcal opsS_n hnn hss md_X11_go rfl (by decide) rfl wc_X11_go wl_L_49 wi_X11 wm_X11_go wv_X11_go (by decide +kernel) (hRm 3 (by decide)) (by decide +kernel) rfl) (
    okc (ok_aload_n (j := 2) X (by decide +kernel) rfl rfl) (
    okc (ok_aload_n (j := 0) X (by decide +kernel) rfl rfl) (
    okc (ok_iload_n (j := 3) X (by decide +kernel) rfl rfl) (
    okc (ok_iconst (n := 1) X (by decide +kernel) rfl rfl) (
    okc (ok_iadd X (by decide +kernel) rfl) (
    okc (ok_xld X hX hbl hbA hGb (by decide +kernel) rfl) (
    okc (ok_aload_n (j := 0) X (by decide +kernel) rfl rfl) (
    okc (ok_iload_n (j := 3) X (by decide +kernel) rfl rfl) (
    okc (ok_iconst (n := 2) X (by decide +kernel) rfl rfl) (
    okc (ok_iadd X (by decide +kernel) rfl) (
    okc (ok_xld X hX hbl hbA hGb (by decide +kernel) rfl) (
    okc (ok_callVL (ci := 12) (C := RX12) (T := TX12) (N := 63) (Y := (yX12_go, cX12_go, 5, (some .int))) X hcal opsS_n hnn hss md_X12_go rfl (by decide) rfl wc_X12_go wl_L_52 wi_X12 wm_X12_go wv_X12_go (by decide +kernel) (hRm 5 (by decide)) (by decide +kernel) rfl) (
    okc (ok_ceq (off := 879) X (by decide +kernel) (by decide) rfl) (
    okc (ok_iconst (n := 0) X (by decide +kernel) rfl rfl) (
    okc (ok_iret hret (by decide +kernel)) (
    okc (ok_aload_n (j := 1) X (by decide +kernel) rfl rfl) (
    okc (ok_aload_n (j := 0) X (by decide +kernel) rfl rfl) (
    okc (ok_iload_n (j := 3) X (by decide +kernel) rfl rfl) (
    okc (ok_iconst (n := 1) X (by decide +kernel) rfl rfl) (
    okc (ok_iadd X (by decide +kernel) rfl) (
    okc (ok_xld X hX hbl hbA hGb (by decide +kernel) rfl) (
    okc (ok_aload_n (j := 0) X (by decide +kernel) rfl rfl) (
    okc (ok_iload_n (j := 3) X (by decide +kernel) rfl rfl) (
    okc (ok_iconst (n := 2) X (by decide +kernel) rfl rfl) (
    okc (ok_iadd X (by decide +kernel) rfl) (
    okc (ok_xld X hX hbl hbA hGb (by decide +kernel) rfl) (
    okc (ok_callVL (ci := 11) (C := RX11) (T := TX11) (N := 15) (Y := (yX11_move, cX11_move, 3, (some .int))) X hcal opsS_n hnn hss md_X11_move rfl (by decide) rfl wc_X11_move wl_L_53 wi_X11 wm_X11_move wv_X11_move (by decide +kernel) (hRm 3 (by decide)) (by decide +kernel) rfl) (
    okc (ok_aload_n (j := 2) X (by decide +kernel) rfl rfl) (
    okc (ok_aload_n (j := 0) X (by decide +kernel) rfl rfl) (
    okc (ok_iload_n (j := 3) X (by decide +kernel) rfl rfl) (
    okc (ok_iconst (n := 1) X (by decide +kernel) rfl rfl) (
    okc (ok_iadd X (by decide +kernel) rfl) (
    okc (ok_xld X hX hbl hbA hGb (by decide +kernel) rfl) (
    okc (ok_aload_n (j := 0) X (by decide +kernel) rfl rfl) (
    okc (ok_iload_n (j := 3) X (by decide +kernel) rfl rfl) (
    okc (ok_iconst (n := 2) X (by decide +kernel) rfl rfl) (
    okc (ok_iadd X (by decide +kernel) rfl) (
    okc (ok_xld X hX hbl hbA hGb (by decide +kernel) rfl) (
    okc (ok_callVL (ci := 12) (C := RX12) (T := TX12) (N := 63) (Y := (yX12_move, cX12_move, 3, (some .int))) X hcal opsS_n hnn hss md_X12_move rfl (by decide) rfl wc_X12_move wl_L_56 wi_X12 wm_X12_move wv_X12_move (by decide +kernel) (hRm 3 (by decide)) (by decide +kernel) rfl) (
    okc (ok_ceq (off := 846) X (by decide +kernel) (by decide) rfl) (
    okc (ok_iconst (n := 0) X (by decide +kernel) rfl rfl) (
    okc (ok_iret hret (by decide +kernel)) (
    okc (ok_aload_n (j := 1) X (by decide +kernel) rfl rfl) (
    okc (ok_aload_n (j := 0) X (by decide +kernel) rfl rfl) (
    okc (ok_iload_n (j := 3) X (by decide +kernel) rfl rfl) (
    okc (ok_iconst (n := 1) X (by decide +kernel) rfl rfl) (
    okc (ok_iadd X (by decide +kernel) rfl) (
    okc (ok_xld X hX hbl hbA hGb (by decide +kernel) rfl) (
    okc (ok_callVL (ci := 11) (C := RX11) (T := TX11) (N := 15) (Y := (yX11_lay, cX11_lay, 2, (some .int))) X hcal opsS_n hnn hss md_X11_lay rfl (by decide) rfl wc_X11_lay wl_L_57 wi_X11 wm_X11_lay wv_X11_lay (by decide +kernel) (hRm 2 (by decide)) (by decide +kernel) rfl) (
    okc (ok_aload_n (j := 2) X (by decide +kernel) rfl rfl) (
    okc (ok_aload_n (j := 0) X (by decide +kernel) rfl rfl) (
    okc (ok_iload_n (j := 3) X (by decide +kernel) rfl rfl) (
    okc (ok_iconst (n := 1) X (by decide +kernel) rfl rfl) (
    okc (ok_iadd X (by decide +kernel) rfl) (
    okc (ok_xld X hX hbl hbA hGb (by decide +kernel) rfl) (
    okc (ok_callVL (ci := 12) (C := RX12) (T := TX12) (N := 63) (Y := (yX12_lay, cX12_lay, 2, (some .int))) X hcal opsS_n hnn hss md_X12_lay rfl (by decide) rfl wc_X12_lay wl_L_60 wi_X12 wm_X12_lay wv_X12_lay (by decide +kernel) (hRm 2 (by decide)) (by decide +kernel) rfl) (
    okc (ok_ceq (off := 823) X (by decide +kernel) (by decide) rfl) (
    okc (ok_iconst (n := 0) X (by decide +kernel) rfl rfl) (
    okc (ok_iret hret (by decide +kernel)) (
    okc (ok_aload_n (j := 1) X (by decide +kernel) rfl rfl) (
    okc (ok_callVL (ci := 11) (C := RX11) (T := TX11) (N := 15) (Y := (yX11_commands, cX11_commands, 1, (some .int))) X hcal opsS_n hnn hss md_X11_commands rfl (by decide) rfl wc_X11_commands wl_L_61 wi_X11 wm_X11_commands wv_X11_commands (by decide +kernel) (hRm 1 (by decide)) (by decide +kernel) rfl) (
    okc (ok_aload_n (j := 2) X (by decide +kernel) rfl rfl) (
    okc (ok_callVL (ci := 12) (C := RX12) (T := TX12) (N := 63) (Y := (yX12_commands, cX12_commands, 1, (some .int))) X hcal opsS_n hnn hss md_X12_commands rfl (by decide) rfl wc_X12_commands wl_L_64 wi_X12 wm_X12_commands wv_X12_commands (by decide +kernel) (hRm 1 (by decide)) (by decide +kernel) rfl) (
    okc (ok_ceq (off := 810) X (by decide +kernel) (by decide) rfl) (
    okc (ok_iconst (n := 0) X (by decide +kernel) rfl rfl) (
    okc (ok_iret hret (by decide +kernel)) (
    okc (ok_aload_n (j := 1) X (by decide +kernel) rfl rfl) (
    okc (ok_aload_n (j := 0) X (by decide +kernel) rfl rfl) (
    okc (ok_iload_n (j := 3) X (by decide +kernel) rfl rfl) (
    okc (ok_iconst (n := 1) X (by decide +kernel) rfl rfl) (
    okc (ok_iadd X (by decide +kernel) rfl) (
    okc (ok_xld X hX hbl hbA hGb (by decide +kernel) rfl) (
    okc (ok_callVL (ci := 11) (C := RX11) (T := TX11) (N := 15) (Y := (yX11_led, cX11_led, 2, (some .int))) X hcal opsS_n hnn hss md_X11_led rfl (by decide) rfl wc_X11_led wl_L_65 wi_X11 wm_X11_led wv_X11_led (by decide +kernel) (hRm 2 (by decide)) (by decide +kernel) rfl) (
    okc (ok_aload_n (j := 2) X (by decide +kernel) rfl rfl) (
    okc (ok_aload_n (j := 0) X (by decide +kernel) rfl rfl) (
    okc (ok_iload_n (j := 3) X (by decide +kernel) rfl rfl) (
    okc (ok_iconst (n := 1) X (by decide +kernel) rfl rfl) (
    okc (ok_iadd X (by decide +kernel) rfl) (
    okc (ok_xld X hX hbl hbA hGb (by decide +kernel) rfl) (
    okc (ok_callVL (ci := 12) (C := RX12) (T := TX12) (N := 63) (Y := (yX12_led, cX12_led, 2, (some .int))) X hcal opsS_n hnn hss md_X12_led rfl (by decide) rfl wc_X12_led wl_L_68 wi_X12 wm_X12_led wv_X12_led (by decide +kernel) (hRm 2 (by decide)) (by decide +kernel) rfl) (
    okc (ok_ceq (off := 787) X (by decide +kernel) (by decide) rfl) (
    okc (ok_iconst (n := 0) X (by decide +kernel) rfl rfl) (
    okc (ok_iret hret (by decide +kernel)) (
    okc (ok_aload_n (j := 1) X (by decide +kernel) rfl rfl) (
    okc (ok_aload_n (j := 0) X (by decide +kernel) rfl rfl) (
    okc (ok_iload_n (j := 3) X (by decide +kernel) rfl rfl) (
    okc (ok_iconst (n := 1) X (by decide +kernel) rfl rfl) (
    okc (ok_iadd X (by decide +kernel) rfl) (
    okc (ok_xld X hX hbl hbA hGb (by decide +kernel) rfl) (
    okc (ok_aload_n (j := 0) X (by decide +kernel) rfl rfl) (
    okc (ok_iload_n (j := 3) X (by decide +kernel) rfl rfl) (
    okc (ok_iconst (n := 2) X (by decide +kernel) rfl rfl) (
    okc (ok_iadd X (by decide +kernel) rfl) (
    okc (ok_xld X hX hbl hbA hGb (by decide +kernel) rfl) (
    okc (ok_callVL (ci := 11) (C := RX11) (T := TX11) (N := 15) (Y := (yX11_risk, cX11_risk, 4, (some .int))) X hcal opsS_n hnn hss md_X11_risk rfl (by decide) rfl wc_X11_risk wl_L_69 wi_X11 wm_X11_risk wv_X11_risk (by decide +kernel) (hRm 4 (by decide)) (by decide +kernel) rfl) (
    okc (ok_aload_n (j := 2) X (by decide +kernel) rfl rfl) (
    okc (ok_aload_n (j := 0) X (by decide +kernel) rfl rfl) (
    okc (ok_iload_n (j := 3) X (by decide +kernel) rfl rfl) (
    okc (ok_iconst (n := 1) X (by decide +kernel) rfl rfl) (
    okc (ok_iadd X (by decide +kernel) rfl) (
    okc (ok_xld X hX hbl hbA hGb (by decide +kernel) rfl) (
    okc (ok_aload_n (j := 0) X (by decide +kernel) rfl rfl) (
    okc (ok_iload_n (j := 3) X (by decide +kernel) rfl rfl) (
    okc (ok_iconst (n := 2) X (by decide +kernel) rfl rfl) (
    okc (ok_iadd X (by decide +kernel) rfl) (
    okc (ok_xld X hX hbl hbA hGb (by decide +kernel) rfl) (
    okc (ok_callVL (ci := 12) (C := RX12) (T := TX12) (N := 63) (Y := (yX12_risk, cX12_risk, 4, (some .int))) X hcal opsS_n hnn hss md_X12_risk rfl (by decide) rfl wc_X12_risk wl_L_72 wi_X12 wm_X12_risk wv_X12_risk (by decide +kernel) (hRm 4 (by decide)) (by decide +kernel) rfl) (
    okc (ok_ceq (off := 754) X (by decide +kernel) (by decide) rfl) (
    okc (ok_iconst (n := 0) X (by decide +kernel) rfl rfl) (
    okc (ok_iret hret (by decide +kernel)) (
    okc (ok_aload_n (j := 1) X (by decide +kernel) rfl rfl) (
    okc (ok_aload_n (j := 0) X (by decide +kernel) rfl rfl) (
    okc (ok_iload_n (j := 3) X (by decide +kernel) rfl rfl) (
    okc (ok_iconst (n := 1) X (by decide +kernel) rfl rfl) (
    okc (ok_iadd X (by decide +kernel) rfl) (
    okc (ok_xld X hX hbl hbA hGb (by decide +kernel) rfl) (
    okc (ok_aload_n (j := 0) X (by decide +kernel) rfl rfl) (
    okc (ok_iload_n (j := 3) X (by decide +kernel) rfl rfl) (
    okc (ok_iconst (n := 2) X (by decide +kernel) rfl rfl) (
    okc (ok_iadd X (by decide +kernel) rfl) (
    okc (ok_xld X hX hbl hbA hGb (by decide +kernel) rfl) (
    okc (ok_aload_n (j := 0) X (by decide +kernel) rfl rfl) (
    okc (ok_iload_n (j := 3) X (by decide +kernel) rfl rfl) (
    okc (ok_iconst (n := 3) X (by decide +kernel) rfl rfl) (
    okc (ok_iadd X (by decide +kernel) rfl) (
    okc (ok_xld X hX hbl hbA hGb (by decide +kernel) rfl) (
    okc (ok_callVL (ci := 11) (C := RX11) (T := TX11) (N := 15) (Y := (yX11_walk, cX11_walk, 5, (some .int))) X hcal opsS_n hnn hss md_X11_walk rfl (by decide) rfl wc_X11_walk wl_L_73 wi_X11 wm_X11_walk wv_X11_walk (by decide +kernel) (hRm 5 (by decide)) (by decide +kernel) rfl) (
    okc (ok_aload_n (j := 2) X (by decide +kernel) rfl rfl) (
    okc (ok_aload_n (j := 0) X (by decide +kernel) rfl rfl) (
    okc (ok_iload_n (j := 3) X (by decide +kernel) rfl rfl) (
    okc (ok_iconst (n := 1) X (by decide +kernel) rfl rfl) (
    okc (ok_iadd X (by decide +kernel) rfl) (
    okc (ok_xld X hX hbl hbA hGb (by decide +kernel) rfl) (
    okc (ok_aload_n (j := 0) X (by decide +kernel) rfl rfl) (
    okc (ok_iload_n (j := 3) X (by decide +kernel) rfl rfl) (
    okc (ok_iconst (n := 2) X (by decide +kernel) rfl rfl) (
    okc (ok_iadd X (by decide +kernel) rfl) (
    okc (ok_xld X hX hbl hbA hGb (by decide +kernel) rfl) (
    okc (ok_aload_n (j := 0) X (by decide +kernel) rfl rfl) (
    okc (ok_iload_n (j := 3) X (by decide +kernel) rfl rfl) (
    okc (ok_iconst (n := 3) X (by decide +kernel) rfl rfl) (
    okc (ok_iadd X (by decide +kernel) rfl) (
    okc (ok_xld X hX hbl hbA hGb (by decide +kernel) rfl) (
    okc (ok_callVL (ci := 12) (C := RX12) (T := TX12) (N := 63) (Y := (yX12_walk, cX12_walk, 8, (some .int))) X hcal opsS_n hnn hss md_X12_walk rfl (by decide) rfl wc_X12_walk wl_L_76 wi_X12 wm_X12_walk wv_X12_walk (by decide +kernel) (hRm 8 (by decide)) (by decide +kernel) rfl) (
    okc (ok_ceq (off := 711) X (by decide +kernel) (by decide) rfl) (
    okc (ok_iconst (n := 0) X (by decide +kernel) rfl rfl) (
    okc (ok_iret hret (by decide +kernel)) (
    okc (ok_aload_n (j := 1) X (by decide +kernel) rfl rfl) (
    okc (ok_aload_n (j := 0) X (by decide +kernel) rfl rfl) (
    okc (ok_iload_n (j := 3) X (by decide +kernel) rfl rfl) (
    okc (ok_iconst (n := 1) X (by decide +kernel) rfl rfl) (
    okc (ok_iadd X (by decide +kernel) rfl) (
    okc (ok_xld X hX hbl hbA hGb (by decide +kernel) rfl) (
    okc (ok_aload_n (j := 0) X (by decide +kernel) rfl rfl) (
    okc (ok_iload_n (j := 3) X (by decide +kernel) rfl rfl) (
    okc (ok_iconst (n := 2) X (by decide +kernel) rfl rfl) (
    okc (ok_iadd X (by decide +kernel) rfl) (
    okc (ok_xld X hX hbl hbA hGb (by decide +kernel) rfl) (
    okc (ok_aload_n (j := 0) X (by decide +kernel) rfl rfl) (
    okc (ok_iload_n (j := 3) X (by decide +kernel) rfl rfl) (
    okc (ok_iconst (n := 3) X (by decide +kernel) rfl rfl) (
    okc (ok_iadd X (by decide +kernel) rfl) (
    okc (ok_xld X hX hbl hbA hGb (by decide +kernel) rfl) (
    okc (ok_callVL (ci := 11) (C := RX11) (T := TX11) (N := 15) (Y := (yX11_chance, cX11_chance, 6, (some .long))) X hcal opsS_n hnn hss md_X11_chance rfl (by decide) rfl wc_X11_chance wl_L_77 wi_X11 wm_X11_chance wv_X11_chance (by decide +kernel) (hRm 6 (by decide)) (by decide +kernel) rfl) (
    okc (ok_aload_n (j := 2) X (by decide +kernel) rfl rfl) (
    okc (ok_aload_n (j := 0) X (by decide +kernel) rfl rfl) (
    okc (ok_iload_n (j := 3) X (by decide +kernel) rfl rfl) (
    okc (ok_iconst (n := 1) X (by decide +kernel) rfl rfl) (
    okc (ok_iadd X (by decide +kernel) rfl) (
    okc (ok_xld X hX hbl hbA hGb (by decide +kernel) rfl) (
    okc (ok_aload_n (j := 0) X (by decide +kernel) rfl rfl) (
    okc (ok_iload_n (j := 3) X (by decide +kernel) rfl rfl) (
    okc (ok_iconst (n := 2) X (by decide +kernel) rfl rfl) (
    okc (ok_iadd X (by decide +kernel) rfl) (
    okc (ok_xld X hX hbl hbA hGb (by decide +kernel) rfl) (
    okc (ok_aload_n (j := 0) X (by decide +kernel) rfl rfl) (
    okc (ok_iload_n (j := 3) X (by decide +kernel) rfl rfl) (
    okc (ok_iconst (n := 3) X (by decide +kernel) rfl rfl) (
    okc (ok_iadd X (by decide +kernel) rfl) (
    okc (ok_xld X hX hbl hbA hGb (by decide +kernel) rfl) (
    okc (ok_callVL (ci := 12) (C := RX12) (T := TX12) (N := 63) (Y := (yX12_chance, cX12_chance, 4, (some .long))) X hcal opsS_n hnn hss md_X12_chance rfl (by decide) rfl wc_X12_chance wl_L_81 wi_X12 wm_X12_chance wv_X12_chance (by decide +kernel) (hRm 4 (by decide)) (by decide +kernel) rfl) (
    okc (ok_lcmp X (by decide +kernel) rfl) (
    okc (ok_ifeq (off := 667) X (by decide +kernel) (by decide) rfl) (
    okc (ok_iconst (n := 0) X (by decide +kernel) rfl rfl) (
    okc (ok_iret hret (by decide +kernel)) (
    okc (ok_aload_n (j := 1) X (by decide +kernel) rfl rfl) (
    okc (ok_aload_n (j := 0) X (by decide +kernel) rfl rfl) (
    okc (ok_iload_n (j := 3) X (by decide +kernel) rfl rfl) (
    okc (ok_iconst (n := 1) X (by decide +kernel) rfl rfl) (
    okc (ok_iadd X (by decide +kernel) rfl) (
    okc (ok_xld X hX hbl hbA hGb (by decide +kernel) rfl) (
    okc (ok_aload_n (j := 0) X (by decide +kernel) rfl rfl) (
    okc (ok_iload_n (j := 3) X (by decide +kernel) rfl rfl) (
    okc (ok_iconst (n := 2) X (by decide +kernel) rfl rfl) (
    okc (ok_iadd X (by decide +kernel) rfl) (
    okc (ok_xld X hX hbl hbA hGb (by decide +kernel) rfl) (
    okc (ok_aload_n (j := 0) X (by decide +kernel) rfl rfl) (
    okc (ok_iload_n (j := 3) X (by decide +kernel) rfl rfl) (
    okc (ok_iconst (n := 3) X (by decide +kernel) rfl rfl) (
    okc (ok_iadd X (by decide +kernel) rfl) (
    okc (ok_xld X hX hbl hbA hGb (by decide +kernel) rfl) (
    okc (ok_callVL (ci := 11) (C := RX11) (T := TX11) (N := 15) (Y := (yX11_mean, cX11_mean, 6, (some .long))) X hcal opsS_n hnn hss md_X11_mean rfl (by decide) rfl wc_X11_mean wl_L_82 wi_X11 wm_X11_mean wv_X11_mean (by decide +kernel) (hRm 6 (by decide)) (by decide +kernel) rfl) (
    okc (ok_aload_n (j := 2) X (by decide +kernel) rfl rfl) (
    okc (ok_aload_n (j := 0) X (by decide +kernel) rfl rfl) (
    okc (ok_iload_n (j := 3) X (by decide +kernel) rfl rfl) (
    okc (ok_iconst (n := 1) X (by decide +kernel) rfl rfl) (
    okc (ok_iadd X (by decide +kernel) rfl) (
    okc (ok_xld X hX hbl hbA hGb (by decide +kernel) rfl) (
    okc (ok_aload_n (j := 0) X (by decide +kernel) rfl rfl) (
    okc (ok_iload_n (j := 3) X (by decide +kernel) rfl rfl) (
    okc (ok_iconst (n := 2) X (by decide +kernel) rfl rfl) (
    okc (ok_iadd X (by decide +kernel) rfl) (
    okc (ok_xld X hX hbl hbA hGb (by decide +kernel) rfl) (
    okc (ok_aload_n (j := 0) X (by decide +kernel) rfl rfl) (
    okc (ok_iload_n (j := 3) X (by decide +kernel) rfl rfl) (
    okc (ok_iconst (n := 3) X (by decide +kernel) rfl rfl) (
    okc (ok_iadd X (by decide +kernel) rfl) (
    okc (ok_xld X hX hbl hbA hGb (by decide +kernel) rfl) (
    okc (ok_callVL (ci := 12) (C := RX12) (T := TX12) (N := 63) (Y := (yX12_mean, cX12_mean, 4, (some .long))) X hcal opsS_n hnn hss md_X12_mean rfl (by decide) rfl wc_X12_mean wl_L_85 wi_X12 wm_X12_mean wv_X12_mean (by decide +kernel) (hRm 4 (by decide)) (by decide +kernel) rfl) (
    okc (ok_lcmp X (by decide +kernel) rfl) (
    okc (ok_ifeq (off := 623) X (by decide +kernel) (by decide) rfl) (
    okc (ok_iconst (n := 0) X (by decide +kernel) rfl rfl) (
    okc (ok_iret hret (by decide +kernel)) (
    okc (ok_aload_n (j := 1) X (by decide +kernel) rfl rfl) (
    okc (ok_aload_n (j := 0) X (by decide +kernel) rfl rfl) (
    okc (ok_iload_n (j := 3) X (by decide +kernel) rfl rfl) (
    okc (ok_iconst (n := 1) X (by decide +kernel) rfl rfl) (
    okc (ok_iadd X (by decide +kernel) rfl) (
    okc (ok_xld X hX hbl hbA hGb (by decide +kernel) rfl) (
    okc (ok_aload_n (j := 0) X (by decide +kernel) rfl rfl) (
    okc (ok_iload_n (j := 3) X (by decide +kernel) rfl rfl) (
    okc (ok_iconst (n := 2) X (by decide +kernel) rfl rfl) (
    okc (ok_iadd X (by decide +kernel) rfl) (
    okc (ok_xld X hX hbl hbA hGb (by decide +kernel) rfl) (
    okc (ok_callVL (ci := 11) (C := RX11) (T := TX11) (N := 15) (Y := (yX11_stand, cX11_stand, 8, (some .int))) X hcal opsS_n hnn hss md_X11_stand rfl (by decide) rfl wc_X11_stand wl_L_86 wi_X11 wm_X11_stand wv_X11_stand (by decide +kernel) (hRm 8 (by decide)) (by decide +kernel) rfl) (
    okc (ok_aload_n (j := 2) X (by decide +kernel) rfl rfl) (
    okc (ok_aload_n (j := 0) X (by decide +kernel) rfl rfl) (
    okc (ok_iload_n (j := 3) X (by decide +kernel) rfl rfl) (
    okc (ok_iconst (n := 1) X (by decide +kernel) rfl rfl) (
    okc (ok_iadd X (by decide +kernel) rfl) (
    okc (ok_xld X hX hbl hbA hGb (by decide +kernel) rfl) (
    okc (ok_aload_n (j := 0) X (by decide +kernel) rfl rfl) (
    okc (ok_iload_n (j := 3) X (by decide +kernel) rfl rfl) (
    okc (ok_iconst (n := 2) X (by decide +kernel) rfl rfl) (
    okc (ok_iadd X (by decide +kernel) rfl) (
    okc (ok_xld X hX hbl hbA hGb (by decide +kernel) rfl) (
    okc (ok_callVL (ci := 12) (C := RX12) (T := TX12) (N := 63) (Y := (yX12_stand, cX12_stand, 7, (some .int))) X hcal opsS_n hnn hss md_X12_stand rfl (by decide) rfl wc_X12_stand wl_L_89 wi_X12 wm_X12_stand wv_X12_stand (by decide +kernel) (hRm 7 (by decide)) (by decide +kernel) rfl) (
    okc (ok_ceq (off := 590) X (by decide +kernel) (by decide) rfl) (
    okc (ok_iconst (n := 0) X (by decide +kernel) rfl rfl) (
    okc (ok_iret hret (by decide +kernel)) (
    okc (ok_aload_n (j := 1) X (by decide +kernel) rfl rfl) (
    okc (ok_aload_n (j := 0) X (by decide +kernel) rfl rfl) (
    okc (ok_iload_n (j := 3) X (by decide +kernel) rfl rfl) (
    okc (ok_iconst (n := 1) X (by decide +kernel) rfl rfl) (
    okc (ok_iadd X (by decide +kernel) rfl) (
    okc (ok_xld X hX hbl hbA hGb (by decide +kernel) rfl) (
    okc (ok_aload_n (j := 0) X (by decide +kernel) rfl rfl) (
    okc (ok_iload_n (j := 3) X (by decide +kernel) rfl rfl) (
    okc (ok_iconst (n := 2) X (by decide +kernel) rfl rfl) (
    okc (ok_iadd X (by decide +kernel) rfl) (
    okc (ok_xld X hX hbl hbA hGb (by decide +kernel) rfl) (
    okc (ok_callVL (ci := 11) (C := RX11) (T := TX11) (N := 15) (Y := (yX11_heavy, cX11_heavy, 4, (some .int))) X hcal opsS_n hnn hss md_X11_heavy rfl (by decide) rfl wc_X11_heavy wl_L_90 wi_X11 wm_X11_heavy wv_X11_heavy (by decide +kernel) (hRm 4 (by decide)) (by decide +kernel) rfl) (
    okc (ok_aload_n (j := 2) X (by decide +kernel) rfl rfl) (
    okc (ok_aload_n (j := 0) X (by decide +kernel) rfl rfl) (
    okc (ok_iload_n (j := 3) X (by decide +kernel) rfl rfl) (
    okc (ok_iconst (n := 1) X (by decide +kernel) rfl rfl) (
    okc (ok_iadd X (by decide +kernel) rfl) (
    okc (ok_xld X hX hbl hbA hGb (by decide +kernel) rfl) (
    okc (ok_aload_n (j := 0) X (by decide +kernel) rfl rfl) (
    okc (ok_iload_n (j := 3) X (by decide +kernel) rfl rfl) (
    okc (ok_iconst (n := 2) X (by decide +kernel) rfl rfl) (
    okc (ok_iadd X (by decide +kernel) rfl) (
    okc (ok_xld X hX hbl hbA hGb (by decide +kernel) rfl) (
    okc (ok_callVL (ci := 12) (C := RX12) (T := TX12) (N := 63) (Y := (yX12_heavy, cX12_heavy, 4, (some .int))) X hcal opsS_n hnn hss md_X12_heavy rfl (by decide) rfl wc_X12_heavy wl_L_93 wi_X12 wm_X12_heavy wv_X12_heavy (by decide +kernel) (hRm 4 (by decide)) (by decide +kernel) rfl) (
    okc (ok_ceq (off := 557) X (by decide +kernel) (by decide) rfl) (
    okc (ok_iconst (n := 0) X (by decide +kernel) rfl rfl) (
    okc (ok_iret hret (by decide +kernel)) (
    okc (ok_aload_n (j := 1) X (by decide +kernel) rfl rfl) (
    okc (ok_aload_n (j := 0) X (by decide +kernel) rfl rfl) (
    okc (ok_iload_n (j := 3) X (by decide +kernel) rfl rfl) (
    okc (ok_iconst (n := 1) X (by decide +kernel) rfl rfl) (
    okc (ok_iadd X (by decide +kernel) rfl) (
    okc (ok_xld X hX hbl hbA hGb (by decide +kernel) rfl) (
    okc (ok_aload_n (j := 0) X (by decide +kernel) rfl rfl) (
    okc (ok_iload_n (j := 3) X (by decide +kernel) rfl rfl) (
    okc (ok_iconst (n := 2) X (by decide +kernel) rfl rfl) (
    okc (ok_iadd X (by decide +kernel) rfl) (
    okc (ok_xld X hX hbl hbA hGb (by decide +kernel) rfl) (
    okc (ok_aload_n (j := 0) X (by decide +kernel) rfl rfl) (
    okc (ok_iload_n (j := 3) X (by decide +kernel) rfl rfl) (
    okc (ok_iconst (n := 3) X (by decide +kernel) rfl rfl) (
    okc (ok_iadd X (by decide +kernel) rfl) (
    okc (ok_xld X hX hbl hbA hGb (by decide +kernel) rfl) (
    okc (ok_aload_n (j := 0) X (by decide +kernel) rfl rfl) (
    okc (ok_iload_n (j := 3) X (by decide +kernel) rfl rfl) (
    okc (ok_iconst (n := 4) X (by decide +kernel) rfl rfl) (
    okc (ok_iadd X (by decide +kernel) rfl) (
    okc (ok_xld X hX hbl hbA hGb (by decide +kernel) rfl) (
    okc (ok_callVL (ci := 11) (C := RX11) (T := TX11) (N := 15) (Y := (yX11_ahead, cX11_ahead, 7, (some .int))) X hcal opsS_n hnn hss md_X11_ahead rfl (by decide) rfl wc_X11_ahead wl_L_94 wi_X11 wm_X11_ahead wv_X11_ahead (by decide +kernel) (hRm 7 (by decide)) (by decide +kernel) rfl) (
    okc (ok_aload_n (j := 2) X (by decide +kernel) rfl rfl) (
    okc (ok_aload_n (j := 0) X (by decide +kernel) rfl rfl) (
    okc (ok_iload_n (j := 3) X (by decide +kernel) rfl rfl) (
    okc (ok_iconst (n := 1) X (by decide +kernel) rfl rfl) (
    okc (ok_iadd X (by decide +kernel) rfl) (
    okc (ok_xld X hX hbl hbA hGb (by decide +kernel) rfl) (
    okc (ok_aload_n (j := 0) X (by decide +kernel) rfl rfl) (
    okc (ok_iload_n (j := 3) X (by decide +kernel) rfl rfl) (
    okc (ok_iconst (n := 2) X (by decide +kernel) rfl rfl) (
    okc (ok_iadd X (by decide +kernel) rfl) (
    okc (ok_xld X hX hbl hbA hGb (by decide +kernel) rfl) (
    okc (ok_aload_n (j := 0) X (by decide +kernel) rfl rfl) (
    okc (ok_iload_n (j := 3) X (by decide +kernel) rfl rfl) (
    okc (ok_iconst (n := 3) X (by decide +kernel) rfl rfl) (
    okc (ok_iadd X (by decide +kernel) rfl) (
    okc (ok_xld X hX hbl hbA hGb (by decide +kernel) rfl) (
    okc (ok_aload_n (j := 0) X (by decide +kernel) rfl rfl) (
    okc (ok_iload_n (j := 3) X (by decide +kernel) rfl rfl) (
    okc (ok_iconst (n := 4) X (by decide +kernel) rfl rfl) (
    okc (ok_iadd X (by decide +kernel) rfl) (
    okc (ok_xld X hX hbl hbA hGb (by decide +kernel) rfl) (
    okc (ok_callVL (ci := 12) (C := RX12) (T := TX12) (N := 63) (Y := (yX12_ahead, cX12_ahead, 7, (some .int))) X hcal opsS_n hnn hss md_X12_ahead rfl (by decide) rfl wc_X12_ahead wl_L_98 wi_X12 wm_X12_ahead wv_X12_ahead (by decide +kernel) (hRm 7 (by decide)) (by decide +kernel) rfl) (
    okc (ok_ceq (off := 504) X (by decide +kernel) (by decide) rfl) (
    okc (ok_iconst (n := 0) X (by decide +kernel) rfl rfl) (
    okc (ok_iret hret (by decide +kernel)) (
    okc (ok_aload_n (j := 1) X (by decide +kernel) rfl rfl) (
    okc (ok_aload_n (j := 0) X (by decide +kernel) rfl rfl) (
    okc (ok_iload_n (j := 3) X (by decide +kernel) rfl rfl) (
    okc (ok_iconst (n := 1) X (by decide +kernel) rfl rfl) (
    okc (ok_iadd X (by decide +kernel) rfl) (
    okc (ok_xld X hX hbl hbA hGb (by decide +kernel) rfl) (
    okc (ok_callVL (ci := 11) (C := RX11) (T := TX11) (N := 15) (Y := (yX11_storm, cX11_storm, 5, (some .int))) X hcal opsS_n hnn hss md_X11_storm rfl (by decide) rfl wc_X11_storm wl_L_99 wi_X11 wm_X11_storm wv_X11_storm (by decide +kernel) (hRm 5 (by decide)) (by decide +kernel) rfl) (
    okc (ok_aload_n (j := 2) X (by decide +kernel) rfl rfl) (
    okc (ok_aload_n (j := 0) X (by decide +kernel) rfl rfl) (
    okc (ok_iload_n (j := 3) X (by decide +kernel) rfl rfl) (
    okc (ok_iconst (n := 1) X (by decide +kernel) rfl rfl) (
    okc (ok_iadd X (by decide +kernel) rfl) (
    okc (ok_xld X hX hbl hbA hGb (by decide +kernel) rfl) (
    okc (ok_callVL (ci := 12) (C := RX12) (T := TX12) (N := 63) (Y := (yX12_storm, cX12_storm, 4, (some .int))) X hcal opsS_n hnn hss md_X12_storm rfl (by decide) rfl wc_X12_storm wl_L_102 wi_X12 wm_X12_storm wv_X12_storm (by decide +kernel) (hRm 4 (by decide)) (by decide +kernel) rfl) (
    okc (ok_ceq (off := 481) X (by decide +kernel) (by decide) rfl) (
    okc (ok_iconst (n := 0) X (by decide +kernel) rfl rfl) (
    okc (ok_iret hret (by decide +kernel)) (
    okc (ok_aload_n (j := 1) X (by decide +kernel) rfl rfl) (
    okc (ok_aload_n (j := 0) X (by decide +kernel) rfl rfl) (
    okc (ok_iload_n (j := 3) X (by decide +kernel) rfl rfl) (
    okc (ok_iconst (n := 1) X (by decide +kernel) rfl rfl) (
    okc (ok_iadd X (by decide +kernel) rfl) (
    okc (ok_xld X hX hbl hbA hGb (by decide +kernel) rfl) (
    okc (ok_aload_n (j := 0) X (by decide +kernel) rfl rfl) (
    okc (ok_iload_n (j := 3) X (by decide +kernel) rfl rfl) (
    okc (ok_iconst (n := 2) X (by decide +kernel) rfl rfl) (
    okc (ok_iadd X (by decide +kernel) rfl) (
    okc (ok_xld X hX hbl hbA hGb (by decide +kernel) rfl) (
    okc (ok_callVL (ci := 11) (C := RX11) (T := TX11) (N := 15) (Y := (yX11_seeded, cX11_seeded, 4, (some .int))) X hcal opsS_n hnn hss md_X11_seeded rfl (by decide) rfl wc_X11_seeded wl_L_103 wi_X11 wm_X11_seeded wv_X11_seeded (by decide +kernel) (hRm 4 (by decide)) (by decide +kernel) rfl) (
    okc (ok_aload_n (j := 2) X (by decide +kernel) rfl rfl) (
    okc (ok_aload_n (j := 0) X (by decide +kernel) rfl rfl) (
    okc (ok_iload_n (j := 3) X (by decide +kernel) rfl rfl) (
    okc (ok_iconst (n := 1) X (by decide +kernel) rfl rfl) (
    okc (ok_iadd X (by decide +kernel) rfl) (
    okc (ok_xld X hX hbl hbA hGb (by decide +kernel) rfl) (
    okc (ok_aload_n (j := 0) X (by decide +kernel) rfl rfl) (
    okc (ok_iload_n (j := 3) X (by decide +kernel) rfl rfl) (
    okc (ok_iconst (n := 2) X (by decide +kernel) rfl rfl) (
    okc (ok_iadd X (by decide +kernel) rfl) (
    okc (ok_xld X hX hbl hbA hGb (by decide +kernel) rfl) (
    okc (ok_callVL (ci := 12) (C := RX12) (T := TX12) (N := 63) (Y := (yX12_seeded, cX12_seeded, 6, (some .int))) X hcal opsS_n hnn hss md_X12_seeded rfl (by decide) rfl wc_X12_seeded wl_L_106 wi_X12 wm_X12_seeded wv_X12_seeded (by decide +kernel) (hRm 6 (by decide)) (by decide +kernel) rfl) (
    okc (ok_ceq (off := 448) X (by decide +kernel) (by decide) rfl) (
    okc (ok_iconst (n := 0) X (by decide +kernel) rfl rfl) (
    okc (ok_iret hret (by decide +kernel)) (
    okc (ok_aload_n (j := 1) X (by decide +kernel) rfl rfl) (
    okc (ok_callVL (ci := 11) (C := RX11) (T := TX11) (N := 15) (Y := (yX11_image, cX11_image, 1, (some .int))) X hcal opsS_n hnn hss md_X11_image rfl (by decide) rfl wc_X11_image wl_L_107 wi_X11 wm_X11_image wv_X11_image (by decide +kernel) (hRm 1 (by decide)) (by decide +kernel) rfl) (
    okc (ok_aload_n (j := 2) X (by decide +kernel) rfl rfl) (
    okc (ok_callVL (ci := 12) (C := RX12) (T := TX12) (N := 63) (Y := (yX12_image, cX12_image, 2, (some .int))) X hcal opsS_n hnn hss md_X12_image rfl (by decide) rfl wc_X12_image wl_L_110 wi_X12 wm_X12_image wv_X12_image (by decide +kernel) (hRm 2 (by decide)) (by decide +kernel) rfl) (
    okc (ok_ceq (off := 435) X (by decide +kernel) (by decide) rfl) (
    okc (ok_iconst (n := 0) X (by decide +kernel) rfl rfl) (
    okc (ok_iret hret (by decide +kernel)) (
    okc (ok_aload_n (j := 1) X (by decide +kernel) rfl rfl) (
    okc (ok_callVL (ci := 11) (C := RX11) (T := TX11) (N := 15) (Y := (yX11_back, cX11_back, 2, (some .int))) X hcal opsS_n hnn hss md_X11_back rfl (by decide) rfl wc_X11_back wl_L_111 wi_X11 wm_X11_back wv_X11_back (by decide +kernel) (hRm 2 (by decide)) (by decide +kernel) rfl) (
    okc (ok_aload_n (j := 2) X (by decide +kernel) rfl rfl) (
    okc (ok_callVL (ci := 12) (C := RX12) (T := TX12) (N := 63) (Y := (yX12_back, cX12_back, 2, (some .int))) X hcal opsS_n hnn hss md_X12_back rfl (by decide) rfl wc_X12_back wl_L_114 wi_X12 wm_X12_back wv_X12_back (by decide +kernel) (hRm 2 (by decide)) (by decide +kernel) rfl) (
    okc (ok_ceq (off := 422) X (by decide +kernel) (by decide) rfl) (
    okc (ok_iconst (n := 0) X (by decide +kernel) rfl rfl) (
    okc (ok_iret hret (by decide +kernel)) (
    okc (ok_aload_n (j := 1) X (by decide +kernel) rfl rfl) (
    okc (ok_callVL (ci := 11) (C := RX11) (T := TX11) (N := 15) (Y := (yX11_undo, cX11_undo, 1, (some .int))) X hcal opsS_n hnn hss md_X11_undo rfl (by decide) rfl wc_X11_undo wl_L_115 wi_X11 wm_X11_undo wv_X11_undo (by decide +kernel) (hRm 1 (by decide)) (by decide +kernel) rfl) (
    okc (ok_aload_n (j := 2) X (by decide +kernel) rfl rfl) (
    okc (ok_callVL (ci := 12) (C := RX12) (T := TX12) (N := 63) (Y := (yX12_undo, cX12_undo, 1, (some .int))) X hcal opsS_n hnn hss md_X12_undo rfl (by decide) rfl wc_X12_undo wl_L_118 wi_X12 wm_X12_undo wv_X12_undo (by decide +kernel) (hRm 1 (by decide)) (by decide +kernel) rfl) (
    okc (ok_ceq (off := 409) X (by decide +kernel) (by decide) rfl) (
    okc (ok_iconst (n := 0) X (by decide +kernel) rfl rfl) (
    okc (ok_iret hret (by decide +kernel)) (
    okc (ok_aload_n (j := 1) X (by decide +kernel) rfl rfl) (
    okc (ok_callVL (ci := 11) (C := RX11) (T := TX11) (N := 15) (Y := (yX11_redo, cX11_redo, 1, (some .int))) X hcal opsS_n hnn hss md_X11_redo rfl (by decide) rfl wc_X11_redo wl_L_119 wi_X11 wm_X11_redo wv_X11_redo (by decide +kernel) (hRm 1 (by decide)) (by decide +kernel) rfl) (
    okc (ok_aload_n (j := 2) X (by decide +kernel) rfl rfl) (
    okc (ok_callVL (ci := 12) (C := RX12) (T := TX12) (N := 63) (Y := (yX12_redo, cX12_redo, 1, (some .int))) X hcal opsS_n hnn hss md_X12_redo rfl (by decide) rfl wc_X12_redo wl_L_122 wi_X12 wm_X12_redo wv_X12_redo (by decide +kernel) (hRm 1 (by decide)) (by decide +kernel) rfl) (
    okc (ok_ceq (off := 396) X (by decide +kernel) (by decide) rfl) (
    okc (ok_iconst (n := 0) X (by decide +kernel) rfl rfl) (
    okc (ok_iret hret (by decide +kernel)) (
    okc (ok_aload_n (j := 1) X (by decide +kernel) rfl rfl) (
    okc (ok_aload_n (j := 0) X (by decide +kernel) rfl rfl) (
    okc (ok_iload_n (j := 3) X (by decide +kernel) rfl rfl) (
    okc (ok_iconst (n := 1) X (by decide +kernel) rfl rfl) (
    okc (ok_iadd X (by decide +kernel) rfl) (
    okc (ok_xld X hX hbl hbA hGb (by decide +kernel) rfl) (
    okc (ok_callVL (ci := 11) (C := RX11) (T := TX11) (N := 15) (Y := (yX11_body, cX11_body, 2, (some .int))) X hcal opsS_n hnn hss md_X11_body rfl (by decide) rfl wc_X11_body wl_L_123 wi_X11 wm_X11_body wv_X11_body (by decide +kernel) (hRm 2 (by decide)) (by decide +kernel) rfl) (
    okc (ok_aload_n (j := 2) X (by decide +kernel) rfl rfl) (
    okc (ok_aload_n (j := 0) X (by decide +kernel) rfl rfl) (
    okc (ok_iload_n (j := 3) X (by decide +kernel) rfl rfl) (
    okc (ok_iconst (n := 1) X (by decide +kernel) rfl rfl) (
    okc (ok_iadd X (by decide +kernel) rfl) (
    okc (ok_xld X hX hbl hbA hGb (by decide +kernel) rfl) (
    okc (ok_callVL (ci := 12) (C := RX12) (T := TX12) (N := 63) (Y := (yX12_body, cX12_body, 2, (some .int))) X hcal opsS_n hnn hss md_X12_body rfl (by decide) rfl wc_X12_body wl_L_126 wi_X12 wm_X12_body wv_X12_body (by decide +kernel) (hRm 2 (by decide)) (by decide +kernel) rfl) (
    okc (ok_ceq (off := 373) X (by decide +kernel) (by decide) rfl) (
    okc (ok_iconst (n := 0) X (by decide +kernel) rfl rfl) (
    okc (ok_iret hret (by decide +kernel)) (
    okc (ok_aload_n (j := 1) X (by decide +kernel) rfl rfl) (
    okc (ok_aload_n (j := 0) X (by decide +kernel) rfl rfl) (
    okc (ok_iload_n (j := 3) X (by decide +kernel) rfl rfl) (
    okc (ok_iconst (n := 1) X (by decide +kernel) rfl rfl) (
    okc (ok_iadd X (by decide +kernel) rfl) (
    okc (ok_xld X hX hbl hbA hGb (by decide +kernel) rfl) (
    okc (ok_aload_n (j := 0) X (by decide +kernel) rfl rfl) (
    okc (ok_iload_n (j := 3) X (by decide +kernel) rfl rfl) (
    okc (ok_iconst (n := 2) X (by decide +kernel) rfl rfl) (
    okc (ok_iadd X (by decide +kernel) rfl) (
    okc (ok_xld X hX hbl hbA hGb (by decide +kernel) rfl) (
    okc (ok_aload_n (j := 0) X (by decide +kernel) rfl rfl) (
    okc (ok_iload_n (j := 3) X (by decide +kernel) rfl rfl) (
    okc (ok_iconst (n := 3) X (by decide +kernel) rfl rfl) (
    okc (ok_iadd X (by decide +kernel) rfl) (
    okc (ok_xld X hX hbl hbA hGb (by decide +kernel) rfl) (
    okc (ok_callVL (ci := 11) (C := RX11) (T := TX11) (N := 15) (Y := (yX11_act, cX11_act, 4, (some .int))) X hcal opsS_n hnn hss md_X11_act rfl (by decide) rfl wc_X11_act wl_L_127 wi_X11 wm_X11_act wv_X11_act (by decide +kernel) (hRm 4 (by decide)) (by decide +kernel) rfl) (
    okc (ok_aload_n (j := 2) X (by decide +kernel) rfl rfl) (
    okc (ok_aload_n (j := 0) X (by decide +kernel) rfl rfl) (
    okc (ok_iload_n (j := 3) X (by decide +kernel) rfl rfl) (
    okc (ok_iconst (n := 1) X (by decide +kernel) rfl rfl) (
    okc (ok_iadd X (by decide +kernel) rfl) (
    okc (ok_xld X hX hbl hbA hGb (by decide +kernel) rfl) (
    okc (ok_aload_n (j := 0) X (by decide +kernel) rfl rfl) (
    okc (ok_iload_n (j := 3) X (by decide +kernel) rfl rfl) (
    okc (ok_iconst (n := 2) X (by decide +kernel) rfl rfl) (
    okc (ok_iadd X (by decide +kernel) rfl) (
    okc (ok_xld X hX hbl hbA hGb (by decide +kernel) rfl) (
    okc (ok_aload_n (j := 0) X (by decide +kernel) rfl rfl) (
    okc (ok_iload_n (j := 3) X (by decide +kernel) rfl rfl) (
    okc (ok_iconst (n := 3) X (by decide +kernel) rfl rfl) (
    okc (ok_iadd X (by decide +kernel) rfl) (
    okc (ok_xld X hX hbl hbA hGb (by decide +kernel) rfl) (
    okc (ok_callVL (ci := 12) (C := RX12) (T := TX12) (N := 63) (Y := (yX12_act, cX12_act, 4, (some .int))) X hcal opsS_n hnn hss md_X12_act rfl (by decide) rfl wc_X12_act wl_L_130 wi_X12 wm_X12_act wv_X12_act (by decide +kernel) (hRm 4 (by decide)) (by decide +kernel) rfl) (
    okc (ok_ceq (off := 330) X (by decide +kernel) (by decide) rfl) (
    okc (ok_iconst (n := 0) X (by decide +kernel) rfl rfl) (
    okc (ok_iret hret (by decide +kernel)) (
    okc (ok_aload_n (j := 1) X (by decide +kernel) rfl rfl) (
    okc (ok_aload_n (j := 0) X (by decide +kernel) rfl rfl) (
    okc (ok_iload_n (j := 3) X (by decide +kernel) rfl rfl) (
    okc (ok_iconst (n := 1) X (by decide +kernel) rfl rfl) (
    okc (ok_iadd X (by decide +kernel) rfl) (
    okc (ok_xld X hX hbl hbA hGb (by decide +kernel) rfl) (
    okc (ok_callVL (ci := 11) (C := RX11) (T := TX11) (N := 15) (Y := (yX11_trace, cX11_trace, 2, (some .int))) X hcal opsS_n hnn hss md_X11_trace rfl (by decide) rfl wc_X11_trace wl_L_131 wi_X11 wm_X11_trace wv_X11_trace (by decide +kernel) (hRm 2 (by decide)) (by decide +kernel) rfl) (
    okc (ok_aload_n (j := 2) X (by decide +kernel) rfl rfl) (
    okc (ok_aload_n (j := 0) X (by decide +kernel) rfl rfl) (
    okc (ok_iload_n (j := 3) X (by decide +kernel) rfl rfl) (
    okc (ok_iconst (n := 1) X (by decide +kernel) rfl rfl) (
    okc (ok_iadd X (by decide +kernel) rfl) (
    okc (ok_xld X hX hbl hbA hGb (by decide +kernel) rfl) (
    okc (ok_callVL (ci := 12) (C := RX12) (T := TX12) (N := 63) (Y := (yX12_trace, cX12_trace, 2, (some .int))) X hcal opsS_n hnn hss md_X12_trace rfl (by decide) rfl wc_X12_trace wl_L_134 wi_X12 wm_X12_trace wv_X12_trace (by decide +kernel) (hRm 2 (by decide)) (by decide +kernel) rfl) (
    okc (ok_ceq (off := 307) X (by decide +kernel) (by decide) rfl) (
    okc (ok_iconst (n := 0) X (by decide +kernel) rfl rfl) (
    okc (ok_iret hret (by decide +kernel)) (
    okc (ok_aload_n (j := 1) X (by decide +kernel) rfl rfl) (
    okc (ok_aload_n (j := 0) X (by decide +kernel) rfl rfl) (
    okc (ok_iload_n (j := 3) X (by decide +kernel) rfl rfl) (
    okc (ok_iconst (n := 1) X (by decide +kernel) rfl rfl) (
    okc (ok_iadd X (by decide +kernel) rfl) (
    okc (ok_xld X hX hbl hbA hGb (by decide +kernel) rfl) (
    okc (ok_aload_n (j := 0) X (by decide +kernel) rfl rfl) (
    okc (ok_iload_n (j := 3) X (by decide +kernel) rfl rfl) (
    okc (ok_iconst (n := 2) X (by decide +kernel) rfl rfl) (
    okc (ok_iadd X (by decide +kernel) rfl) (
    okc (ok_xld X hX hbl hbA hGb (by decide +kernel) rfl) (
    okc (ok_callVL (ci := 11) (C := RX11) (T := TX11) (N := 15) (Y := (yX11_keep, cX11_keep, 3, (some .int))) X hcal opsS_n hnn hss md_X11_keep rfl (by decide) rfl wc_X11_keep wl_L_135 wi_X11 wm_X11_keep wv_X11_keep (by decide +kernel) (hRm 3 (by decide)) (by decide +kernel) rfl) (
    okc (ok_aload_n (j := 2) X (by decide +kernel) rfl rfl) (
    okc (ok_aload_n (j := 0) X (by decide +kernel) rfl rfl) (
    okc (ok_iload_n (j := 3) X (by decide +kernel) rfl rfl) (
    okc (ok_iconst (n := 1) X (by decide +kernel) rfl rfl) (
    okc (ok_iadd X (by decide +kernel) rfl) (
    okc (ok_xld X hX hbl hbA hGb (by decide +kernel) rfl) (
    okc (ok_aload_n (j := 0) X (by decide +kernel) rfl rfl) (
    okc (ok_iload_n (j := 3) X (by decide +kernel) rfl rfl) (
    okc (ok_iconst (n := 2) X (by decide +kernel) rfl rfl) (
    okc (ok_iadd X (by decide +kernel) rfl) (
    okc (ok_xld X hX hbl hbA hGb (by decide +kernel) rfl) (
    okc (ok_callVL (ci := 12) (C := RX12) (T := TX12) (N := 63) (Y := (yX12_keep, cX12_keep, 3, (some .int))) X hcal opsS_n hnn hss md_X12_keep rfl (by decide) rfl wc_X12_keep wl_L_138 wi_X12 wm_X12_keep wv_X12_keep (by decide +kernel) (hRm 3 (by decide)) (by decide +kernel) rfl) (
    okc (ok_ceq (off := 274) X (by decide +kernel) (by decide) rfl) (
    okc (ok_iconst (n := 0) X (by decide +kernel) rfl rfl) (
    okc (ok_iret hret (by decide +kernel)) (
    okc (ok_aload_n (j := 1) X (by decide +kernel) rfl rfl) (
    okc (ok_aload_n (j := 0) X (by decide +kernel) rfl rfl) (
    okc (ok_iload_n (j := 3) X (by decide +kernel) rfl rfl) (
    okc (ok_iconst (n := 1) X (by decide +kernel) rfl rfl) (
    okc (ok_iadd X (by decide +kernel) rfl) (
    okc (ok_xld X hX hbl hbA hGb (by decide +kernel) rfl) (
    okc (ok_aload_n (j := 0) X (by decide +kernel) rfl rfl) (
    okc (ok_iload_n (j := 3) X (by decide +kernel) rfl rfl) (
    okc (ok_iconst (n := 2) X (by decide +kernel) rfl rfl) (
    okc (ok_iadd X (by decide +kernel) rfl) (
    okc (ok_xld X hX hbl hbA hGb (by decide +kernel) rfl) (
    okc (ok_aload_n (j := 0) X (by decide +kernel) rfl rfl) (
    okc (ok_iload_n (j := 3) X (by decide +kernel) rfl rfl) (
    okc (ok_iconst (n := 3) X (by decide +kernel) rfl rfl) (
    okc (ok_iadd X (by decide +kernel) rfl) (
    okc (ok_xld X hX hbl hbA hGb (by decide +kernel) rfl) (
    okc (ok_callVL (ci := 11) (C := RX11) (T := TX11) (N := 15) (Y := (yX11_row, cX11_row, 4, (some .int))) X hcal opsS_n hnn hss md_X11_row rfl (by decide) rfl wc_X11_row wl_L_139 wi_X11 wm_X11_row wv_X11_row (by decide +kernel) (hRm 4 (by decide)) (by decide +kernel) rfl) (
    okc (ok_aload_n (j := 2) X (by decide +kernel) rfl rfl) (
    okc (ok_aload_n (j := 0) X (by decide +kernel) rfl rfl) (
    okc (ok_iload_n (j := 3) X (by decide +kernel) rfl rfl) (
    okc (ok_iconst (n := 1) X (by decide +kernel) rfl rfl) (
    okc (ok_iadd X (by decide +kernel) rfl) (
    okc (ok_xld X hX hbl hbA hGb (by decide +kernel) rfl) (
    okc (ok_aload_n (j := 0) X (by decide +kernel) rfl rfl) (
    okc (ok_iload_n (j := 3) X (by decide +kernel) rfl rfl) (
    okc (ok_iconst (n := 2) X (by decide +kernel) rfl rfl) (
    okc (ok_iadd X (by decide +kernel) rfl) (
    okc (ok_xld X hX hbl hbA hGb (by decide +kernel) rfl) (
    okc (ok_aload_n (j := 0) X (by decide +kernel) rfl rfl) (
    okc (ok_iload_n (j := 3) X (by decide +kernel) rfl rfl) (
    okc (ok_iconst (n := 3) X (by decide +kernel) rfl rfl) (
    okc (ok_iadd X (by decide +kernel) rfl) (
    okc (ok_xld X hX hbl hbA hGb (by decide +kernel) rfl) (
    okc (ok_callVL (ci := 12) (C := RX12) (T := TX12) (N := 63) (Y := (yX12_row, cX12_row, 5, (some .int))) X hcal opsS_n hnn hss md_X12_row rfl (by decide) rfl wc_X12_row wl_L_142 wi_X12 wm_X12_row wv_X12_row (by decide +kernel) (hRm 5 (by decide)) (by decide +kernel) rfl) (
    okc (ok_ceq (off := 231) X (by decide +kernel) (by decide) rfl) (
    okc (ok_iconst (n := 0) X (by decide +kernel) rfl rfl) (
    okc (ok_iret hret (by decide +kernel)) (
    okc (ok_aload_n (j := 1) X (by decide +kernel) rfl rfl) (
    okc (ok_aload_n (j := 0) X (by decide +kernel) rfl rfl) (
    okc (ok_iload_n (j := 3) X (by decide +kernel) rfl rfl) (
    okc (ok_iconst (n := 1) X (by decide +kernel) rfl rfl) (
    okc (ok_iadd X (by decide +kernel) rfl) (
    okc (ok_xld X hX hbl hbA hGb (by decide +kernel) rfl) (
    okc (ok_aload_n (j := 0) X (by decide +kernel) rfl rfl) (
    okc (ok_iload_n (j := 3) X (by decide +kernel) rfl rfl) (
    okc (ok_iconst (n := 2) X (by decide +kernel) rfl rfl) (
    okc (ok_iadd X (by decide +kernel) rfl) (
    okc (ok_xld X hX hbl hbA hGb (by decide +kernel) rfl) (
    okc (ok_aload_n (j := 0) X (by decide +kernel) rfl rfl) (
    okc (ok_iload_n (j := 3) X (by decide +kernel) rfl rfl) (
    okc (ok_iconst (n := 3) X (by decide +kernel) rfl rfl) (
    okc (ok_iadd X (by decide +kernel) rfl) (
    okc (ok_xld X hX hbl hbA hGb (by decide +kernel) rfl) (
    okc (ok_i2l X (by decide +kernel) rfl) (
    okc (ok_bipush (n := 32) X (by decide +kernel) rfl rfl) (
    okc (ok_lshl X (by decide +kernel) rfl) (
    okc (ok_aload_n (j := 0) X (by decide +kernel) rfl rfl) (
    okc (ok_iload_n (j := 3) X (by decide +kernel) rfl rfl) (
    okc (ok_iconst (n := 4) X (by decide +kernel) rfl rfl) (
    okc (ok_iadd X (by decide +kernel) rfl) (
    okc (ok_xld X hX hbl hbA hGb (by decide +kernel) rfl) (
    okc (ok_i2l X (by decide +kernel) rfl) (
    okc (ok_ldc2 (i := 143) X (by decide +kernel) wk_L_143 rfl) (
    okc (ok_land X (by decide +kernel) rfl) (
    okc (ok_lor X (by decide +kernel) rfl) (
    okc (ok_callVL (ci := 11) (C := RX11) (T := TX11) (N := 15) (Y := (yX11_put, cX11_put, 6, (some .int))) X hcal opsS_n hnn hss md_X11_put rfl (by decide) rfl wc_X11_put wl_L_145 wi_X11 wm_X11_put wv_X11_put (by decide +kernel) (hRm 6 (by decide)) (by decide +kernel) rfl) (
    okc (ok_aload_n (j := 2) X (by decide +kernel) rfl rfl) (
    okc (ok_aload_n (j := 0) X (by decide +kernel) rfl rfl) (
    okc (ok_iload_n (j := 3) X (by decide +kernel) rfl rfl) (
    okc (ok_iconst (n := 1) X (by decide +kernel) rfl rfl) (
    okc (ok_iadd X (by decide +kernel) rfl) (
    okc (ok_xld X hX hbl hbA hGb (by decide +kernel) rfl) (
    okc (ok_aload_n (j := 0) X (by decide +kernel) rfl rfl) (
    okc (ok_iload_n (j := 3) X (by decide +kernel) rfl rfl) (
    okc (ok_iconst (n := 2) X (by decide +kernel) rfl rfl) (
    okc (ok_iadd X (by decide +kernel) rfl) (
    okc (ok_xld X hX hbl hbA hGb (by decide +kernel) rfl) (
    okc (ok_aload_n (j := 0) X (by decide +kernel) rfl rfl) (
    okc (ok_iload_n (j := 3) X (by decide +kernel) rfl rfl) (
    okc (ok_iconst (n := 3) X (by decide +kernel) rfl rfl) (
    okc (ok_iadd X (by decide +kernel) rfl) (
    okc (ok_xld X hX hbl hbA hGb (by decide +kernel) rfl) (
    okc (ok_i2l X (by decide +kernel) rfl) (
    okc (ok_bipush (n := 32) X (by decide +kernel) rfl rfl) (
    okc (ok_lshl X (by decide +kernel) rfl) (
    okc (ok_aload_n (j := 0) X (by decide +kernel) rfl rfl) (
    okc (ok_iload_n (j := 3) X (by decide +kernel) rfl rfl) (
    okc (ok_iconst (n := 4) X (by decide +kernel) rfl rfl) (
    okc (ok_iadd X (by decide +kernel) rfl) (
    okc (ok_xld X hX hbl hbA hGb (by decide +kernel) rfl) (
    okc (ok_i2l X (by decide +kernel) rfl) (
    okc (ok_ldc2 (i := 143) X (by decide +kernel) wk_L_143 rfl) (
    okc (ok_land X (by decide +kernel) rfl) (
    okc (ok_lor X (by decide +kernel) rfl) (
    okc (ok_callVL (ci := 12) (C := RX12) (T := TX12) (N := 63) (Y := (yX12_put, cX12_put, 7, (some .int))) X hcal opsS_n hnn hss md_X12_put rfl (by decide) rfl wc_X12_put wl_L_149 wi_X12 wm_X12_put wv_X12_put (by decide +kernel) (hRm 7 (by decide)) (by decide +kernel) rfl) (
    okc (ok_ceq (off := 158) X (by decide +kernel) (by decide) rfl) (
    okc (ok_iconst (n := 0) X (by decide +kernel) rfl rfl) (
    okc (ok_iret hret (by decide +kernel)) (
    okc (ok_aload_n (j := 1) X (by decide +kernel) rfl rfl) (
    okc (ok_aload_n (j := 0) X (by decide +kernel) rfl rfl) (
    okc (ok_iload_n (j := 3) X (by decide +kernel) rfl rfl) (
    okc (ok_iconst (n := 1) X (by decide +kernel) rfl rfl) (
    okc (ok_iadd X (by decide +kernel) rfl) (
    okc (ok_xld X hX hbl hbA hGb (by decide +kernel) rfl) (
    okc (ok_aload_n (j := 0) X (by decide +kernel) rfl rfl) (
    okc (ok_iload_n (j := 3) X (by decide +kernel) rfl rfl) (
    okc (ok_iconst (n := 2) X (by decide +kernel) rfl rfl) (
    okc (ok_iadd X (by decide +kernel) rfl) (
    okc (ok_xld X hX hbl hbA hGb (by decide +kernel) rfl) (
    okc (ok_callVL (ci := 11) (C := RX11) (T := TX11) (N := 15) (Y := (yX11_element, cX11_element, 3, (some .long))) X hcal opsS_n hnn hss md_X11_element rfl (by decide) rfl wc_X11_element wl_L_150 wi_X11 wm_X11_element wv_X11_element (by decide +kernel) (hRm 3 (by decide)) (by decide +kernel) rfl) (
    okc (ok_aload_n (j := 2) X (by decide +kernel) rfl rfl) (
    okc (ok_aload_n (j := 0) X (by decide +kernel) rfl rfl) (
    okc (ok_iload_n (j := 3) X (by decide +kernel) rfl rfl) (
    okc (ok_iconst (n := 1) X (by decide +kernel) rfl rfl) (
    okc (ok_iadd X (by decide +kernel) rfl) (
    okc (ok_xld X hX hbl hbA hGb (by decide +kernel) rfl) (
    okc (ok_aload_n (j := 0) X (by decide +kernel) rfl rfl) (
    okc (ok_iload_n (j := 3) X (by decide +kernel) rfl rfl) (
    okc (ok_iconst (n := 2) X (by decide +kernel) rfl rfl) (
    okc (ok_iadd X (by decide +kernel) rfl) (
    okc (ok_xld X hX hbl hbA hGb (by decide +kernel) rfl) (
    okc (ok_callVL (ci := 12) (C := RX12) (T := TX12) (N := 63) (Y := (yX12_element, cX12_element, 3, (some .long))) X hcal opsS_n hnn hss md_X12_element rfl (by decide) rfl wc_X12_element wl_L_154 wi_X12 wm_X12_element wv_X12_element (by decide +kernel) (hRm 3 (by decide)) (by decide +kernel) rfl) (
    okc (ok_lcmp X (by decide +kernel) rfl) (
    okc (ok_ifeq (off := 124) X (by decide +kernel) (by decide) rfl) (
    okc (ok_iconst (n := 0) X (by decide +kernel) rfl rfl) (
    okc (ok_iret hret (by decide +kernel)) (
    okc (ok_aload_n (j := 1) X (by decide +kernel) rfl rfl) (
    okc (ok_aload_n (j := 0) X (by decide +kernel) rfl rfl) (
    okc (ok_iload_n (j := 3) X (by decide +kernel) rfl rfl) (
    okc (ok_iconst (n := 1) X (by decide +kernel) rfl rfl) (
    okc (ok_iadd X (by decide +kernel) rfl) (
    okc (ok_xld X hX hbl hbA hGb (by decide +kernel) rfl) (
    okc (ok_aload_n (j := 0) X (by decide +kernel) rfl rfl) (
    okc (ok_iload_n (j := 3) X (by decide +kernel) rfl rfl) (
    okc (ok_iconst (n := 2) X (by decide +kernel) rfl rfl) (
    okc (ok_iadd X (by decide +kernel) rfl) (
    okc (ok_xld X hX hbl hbA hGb (by decide +kernel) rfl) (
    okc (ok_aload_n (j := 0) X (by decide +kernel) rfl rfl) (
    okc (ok_iload_n (j := 3) X (by decide +kernel) rfl rfl) (
    okc (ok_iconst (n := 3) X (by decide +kernel) rfl rfl) (
    okc (ok_iadd X (by decide +kernel) rfl) (
    okc (ok_xld X hX hbl hbA hGb (by decide +kernel) rfl) (
    okc (ok_aload_n (j := 0) X (by decide +kernel) rfl rfl) (
    okc (ok_iload_n (j := 3) X (by decide +kernel) rfl rfl) (
    okc (ok_iconst (n := 4) X (by decide +kernel) rfl rfl) (
    okc (ok_iadd X (by decide +kernel) rfl) (
    okc (ok_xld X hX hbl hbA hGb (by decide +kernel) rfl) (
    okc (ok_aload_n (j := 0) X (by decide +kernel) rfl rfl) (
    okc (ok_iload_n (j := 3) X (by decide +kernel) rfl rfl) (
    okc (ok_iconst (n := 5) X (by decide +kernel) rfl rfl) (
    okc (ok_iadd X (by decide +kernel) rfl) (
    okc (ok_xld X hX hbl hbA hGb (by decide +kernel) rfl) (
    okc (ok_callVL (ci := 11) (C := RX11) (T := TX11) (N := 15) (Y := (yX11_shift, cX11_shift, 6, (some .int))) X hcal opsS_n hnn hss md_X11_shift rfl (by decide) rfl wc_X11_shift wl_L_155 wi_X11 wm_X11_shift wv_X11_shift (by decide +kernel) (hRm 6 (by decide)) (by decide +kernel) rfl) (
    okc (ok_aload_n (j := 2) X (by decide +kernel) rfl rfl) (
    okc (ok_aload_n (j := 0) X (by decide +kernel) rfl rfl) (
    okc (ok_iload_n (j := 3) X (by decide +kernel) rfl rfl) (
    okc (ok_iconst (n := 1) X (by decide +kernel) rfl rfl) (
    okc (ok_iadd X (by decide +kernel) rfl) (
    okc (ok_xld X hX hbl hbA hGb (by decide +kernel) rfl) (
    okc (ok_aload_n (j := 0) X (by decide +kernel) rfl rfl) (
    okc (ok_iload_n (j := 3) X (by decide +kernel) rfl rfl) (
    okc (ok_iconst (n := 2) X (by decide +kernel) rfl rfl) (
    okc (ok_iadd X (by decide +kernel) rfl) (
    okc (ok_xld X hX hbl hbA hGb (by decide +kernel) rfl) (
    okc (ok_aload_n (j := 0) X (by decide +kernel) rfl rfl) (
    okc (ok_iload_n (j := 3) X (by decide +kernel) rfl rfl) (
    okc (ok_iconst (n := 3) X (by decide +kernel) rfl rfl) (
    okc (ok_iadd X (by decide +kernel) rfl) (
    okc (ok_xld X hX hbl hbA hGb (by decide +kernel) rfl) (
    okc (ok_aload_n (j := 0) X (by decide +kernel) rfl rfl) (
    okc (ok_iload_n (j := 3) X (by decide +kernel) rfl rfl) (
    okc (ok_iconst (n := 4) X (by decide +kernel) rfl rfl) (
    okc (ok_iadd X (by decide +kernel) rfl) (
    okc (ok_xld X hX hbl hbA hGb (by decide +kernel) rfl) (
    okc (ok_aload_n (j := 0) X (by decide +kernel) rfl rfl) (
    okc (ok_iload_n (j := 3) X (by decide +kernel) rfl rfl) (
    okc (ok_iconst (n := 5) X (by decide +kernel) rfl rfl) (
    okc (ok_iadd X (by decide +kernel) rfl) (
    okc (ok_xld X hX hbl hbA hGb (by decide +kernel) rfl) (
    okc (ok_callVL (ci := 12) (C := RX12) (T := TX12) (N := 63) (Y := (yX12_shift, cX12_shift, 7, (some .int))) X hcal opsS_n hnn hss md_X12_shift rfl (by decide) rfl wc_X12_shift wl_L_159 wi_X12 wm_X12_shift wv_X12_shift (by decide +kernel) (hRm 7 (by decide)) (by decide +kernel) rfl) (
    okc (ok_ceq (off := 61) X (by decide +kernel) (by decide) rfl) (
    okc (ok_iconst (n := 0) X (by decide +kernel) rfl rfl) (
    okc (ok_iret hret (by decide +kernel)) (
    okc (ok_aload_n (j := 1) X (by decide +kernel) rfl rfl) (
    okc (ok_aload_n (j := 0) X (by decide +kernel) rfl rfl) (
    okc (ok_iload_n (j := 3) X (by decide +kernel) rfl rfl) (
    okc (ok_iconst (n := 1) X (by decide +kernel) rfl rfl) (
    okc (ok_iadd X (by decide +kernel) rfl) (
    okc (ok_xld X hX hbl hbA hGb (by decide +kernel) rfl) (
    okc (ok_aload_n (j := 0) X (by decide +kernel) rfl rfl) (
    okc (ok_iload_n (j := 3) X (by decide +kernel) rfl rfl) (
    okc (ok_iconst (n := 2) X (by decide +kernel) rfl rfl) (
    okc (ok_iadd X (by decide +kernel) rfl) (
    okc (ok_xld X hX hbl hbA hGb (by decide +kernel) rfl) (
    okc (ok_callVL (ci := 11) (C := RX11) (T := TX11) (N := 15) (Y := (yX11_taken, cX11_taken, 4, (some .int))) X hcal opsS_n hnn hss md_X11_taken rfl (by decide) rfl wc_X11_taken wl_L_160 wi_X11 wm_X11_taken wv_X11_taken (by decide +kernel) (hRm 4 (by decide)) (by decide +kernel) rfl) (
    okc (ok_aload_n (j := 2) X (by decide +kernel) rfl rfl) (
    okc (ok_aload_n (j := 0) X (by decide +kernel) rfl rfl) (
    okc (ok_iload_n (j := 3) X (by decide +kernel) rfl rfl) (
    okc (ok_iconst (n := 1) X (by decide +kernel) rfl rfl) (
    okc (ok_iadd X (by decide +kernel) rfl) (
    okc (ok_xld X hX hbl hbA hGb (by decide +kernel) rfl) (
    okc (ok_aload_n (j := 0) X (by decide +kernel) rfl rfl) (
    okc (ok_iload_n (j := 3) X (by decide +kernel) rfl rfl) (
    okc (ok_iconst (n := 2) X (by decide +kernel) rfl rfl) (
    okc (ok_iadd X (by decide +kernel) rfl) (
    okc (ok_xld X hX hbl hbA hGb (by decide +kernel) rfl) (
    okc (ok_callVL (ci := 12) (C := RX12) (T := TX12) (N := 63) (Y := (yX12_taken, cX12_taken, 3, (some .int))) X hcal opsS_n hnn hss md_X12_taken rfl (by decide) rfl wc_X12_taken wl_L_163 wi_X12 wm_X12_taken wv_X12_taken (by decide +kernel) (hRm 3 (by decide)) (by decide +kernel) rfl) (
    okc (ok_ceq (off := 28) X (by decide +kernel) (by decide) rfl) (
    okc (ok_iconst (n := 0) X (by decide +kernel) rfl rfl) (
    okc (ok_iret hret (by decide +kernel)) (
    okc (ok_aload_n (j := 1) X (by decide +kernel) rfl rfl) (
    okc (ok_aload_n (j := 0) X (by decide +kernel) rfl rfl) (
    okc (ok_iload_n (j := 3) X (by decide +kernel) rfl rfl) (
    okc (ok_iconst (n := 1) X (by decide +kernel) rfl rfl) (
    okc (ok_iadd X (by decide +kernel) rfl) (
    okc (ok_xld X hX hbl hbA hGb (by decide +kernel) rfl) (
    okc (ok_callVL (ci := 11) (C := RX11) (T := TX11) (N := 15) (Y := (yX11_count, cX11_count, 2, (some .int))) X hcal opsS_n hnn hss md_X11_count rfl (by decide) rfl wc_X11_count wl_L_164 wi_X11 wm_X11_count wv_X11_count (by decide +kernel) (hRm 2 (by decide)) (by decide +kernel) rfl) (
    okc (ok_aload_n (j := 2) X (by decide +kernel) rfl rfl) (
    okc (ok_aload_n (j := 0) X (by decide +kernel) rfl rfl) (
    okc (ok_iload_n (j := 3) X (by decide +kernel) rfl rfl) (
    okc (ok_iconst (n := 1) X (by decide +kernel) rfl rfl) (
    okc (ok_iadd X (by decide +kernel) rfl) (
    okc (ok_xld X hX hbl hbA hGb (by decide +kernel) rfl) (
    okc (ok_callVL (ci := 12) (C := RX12) (T := TX12) (N := 63) (Y := (yX12_count, cX12_count, 2, (some .int))) X hcal opsS_n hnn hss md_X12_count rfl (by decide) rfl wc_X12_count wl_L_167 wi_X12 wm_X12_count wv_X12_count (by decide +kernel) (hRm 2 (by decide)) (by decide +kernel) rfl) (
    okc (ok_ceq (off := 5) X (by decide +kernel) (by decide) rfl) (
    okc (ok_iconst (n := 0) X (by decide +kernel) rfl rfl) (
    okc (ok_iret hret (by decide +kernel)) (
    okc (ok_iinc (n := 6) X (by decide +kernel) rfl rfl) (
    okc (ok_goto (off := -1318) X (by decide +kernel) (by decide)) (
    okc (ok_iconst (n := 1) X (by decide +kernel) rfl rfl) (
    okc (ok_iret hret (by decide +kernel)) (
    okn)))))))))))))))))))))))))))))))))))))))))))))))))))))))))))))))))))))))))))))))))))))))))))))))))))))))))))))))))))))))))))))))))))))))))))))))))))))))))))))))))))))))))))))))))))))))))))))))))))))))))))))))))))))))))))))))))))))))))))))))))))))))))))))))))))))))))))))))))))))))))))))))))))))))))))))))))))))))))))))))))))))))))))))))))))))))))))))))))))))))))))))))))))))))))))))))))))))))))))))))))))))))))))))))))))))))))))))))))))))))))))))))))))))))))))))))))))))))))))))))))))))))))))))))))))))))))))))))))))))))))))))))))))))))))))))))))))))))))))))))))))))))))))))))))))))))))))))))))))))))))))))))))))))))))))))))))))))))))))))))))))))))))))))))))))))))))))))))))))))))))))))))))))))))))))))))))))))))))))))))))))))))))))))))))))))))))))))))))))))))))))))))))))))))))))))))))))))))))))))))))))))))))))))))))))))))))))))))))))))))))))))))))))))))))))))))))))))))))))))))))))))))))))))))))))))))))))))))))))))))))))))))))))))))

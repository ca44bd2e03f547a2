theorem in_of {big ws : List Cond} (ps : List Nat) (hp : ws = ps.filterMap (fun i => big[i]?)) : ∀ w ∈ ws, w ∈ big := fun w hw => by
  rw [hp] at hw
  obtain ⟨i, -, hi⟩ := List.mem_filterMap.mp hw
  exact List.mem_of_getElem? hi
theorem in_app {big a b : List Cond} (ha : ∀ w ∈ a, w ∈ big) (hb : ∀ w ∈ b, w ∈ big) : ∀ w ∈ a ++ b, w ∈ big := fun w h => (List.mem_append.mp h).elim (ha w) (hb w)
theorem in_nil {big : List Cond} : ∀ w ∈ ([] : List Cond), w ∈ big := fun _ h => absurd h List.not_mem_nil
set_option maxRecDepth 20000 in
theorem in_wsL_law_r1 : ∀ w ∈ wsL_law_r1, w ∈ lw_tbl := in_of [75, 76, 58, 846, 847, 66, 1206, 77, 78, 79, 80, 81, 82, 83, 84, 59, 282, 146, 147, 60, 283, 284, 285, 166] (by decide +kernel)
set_option maxRecDepth 20000 in
theorem in_wsL_law_r2 : ∀ w ∈ wsL_law_r2, w ∈ lw_tbl := in_of [167, 61, 287, 186, 288, 289, 188, 189, 62, 290, 215, 216, 63, 291, 236, 237, 64, 292, 145, 293, 259, 65, 86, 87] (by decide +kernel)
set_option maxRecDepth 20000 in
theorem in_wsL_law_r3 : ∀ w ∈ wsL_law_r3, w ∈ lw_tbl := in_of [88, 103, 105, 107, 109, 111, 113, 115, 118, 148, 149, 150, 151, 152, 155, 169, 170, 171, 172, 191, 192, 193, 194, 195] (by decide +kernel)
set_option maxRecDepth 20000 in
theorem in_wsL_law_r4 : ∀ w ∈ wsL_law_r4, w ∈ lw_tbl := in_of [196, 198, 218, 219, 220, 221, 222, 239, 240, 241, 261, 262, 263, 281, 270, 848, 849, 850, 851, 852, 854, 856, 857, 858] (by decide +kernel)
set_option maxRecDepth 20000 in
theorem in_wsL_law_r5 : ∀ w ∈ wsL_law_r5, w ∈ lw_tbl := in_of [861, 862, 863, 864, 865, 866, 319, 320, 321, 322, 91, 323, 324, 325, 326, 327, 328, 329, 157, 330, 331, 332, 333, 89] (by decide +kernel)
set_option maxRecDepth 20000 in
theorem in_wsL_law_r6 : ∀ w ∈ wsL_law_r6, w ∈ lw_tbl := in_of [898, 899, 900, 901, 902, 906, 903, 904, 905, 907, 909, 27, 910, 334, 335, 336, 337, 97, 338, 339, 340, 341, 94, 911] (by decide +kernel)
set_option maxRecDepth 20000 in
theorem in_wsL_law_r7 : ∀ w ∈ wsL_law_r7, w ∈ lw_tbl := in_of [912, 913, 914, 915, 916, 917, 919, 28, 920, 342, 343, 344, 345, 106, 108, 110, 112, 346, 348, 0, 349, 350, 351, 352] (by decide +kernel)
set_option maxRecDepth 20000 in
theorem in_wsL_law_r8 : ∀ w ∈ wsL_law_r8, w ∈ lw_tbl := in_of [353, 354, 355, 356, 357, 358, 359, 360, 361, 921, 922, 923, 924, 925, 927, 29, 928, 929, 931, 30, 932, 933, 935, 31] (by decide +kernel)
set_option maxRecDepth 20000 in
theorem in_wsL_law_r9 : ∀ w ∈ wsL_law_r9, w ∈ lw_tbl := in_of [936, 937, 939, 32, 940, 362, 363, 364, 365, 114, 117, 119, 366, 368, 1, 369, 941, 942, 943, 944, 945, 947, 33, 948] (by decide +kernel)
set_option maxRecDepth 20000 in
theorem in_wsL_law_r10 : ∀ w ∈ wsL_law_r10, w ∈ lw_tbl := in_of [370, 371, 372, 373, 174, 374, 375, 376, 377, 173, 949, 950, 951, 952, 953, 954, 855, 378, 379, 380, 381, 104, 382, 383] (by decide +kernel)
set_option maxRecDepth 20000 in
theorem in_wsL_law_r11 : ∀ w ∈ wsL_law_r11, w ∈ lw_tbl := in_of [384, 385, 175, 176, 386, 387, 388, 389, 98, 100, 390, 392, 2, 393, 394, 396, 3, 397, 398, 400, 4, 401, 402, 404] (by decide +kernel)
set_option maxRecDepth 20000 in
theorem in_wsL_law_r12 : ∀ w ∈ wsL_law_r12, w ∈ lw_tbl := in_of [5, 405, 406, 407, 408, 409, 411, 6, 412, 413, 415, 7, 416, 417, 419, 8, 420, 421, 423, 9, 424, 425, 426, 428] (by decide +kernel)
set_option maxRecDepth 20000 in
theorem in_wsL_law_r13 : ∀ w ∈ wsL_law_r13, w ∈ lw_tbl := in_of [10, 429, 430, 432, 11, 433, 93, 435, 436, 437, 67, 438, 439, 440, 441, 442, 1208, 443, 444, 445, 446, 447, 1207, 449] (by decide +kernel)
set_option maxRecDepth 20000 in
theorem in_wsL_law_r14 : ∀ w ∈ wsL_law_r14, w ∈ lw_tbl := in_of [450, 451, 452, 453, 454, 455, 456, 457, 458, 68, 459, 463, 464, 69, 465, 466, 467, 468, 460, 461, 462, 469, 470, 471] (by decide +kernel)
set_option maxRecDepth 20000 in
theorem in_wsL_law_r15 : ∀ w ∈ wsL_law_r15, w ∈ lw_tbl := in_of [472, 473, 70, 474, 475, 476, 477, 478, 479, 480, 481, 482, 483, 484, 485, 486, 487, 488, 489, 490, 492, 493, 71, 494] (by decide +kernel)
set_option maxRecDepth 20000 in
theorem in_wsL_law_r16 : ∀ w ∈ wsL_law_r16, w ∈ lw_tbl := in_of [495, 496, 497, 498, 499, 500, 501, 503, 505, 507, 508, 509, 510, 511, 72, 512, 513, 514, 515, 516, 517, 518, 519, 520] (by decide +kernel)
set_option maxRecDepth 20000 in
theorem in_wsL_law_r17 : ∀ w ∈ wsL_law_r17, w ∈ lw_tbl := in_of [521, 522, 523, 524, 525, 526, 528, 527, 73, 955, 956, 957, 958, 859, 959, 961, 34, 962, 963, 965, 35, 966, 860, 967] (by decide +kernel)
set_option maxRecDepth 20000 in
theorem in_wsL_law_r18 : ∀ w ∈ wsL_law_r18, w ∈ lw_tbl := in_of [969, 36, 970, 971, 973, 37, 974, 975, 977, 38, 978, 979, 980, 981, 983, 39, 984, 985, 987, 40, 988, 989, 991, 41] (by decide +kernel)
set_option maxRecDepth 20000 in
theorem in_wsL_law_r19 : ∀ w ∈ wsL_law_r19, w ∈ lw_tbl := in_of [992, 993, 994, 995, 996, 998, 42, 999, 530, 531, 532, 533, 99, 102, 158, 534, 535, 536, 537, 538, 539, 540, 541, 542] (by decide +kernel)
set_option maxRecDepth 20000 in
theorem in_wsL_law_r20 : ∀ w ∈ wsL_law_r20, w ∈ lw_tbl := in_of [543, 544, 545, 546, 547, 548, 549, 550, 551, 1000, 1001, 1002, 1003, 1004, 1006, 43, 1007, 1008, 1010, 44, 1011, 1012, 1014, 45] (by decide +kernel)
set_option maxRecDepth 20000 in
theorem in_wsL_law_r21 : ∀ w ∈ wsL_law_r21, w ∈ lw_tbl := in_of [1015, 552, 553, 554, 555, 556, 558, 12, 559, 560, 561, 562, 563, 156, 564, 565, 566, 567, 568, 569, 570, 571, 572, 573] (by decide +kernel)
set_option maxRecDepth 20000 in
theorem in_wsL_law_r22 : ∀ w ∈ wsL_law_r22, w ∈ lw_tbl := in_of [574, 575, 576, 577, 578, 579, 580, 581, 582, 583, 584, 585, 586, 587, 591, 598, 588, 589, 590, 592, 593, 594, 595, 596] (by decide +kernel)
set_option maxRecDepth 20000 in
theorem in_wsL_law_r23 : ∀ w ∈ wsL_law_r23, w ∈ lw_tbl := in_of [597, 1016, 1017, 1018, 1019, 1020, 1021, 1023, 46, 1024, 1025, 1027, 47, 1028, 1029, 1030, 1031, 1032, 1034, 48, 1035, 1036, 1038, 49] (by decide +kernel)
set_option maxRecDepth 20000 in
theorem in_wsL_law_r24 : ∀ w ∈ wsL_law_r24, w ∈ lw_tbl := in_of [1039, 1040, 1041, 1042, 1043, 1044, 1045, 1046, 1047, 1048, 1049, 1050, 1051, 599, 600, 601, 602, 1052, 1053, 1054, 1055, 603, 604, 605] (by decide +kernel)
set_option maxRecDepth 20000 in
theorem in_wsL_law_r25 : ∀ w ∈ wsL_law_r25, w ∈ lw_tbl := in_of [606, 607, 608, 609, 610, 611, 1056, 1057, 1058, 1059, 612, 613, 614, 615, 616, 1060, 1061, 1062, 1063, 617, 618, 619, 620, 1064] (by decide +kernel)
set_option maxRecDepth 20000 in
theorem in_wsL_law_r26 : ∀ w ∈ wsL_law_r26, w ∈ lw_tbl := in_of [1065, 1066, 1067, 1068, 1069, 1070, 1071, 621, 622, 623, 624, 625, 626, 627, 628, 1072, 1073, 1074, 1075, 629, 630, 631, 632, 1076] (by decide +kernel)
set_option maxRecDepth 20000 in
theorem in_wsL_law_r27 : ∀ w ∈ wsL_law_r27, w ∈ lw_tbl := in_of [1077, 1078, 1079, 633, 634, 635, 636, 637, 639, 13, 640, 1080, 1081, 1082, 1083, 1084, 1086, 50, 1087, 1088, 1090, 51, 1091, 641] (by decide +kernel)
set_option maxRecDepth 20000 in
theorem in_wsL_law_r28 : ∀ w ∈ wsL_law_r28, w ∈ lw_tbl := in_of [642, 643, 644, 1092, 1093, 1094, 1095, 645, 646, 647, 648, 1096, 1097, 1098, 1099, 1100, 649, 650, 651, 652, 1101, 1102, 1103, 1104] (by decide +kernel)
set_option maxRecDepth 20000 in
theorem in_wsL_law_r29 : ∀ w ∈ wsL_law_r29, w ∈ lw_tbl := in_of [653, 654, 655, 656, 1105, 1106, 1107, 1108, 657, 658, 659, 660, 201, 199, 661, 662, 663, 664, 197, 90, 200, 96, 665, 666] (by decide +kernel)
set_option maxRecDepth 20000 in
theorem in_wsL_law_r30 : ∀ w ∈ wsL_law_r30, w ∈ lw_tbl := in_of [667, 668, 669, 670, 671, 672, 673, 674, 676, 14, 677, 678, 680, 15, 681, 682, 1109, 1110, 1111, 1112, 1113, 1114, 1115, 1116] (by decide +kernel)
set_option maxRecDepth 20000 in
theorem in_wsL_law_r31 : ∀ w ∈ wsL_law_r31, w ∈ lw_tbl := in_of [683, 684, 685, 686, 226, 223, 687, 688, 689, 690, 691, 692, 693, 694, 224, 225, 695, 696, 697, 698, 699, 74, 700, 701] (by decide +kernel)
set_option maxRecDepth 20000 in
theorem in_wsL_law_r32 : ∀ w ∈ wsL_law_r32, w ∈ lw_tbl := in_of [702, 703, 704, 706, 16, 707, 116, 92, 708, 710, 17, 711, 712, 713, 714, 715, 716, 717, 718, 719, 1117, 1118, 1119, 1120] (by decide +kernel)
set_option maxRecDepth 20000 in
theorem in_wsL_law_r33 : ∀ w ∈ wsL_law_r33, w ∈ lw_tbl := in_of [1121, 1123, 52, 1124, 1125, 1127, 53, 1128, 1129, 1131, 54, 1132, 1133, 1135, 55, 1136, 720, 721, 722, 723, 243, 245, 247, 249] (by decide +kernel)
set_option maxRecDepth 20000 in
theorem in_wsL_law_r34 : ∀ w ∈ wsL_law_r34, w ∈ lw_tbl := in_of [724, 725, 726, 727, 242, 95, 728, 730, 18, 731, 101, 732, 733, 734, 735, 737, 19, 738, 244, 248, 246, 739, 741, 20] (by decide +kernel)
set_option maxRecDepth 20000 in
theorem in_wsL_law_r35 : ∀ w ∈ wsL_law_r35, w ∈ lw_tbl := in_of [742, 1137, 1138, 1139, 1140, 1141, 743, 744, 745, 746, 747, 1142, 1143, 1144, 1145, 748, 749, 750, 751, 767, 752, 754, 21, 755] (by decide +kernel)
set_option maxRecDepth 20000 in
theorem in_wsL_law_r36 : ∀ w ∈ wsL_law_r36, w ∈ lw_tbl := in_of [756, 757, 758, 759, 760, 761, 762, 763, 764, 765, 766, 1146, 1147, 1148, 1149, 1150, 1151, 768, 769, 770, 771, 286, 772, 773] (by decide +kernel)
set_option maxRecDepth 20000 in
theorem in_wsL_law_r37 : ∀ w ∈ wsL_law_r37, w ∈ lw_tbl := in_of [774, 775, 1152, 1153, 1154, 1155, 853, 776, 777, 778, 779, 1156, 1157, 1158, 1159, 780, 781, 782, 783, 784, 785, 786, 787, 789] (by decide +kernel)
set_option maxRecDepth 20000 in
theorem in_wsL_law_r38 : ∀ w ∈ wsL_law_r38, w ∈ lw_tbl := in_of [22, 790, 265, 267, 791, 792, 793, 794, 268, 795, 797, 23, 798, 799, 801, 24, 802, 271, 803, 805, 25, 806, 1160, 1161] (by decide +kernel)
set_option maxRecDepth 20000 in
theorem in_wsL_law_r39 : ∀ w ∈ wsL_law_r39, w ∈ lw_tbl := in_of [1162, 1163, 1171, 1164, 1165, 1166, 1170, 1167, 1168, 1169, 1172, 1174, 56, 1175, 807, 808, 809, 810, 811, 812, 814, 26, 815, 816] (by decide +kernel)
set_option maxRecDepth 20000 in
theorem in_wsL_law_r40 : ∀ w ∈ wsL_law_r40, w ∈ lw_tbl := in_of [1176, 1177, 1178, 1179, 1180, 1181, 817, 818, 819, 820, 821, 822, 823, 824, 266, 1182, 1183, 1184, 1185, 1186, 825, 826, 827, 828] (by decide +kernel)
set_option maxRecDepth 20000 in
theorem in_wsL_law_r41 : ∀ w ∈ wsL_law_r41, w ∈ lw_tbl := in_of [829, 830, 831, 832, 264, 1187, 1188, 1189, 1190, 833, 834, 835, 836, 269, 1191, 1192, 1193, 1194, 837, 838, 839, 840, 1195, 1196] (by decide +kernel)
set_option maxRecDepth 20000 in
theorem in_wsL_law_r42 : ∀ w ∈ wsL_law_r42, w ∈ lw_tbl := in_of [1197, 1198, 1199, 1200, 1201, 841, 842, 843, 844, 845, 1202, 1203, 1204, 1205] (by decide +kernel)
set_option maxRecDepth 20000 in
theorem inX7 : ∀ w ∈ wsX70, w ∈ lw_tbl := by decide +kernel
set_option maxRecDepth 20000 in
theorem inX8 : ∀ w ∈ wsX80, w ∈ lw_tbl := by decide +kernel
set_option maxRecDepth 20000 in
theorem inX2 : ∀ w ∈ wsX20, w ∈ lw_tbl := by decide +kernel
set_option maxRecDepth 20000 in
theorem inX0 : ∀ w ∈ wsX00, w ∈ lw_tbl := by decide +kernel
set_option maxRecDepth 20000 in
theorem inX6 : ∀ w ∈ wsX60, w ∈ lw_tbl := by decide +kernel
set_option maxRecDepth 20000 in
theorem inX4 : ∀ w ∈ wsX40, w ∈ lw_tbl := by decide +kernel
set_option maxRecDepth 20000 in
theorem inX3 : ∀ w ∈ wsX30, w ∈ lw_tbl := by decide +kernel
set_option maxRecDepth 20000 in
theorem inX1 : ∀ w ∈ wsX10, w ∈ lw_tbl := by decide +kernel
set_option maxRecDepth 20000 in
theorem inX5 : ∀ w ∈ wsX50, w ∈ lw_tbl := by decide +kernel
theorem wsL_law_in : ∀ w ∈ wsL_law, w ∈ lw_tbl := in_app (in_app (in_app (in_app (in_app (in_app (in_app (in_app (in_app (in_app (in_app in_wsL_law_r1 (in_app in_wsL_law_r2 (in_app in_wsL_law_r3 (in_app in_wsL_law_r4 (in_app in_wsL_law_r5 (in_app in_wsL_law_r6 (in_app in_wsL_law_r7 (in_app in_wsL_law_r8 (in_app in_wsL_law_r9 (in_app in_wsL_law_r10 (in_app in_wsL_law_r11 (in_app in_wsL_law_r12 (in_app in_wsL_law_r13 (in_app in_wsL_law_r14 (in_app in_wsL_law_r15 (in_app in_wsL_law_r16 (in_app in_wsL_law_r17 (in_app in_wsL_law_r18 (in_app in_wsL_law_r19 (in_app in_wsL_law_r20 (in_app in_wsL_law_r21 (in_app in_wsL_law_r22 (in_app in_wsL_law_r23 (in_app in_wsL_law_r24 (in_app in_wsL_law_r25 (in_app in_wsL_law_r26 (in_app in_wsL_law_r27 (in_app in_wsL_law_r28 (in_app in_wsL_law_r29 (in_app in_wsL_law_r30 (in_app in_wsL_law_r31 (in_app in_wsL_law_r32 (in_app in_wsL_law_r33 (in_app in_wsL_law_r34 (in_app in_wsL_law_r35 (in_app in_wsL_law_r36 (in_app in_wsL_law_r37 (in_app in_wsL_law_r38 (in_app in_wsL_law_r39 (in_app in_wsL_law_r40 (in_app in_wsL_law_r41 in_wsL_law_r42))))))))))))))))))))))))))))))))))))))))) inX7) inX8) inX2) inX0) inX6) inX4) inX3) inX1) inX5) in_nil

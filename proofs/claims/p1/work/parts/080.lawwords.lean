set_option maxRecDepth 20000 in
theorem wi_wsL_law0_r1 : ∀ w ∈ wsL_law0_r1, w ∈ lw_tbl := fun w h => (goodIn_r wsL_law0_r1 [83, 84, 57, 898, 899, 66, 1232, 85, 86, 87, 88, 89, 90, 91, 92, 58, 250, 117, 251, 150, 151, 60, 252, 248] (by decide +kernel) (by decide +kernel) w h).1
set_option maxRecDepth 20000 in
theorem wi_wsL_law0_r2 : ∀ w ∈ wsL_law0_r2, w ∈ lw_tbl := fun w h => (goodIn_r wsL_law0_r2 [193, 65, 253, 254, 94, 95, 96, 97, 98, 59, 116, 118, 119, 120, 121, 122, 123, 124, 125, 127, 100, 101, 102, 115] (by decide +kernel) (by decide +kernel) w h).1
set_option maxRecDepth 20000 in
theorem wi_wsL_law0_r3 : ∀ w ∈ wsL_law0_r3, w ∈ lw_tbl := fun w h => (goodIn_r wsL_law0_r3 [103, 106, 153, 154, 155, 156, 157, 61, 219, 166, 167, 64, 221, 223, 225, 192, 227, 229, 231, 159, 160, 161, 162, 168] (by decide +kernel) (by decide +kernel) w h).1
set_option maxRecDepth 20000 in
theorem wi_wsL_law0_r4 : ∀ w ∈ wsL_law0_r4, w ∈ lw_tbl := fun w h => (goodIn_r wsL_law0_r4 [169, 170, 178, 180, 171, 172, 63, 173, 182, 174, 175, 62, 176, 177, 195, 196, 197, 198, 200, 201, 202, 218, 203, 205] (by decide +kernel) (by decide +kernel) w h).1
set_option maxRecDepth 20000 in
theorem wi_wsL_law0_r5 : ∀ w ∈ wsL_law0_r5, w ∈ lw_tbl := fun w h => (goodIn_r wsL_law0_r5 [900, 901, 902, 903, 553, 905, 909, 910, 911, 912, 913, 914, 915, 916, 917, 918, 919, 920, 923, 924, 925, 926, 927, 935] (by decide +kernel) (by decide +kernel) w h).1
set_option maxRecDepth 20000 in
theorem wi_wsL_law0_r6 : ∀ w ∈ wsL_law0_r6, w ∈ lw_tbl := fun w h => (goodIn_r wsL_law0_r6 [936, 937, 938, 939, 940, 941, 942, 943, 945, 946, 947, 266, 267, 268, 269, 108, 270, 271, 272, 273, 274, 275, 276, 277] (by decide +kernel) (by decide +kernel) w h).1
set_option maxRecDepth 20000 in
theorem wi_wsL_law0_r7 : ∀ w ∈ wsL_law0_r7, w ∈ lw_tbl := fun w h => (goodIn_r wsL_law0_r7 [1044, 1045, 1046, 1047, 904, 906, 1048, 1050, 31, 1051, 278, 279, 280, 281, 282, 283, 284, 1052, 1053, 1054, 1055, 285, 286, 287] (by decide +kernel) (by decide +kernel) w h).1
set_option maxRecDepth 20000 in
theorem wi_wsL_law0_r8 : ∀ w ∈ wsL_law0_r8, w ∈ lw_tbl := fun w h => (goodIn_r wsL_law0_r8 [288, 232, 222, 293, 294, 67, 289, 290, 291, 292, 181, 295, 296, 297, 298, 309, 311, 312, 314, 315, 316, 299, 301, 303] (by decide +kernel) (by decide +kernel) w h).1
set_option maxRecDepth 20000 in
theorem wi_wsL_law0_r9 : ∀ w ∈ wsL_law0_r9, w ∈ lw_tbl := fun w h => (goodIn_r wsL_law0_r9 [305, 307, 308, 342, 343, 344, 345, 183, 184, 346, 348, 0, 349, 350, 352, 1, 353, 354, 356, 2, 357, 399, 362, 69] (by decide +kernel) (by decide +kernel) w h).1
set_option maxRecDepth 20000 in
theorem wi_wsL_law0_r10 : ∀ w ∈ wsL_law0_r10, w ∈ lw_tbl := fun w h => (goodIn_r wsL_law0_r10 [363, 400, 358, 359, 68, 360, 361, 364, 365, 366, 367, 368, 369, 70, 370, 371, 1249, 372, 386, 387, 388, 389, 390, 392] (by decide +kernel) (by decide +kernel) w h).1
set_option maxRecDepth 20000 in
theorem wi_wsL_law0_r11 : ∀ w ∈ wsL_law0_r11, w ∈ lw_tbl := fun w h => (goodIn_r wsL_law0_r11 [393, 394, 395, 396, 398, 397, 71, 1056, 1057, 1058, 1059, 921, 922, 1060, 1061, 1062, 401, 402, 403, 404, 220, 405, 406, 407] (by decide +kernel) (by decide +kernel) w h).1
set_option maxRecDepth 20000 in
theorem wi_wsL_law0_r12 : ∀ w ∈ wsL_law0_r12, w ∈ lw_tbl := fun w h => (goodIn_r wsL_law0_r12 [408, 107, 104, 409, 1063, 1064, 1065, 1066, 907, 1067, 1069, 32, 1070, 908, 410, 411, 412, 413, 126, 128, 228, 206, 414, 415] (by decide +kernel) (by decide +kernel) w h).1
set_option maxRecDepth 20000 in
theorem wi_wsL_law0_r13 : ∀ w ∈ wsL_law0_r13, w ∈ lw_tbl := fun w h => (goodIn_r wsL_law0_r13 [416, 417, 418, 419, 420, 421, 422, 424, 3, 425, 109, 426, 105, 427, 428, 429, 430, 431, 432, 433, 434, 435, 436, 437] (by decide +kernel) (by decide +kernel) w h).1
set_option maxRecDepth 20000 in
theorem wi_wsL_law0_r14 : ∀ w ∈ wsL_law0_r14, w ∈ lw_tbl := fun w h => (goodIn_r wsL_law0_r14 [438, 439, 441, 4, 442, 443, 445, 5, 446, 447, 449, 6, 450, 452, 454, 7, 455, 456, 457, 458, 72, 459, 1257, 460] (by decide +kernel) (by decide +kernel) w h).1
set_option maxRecDepth 20000 in
theorem wi_wsL_law0_r15 : ∀ w ∈ wsL_law0_r15, w ∈ lw_tbl := fun w h => (goodIn_r wsL_law0_r15 [461, 462, 463, 464, 1258, 466, 467, 468, 469, 470, 471, 472, 473, 474, 475, 73, 476, 477, 478, 479, 480, 482, 483, 74] (by decide +kernel) (by decide +kernel) w h).1
set_option maxRecDepth 20000 in
theorem wi_wsL_law0_r16 : ∀ w ∈ wsL_law0_r16, w ∈ lw_tbl := fun w h => (goodIn_r wsL_law0_r16 [484, 485, 486, 75, 487, 488, 489, 490, 491, 492, 493, 494, 495, 496, 497, 498, 500, 502, 507, 509, 8, 510, 511, 513] (by decide +kernel) (by decide +kernel) w h).1
set_option maxRecDepth 20000 in
theorem wi_wsL_law0_r17 : ∀ w ∈ wsL_law0_r17, w ∈ lw_tbl := fun w h => (goodIn_r wsL_law0_r17 [9, 514, 515, 517, 10, 518, 519, 521, 11, 522, 524, 526, 12, 527, 204, 528, 529, 530, 531, 532, 534, 13, 535, 536] (by decide +kernel) (by decide +kernel) w h).1
set_option maxRecDepth 20000 in
theorem wi_wsL_law0_r18 : ∀ w ∈ wsL_law0_r18, w ∈ lw_tbl := fun w h => (goodIn_r wsL_law0_r18 [537, 538, 539, 540, 542, 14, 543, 544, 546, 15, 547, 548, 549, 550, 551, 552, 1083, 1084, 1085, 1086, 931, 932, 1087, 1089] (by decide +kernel) (by decide +kernel) w h).1
set_option maxRecDepth 20000 in
theorem wi_wsL_law0_r19 : ∀ w ∈ wsL_law0_r19, w ∈ lw_tbl := fun w h => (goodIn_r wsL_law0_r19 [34, 1090, 929, 928, 934, 930, 1091, 1093, 35, 1094, 1095, 1096, 1097, 1098, 1099, 1100, 1101, 1103, 36, 1104, 1105, 1107, 37, 1108] (by decide +kernel) (by decide +kernel) w h).1
set_option maxRecDepth 20000 in
theorem wi_wsL_law0_r20 : ∀ w ∈ wsL_law0_r20, w ∈ lw_tbl := fun w h => (goodIn_r wsL_law0_r20 [1109, 933, 1122, 1123, 1110, 1112, 38, 1113, 1114, 1116, 39, 1117, 1118, 1120, 40, 1121, 1124, 1126, 41, 1127, 1128, 554, 555, 556] (by decide +kernel) (by decide +kernel) w h).1
set_option maxRecDepth 20000 in
theorem wi_wsL_law0_r21 : ∀ w ∈ wsL_law0_r21, w ∈ lw_tbl := fun w h => (goodIn_r wsL_law0_r21 [557, 1129, 1130, 1131, 1132, 558, 559, 560, 561, 226, 566, 567, 76, 562, 564, 16, 565, 568, 569, 570, 571, 575, 577, 572] (by decide +kernel) (by decide +kernel) w h).1
set_option maxRecDepth 20000 in
theorem wi_wsL_law0_r22 : ∀ w ∈ wsL_law0_r22, w ∈ lw_tbl := fun w h => (goodIn_r wsL_law0_r22 [1149, 1150, 1151, 1152, 948, 1137, 1139, 42, 1140, 586, 587, 588, 589, 230, 1079, 1080, 1081, 1082, 590, 591, 592, 593, 224, 598] (by decide +kernel) (by decide +kernel) w h).1
set_option maxRecDepth 20000 in
theorem wi_wsL_law0_r23 : ∀ w ∈ wsL_law0_r23, w ∈ lw_tbl := fun w h => (goodIn_r wsL_law0_r23 [599, 77, 594, 595, 596, 597, 600, 601, 602, 603, 608, 611, 614, 618, 621, 604, 606, 616, 1145, 1146, 1147, 1148, 944, 641] (by decide +kernel) (by decide +kernel) w h).1
set_option maxRecDepth 20000 in
theorem wi_wsL_law0_r24 : ∀ w ∈ wsL_law0_r24, w ∈ lw_tbl := fun w h => (goodIn_r wsL_law0_r24 [642, 643, 644, 645, 646, 647, 648, 680, 679, 649, 651, 17, 652, 666, 653, 654, 655, 656, 657, 658, 659, 78, 660, 661] (by decide +kernel) (by decide +kernel) w h).1
set_option maxRecDepth 20000 in
theorem wi_wsL_law0_r25 : ∀ w ∈ wsL_law0_r25, w ∈ lw_tbl := fun w h => (goodIn_r wsL_law0_r25 [662, 663, 664, 665, 667, 668, 669, 670, 671, 673, 18, 674, 615, 612, 313, 675, 676, 677, 678, 607, 681, 682, 683, 684] (by decide +kernel) (by decide +kernel) w h).1
set_option maxRecDepth 20000 in
theorem wi_wsL_law0_r26 : ∀ w ∈ wsL_law0_r26, w ∈ lw_tbl := fun w h => (goodIn_r wsL_law0_r26 [685, 686, 687, 688, 689, 691, 19, 692, 605, 310, 693, 694, 695, 696, 697, 698, 699, 700, 701, 703, 20, 704, 300, 705] (by decide +kernel) (by decide +kernel) w h).1
set_option maxRecDepth 20000 in
theorem wi_wsL_law0_r27 : ∀ w ∈ wsL_law0_r27, w ∈ lw_tbl := fun w h => (goodIn_r wsL_law0_r27 [706, 707, 708, 709, 711, 21, 712, 609, 622, 714, 306, 617, 715, 717, 22, 718, 719, 721, 23, 722, 619, 723, 725, 24] (by decide +kernel) (by decide +kernel) w h).1
set_option maxRecDepth 20000 in
theorem wi_wsL_law0_r28 : ∀ w ∈ wsL_law0_r28, w ∈ lw_tbl := fun w h => (goodIn_r wsL_law0_r28 [726, 304, 302, 727, 728, 729, 730, 731, 732, 733, 734, 735, 737, 25, 738, 573, 739, 740, 741, 742, 743, 745, 26, 746] (by decide +kernel) (by decide +kernel) w h).1
set_option maxRecDepth 20000 in
theorem wi_wsL_law0_r29 : ∀ w ∈ wsL_law0_r29, w ∈ lw_tbl := fun w h => (goodIn_r wsL_law0_r29 [747, 748, 749, 750, 752, 27, 753, 754, 755, 756, 757, 758, 759, 760, 761, 762, 763, 764, 765, 766, 1153, 1154, 1155, 1156] (by decide +kernel) (by decide +kernel) w h).1
set_option maxRecDepth 20000 in
theorem wi_wsL_law0_r30 : ∀ w ∈ wsL_law0_r30, w ∈ lw_tbl := fun w h => (goodIn_r wsL_law0_r30 [1157, 1159, 44, 1160, 1161, 1163, 45, 1164, 1165, 1167, 46, 1168, 1169, 1171, 47, 1172, 1075, 1077, 33, 1078, 1173, 1175, 48, 1176] (by decide +kernel) (by decide +kernel) w h).1
set_option maxRecDepth 20000 in
theorem wi_wsL_law0_r31 : ∀ w ∈ wsL_law0_r31, w ∈ lw_tbl := fun w h => (goodIn_r wsL_law0_r31 [1177, 1179, 49, 1180, 1181, 1183, 50, 1184, 1141, 1143, 43, 1144, 1185, 1187, 51, 1188, 1189, 1191, 52, 1192, 1193, 1194, 1195, 767] (by decide +kernel) (by decide +kernel) w h).1
set_option maxRecDepth 20000 in
theorem wi_wsL_law0_r32 : ∀ w ∈ wsL_law0_r32, w ∈ lw_tbl := fun w h => (goodIn_r wsL_law0_r32 [768, 769, 770, 771, 1071, 1072, 1073, 1074, 772, 773, 774, 775, 776, 1133, 1134, 1135, 1136, 777, 778, 779, 780, 293, 781, 782] (by decide +kernel) (by decide +kernel) w h).1
set_option maxRecDepth 20000 in
theorem wi_wsL_law0_r33 : ∀ w ∈ wsL_law0_r33, w ∈ lw_tbl := fun w h => (goodIn_r wsL_law0_r33 [783, 784, 785, 1196, 1197, 1198, 1199, 823, 824, 56, 825, 826, 827, 828, 829, 830, 831, 82, 598, 613, 620, 623, 790, 792] (by decide +kernel) (by decide +kernel) w h).1
set_option maxRecDepth 20000 in
theorem wi_wsL_law0_r34 : ∀ w ∈ wsL_law0_r34, w ∈ lw_tbl := fun w h => (goodIn_r wsL_law0_r34 [28, 793, 896, 1200, 1201, 1202, 1203, 1204, 1206, 53, 1207, 1208, 1210, 54, 1211, 1040, 1041, 1042, 1043, 786, 787, 788, 789, 610] (by decide +kernel) (by decide +kernel) w h).1
set_option maxRecDepth 20000 in
theorem wi_wsL_law0_r35 : ∀ w ∈ wsL_law0_r35, w ∈ lw_tbl := fun w h => (goodIn_r wsL_law0_r35 [1212, 1213, 1214, 1215, 794, 795, 796, 797, 566, 574, 576, 578, 1216, 1217, 1218, 1219, 798, 799, 800, 801, 802, 803, 804, 805] (by decide +kernel) (by decide +kernel) w h).1
set_option maxRecDepth 20000 in
theorem wi_wsL_law0_r36 : ∀ w ∈ wsL_law0_r36, w ∈ lw_tbl := fun w h => (goodIn_r wsL_law0_r36 [806, 808, 29, 809, 1220, 1221, 1222, 1223, 1224, 1226, 55, 1227, 810, 811, 812, 813, 814, 815, 816, 817, 818, 819, 820, 821] (by decide +kernel) (by decide +kernel) w h).1
set_option maxRecDepth 20000 in
theorem wi_wsL_law0_r37 : ∀ w ∈ wsL_law0_r37, w ∈ lw_tbl := fun w h => (goodIn_r wsL_law0_r37 [822, 1228, 1229, 1230, 1231] (by decide +kernel) (by decide +kernel) w h).1
set_option maxRecDepth 20000 in
theorem wi_wsX80 : ∀ w ∈ wsX80, w ∈ lw_tbl := fun w h => (goodIn_r wsX80 [255, 257, 259, 261, 263] (by decide +kernel) (by decide +kernel) w h).1
set_option maxRecDepth 20000 in
theorem wi_wsX90 : ∀ w ∈ wsX90, w ∈ lw_tbl := fun w h => (goodIn_r wsX90 [949, 951, 953, 955, 957, 959, 961, 963, 965, 967, 969, 971, 973, 975, 977, 979, 981, 983, 985, 987, 989, 991, 993, 995, 997, 999, 1001, 1003, 1005, 1007, 1009, 1011, 1013, 1015, 1017, 1019, 1021, 1023, 1025, 1027, 1029, 1031, 1033, 1035, 1037] (by decide +kernel) (by decide +kernel) w h).1
set_option maxRecDepth 20000 in
theorem wi_wsX20 : ∀ w ∈ wsX20, w ∈ lw_tbl := fun w h => (goodIn_r wsX20 [129, 131, 133, 135, 137, 139, 141, 143, 145, 147] (by decide +kernel) (by decide +kernel) w h).1
set_option maxRecDepth 20000 in
theorem wi_wsX30 : ∀ w ∈ wsX30, w ∈ lw_tbl := fun w h => (goodIn_r wsX30 [233, 235, 237, 239, 241, 243, 245] (by decide +kernel) (by decide +kernel) w h).1
set_option maxRecDepth 20000 in
theorem wi_wsX70 : ∀ w ∈ wsX70, w ∈ lw_tbl := fun w h => (goodIn_r wsX70 [207, 209, 211, 213, 215] (by decide +kernel) (by decide +kernel) w h).1
set_option maxRecDepth 20000 in
theorem wi_wsX50 : ∀ w ∈ wsX50, w ∈ lw_tbl := fun w h => (goodIn_r wsX50 [110, 112] (by decide +kernel) (by decide +kernel) w h).1
set_option maxRecDepth 20000 in
theorem wi_wsX60 : ∀ w ∈ wsX60, w ∈ lw_tbl := fun w h => (goodIn_r wsX60 [163] (by decide +kernel) (by decide +kernel) w h).1
set_option maxRecDepth 20000 in
theorem wi_wsJx4a65c0 : ∀ w ∈ wsJx4a65c0, w ∈ lw_tbl := fun w h => (goodIn_r wsJx4a65c0 [189, 185, 187] (by decide +kernel) (by decide +kernel) w h).1
set_option maxRecDepth 20000 in
theorem wi_wsX00 : ∀ w ∈ wsX00, w ∈ lw_tbl := fun w h => (goodIn_r wsX00 [317, 319, 321, 323, 325, 327, 329, 331, 333, 335, 337, 339] (by decide +kernel) (by decide +kernel) w h).1
set_option maxRecDepth 20000 in
theorem wi_wsX10 : ∀ w ∈ wsX10, w ∈ lw_tbl := fun w h => (goodIn_r wsX10 [579, 581, 583] (by decide +kernel) (by decide +kernel) w h).1
set_option maxRecDepth 20000 in
theorem wi_wsX40 : ∀ w ∈ wsX40, w ∈ lw_tbl := fun w h => (goodIn_r wsX40 [624, 626, 628, 630, 632, 634, 636, 638] (by decide +kernel) (by decide +kernel) w h).1
theorem wsL_law_in0 : ∀ w ∈ wsL_law0, w ∈ lw_tbl := List.forall_mem_append.mpr ⟨List.forall_mem_append.mpr ⟨List.forall_mem_append.mpr ⟨List.forall_mem_append.mpr ⟨List.forall_mem_append.mpr ⟨List.forall_mem_append.mpr ⟨List.forall_mem_append.mpr ⟨List.forall_mem_append.mpr ⟨List.forall_mem_append.mpr ⟨List.forall_mem_append.mpr ⟨List.forall_mem_append.mpr ⟨List.forall_mem_append.mpr ⟨List.forall_mem_append.mpr ⟨wi_wsL_law0_r1, List.forall_mem_append.mpr ⟨wi_wsL_law0_r2, List.forall_mem_append.mpr ⟨wi_wsL_law0_r3, List.forall_mem_append.mpr ⟨wi_wsL_law0_r4, List.forall_mem_append.mpr ⟨wi_wsL_law0_r5, List.forall_mem_append.mpr ⟨wi_wsL_law0_r6, List.forall_mem_append.mpr ⟨wi_wsL_law0_r7, List.forall_mem_append.mpr ⟨wi_wsL_law0_r8, List.forall_mem_append.mpr ⟨wi_wsL_law0_r9, List.forall_mem_append.mpr ⟨wi_wsL_law0_r10, List.forall_mem_append.mpr ⟨wi_wsL_law0_r11, List.forall_mem_append.mpr ⟨wi_wsL_law0_r12, List.forall_mem_append.mpr ⟨wi_wsL_law0_r13, List.forall_mem_append.mpr ⟨wi_wsL_law0_r14, List.forall_mem_append.mpr ⟨wi_wsL_law0_r15, List.forall_mem_append.mpr ⟨wi_wsL_law0_r16, List.forall_mem_append.mpr ⟨wi_wsL_law0_r17, List.forall_mem_append.mpr ⟨wi_wsL_law0_r18, List.forall_mem_append.mpr ⟨wi_wsL_law0_r19, List.forall_mem_append.mpr ⟨wi_wsL_law0_r20, List.forall_mem_append.mpr ⟨wi_wsL_law0_r21, List.forall_mem_append.mpr ⟨wi_wsL_law0_r22, List.forall_mem_append.mpr ⟨wi_wsL_law0_r23, List.forall_mem_append.mpr ⟨wi_wsL_law0_r24, List.forall_mem_append.mpr ⟨wi_wsL_law0_r25, List.forall_mem_append.mpr ⟨wi_wsL_law0_r26, List.forall_mem_append.mpr ⟨wi_wsL_law0_r27, List.forall_mem_append.mpr ⟨wi_wsL_law0_r28, List.forall_mem_append.mpr ⟨wi_wsL_law0_r29, List.forall_mem_append.mpr ⟨wi_wsL_law0_r30, List.forall_mem_append.mpr ⟨wi_wsL_law0_r31, List.forall_mem_append.mpr ⟨wi_wsL_law0_r32, List.forall_mem_append.mpr ⟨wi_wsL_law0_r33, List.forall_mem_append.mpr ⟨wi_wsL_law0_r34, List.forall_mem_append.mpr ⟨wi_wsL_law0_r35, List.forall_mem_append.mpr ⟨wi_wsL_law0_r36, wi_wsL_law0_r37⟩⟩⟩⟩⟩⟩⟩⟩⟩⟩⟩⟩⟩⟩⟩⟩⟩⟩⟩⟩⟩⟩⟩⟩⟩⟩⟩⟩⟩⟩⟩⟩⟩⟩⟩⟩, wi_wsX80⟩, wi_wsX90⟩, wi_wsX20⟩, wi_wsX30⟩, wi_wsX70⟩, wi_wsX50⟩, wi_wsX60⟩, wi_wsJx4a65c0⟩, wi_wsX00⟩, wi_wsX10⟩, wi_wsX40⟩, (fun _ h => nomatch h)⟩
theorem wsLaw_in : ∀ w ∈ wsLaw, w ∈ lw_tbl := fun w h => (List.mem_append.mp h).elim (fun h => wsL_law_in0 w h) (fun h => twS_in w h)
theorem inwX0 : ∀ w ∈ wsX00, w ∈ wsLaw := fun _ h => List.mem_append_left _ (List.mem_append_left _ (List.mem_append_left _ (List.mem_append_left _ (List.mem_append_right _ h))))
theorem inwX1 : ∀ w ∈ wsX10, w ∈ wsLaw := fun _ h => List.mem_append_left _ (List.mem_append_left _ (List.mem_append_left _ (List.mem_append_right _ h)))
theorem inwX2 : ∀ w ∈ wsX20, w ∈ wsLaw := fun _ h => List.mem_append_left _ (List.mem_append_left _ (List.mem_append_left _ (List.mem_append_left _ (List.mem_append_left _ (List.mem_append_left _ (List.mem_append_left _ (List.mem_append_left _ (List.mem_append_left _ (List.mem_append_left _ (List.mem_append_right _ h))))))))))
theorem inwX3 : ∀ w ∈ wsX30, w ∈ wsLaw := fun _ h => List.mem_append_left _ (List.mem_append_left _ (List.mem_append_left _ (List.mem_append_left _ (List.mem_append_left _ (List.mem_append_left _ (List.mem_append_left _ (List.mem_append_left _ (List.mem_append_left _ (List.mem_append_right _ h)))))))))
theorem inwX4 : ∀ w ∈ wsX40, w ∈ wsLaw := fun _ h => List.mem_append_left _ (List.mem_append_left _ (List.mem_append_right _ h))
theorem inwX5 : ∀ w ∈ wsX50, w ∈ wsLaw := fun _ h => List.mem_append_left _ (List.mem_append_left _ (List.mem_append_left _ (List.mem_append_left _ (List.mem_append_left _ (List.mem_append_left _ (List.mem_append_left _ (List.mem_append_right _ h)))))))
theorem inwX6 : ∀ w ∈ wsX60, w ∈ wsLaw := fun _ h => List.mem_append_left _ (List.mem_append_left _ (List.mem_append_left _ (List.mem_append_left _ (List.mem_append_left _ (List.mem_append_left _ (List.mem_append_right _ h))))))
theorem inwX7 : ∀ w ∈ wsX70, w ∈ wsLaw := fun _ h => List.mem_append_left _ (List.mem_append_left _ (List.mem_append_left _ (List.mem_append_left _ (List.mem_append_left _ (List.mem_append_left _ (List.mem_append_left _ (List.mem_append_left _ (List.mem_append_right _ h))))))))
theorem inwX8 : ∀ w ∈ wsX80, w ∈ wsLaw := fun _ h => List.mem_append_left _ (List.mem_append_left _ (List.mem_append_left _ (List.mem_append_left _ (List.mem_append_left _ (List.mem_append_left _ (List.mem_append_left _ (List.mem_append_left _ (List.mem_append_left _ (List.mem_append_left _ (List.mem_append_left _ (List.mem_append_left _ (List.mem_append_right _ h))))))))))))
theorem inwX9 : ∀ w ∈ wsX90, w ∈ wsLaw := fun _ h => List.mem_append_left _ (List.mem_append_left _ (List.mem_append_left _ (List.mem_append_left _ (List.mem_append_left _ (List.mem_append_left _ (List.mem_append_left _ (List.mem_append_left _ (List.mem_append_left _ (List.mem_append_left _ (List.mem_append_left _ (List.mem_append_right _ h)))))))))))
theorem inwJx4a65c : ∀ w ∈ wsJx4a65c0, w ∈ wsLaw := fun _ h => List.mem_append_left _ (List.mem_append_left _ (List.mem_append_left _ (List.mem_append_left _ (List.mem_append_left _ (List.mem_append_right _ h)))))

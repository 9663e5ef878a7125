theorem lw_ap {a b t : List Cond} (ha : ∀ w ∈ a, w ∈ t) (hb : ∀ w ∈ b, w ∈ t) : ∀ w ∈ a ++ b, w ∈ t := fun w h => (List.mem_append.mp h).elim (ha w) (hb w)
set_option maxRecDepth 100000 in
theorem in_wsL_law_r1 : ∀ w ∈ wsL_law_r1, w ∈ lw_tbl := fun w h => (goodIn_r wsL_law_r1 [68, 69, 51, 844, 845, 60, 70, 71, 72, 73, 74, 75, 76, 77, 52, 278, 279, 152, 154, 54, 280, 170, 171, 55] (by decide +kernel) (by decide +kernel) w h).1
set_option maxRecDepth 100000 in
theorem in_wsL_law_r2 : ∀ w ∈ wsL_law_r2, w ∈ lw_tbl := fun w h => (goodIn_r wsL_law_r2 [281, 214, 215, 56, 282, 231, 232, 57, 283, 244, 245, 58, 284, 259, 261, 59, 285, 286, 78, 79, 80, 81, 151, 89] (by decide +kernel) (by decide +kernel) w h).1
set_option maxRecDepth 100000 in
theorem in_wsL_law_r3 : ∀ w ∈ wsL_law_r3, w ∈ lw_tbl := fun w h => (goodIn_r wsL_law_r3 [91, 93, 95, 98, 82, 83, 84, 85, 101, 104, 107, 110, 113, 116, 119, 121, 86, 87, 53, 88, 156, 157, 158, 159] (by decide +kernel) (by decide +kernel) w h).1
set_option maxRecDepth 100000 in
theorem in_wsL_law_r4 : ∀ w ∈ wsL_law_r4, w ∈ lw_tbl := fun w h => (goodIn_r wsL_law_r4 [161, 163, 160, 173, 174, 175, 176, 178, 213, 180, 181, 183, 185, 187, 188, 189, 190, 191, 177, 217, 218, 219, 220, 221] (by decide +kernel) (by decide +kernel) w h).1
set_option maxRecDepth 100000 in
theorem in_wsL_law_r5 : ∀ w ∈ wsL_law_r5, w ∈ lw_tbl := fun w h => (goodIn_r wsL_law_r5 [222, 234, 235, 236, 237, 238, 247, 248, 249, 258, 250, 251, 263, 264, 265, 266, 267, 269, 846, 847, 848, 849, 850, 851] (by decide +kernel) (by decide +kernel) w h).1
set_option maxRecDepth 100000 in
theorem in_wsL_law_r6 : ∀ w ∈ wsL_law_r6, w ∈ lw_tbl := fun w h => (goodIn_r wsL_law_r6 [853, 862, 863, 864, 865, 866, 868, 923, 869, 870, 871, 872, 306, 307, 308, 309, 182, 310, 311, 312, 313, 924, 925, 926] (by decide +kernel) (by decide +kernel) w h).1
set_option maxRecDepth 100000 in
theorem in_wsL_law_r7 : ∀ w ∈ wsL_law_r7, w ∈ lw_tbl := fun w h => (goodIn_r wsL_law_r7 [927, 928, 854, 929, 930, 931, 314, 315, 316, 317, 932, 933, 934, 935, 318, 319, 320, 321, 184, 186, 179, 223, 322, 323] (by decide +kernel) (by decide +kernel) w h).1
set_option maxRecDepth 100000 in
theorem in_wsL_law_r8 : ∀ w ∈ wsL_law_r8, w ∈ lw_tbl := fun w h => (goodIn_r wsL_law_r8 [324, 325, 326, 327, 329, 0, 330, 331, 333, 1, 334, 335, 336, 337, 338, 340, 2, 341, 342, 343, 344, 345, 347, 3] (by decide +kernel) (by decide +kernel) w h).1
set_option maxRecDepth 100000 in
theorem in_wsL_law_r9 : ∀ w ∈ wsL_law_r9, w ∈ lw_tbl := fun w h => (goodIn_r wsL_law_r9 [348, 349, 351, 4, 352, 429, 431, 441, 443, 353, 355, 5, 356, 358, 360, 6, 361, 362, 363, 364, 61, 365, 1219, 366] (by decide +kernel) (by decide +kernel) w h).1
set_option maxRecDepth 100000 in
theorem in_wsL_law_r10 : ∀ w ∈ wsL_law_r10, w ∈ lw_tbl := fun w h => (goodIn_r wsL_law_r10 [367, 368, 369, 370, 1220, 372, 373, 374, 375, 376, 377, 378, 379, 380, 381, 62, 382, 383, 384, 385, 386, 388, 389, 63] (by decide +kernel) (by decide +kernel) w h).1
set_option maxRecDepth 100000 in
theorem in_wsL_law_r11 : ∀ w ∈ wsL_law_r11, w ∈ lw_tbl := fun w h => (goodIn_r wsL_law_r11 [390, 391, 392, 64, 393, 394, 395, 396, 397, 398, 399, 400, 401, 402, 403, 404, 406, 408, 417, 419, 7, 420, 421, 423] (by decide +kernel) (by decide +kernel) w h).1
set_option maxRecDepth 100000 in
theorem in_wsL_law_r12 : ∀ w ∈ wsL_law_r12, w ∈ lw_tbl := fun w h => (goodIn_r wsL_law_r12 [8, 424, 425, 427, 9, 428, 103, 123, 433, 435, 10, 436, 437, 439, 11, 440, 445, 447, 12, 448, 106, 109, 112, 115] (by decide +kernel) (by decide +kernel) w h).1
set_option maxRecDepth 100000 in
theorem in_wsL_law_r13 : ∀ w ∈ wsL_law_r13, w ∈ lw_tbl := fun w h => (goodIn_r wsL_law_r13 [118, 449, 450, 451, 452, 453, 454, 455, 456, 457, 458, 459, 460, 461, 463, 462, 65, 464, 466, 13, 467, 164, 468, 470] (by decide +kernel) (by decide +kernel) w h).1
set_option maxRecDepth 100000 in
theorem in_wsL_law_r14 : ∀ w ∈ wsL_law_r14, w ∈ lw_tbl := fun w h => (goodIn_r wsL_law_r14 [14, 471, 936, 937, 938, 939, 856, 858, 852, 860, 855, 857, 867, 940, 942, 26, 943, 859, 861, 948, 949, 950, 951, 944] (by decide +kernel) (by decide +kernel) w h).1
set_option maxRecDepth 100000 in
theorem in_wsL_law_r15 : ∀ w ∈ wsL_law_r15, w ∈ lw_tbl := fun w h => (goodIn_r wsL_law_r15 [946, 27, 947, 952, 954, 28, 955, 956, 958, 29, 959, 964, 960, 962, 30, 963, 965, 967, 31, 968, 969, 971, 32, 972] (by decide +kernel) (by decide +kernel) w h).1
set_option maxRecDepth 100000 in
theorem in_wsL_law_r16 : ∀ w ∈ wsL_law_r16, w ∈ lw_tbl := fun w h => (goodIn_r wsL_law_r16 [472, 473, 474, 475, 973, 974, 975, 976, 476, 477, 478, 479, 102, 105, 108, 111, 114, 117, 120, 122, 480, 481, 482, 483] (by decide +kernel) (by decide +kernel) w h).1
set_option maxRecDepth 100000 in
theorem in_wsL_law_r17 : ∀ w ∈ wsL_law_r17, w ∈ lw_tbl := fun w h => (goodIn_r wsL_law_r17 [484, 485, 486, 487, 488, 489, 490, 491, 511, 512, 66, 513, 492, 493, 494, 495, 496, 497, 498, 499, 500, 501, 66, 502] (by decide +kernel) (by decide +kernel) w h).1
set_option maxRecDepth 100000 in
theorem in_wsL_law_r18 : ∀ w ∈ wsL_law_r18, w ∈ lw_tbl := fun w h => (goodIn_r wsL_law_r18 [503, 504, 505, 506, 507, 509, 15, 510, 977, 978, 979, 980, 981, 983, 33, 984, 985, 987, 34, 988, 989, 991, 35, 992] (by decide +kernel) (by decide +kernel) w h).1
set_option maxRecDepth 100000 in
theorem in_wsL_law_r19 : ∀ w ∈ wsL_law_r19, w ∈ lw_tbl := fun w h => (goodIn_r wsL_law_r19 [993, 995, 36, 996, 514, 515, 516, 517, 90, 92, 518, 519, 520, 521, 522, 523, 524, 525, 526, 997, 998, 999, 1000, 1005] (by decide +kernel) (by decide +kernel) w h).1
set_option maxRecDepth 100000 in
theorem in_wsL_law_r20 : ∀ w ∈ wsL_law_r20, w ∈ lw_tbl := fun w h => (goodIn_r wsL_law_r20 [1001, 1003, 37, 1004, 527, 528, 529, 530, 94, 531, 532, 533, 1006, 1007, 1008, 1009, 1014, 1010, 1012, 38, 1013, 534, 535, 536] (by decide +kernel) (by decide +kernel) w h).1
set_option maxRecDepth 100000 in
theorem in_wsL_law_r21 : ∀ w ∈ wsL_law_r21, w ∈ lw_tbl := fun w h => (goodIn_r wsL_law_r21 [537, 97, 100, 538, 539, 540, 541, 1015, 1016, 1017, 1018, 1019, 1021, 39, 1022, 542, 543, 544, 545, 1023, 1024, 1025, 1026, 1027] (by decide +kernel) (by decide +kernel) w h).1
set_option maxRecDepth 100000 in
theorem in_wsL_law_r22 : ∀ w ∈ wsL_law_r22, w ∈ lw_tbl := fun w h => (goodIn_r wsL_law_r22 [1028, 1030, 40, 1031, 546, 547, 548, 549, 1032, 1033, 1034, 1035, 1036, 1037, 1038, 550, 551, 552, 553, 1039, 1040, 1041, 1042, 554] (by decide +kernel) (by decide +kernel) w h).1
set_option maxRecDepth 100000 in
theorem in_wsL_law_r23 : ∀ w ∈ wsL_law_r23, w ∈ lw_tbl := fun w h => (goodIn_r wsL_law_r23 [555, 556, 557, 1043, 1044, 1045, 1046, 1047, 558, 559, 560, 561, 562, 1048, 1049, 1050, 1051, 1052, 1054, 41, 1055, 563, 564, 565] (by decide +kernel) (by decide +kernel) w h).1
set_option maxRecDepth 100000 in
theorem in_wsL_law_r24 : ∀ w ∈ wsL_law_r24, w ∈ lw_tbl := fun w h => (goodIn_r wsL_law_r24 [566, 567, 1056, 1057, 1058, 1059, 568, 569, 570, 571, 1060, 1061, 1062, 1063, 572, 573, 574, 575, 576, 577, 578, 579, 580, 581] (by decide +kernel) (by decide +kernel) w h).1
set_option maxRecDepth 100000 in
theorem in_wsL_law_r25 : ∀ w ∈ wsL_law_r25, w ∈ lw_tbl := fun w h => (goodIn_r wsL_law_r25 [582, 583, 584, 585, 1064, 1065, 1066, 1067, 1068, 1069, 1071, 42, 1072, 586, 587, 588, 589, 590, 591, 592, 593, 594, 595, 596] (by decide +kernel) (by decide +kernel) w h).1
set_option maxRecDepth 100000 in
theorem in_wsL_law_r26 : ∀ w ∈ wsL_law_r26, w ∈ lw_tbl := fun w h => (goodIn_r wsL_law_r26 [597, 1073, 1074, 1075, 1076, 1077, 1078, 1080, 43, 1081, 1082, 1084, 44, 1085, 598, 599, 600, 601, 1086, 1087, 1088, 1089, 602, 603] (by decide +kernel) (by decide +kernel) w h).1
set_option maxRecDepth 100000 in
theorem in_wsL_law_r27 : ∀ w ∈ wsL_law_r27, w ∈ lw_tbl := fun w h => (goodIn_r wsL_law_r27 [604, 605, 1090, 1091, 1092, 1093, 606, 607, 608, 609, 610, 611, 612, 613, 1094, 1095, 1096, 1097, 614, 615, 616, 617, 1098, 1099] (by decide +kernel) (by decide +kernel) w h).1
set_option maxRecDepth 100000 in
theorem in_wsL_law_r28 : ∀ w ∈ wsL_law_r28, w ∈ lw_tbl := fun w h => (goodIn_r wsL_law_r28 [1100, 1101, 618, 619, 620, 621, 1102, 1103, 1104, 1105, 622, 623, 624, 625, 626, 627, 628, 629, 1106, 1107, 1108, 1109, 630, 631] (by decide +kernel) (by decide +kernel) w h).1
set_option maxRecDepth 100000 in
theorem in_wsL_law_r29 : ∀ w ∈ wsL_law_r29, w ∈ lw_tbl := fun w h => (goodIn_r wsL_law_r29 [632, 633, 634, 635, 636, 637, 638, 640, 16, 641, 1110, 1111, 1112, 1113, 1114, 1116, 45, 1117, 642, 643, 644, 645, 646, 647] (by decide +kernel) (by decide +kernel) w h).1
set_option maxRecDepth 100000 in
theorem in_wsL_law_r30 : ∀ w ∈ wsL_law_r30, w ∈ lw_tbl := fun w h => (goodIn_r wsL_law_r30 [648, 649, 1118, 1119, 1120, 1121, 650, 651, 652, 653, 654, 655, 656, 657, 658, 96, 99, 659, 660, 662, 17, 663, 664, 665] (by decide +kernel) (by decide +kernel) w h).1
set_option maxRecDepth 100000 in
theorem in_wsL_law_r31 : ∀ w ∈ wsL_law_r31, w ∈ lw_tbl := fun w h => (goodIn_r wsL_law_r31 [666, 667, 668, 669, 670, 671, 672, 1122, 1123, 1124, 1125, 1130, 1126, 1128, 46, 1129, 673, 674, 675, 676, 677, 678, 679, 680] (by decide +kernel) (by decide +kernel) w h).1
set_option maxRecDepth 100000 in
theorem in_wsL_law_r32 : ∀ w ∈ wsL_law_r32, w ∈ lw_tbl := fun w h => (goodIn_r wsL_law_r32 [681, 1131, 1132, 1133, 1134, 682, 683, 684, 685, 690, 252, 686, 688, 18, 689, 691, 692, 693, 694, 695, 696, 697, 698, 699] (by decide +kernel) (by decide +kernel) w h).1
set_option maxRecDepth 100000 in
theorem in_wsL_law_r33 : ∀ w ∈ wsL_law_r33, w ∈ lw_tbl := fun w h => (goodIn_r wsL_law_r33 [701, 19, 702, 703, 704, 705, 706, 707, 708, 709, 710, 1135, 1136, 1137, 1138, 1144, 1145, 1143, 1139, 1141, 47, 1142, 1146, 1147] (by decide +kernel) (by decide +kernel) w h).1
set_option maxRecDepth 100000 in
theorem in_wsL_law_r34 : ∀ w ∈ wsL_law_r34, w ∈ lw_tbl := fun w h => (goodIn_r wsL_law_r34 [1148, 711, 712, 713, 714, 715, 1149, 1150, 1151, 1152, 716, 717, 718, 719, 720, 721, 722, 723, 1153, 1154, 1155, 1156, 724, 725] (by decide +kernel) (by decide +kernel) w h).1
set_option maxRecDepth 100000 in
theorem in_wsL_law_r35 : ∀ w ∈ wsL_law_r35, w ∈ lw_tbl := fun w h => (goodIn_r wsL_law_r35 [726, 727, 1157, 1158, 1159, 1160, 728, 729, 730, 731, 732, 733, 734, 735, 736, 737, 1161, 1162, 1163, 1164, 1165, 1167, 48, 1168] (by decide +kernel) (by decide +kernel) w h).1
set_option maxRecDepth 100000 in
theorem in_wsL_law_r36 : ∀ w ∈ wsL_law_r36, w ∈ lw_tbl := fun w h => (goodIn_r wsL_law_r36 [738, 739, 740, 741, 1169, 1170, 1171, 1172, 742, 743, 744, 745, 746, 748, 20, 749, 1173, 1174, 1175, 1176, 1177, 1179, 49, 1180] (by decide +kernel) (by decide +kernel) w h).1
set_option maxRecDepth 100000 in
theorem in_wsL_law_r37 : ∀ w ∈ wsL_law_r37, w ∈ lw_tbl := fun w h => (goodIn_r wsL_law_r37 [750, 751, 752, 753, 754, 755, 67, 756, 757, 758, 759, 760, 762, 21, 763, 768, 764, 766, 22, 767, 1181, 1182, 1183, 1184] (by decide +kernel) (by decide +kernel) w h).1
set_option maxRecDepth 100000 in
theorem in_wsL_law_r38 : ∀ w ∈ wsL_law_r38, w ∈ lw_tbl := fun w h => (goodIn_r wsL_law_r38 [769, 770, 771, 772, 773, 1185, 1186, 1187, 1188, 1189, 774, 775, 776, 777, 162, 1190, 1191, 1192, 1193, 778, 779, 780, 781, 1194] (by decide +kernel) (by decide +kernel) w h).1
set_option maxRecDepth 100000 in
theorem in_wsL_law_r39 : ∀ w ∈ wsL_law_r39, w ∈ lw_tbl := fun w h => (goodIn_r wsL_law_r39 [1195, 1196, 1197, 782, 783, 784, 785, 786, 788, 23, 789, 790, 791, 792, 793, 794, 1198, 1199, 1200, 1201, 795, 796, 797, 798] (by decide +kernel) (by decide +kernel) w h).1
set_option maxRecDepth 100000 in
theorem in_wsL_law_r40 : ∀ w ∈ wsL_law_r40, w ∈ lw_tbl := fun w h => (goodIn_r wsL_law_r40 [268, 799, 800, 801, 802, 803, 804, 805, 806, 1202, 1203, 1204, 1205, 807, 808, 809, 810, 811, 812, 813, 814, 815, 816, 817] (by decide +kernel) (by decide +kernel) w h).1
set_option maxRecDepth 100000 in
theorem in_wsL_law_r41 : ∀ w ∈ wsL_law_r41, w ∈ lw_tbl := fun w h => (goodIn_r wsL_law_r41 [818, 819, 1206, 1207, 1208, 1209, 1210, 873, 820, 821, 822, 823, 1211, 1212, 1213, 1214, 824, 825, 826, 827, 828, 830, 24, 831] (by decide +kernel) (by decide +kernel) w h).1
set_option maxRecDepth 100000 in
theorem in_wsL_law_r42 : ∀ w ∈ wsL_law_r42, w ∈ lw_tbl := fun w h => (goodIn_r wsL_law_r42 [832, 834, 25, 835, 270, 836, 837, 838, 839, 840, 841, 842, 843, 1215, 1216, 1217, 1218] (by decide +kernel) (by decide +kernel) w h).1
set_option maxRecDepth 100000 in
theorem inbX0 : ∀ w ∈ wsX00, w ∈ lw_tbl := by decide +kernel
set_option maxRecDepth 100000 in
theorem inbX1 : ∀ w ∈ wsX10, w ∈ lw_tbl := by decide +kernel
set_option maxRecDepth 100000 in
theorem inbX2 : ∀ w ∈ wsX20, w ∈ lw_tbl := by decide +kernel
set_option maxRecDepth 100000 in
theorem inbX3 : ∀ w ∈ wsX30, w ∈ lw_tbl := by decide +kernel
set_option maxRecDepth 100000 in
theorem inbX4 : ∀ w ∈ wsX40, w ∈ lw_tbl := by decide +kernel
set_option maxRecDepth 100000 in
theorem inbX5 : ∀ w ∈ wsX50, w ∈ lw_tbl := by decide +kernel
set_option maxRecDepth 100000 in
theorem inbX6 : ∀ w ∈ wsX60, w ∈ lw_tbl := by decide +kernel
set_option maxRecDepth 100000 in
theorem inbX7 : ∀ w ∈ wsX70, w ∈ lw_tbl := by decide +kernel
set_option maxRecDepth 100000 in
theorem inbX8 : ∀ w ∈ wsX80, w ∈ lw_tbl := by decide +kernel
theorem wsL_law_in : ∀ w ∈ wsL_law, w ∈ lw_tbl := lw_ap (lw_ap (lw_ap (lw_ap (lw_ap (lw_ap (lw_ap (lw_ap (lw_ap (lw_ap (lw_ap in_wsL_law_r1 (lw_ap in_wsL_law_r2 (lw_ap in_wsL_law_r3 (lw_ap in_wsL_law_r4 (lw_ap in_wsL_law_r5 (lw_ap in_wsL_law_r6 (lw_ap in_wsL_law_r7 (lw_ap in_wsL_law_r8 (lw_ap in_wsL_law_r9 (lw_ap in_wsL_law_r10 (lw_ap in_wsL_law_r11 (lw_ap in_wsL_law_r12 (lw_ap in_wsL_law_r13 (lw_ap in_wsL_law_r14 (lw_ap in_wsL_law_r15 (lw_ap in_wsL_law_r16 (lw_ap in_wsL_law_r17 (lw_ap in_wsL_law_r18 (lw_ap in_wsL_law_r19 (lw_ap in_wsL_law_r20 (lw_ap in_wsL_law_r21 (lw_ap in_wsL_law_r22 (lw_ap in_wsL_law_r23 (lw_ap in_wsL_law_r24 (lw_ap in_wsL_law_r25 (lw_ap in_wsL_law_r26 (lw_ap in_wsL_law_r27 (lw_ap in_wsL_law_r28 (lw_ap in_wsL_law_r29 (lw_ap in_wsL_law_r30 (lw_ap in_wsL_law_r31 (lw_ap in_wsL_law_r32 (lw_ap in_wsL_law_r33 (lw_ap in_wsL_law_r34 (lw_ap in_wsL_law_r35 (lw_ap in_wsL_law_r36 (lw_ap in_wsL_law_r37 (lw_ap in_wsL_law_r38 (lw_ap in_wsL_law_r39 (lw_ap in_wsL_law_r40 (lw_ap in_wsL_law_r41 (in_wsL_law_r42)))))))))))))))))))))))))))))))))))))))))) inbX7) inbX8) inbX0) inbX1) inbX5) inbX3) inbX4) inbX2) inbX6) (fun w h => absurd h List.not_mem_nil)
theorem inX0 : ∀ w ∈ wsX00, w ∈ lw_tbl := fun w h => wsL_law_in w (inlX0 w h)
theorem inX1 : ∀ w ∈ wsX10, w ∈ lw_tbl := fun w h => wsL_law_in w (inlX1 w h)
theorem inX2 : ∀ w ∈ wsX20, w ∈ lw_tbl := fun w h => wsL_law_in w (inlX2 w h)
theorem inX3 : ∀ w ∈ wsX30, w ∈ lw_tbl := fun w h => wsL_law_in w (inlX3 w h)
theorem inX4 : ∀ w ∈ wsX40, w ∈ lw_tbl := fun w h => wsL_law_in w (inlX4 w h)
theorem inX5 : ∀ w ∈ wsX50, w ∈ lw_tbl := fun w h => wsL_law_in w (inlX5 w h)
theorem inX6 : ∀ w ∈ wsX60, w ∈ lw_tbl := fun w h => wsL_law_in w (inlX6 w h)
theorem inX7 : ∀ w ∈ wsX70, w ∈ lw_tbl := fun w h => wsL_law_in w (inlX7 w h)
theorem inX8 : ∀ w ∈ wsX80, w ∈ lw_tbl := fun w h => wsL_law_in w (inlX8 w h)

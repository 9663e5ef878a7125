set_option maxRecDepth 20000 in
theorem ggL_law_X7_shade : GoodIn wsL_law wsX7_shade := goodIn_r _ [653, 16, 15, 375, 634, 635, 2, 636, 297, 298, 299, 14, 300, 47, 301, 302, 303, 304, 48, 49, 50, 51, 56, 57, 58, 59, 60, 61, 62, 63, 570, 571, 572, 573, 574, 575, 394, 576, 577, 578, 579, 380, 381, 382, 383, 384, 385, 386, 387, 388, 389, 390, 391, 392, 393, 395, 396, 397, 398, 399, 400, 401, 402, 403, 404, 405, 406, 407, 408, 409, 410, 411, 412, 413, 414, 415, 1001, 1002, 1003, 1004, 1005, 1006, 1007, 1008, 1009, 1034, 1035, 1036, 1037, 1038, 1039, 1040, 1041, 1042, 1043, 1044, 1045, 1046] (by decide +kernel) (by decide +kernel)
set_option maxRecDepth 20000 in
theorem gL_law_X7_shade : GoodIn wsL_law (wsV RL 101 RX7 yX7_shade wsX7_shade) := goodIn_app (goodIn_of _ (by decide +kernel)) ggL_law_X7_shade
set_option maxRecDepth 20000 in
theorem ggL_law_X8_shade : GoodIn wsL_law wsX8_shade := goodIn_r _ [657, 605, 118, 147, 148, 5, 149, 610, 611, 612, 613, 606, 607, 608, 609, 585, 586, 587, 588, 420, 421, 422, 423, 424, 425, 426, 427, 428, 429, 430, 431, 432, 433, 434, 435, 1010, 1011, 1012, 1013, 1014, 1015, 1016, 1017, 1018, 1019, 1020, 1021, 1022, 1023, 1024, 1025, 1026, 1027, 1028, 1029, 1030, 1031, 1032, 1033] (by decide +kernel) (by decide +kernel)
set_option maxRecDepth 20000 in
theorem gL_law_X8_shade : GoodIn wsL_law (wsV RL 104 RX8 yX8_shade wsX8_shade) := goodIn_app (goodIn_of _ (by decide +kernel)) ggL_law_X8_shade
set_option maxRecDepth 20000 in
theorem ggL_law_X7_swap : GoodIn wsL_law wsX7_swap := goodIn_r _ [661, 16, 15, 372, 634, 635, 2, 636, 297, 298, 299, 14, 300, 47, 301, 302, 303, 304, 48, 49, 50, 51, 56, 57, 58, 59, 60, 61, 62, 63, 380, 381, 382, 383, 384, 385, 386, 387, 388, 389, 390, 391, 392, 393, 394, 395, 396, 397, 398, 399, 400, 401, 402, 403, 404, 405, 406, 407, 408, 409, 410, 411, 412, 413, 414, 415, 662, 663, 664, 665, 1001, 1002, 1003, 1004, 1005, 1006, 1007, 1008, 1009, 1034, 1035, 1036, 1037, 1038, 1039, 1040, 1041, 1042, 1043, 1044, 1045, 1046] (by decide +kernel) (by decide +kernel)
set_option maxRecDepth 20000 in
theorem gL_law_X7_swap : GoodIn wsL_law (wsV RL 105 RX7 yX7_swap wsX7_swap) := goodIn_app (goodIn_of _ (by decide +kernel)) ggL_law_X7_swap
set_option maxRecDepth 20000 in
theorem ggL_law_X8_swap : GoodIn wsL_law wsX8_swap := goodIn_r _ [669, 118, 147, 148, 5, 149, 424, 425, 426, 427, 420, 421, 422, 423, 428, 429, 430, 431, 432, 433, 434, 435, 610, 611, 612, 613, 1010, 1011, 1012, 1013, 1014, 1015, 1016, 1017, 1018, 1019, 1020, 1021, 1022, 1023, 1024, 1025, 1026, 1027, 1028, 1029, 1030, 1031, 1032, 1033] (by decide +kernel) (by decide +kernel)
set_option maxRecDepth 20000 in
theorem gL_law_X8_swap : GoodIn wsL_law (wsV RL 108 RX8 yX8_swap wsX8_swap) := goodIn_app (goodIn_of _ (by decide +kernel)) ggL_law_X8_swap
set_option maxRecDepth 20000 in
theorem ggL_law_X7_period : GoodIn wsL_law wsX7_period := goodIn_r _ [673, 15, 372, 373, 674, 675, 676, 14, 677, 57, 678, 679, 680, 681, 47, 48, 400, 401, 402, 403, 56, 58, 404, 405, 406, 407, 408, 409, 410, 411, 1001, 1002, 1003, 1004, 1005, 1006, 1007, 1008, 1009, 1034, 1035, 1036, 1037, 1038, 1039, 1040, 1041, 1042, 1043, 1044, 1045, 1046] (by decide +kernel) (by decide +kernel)
set_option maxRecDepth 20000 in
theorem gL_law_X7_period : GoodIn wsL_law (wsV RL 109 RX7 yX7_period wsX7_period) := goodIn_app (goodIn_of _ (by decide +kernel)) ggL_law_X7_period
set_option maxRecDepth 20000 in
theorem ggL_law_X8_period : GoodIn wsL_law wsX8_period := goodIn_r _ [685, 118, 420, 421, 422, 5, 423, 686, 687, 688, 689, 432, 433, 434, 435, 1010, 1011, 1012, 1013, 1014, 1015, 1016, 1017, 1018, 1019, 1020, 1021, 1022, 1023, 1024, 1025, 1026, 1027, 1028, 1029, 1030, 1031, 1032, 1033] (by decide +kernel) (by decide +kernel)
set_option maxRecDepth 20000 in
theorem gL_law_X8_period : GoodIn wsL_law (wsV RL 112 RX8 yX8_period wsX8_period) := goodIn_app (goodIn_of _ (by decide +kernel)) ggL_law_X8_period
set_option maxRecDepth 20000 in
theorem ggL_law_X7_alike : GoodIn wsL_law wsX7_alike := goodIn_r _ [693, 15, 372, 16, 374, 297, 298, 299, 14, 300, 47, 301, 302, 303, 304, 48, 49, 50, 51, 56, 57, 58, 59, 60, 61, 62, 63, 694, 695, 696, 697, 678, 679, 680, 681, 400, 401, 402, 403, 404, 405, 406, 407, 408, 409, 410, 411, 1001, 1002, 1003, 1004, 1005, 1006, 1007, 1008, 1009, 1034, 1035, 1036, 1037, 1038, 1039, 1040, 1041, 1042, 1043, 1044, 1045, 1046] (by decide +kernel) (by decide +kernel)
set_option maxRecDepth 20000 in
theorem gL_law_X7_alike : GoodIn wsL_law (wsV RL 113 RX7 yX7_alike wsX7_alike) := goodIn_app (goodIn_of _ (by decide +kernel)) ggL_law_X7_alike
set_option maxRecDepth 20000 in
theorem ggL_law_X8_alike : GoodIn wsL_law wsX8_alike := goodIn_r _ [701, 118, 610, 611, 612, 5, 613, 420, 421, 422, 423, 686, 687, 688, 689, 432, 433, 434, 435, 1010, 1011, 1012, 1013, 1014, 1015, 1016, 1017, 1018, 1019, 1020, 1021, 1022, 1023, 1024, 1025, 1026, 1027, 1028, 1029, 1030, 1031, 1032, 1033] (by decide +kernel) (by decide +kernel)
set_option maxRecDepth 20000 in
theorem gL_law_X8_alike : GoodIn wsL_law (wsV RL 116 RX8 yX8_alike wsX8_alike) := goodIn_app (goodIn_of _ (by decide +kernel)) ggL_law_X8_alike
set_option maxRecDepth 20000 in
theorem ggL_law_X7_cover : GoodIn wsL_law wsX7_cover := goodIn_r _ [705, 15, 379, 32, 634, 635, 2, 636, 706, 707, 708, 31, 709, 100, 101, 710, 711, 712, 713, 484, 485, 14, 486, 63, 714, 715, 716, 717, 718, 719, 720, 721, 722, 578, 394, 579, 723, 724, 725, 726, 1001, 1002, 1003, 1004, 1005, 1006, 1007, 1008, 1009, 1034, 1035, 1036, 1037, 1038, 1039, 1040, 1041, 1042, 1043, 1044, 1045, 1046, 1062, 1063] (by decide +kernel) (by decide +kernel)
set_option maxRecDepth 20000 in
theorem gL_law_X7_cover : GoodIn wsL_law (wsV RL 117 RX7 yX7_cover wsX7_cover) := goodIn_app (goodIn_of _ (by decide +kernel)) ggL_law_X7_cover
set_option maxRecDepth 20000 in
theorem ggL_law_X8_cover : GoodIn wsL_law wsX8_cover := goodIn_r _ [730, 605, 731, 123, 147, 148, 5, 149, 732, 733, 734, 735, 124, 118, 1010, 1011, 1012, 1013, 1014, 1015, 1016, 1017, 1018, 1019, 1020, 1021, 1022, 1023, 1024, 1025, 1026, 1027, 1028, 1029, 1030, 1031, 1032, 1033] (by decide +kernel) (by decide +kernel)
set_option maxRecDepth 20000 in
theorem gL_law_X8_cover : GoodIn wsL_law (wsV RL 120 RX8 yX8_cover wsX8_cover) := goodIn_app (goodIn_of _ (by decide +kernel)) ggL_law_X8_cover
set_option maxRecDepth 20000 in
theorem ggL_law_X7_most : GoodIn wsL_law wsX7_most := goodIn_r _ [739, 15, 32, 483, 484, 485, 14, 486, 63, 706, 707, 708, 31, 709, 100, 101, 710, 711, 712, 713, 714, 715, 716, 717, 718, 719, 720, 721, 722, 578, 394, 579, 740, 741, 742, 743, 744, 393, 395, 1001, 1002, 1003, 1004, 1005, 1006, 1007, 1008, 1009, 1034, 1035, 1036, 1037, 1038, 1039, 1040, 1041, 1042, 1043, 1044, 1045, 1046, 1062, 1063] (by decide +kernel) (by decide +kernel)
set_option maxRecDepth 20000 in
theorem gL_law_X7_most : GoodIn wsL_law (wsV RL 121 RX7 yX7_most wsX7_most) := goodIn_app (goodIn_of _ (by decide +kernel)) ggL_law_X7_most
set_option maxRecDepth 20000 in
theorem ggL_law_X8_most : GoodIn wsL_law wsX8_most := goodIn_r _ [748, 605, 123, 124, 491, 492, 493, 5, 494, 118, 147, 148, 149, 732, 733, 734, 735, 731, 1010, 1011, 1012, 1013, 1014, 1015, 1016, 1017, 1018, 1019, 1020, 1021, 1022, 1023, 1024, 1025, 1026, 1027, 1028, 1029, 1030, 1031, 1032, 1033] (by decide +kernel) (by decide +kernel)
set_option maxRecDepth 20000 in
theorem gL_law_X8_most : GoodIn wsL_law (wsV RL 124 RX8 yX8_most wsX8_most) := goodIn_app (goodIn_of _ (by decide +kernel)) ggL_law_X8_most
set_option maxRecDepth 20000 in
theorem ggL_law_X7_luck : GoodIn wsL_law wsX7_luck := goodIn_r _ [752, 753, 36, 15, 754, 755, 756, 757, 2, 758, 465, 397, 398, 14, 399, 57, 634, 635, 636, 759, 760, 761, 35, 762, 106, 107, 763, 764, 66, 765, 766, 389, 390, 391, 61, 49, 392, 393, 394, 395, 396, 400, 401, 402, 403, 56, 58, 404, 405, 406, 407, 408, 409, 410, 411, 412, 413, 414, 415, 48, 47, 767, 768, 769, 770, 771, 772, 773, 774, 775, 776, 777, 778, 1001, 1002, 1003, 1004, 1005, 1006, 1007, 1008, 1009, 1064, 1065, 1034, 1035, 1036, 1037, 1038, 1039, 1040, 1041, 1042, 1043, 1044, 1045, 1046] (by decide +kernel) (by decide +kernel)
set_option maxRecDepth 20000 in
theorem gL_law_X7_luck : GoodIn wsL_law (wsV RL 125 RX7 yX7_luck wsX7_luck) := goodIn_app (goodIn_of _ (by decide +kernel)) ggL_law_X7_luck
set_option maxRecDepth 20000 in
theorem ggL_law_X8_luck : GoodIn wsL_law wsX8_luck := goodIn_r _ [782, 783, 784, 785, 786, 787, 788, 5, 789, 147, 148, 149, 473, 474, 475, 476, 420, 421, 422, 423, 118, 428, 429, 430, 431, 432, 433, 434, 435, 790, 791, 792, 1010, 1011, 1012, 1013, 1014, 1015, 1016, 1017, 1018, 1019, 1020, 1021, 1022, 1023, 1024, 1025, 1026, 1027, 1028, 1029, 1030, 1031, 1032, 1033] (by decide +kernel) (by decide +kernel)
set_option maxRecDepth 20000 in
theorem gL_law_X8_luck : GoodIn wsL_law (wsV RL 129 RX8 yX8_luck wsX8_luck) := goodIn_app (goodIn_of _ (by decide +kernel)) ggL_law_X8_luck
set_option maxRecDepth 20000 in
theorem ggL_law_X7_mean : GoodIn wsL_law wsX7_mean := goodIn_r _ [796, 753, 15, 797, 755, 756, 757, 2, 758, 465, 397, 398, 14, 399, 57, 634, 635, 636, 637, 385, 386, 387, 388, 389, 390, 391, 61, 49, 392, 393, 394, 395, 396, 400, 401, 402, 403, 56, 58, 404, 405, 406, 407, 408, 409, 410, 411, 412, 413, 414, 415, 48, 47, 776, 777, 778, 1001, 1002, 1003, 1004, 1005, 1006, 1007, 1008, 1009, 1034, 1035, 1036, 1037, 1038, 1039, 1040, 1041, 1042, 1043, 1044, 1045, 1046] (by decide +kernel) (by decide +kernel)
set_option maxRecDepth 20000 in
theorem gL_law_X7_mean : GoodIn wsL_law (wsV RL 130 RX7 yX7_mean wsX7_mean) := goodIn_app (goodIn_of _ (by decide +kernel)) ggL_law_X7_mean
set_option maxRecDepth 20000 in
theorem ggL_law_X8_mean : GoodIn wsL_law wsX8_mean := goodIn_r _ [801, 784, 785, 786, 787, 788, 5, 789, 147, 148, 149, 473, 474, 475, 476, 420, 421, 422, 423, 118, 428, 429, 430, 431, 432, 433, 434, 435, 790, 791, 792, 1010, 1011, 1012, 1013, 1014, 1015, 1016, 1017, 1018, 1019, 1020, 1021, 1022, 1023, 1024, 1025, 1026, 1027, 1028, 1029, 1030, 1031, 1032, 1033] (by decide +kernel) (by decide +kernel)
set_option maxRecDepth 20000 in
theorem gL_law_X8_mean : GoodIn wsL_law (wsV RL 134 RX8 yX8_mean wsX8_mean) := goodIn_app (goodIn_of _ (by decide +kernel)) ggL_law_X8_mean
set_option maxRecDepth 20000 in
theorem ggL_law_X7_see : GoodIn wsL_law wsX7_see := goodIn_r _ [805, 28, 165, 806, 807, 808, 27, 809, 96, 94, 95, 1001, 1002, 1003, 1004, 1005, 1006, 1007, 1008, 1009, 1059, 1060, 1061] (by decide +kernel) (by decide +kernel)
set_option maxRecDepth 20000 in
theorem gL_law_X7_see : GoodIn wsL_law (wsV RL 135 RX7 yX7_see wsX7_see) := goodIn_app (goodIn_of _ (by decide +kernel)) ggL_law_X7_see
set_option maxRecDepth 20000 in
theorem ggL_law_X8_see : GoodIn wsL_law wsX8_see := goodIn_r _ [813, 518, 535, 324, 125, 147, 148, 5, 149, 1010, 1011, 1012, 1013, 1014, 1015, 1016, 1017, 1018, 1019, 1020, 1021, 1022, 1023, 1024, 1025, 1026, 1027, 1028, 1029, 1030, 1031, 1032, 1033] (by decide +kernel) (by decide +kernel)
set_option maxRecDepth 20000 in
theorem gL_law_X8_see : GoodIn wsL_law (wsV RL 138 RX8 yX8_see wsX8_see) := goodIn_app (goodIn_of _ (by decide +kernel)) ggL_law_X8_see
set_option maxRecDepth 20000 in
theorem ggL_law_X7_forget : GoodIn wsL_law wsX7_forget := goodIn_r _ [817, 28, 165, 1001, 1002, 1003, 1004, 1005, 1006, 1007, 1008, 1009, 1059, 1060, 1061] (by decide +kernel) (by decide +kernel)
set_option maxRecDepth 20000 in
theorem gL_law_X7_forget : GoodIn wsL_law (wsV RL 139 RX7 yX7_forget wsX7_forget) := goodIn_app (goodIn_of _ (by decide +kernel)) ggL_law_X7_forget
set_option maxRecDepth 20000 in
theorem ggL_law_X8_forget : GoodIn wsL_law wsX8_forget := goodIn_r _ [821, 324, 147, 148, 5, 149, 1010, 1011, 1012, 1013, 1014, 1015, 1016, 1017, 1018, 1019, 1020, 1021, 1022, 1023, 1024, 1025, 1026, 1027, 1028, 1029, 1030, 1031, 1032, 1033] (by decide +kernel) (by decide +kernel)
set_option maxRecDepth 20000 in
theorem gL_law_X8_forget : GoodIn wsL_law (wsV RL 142 RX8 yX8_forget wsX8_forget) := goodIn_app (goodIn_of _ (by decide +kernel)) ggL_law_X8_forget
set_option maxRecDepth 20000 in
theorem ggL_law_X7_kinds : GoodIn wsL_law wsX7_kinds := goodIn_r _ [825, 15, 16, 440, 28, 442, 409, 410, 14, 411, 56, 297, 298, 299, 300, 47, 301, 302, 303, 304, 48, 49, 50, 51, 57, 58, 59, 60, 61, 62, 63, 826, 827, 828, 27, 829, 96, 94, 95, 830, 397, 398, 399, 831, 389, 390, 391, 392, 393, 394, 395, 396, 400, 401, 402, 403, 404, 405, 406, 407, 408, 412, 413, 414, 415, 1001, 1002, 1003, 1004, 1005, 1006, 1007, 1008, 1009, 1034, 1035, 1036, 1037, 1038, 1039, 1040, 1041, 1042, 1043, 1044, 1045, 1046, 1059, 1060, 1061] (by decide +kernel) (by decide +kernel)
set_option maxRecDepth 20000 in
theorem gL_law_X7_kinds : GoodIn wsL_law (wsV RL 143 RX7 yX7_kinds wsX7_kinds) := goodIn_app (goodIn_of _ (by decide +kernel)) ggL_law_X7_kinds
set_option maxRecDepth 20000 in
theorem ggL_law_X8_kinds : GoodIn wsL_law wsX8_kinds := goodIn_r _ [835, 118, 456, 457, 458, 5, 459, 147, 148, 149, 610, 611, 612, 613, 836, 837, 838, 839, 324, 125, 420, 421, 422, 423, 428, 429, 430, 431, 432, 433, 434, 435, 1010, 1011, 1012, 1013, 1014, 1015, 1016, 1017, 1018, 1019, 1020, 1021, 1022, 1023, 1024, 1025, 1026, 1027, 1028, 1029, 1030, 1031, 1032, 1033] (by decide +kernel) (by decide +kernel)
set_option maxRecDepth 20000 in
theorem gL_law_X8_kinds : GoodIn wsL_law (wsV RL 146 RX8 yX8_kinds wsX8_kinds) := goodIn_app (goodIn_of _ (by decide +kernel)) ggL_law_X8_kinds

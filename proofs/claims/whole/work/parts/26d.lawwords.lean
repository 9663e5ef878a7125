set_option maxRecDepth 20000 in
theorem ggL_law_X7_warmths : GoodIn wsL_law wsX7_warmths := goodIn_r _ [843, 15, 16, 441, 28, 442, 409, 410, 14, 411, 56, 297, 298, 299, 300, 47, 301, 302, 303, 304, 48, 49, 50, 51, 57, 58, 59, 60, 61, 62, 63, 826, 827, 828, 27, 829, 96, 94, 95, 830, 397, 398, 399, 831, 389, 390, 391, 392, 393, 394, 395, 396, 400, 401, 402, 403, 404, 405, 406, 407, 408, 412, 413, 414, 415, 1001, 1002, 1003, 1004, 1005, 1006, 1007, 1008, 1009, 1034, 1035, 1036, 1037, 1038, 1039, 1040, 1041, 1042, 1043, 1044, 1045, 1046, 1059, 1060, 1061] (by decide +kernel) (by decide +kernel)
set_option maxRecDepth 20000 in
theorem gL_law_X7_warmths : GoodIn wsL_law (wsV RL 147 RX7 yX7_warmths wsX7_warmths) := goodIn_app (goodIn_of _ (by decide +kernel)) ggL_law_X7_warmths
set_option maxRecDepth 20000 in
theorem ggL_law_X8_warmths : GoodIn wsL_law wsX8_warmths := goodIn_r _ [847, 118, 456, 457, 458, 5, 459, 147, 148, 149, 610, 611, 612, 613, 836, 837, 838, 839, 324, 125, 420, 421, 422, 423, 428, 429, 430, 431, 432, 433, 434, 435, 1010, 1011, 1012, 1013, 1014, 1015, 1016, 1017, 1018, 1019, 1020, 1021, 1022, 1023, 1024, 1025, 1026, 1027, 1028, 1029, 1030, 1031, 1032, 1033] (by decide +kernel) (by decide +kernel)
set_option maxRecDepth 20000 in
theorem gL_law_X8_warmths : GoodIn wsL_law (wsV RL 150 RX8 yX8_warmths wsX8_warmths) := goodIn_app (goodIn_of _ (by decide +kernel)) ggL_law_X8_warmths
set_option maxRecDepth 20000 in
theorem ggL_law_X7_shifts : GoodIn wsL_law wsX7_shifts := goodIn_r _ [851, 852, 853, 854, 2, 855, 16, 15, 374, 28, 297, 298, 299, 14, 300, 47, 301, 302, 303, 304, 48, 49, 50, 51, 56, 57, 58, 59, 60, 61, 62, 63, 826, 827, 828, 27, 829, 96, 94, 95, 830, 397, 398, 399, 831, 389, 390, 391, 392, 393, 394, 395, 396, 400, 401, 402, 403, 404, 405, 406, 407, 408, 409, 410, 411, 412, 413, 414, 415, 1001, 1002, 1003, 1004, 1005, 1006, 1007, 1008, 1009, 1034, 1035, 1036, 1037, 1038, 1039, 1040, 1041, 1042, 1043, 1044, 1045, 1046, 1059, 1060, 1061] (by decide +kernel) (by decide +kernel)
set_option maxRecDepth 20000 in
theorem gL_law_X7_shifts : GoodIn wsL_law (wsV RL 151 RX7 yX7_shifts wsX7_shifts) := goodIn_app (goodIn_of _ (by decide +kernel)) ggL_law_X7_shifts
set_option maxRecDepth 20000 in
theorem ggL_law_X8_shifts : GoodIn wsL_law wsX8_shifts := goodIn_r _ [859, 860, 861, 862, 5, 863, 118, 126, 610, 611, 612, 613, 836, 837, 838, 839, 324, 125, 420, 421, 422, 423, 428, 429, 430, 431, 432, 433, 434, 435, 1010, 1011, 1012, 1013, 1014, 1015, 1016, 1017, 1018, 1019, 1020, 1021, 1022, 1023, 1024, 1025, 1026, 1027, 1028, 1029, 1030, 1031, 1032, 1033] (by decide +kernel) (by decide +kernel)
set_option maxRecDepth 20000 in
theorem gL_law_X8_shifts : GoodIn wsL_law (wsV RL 154 RX8 yX8_shifts wsX8_shifts) := goodIn_app (goodIn_of _ (by decide +kernel)) ggL_law_X8_shifts
set_option maxRecDepth 20000 in
theorem ggL_law_X7_ask : GoodIn wsL_law wsX7_ask := goodIn_r _ [867, 15, 373, 634, 635, 2, 636, 852, 853, 854, 855, 16, 374, 28, 297, 298, 299, 14, 300, 47, 301, 302, 303, 304, 48, 49, 50, 51, 56, 57, 58, 59, 60, 61, 62, 63, 826, 827, 828, 27, 829, 96, 94, 95, 830, 397, 398, 399, 831, 389, 390, 391, 392, 393, 394, 395, 396, 400, 401, 402, 403, 404, 405, 406, 407, 408, 409, 410, 411, 412, 413, 414, 415, 868, 869, 870, 871, 872, 873, 874, 875, 876, 877, 878, 879, 880, 881, 882, 883, 467, 1001, 1002, 1003, 1004, 1005, 1006, 1007, 1008, 1009, 1034, 1035, 1036, 1037, 1038, 1039, 1040, 1041, 1042, 1043, 1044, 1045, 1046, 1059, 1060, 1061] (by decide +kernel) (by decide +kernel)
set_option maxRecDepth 20000 in
theorem gL_law_X7_ask : GoodIn wsL_law (wsV RL 155 RX7 yX7_ask wsX7_ask) := goodIn_app (goodIn_of _ (by decide +kernel)) ggL_law_X7_ask
set_option maxRecDepth 20000 in
theorem ggL_law_X8_ask : GoodIn wsL_law wsX8_ask := goodIn_r _ [887, 126, 147, 148, 5, 149, 860, 861, 862, 863, 118, 610, 611, 612, 613, 836, 837, 838, 839, 324, 125, 420, 421, 422, 423, 428, 429, 430, 431, 432, 433, 434, 435, 1010, 1011, 1012, 1013, 1014, 1015, 1016, 1017, 1018, 1019, 1020, 1021, 1022, 1023, 1024, 1025, 1026, 1027, 1028, 1029, 1030, 1031, 1032, 1033] (by decide +kernel) (by decide +kernel)
set_option maxRecDepth 20000 in
theorem gL_law_X8_ask : GoodIn wsL_law (wsV RL 158 RX8 yX8_ask wsX8_ask) := goodIn_app (goodIn_of _ (by decide +kernel)) ggL_law_X8_ask
set_option maxRecDepth 20000 in
theorem ggL_law_X7_drift : GoodIn wsL_law wsX7_drift := goodIn_r _ [891, 16, 15, 892, 374, 375, 634, 635, 2, 636, 297, 298, 299, 14, 300, 47, 301, 302, 303, 304, 48, 49, 50, 51, 56, 57, 58, 59, 60, 61, 62, 63, 570, 571, 572, 573, 574, 575, 394, 576, 577, 578, 579, 380, 381, 382, 383, 384, 385, 386, 387, 388, 389, 390, 391, 392, 393, 395, 396, 397, 398, 399, 400, 401, 402, 403, 404, 405, 406, 407, 408, 409, 410, 411, 412, 413, 414, 415, 1001, 1002, 1003, 1004, 1005, 1006, 1007, 1008, 1009, 1034, 1035, 1036, 1037, 1038, 1039, 1040, 1041, 1042, 1043, 1044, 1045, 1046] (by decide +kernel) (by decide +kernel)
set_option maxRecDepth 20000 in
theorem gL_law_X7_drift : GoodIn wsL_law (wsV RL 159 RX7 yX7_drift wsX7_drift) := goodIn_app (goodIn_of _ (by decide +kernel)) ggL_law_X7_drift
set_option maxRecDepth 20000 in
theorem ggL_law_X8_drift : GoodIn wsL_law wsX8_drift := goodIn_r _ [896, 605, 897, 118, 147, 148, 5, 149, 610, 611, 612, 613, 585, 586, 587, 588, 420, 421, 422, 423, 424, 425, 426, 427, 428, 429, 430, 431, 432, 433, 434, 435, 1010, 1011, 1012, 1013, 1014, 1015, 1016, 1017, 1018, 1019, 1020, 1021, 1022, 1023, 1024, 1025, 1026, 1027, 1028, 1029, 1030, 1031, 1032, 1033] (by decide +kernel) (by decide +kernel)
set_option maxRecDepth 20000 in
theorem gL_law_X8_drift : GoodIn wsL_law (wsV RL 162 RX8 yX8_drift wsX8_drift) := goodIn_app (goodIn_of _ (by decide +kernel)) ggL_law_X8_drift
set_option maxRecDepth 20000 in
theorem ggL_law_X7_keep : GoodIn wsL_law wsX7_keep := goodIn_r _ [901, 309, 902, 15, 310, 311, 312, 2, 313, 20, 297, 298, 299, 14, 300, 47, 301, 302, 303, 304, 48, 49, 50, 51, 56, 57, 58, 59, 60, 61, 62, 63, 1047, 1048, 1001, 1002, 1003, 1004, 1005, 1006, 1007, 1008, 1009, 1034, 1035, 1036, 1037, 1038, 1039, 1040, 1041, 1042, 1043, 1044, 1045, 1046] (by decide +kernel) (by decide +kernel)
set_option maxRecDepth 20000 in
theorem gL_law_X7_keep : GoodIn wsL_law (wsV RL 163 RX7 yX7_keep wsX7_keep) := goodIn_app (goodIn_of _ (by decide +kernel)) ggL_law_X7_keep
set_option maxRecDepth 20000 in
theorem ggL_law_X8_keep : GoodIn wsL_law wsX8_keep := goodIn_r _ [906, 128, 147, 148, 5, 149, 610, 611, 612, 613, 118, 1010, 1011, 1012, 1013, 1014, 1015, 1016, 1017, 1018, 1019, 1020, 1021, 1022, 1023, 1024, 1025, 1026, 1027, 1028, 1029, 1030, 1031, 1032, 1033] (by decide +kernel) (by decide +kernel)
set_option maxRecDepth 20000 in
theorem gL_law_X8_keep : GoodIn wsL_law (wsV RL 166 RX8 yX8_keep wsX8_keep) := goodIn_app (goodIn_of _ (by decide +kernel)) ggL_law_X8_keep
set_option maxRecDepth 20000 in
theorem ggL_law_X7_back : GoodIn wsL_law wsX7_back := goodIn_r _ [910, 309, 15, 902, 378, 310, 311, 312, 2, 313, 20, 297, 298, 299, 14, 300, 47, 301, 302, 303, 304, 48, 49, 50, 51, 56, 57, 58, 59, 60, 61, 62, 63, 1047, 1048, 1001, 1002, 1003, 1004, 1005, 1006, 1007, 1008, 1009, 1034, 1035, 1036, 1037, 1038, 1039, 1040, 1041, 1042, 1043, 1044, 1045, 1046] (by decide +kernel) (by decide +kernel)
set_option maxRecDepth 20000 in
theorem gL_law_X7_back : GoodIn wsL_law (wsV RL 167 RX7 yX7_back wsX7_back) := goodIn_app (goodIn_of _ (by decide +kernel)) ggL_law_X7_back
set_option maxRecDepth 20000 in
theorem ggL_law_X8_back : GoodIn wsL_law wsX8_back := goodIn_r _ [914, 128, 118, 147, 148, 5, 149, 610, 611, 612, 613, 1010, 1011, 1012, 1013, 1014, 1015, 1016, 1017, 1018, 1019, 1020, 1021, 1022, 1023, 1024, 1025, 1026, 1027, 1028, 1029, 1030, 1031, 1032, 1033] (by decide +kernel) (by decide +kernel)
set_option maxRecDepth 20000 in
theorem gL_law_X8_back : GoodIn wsL_law (wsV RL 170 RX8 yX8_back wsX8_back) := goodIn_app (goodIn_of _ (by decide +kernel)) ggL_law_X8_back
set_option maxRecDepth 20000 in
theorem ggL_law_X7_sheet : GoodIn wsL_law wsX7_sheet := goodIn_r _ [918, 919, 920, 921, 2, 922, 40, 923, 924, 925, 39, 926, 111, 112, 113, 927, 65, 66, 67, 1001, 1002, 1003, 1004, 1005, 1006, 1007, 1008, 1009, 1066, 1067, 1068] (by decide +kernel) (by decide +kernel)
set_option maxRecDepth 20000 in
theorem gL_law_X7_sheet : GoodIn wsL_law (wsV RL 171 RX7 yX7_sheet wsX7_sheet) := goodIn_app (goodIn_of _ (by decide +kernel)) ggL_law_X7_sheet
set_option maxRecDepth 20000 in
theorem ggL_law_X8_sheet : GoodIn wsL_law wsX8_sheet := goodIn_r _ [931, 455, 472, 129, 130, 131, 147, 148, 5, 149, 1010, 1011, 1012, 1013, 1014, 1015, 1016, 1017, 1018, 1019, 1020, 1021, 1022, 1023, 1024, 1025, 1026, 1027, 1028, 1029, 1030, 1031, 1032, 1033] (by decide +kernel) (by decide +kernel)
set_option maxRecDepth 20000 in
theorem gL_law_X8_sheet : GoodIn wsL_law (wsV RL 174 RX8 yX8_sheet wsX8_sheet) := goodIn_app (goodIn_of _ (by decide +kernel)) ggL_law_X8_sheet
set_option maxRecDepth 20000 in
theorem ggL_law_X7_lay : GoodIn wsL_law wsX7_lay := goodIn_r _ [935, 936, 919, 920, 921, 2, 922, 40, 937, 938, 939, 39, 940, 112, 113, 941, 942, 943, 944, 111, 1066, 1067, 1068, 1001, 1002, 1003, 1004, 1005, 1006, 1007, 1008, 1009] (by decide +kernel) (by decide +kernel)
set_option maxRecDepth 20000 in
theorem gL_law_X7_lay : GoodIn wsL_law (wsV RL 175 RX7 yX7_lay wsX7_lay) := goodIn_app (goodIn_of _ (by decide +kernel)) ggL_law_X7_lay
set_option maxRecDepth 20000 in
theorem ggL_law_X8_lay : GoodIn wsL_law wsX8_lay := goodIn_r _ [948, 455, 129, 130, 131, 147, 148, 5, 149, 1010, 1011, 1012, 1013, 1014, 1015, 1016, 1017, 1018, 1019, 1020, 1021, 1022, 1023, 1024, 1025, 1026, 1027, 1028, 1029, 1030, 1031, 1032, 1033] (by decide +kernel) (by decide +kernel)
set_option maxRecDepth 20000 in
theorem gL_law_X8_lay : GoodIn wsL_law (wsV RL 178 RX8 yX8_lay wsX8_lay) := goodIn_app (goodIn_of _ (by decide +kernel)) ggL_law_X8_lay
set_option maxRecDepth 20000 in
theorem ggL_law_X7_read : GoodIn wsL_law wsX7_read := goodIn_r _ [952, 16, 15, 41, 919, 920, 921, 2, 922, 40, 297, 298, 299, 14, 300, 47, 301, 302, 303, 304, 48, 49, 50, 51, 56, 57, 58, 59, 60, 61, 62, 63, 953, 954, 955, 39, 956, 957, 938, 939, 940, 112, 113, 958, 959, 960, 961, 111, 540, 294, 295, 296, 1001, 1002, 1003, 1004, 1005, 1006, 1007, 1008, 1009, 1034, 1035, 1036, 1037, 1038, 1039, 1040, 1041, 1042, 1043, 1044, 1045, 1046, 1066, 1067, 1068] (by decide +kernel) (by decide +kernel)
set_option maxRecDepth 20000 in
theorem gL_law_X7_read : GoodIn wsL_law (wsV RL 179 RX7 yX7_read wsX7_read) := goodIn_app (goodIn_of _ (by decide +kernel)) ggL_law_X7_read
set_option maxRecDepth 20000 in
theorem ggL_law_X8_read : GoodIn wsL_law wsX8_read := goodIn_r _ [965, 455, 472, 966, 129, 130, 131, 967, 147, 148, 5, 149, 610, 611, 612, 613, 118, 545, 546, 547, 548, 503, 1010, 1011, 1012, 1013, 1014, 1015, 1016, 1017, 1018, 1019, 1020, 1021, 1022, 1023, 1024, 1025, 1026, 1027, 1028, 1029, 1030, 1031, 1032, 1033] (by decide +kernel) (by decide +kernel)
set_option maxRecDepth 20000 in
theorem gL_law_X8_read : GoodIn wsL_law (wsV RL 183 RX8 yX8_read wsX8_read) := goodIn_app (goodIn_of _ (by decide +kernel)) ggL_law_X8_read
set_option maxRecDepth 20000 in
theorem ggL_law_X7_torn : GoodIn wsL_law wsX7_torn := goodIn_r _ [971, 41, 1001, 1002, 1003, 1004, 1005, 1006, 1007, 1008, 1009] (by decide +kernel) (by decide +kernel)
set_option maxRecDepth 20000 in
theorem gL_law_X7_torn : GoodIn wsL_law (wsV RL 184 RX7 yX7_torn wsX7_torn) := goodIn_app (goodIn_of _ (by decide +kernel)) ggL_law_X7_torn
set_option maxRecDepth 20000 in
theorem ggL_law_X8_torn : GoodIn wsL_law wsX8_torn := goodIn_r _ [975, 967, 1010, 1011, 1012, 1013, 1014, 1015, 1016, 1017, 1018, 1019, 1020, 1021, 1022, 1023, 1024, 1025, 1026, 1027, 1028, 1029, 1030, 1031, 1032, 1033] (by decide +kernel) (by decide +kernel)
set_option maxRecDepth 20000 in
theorem gL_law_X8_torn : GoodIn wsL_law (wsV RL 187 RX8 yX8_torn wsX8_torn) := goodIn_app (goodIn_of _ (by decide +kernel)) ggL_law_X8_torn
set_option maxRecDepth 20000 in
theorem ggL_law_X7_count : GoodIn wsL_law wsX7_count := goodIn_r _ [979, 28, 165, 24, 136, 15, 980, 981, 982, 2, 983, 20, 309, 310, 311, 312, 313, 984, 985, 986, 987, 936, 988, 919, 920, 921, 922, 40, 989, 990, 991, 14, 992, 56, 48, 993, 994, 995, 996, 57, 49, 1001, 1002, 1003, 1004, 1005, 1006, 1007, 1008, 1009, 1059, 1060, 1061, 1049, 1050, 1051, 1052, 1053, 1054, 1055, 1056, 1057, 1058, 1047, 1048, 1066, 1067, 1068, 1034, 1035, 1036, 1037, 1038, 1039, 1040, 1041, 1042, 1043, 1044, 1045, 1046] (by decide +kernel) (by decide +kernel)
set_option maxRecDepth 20000 in
theorem gL_law_X7_count : GoodIn wsL_law (wsV RL 188 RX7 yX7_count wsX7_count) := goodIn_app (goodIn_of _ (by decide +kernel)) ggL_law_X7_count
set_option maxRecDepth 20000 in
theorem ggL_law_X8_count : GoodIn wsL_law wsX8_count := goodIn_r _ [1000, 118, 324, 128, 146, 129, 130, 420, 421, 422, 5, 423, 1010, 1011, 1012, 1013, 1014, 1015, 1016, 1017, 1018, 1019, 1020, 1021, 1022, 1023, 1024, 1025, 1026, 1027, 1028, 1029, 1030, 1031, 1032, 1033] (by decide +kernel) (by decide +kernel)
set_option maxRecDepth 20000 in
theorem gL_law_X8_count : GoodIn wsL_law (wsV RL 191 RX8 yX8_count wsX8_count) := goodIn_app (goodIn_of _ (by decide +kernel)) ggL_law_X8_count

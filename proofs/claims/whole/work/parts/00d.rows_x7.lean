set_option maxRecDepth 20000 in
theorem ggX7_init_X0_init : GoodIn wsX7_init wsX0_init := goodIn_r _ [36, 37, 2, 3, 38, 39, 40, 41, 42, 43, 44, 45, 46, 6, 47, 48, 49, 50, 51, 52, 53, 54, 55, 56, 57, 58, 59, 106, 107, 108, 109, 110, 111, 112, 113, 114, 115, 116, 117, 118] (by decide +kernel) (by decide +kernel)
set_option maxRecDepth 20000 in
theorem gX7_init_X0_init : GoodIn wsX7_init (wsX0_init) := ggX7_init_X0_init
set_option maxRecDepth 20000 in
theorem ggX7_init_X1_init : GoodIn wsX7_init wsX1_init := goodIn_r _ [61, 62, 2, 3, 63, 5, 6, 64, 65, 66, 35, 36, 37, 38, 39, 40, 41, 42, 43, 44, 45, 46, 47, 48, 49, 50, 51, 52, 53, 54, 55, 56, 57, 58, 59, 106, 107, 108, 109, 110, 111, 112, 113, 114, 115, 116, 117, 118, 128, 129] (by decide +kernel) (by decide +kernel)
set_option maxRecDepth 20000 in
theorem gX7_init_X1_init_n21 : GoodIn wsX7_init (wsX1_init) := ggX7_init_X1_init
set_option maxRecDepth 20000 in
theorem ggX7_init_X5_init : GoodIn wsX7_init wsX5_init := goodIn_r _ [68, 69, 2, 3, 70, 5, 6, 71, 72, 73, 74, 75, 76, 77, 78, 79, 80, 81, 82, 35, 36, 37, 38, 39, 40, 41, 42, 43, 44, 45, 46, 47, 48, 49, 50, 51, 52, 53, 54, 55, 56, 57, 58, 59, 106, 107, 108, 109, 110, 111, 112, 113, 114, 115, 116, 117, 118, 130, 131, 132, 133, 134, 135, 136, 137, 138, 139] (by decide +kernel) (by decide +kernel)
set_option maxRecDepth 20000 in
theorem gX7_init_X5_init_n28 : GoodIn wsX7_init (wsX5_init) := ggX7_init_X5_init
set_option maxRecDepth 20000 in
theorem ggX7_init_X3_init : GoodIn wsX7_init wsX3_init := goodIn_r _ [84, 85, 2, 3, 38, 86, 87, 88, 140, 141, 142] (by decide +kernel) (by decide +kernel)
set_option maxRecDepth 20000 in
theorem gX7_init_X3_init_n35 : GoodIn wsX7_init (wsX3_init) := ggX7_init_X3_init
set_option maxRecDepth 20000 in
theorem ggX7_init_X4_init : GoodIn wsX7_init wsX4_init := goodIn_r _ [90, 91, 2, 3, 38, 92, 93, 143, 144] (by decide +kernel) (by decide +kernel)
set_option maxRecDepth 20000 in
theorem gX7_init_X4_init_n42 : GoodIn wsX7_init (wsX4_init) := ggX7_init_X4_init
set_option maxRecDepth 20000 in
theorem ggX7_init_X2_init : GoodIn wsX7_init wsX2_init := goodIn_r _ [95, 96, 2, 3, 97, 98, 99, 145, 146] (by decide +kernel) (by decide +kernel)
set_option maxRecDepth 20000 in
theorem gX7_init_X2_init_n49 : GoodIn wsX7_init (wsX2_init) := ggX7_init_X2_init
set_option maxRecDepth 20000 in
theorem ggX7_init_X6_init : GoodIn wsX7_init wsX6_init := goodIn_r _ [101, 102, 2, 3, 38, 103, 104, 105, 147, 148, 149] (by decide +kernel) (by decide +kernel)
set_option maxRecDepth 20000 in
theorem gX7_init_X6_init_n56 : GoodIn wsX7_init (wsX6_init) := ggX7_init_X6_init
theorem dX7_init_0 : decode cX7_init 0 = .ok (.aload_n 0, 1) := by decide +kernel
theorem dX7_init_1 : decode cX7_init 1 = .ok (.invokespecial 1, 3) := by decide +kernel
theorem dX7_init_4 : decode cX7_init 4 = .ok (.aload_n 0, 1) := by decide +kernel
theorem dX7_init_5 : decode cX7_init 5 = .ok (.new 7, 3) := by decide +kernel
theorem dX7_init_8 : decode cX7_init 8 = .ok (.dup, 1) := by decide +kernel
theorem dX7_init_9 : decode cX7_init 9 = .ok (.invokespecial 9, 3) := by decide +kernel
theorem dX7_init_12 : decode cX7_init 12 = .ok (.putfield 10, 3) := by decide +kernel
theorem dX7_init_15 : decode cX7_init 15 = .ok (.aload_n 0, 1) := by decide +kernel
theorem dX7_init_16 : decode cX7_init 16 = .ok (.new 7, 3) := by decide +kernel
theorem dX7_init_19 : decode cX7_init 19 = .ok (.dup, 1) := by decide +kernel
theorem dX7_init_20 : decode cX7_init 20 = .ok (.invokespecial 9, 3) := by decide +kernel
theorem dX7_init_23 : decode cX7_init 23 = .ok (.putfield 16, 3) := by decide +kernel
theorem dX7_init_26 : decode cX7_init 26 = .ok (.aload_n 0, 1) := by decide +kernel
theorem dX7_init_27 : decode cX7_init 27 = .ok (.iconst 2, 1) := by decide +kernel
theorem dX7_init_28 : decode cX7_init 28 = .ok (.anewarray 19, 3) := by decide +kernel
theorem dX7_init_31 : decode cX7_init 31 = .ok (.dup, 1) := by decide +kernel
theorem dX7_init_32 : decode cX7_init 32 = .ok (.iconst 0, 1) := by decide +kernel
theorem dX7_init_33 : decode cX7_init 33 = .ok (.new 19, 3) := by decide +kernel
theorem dX7_init_36 : decode cX7_init 36 = .ok (.dup, 1) := by decide +kernel
theorem dX7_init_37 : decode cX7_init 37 = .ok (.invokespecial 21, 3) := by decide +kernel
theorem dX7_init_40 : decode cX7_init 40 = .ok (.aastore, 1) := by decide +kernel
theorem dX7_init_41 : decode cX7_init 41 = .ok (.dup, 1) := by decide +kernel
theorem dX7_init_42 : decode cX7_init 42 = .ok (.iconst 1, 1) := by decide +kernel
theorem dX7_init_43 : decode cX7_init 43 = .ok (.new 19, 3) := by decide +kernel
theorem dX7_init_46 : decode cX7_init 46 = .ok (.dup, 1) := by decide +kernel
theorem dX7_init_47 : decode cX7_init 47 = .ok (.invokespecial 21, 3) := by decide +kernel
theorem dX7_init_50 : decode cX7_init 50 = .ok (.aastore, 1) := by decide +kernel
theorem dX7_init_51 : decode cX7_init 51 = .ok (.putfield 22, 3) := by decide +kernel
theorem dX7_init_54 : decode cX7_init 54 = .ok (.aload_n 0, 1) := by decide +kernel
theorem dX7_init_55 : decode cX7_init 55 = .ok (.new 26, 3) := by decide +kernel
theorem dX7_init_58 : decode cX7_init 58 = .ok (.dup, 1) := by decide +kernel
theorem dX7_init_59 : decode cX7_init 59 = .ok (.invokespecial 28, 3) := by decide +kernel
theorem dX7_init_62 : decode cX7_init 62 = .ok (.putfield 29, 3) := by decide +kernel
theorem dX7_init_65 : decode cX7_init 65 = .ok (.aload_n 0, 1) := by decide +kernel
theorem dX7_init_66 : decode cX7_init 66 = .ok (.new 33, 3) := by decide +kernel
theorem dX7_init_69 : decode cX7_init 69 = .ok (.dup, 1) := by decide +kernel
theorem dX7_init_70 : decode cX7_init 70 = .ok (.invokespecial 35, 3) := by decide +kernel
theorem dX7_init_73 : decode cX7_init 73 = .ok (.putfield 36, 3) := by decide +kernel
theorem dX7_init_76 : decode cX7_init 76 = .ok (.aload_n 0, 1) := by decide +kernel
theorem dX7_init_77 : decode cX7_init 77 = .ok (.new 40, 3) := by decide +kernel
theorem dX7_init_80 : decode cX7_init 80 = .ok (.dup, 1) := by decide +kernel
theorem dX7_init_81 : decode cX7_init 81 = .ok (.invokespecial 42, 3) := by decide +kernel
theorem dX7_init_84 : decode cX7_init 84 = .ok (.putfield 43, 3) := by decide +kernel
theorem dX7_init_87 : decode cX7_init 87 = .ok (.aload_n 0, 1) := by decide +kernel
theorem dX7_init_88 : decode cX7_init 88 = .ok (.new 47, 3) := by decide +kernel
theorem dX7_init_91 : decode cX7_init 91 = .ok (.dup, 1) := by decide +kernel
theorem dX7_init_92 : decode cX7_init 92 = .ok (.invokespecial 49, 3) := by decide +kernel
theorem dX7_init_95 : decode cX7_init 95 = .ok (.putfield 50, 3) := by decide +kernel
theorem dX7_init_98 : decode cX7_init 98 = .ok (.aload_n 0, 1) := by decide +kernel
theorem dX7_init_99 : decode cX7_init 99 = .ok (.iconst 4, 1) := by decide +kernel
theorem dX7_init_100 : decode cX7_init 100 = .ok (.anewarray 54, 3) := by decide +kernel
theorem dX7_init_103 : decode cX7_init 103 = .ok (.dup, 1) := by decide +kernel
theorem dX7_init_104 : decode cX7_init 104 = .ok (.iconst 0, 1) := by decide +kernel
theorem dX7_init_105 : decode cX7_init 105 = .ok (.new 54, 3) := by decide +kernel
theorem dX7_init_108 : decode cX7_init 108 = .ok (.dup, 1) := by decide +kernel
theorem dX7_init_109 : decode cX7_init 109 = .ok (.invokespecial 56, 3) := by decide +kernel
theorem dX7_init_112 : decode cX7_init 112 = .ok (.aastore, 1) := by decide +kernel
theorem dX7_init_113 : decode cX7_init 113 = .ok (.dup, 1) := by decide +kernel
theorem dX7_init_114 : decode cX7_init 114 = .ok (.iconst 1, 1) := by decide +kernel
theorem dX7_init_115 : decode cX7_init 115 = .ok (.new 54, 3) := by decide +kernel
theorem dX7_init_118 : decode cX7_init 118 = .ok (.dup, 1) := by decide +kernel
theorem dX7_init_119 : decode cX7_init 119 = .ok (.invokespecial 56, 3) := by decide +kernel
theorem dX7_init_122 : decode cX7_init 122 = .ok (.aastore, 1) := by decide +kernel
theorem dX7_init_123 : decode cX7_init 123 = .ok (.dup, 1) := by decide +kernel
theorem dX7_init_124 : decode cX7_init 124 = .ok (.iconst 2, 1) := by decide +kernel
theorem dX7_init_125 : decode cX7_init 125 = .ok (.new 54, 3) := by decide +kernel
theorem dX7_init_128 : decode cX7_init 128 = .ok (.dup, 1) := by decide +kernel
theorem dX7_init_129 : decode cX7_init 129 = .ok (.invokespecial 56, 3) := by decide +kernel
theorem dX7_init_132 : decode cX7_init 132 = .ok (.aastore, 1) := by decide +kernel
theorem dX7_init_133 : decode cX7_init 133 = .ok (.dup, 1) := by decide +kernel
theorem dX7_init_134 : decode cX7_init 134 = .ok (.iconst 3, 1) := by decide +kernel
theorem dX7_init_135 : decode cX7_init 135 = .ok (.new 54, 3) := by decide +kernel
theorem dX7_init_138 : decode cX7_init 138 = .ok (.dup, 1) := by decide +kernel
theorem dX7_init_139 : decode cX7_init 139 = .ok (.invokespecial 56, 3) := by decide +kernel
theorem dX7_init_142 : decode cX7_init 142 = .ok (.aastore, 1) := by decide +kernel
theorem dX7_init_143 : decode cX7_init 143 = .ok (.putfield 57, 3) := by decide +kernel
theorem dX7_init_146 : decode cX7_init 146 = .ok (.aload_n 0, 1) := by decide +kernel
theorem dX7_init_147 : decode cX7_init 147 = .ok (.iconst 0, 1) := by decide +kernel
theorem dX7_init_148 : decode cX7_init 148 = .ok (.putfield 61, 3) := by decide +kernel
theorem dX7_init_151 : decode cX7_init 151 = .ok (.return_, 1) := by decide +kernel
set_option maxRecDepth 20000 in
theorem ggX7_feed_X5_append : GoodIn wsX7_feed wsX5_append := goodIn_r _ [7, 8, 9, 19, 20, 21, 22, 23, 24, 25, 26, 27, 28] (by decide +kernel) (by decide +kernel)
set_option maxRecDepth 20000 in
theorem gX7_feed_X5_append : GoodIn wsX7_feed (wsV RX7 65 RX5 yX5_append wsX5_append) := goodIn_app (goodIn_of _ (by decide +kernel)) ggX7_feed_X5_append
theorem dX7_feed_0 : decode cX7_feed 0 = .ok (.iload_n 1, 1) := by decide +kernel
theorem dX7_feed_1 : decode cX7_feed 1 = .ok (.ifCond .lt 9, 3) := by decide +kernel
theorem dX7_feed_4 : decode cX7_feed 4 = .ok (.iload_n 1, 1) := by decide +kernel
theorem dX7_feed_5 : decode cX7_feed 5 = .ok (.bipush 127, 2) := by decide +kernel
theorem dX7_feed_7 : decode cX7_feed 7 = .ok (.if_icmp .le 5, 3) := by decide +kernel
theorem dX7_feed_10 : decode cX7_feed 10 = .ok (.iconst (-1), 1) := by decide +kernel
theorem dX7_feed_11 : decode cX7_feed 11 = .ok (.ireturn, 1) := by decide +kernel
theorem dX7_feed_12 : decode cX7_feed 12 = .ok (.aload_n 0, 1) := by decide +kernel
theorem dX7_feed_13 : decode cX7_feed 13 = .ok (.getfield 29, 3) := by decide +kernel
theorem dX7_feed_16 : decode cX7_feed 16 = .ok (.iload_n 1, 1) := by decide +kernel
theorem dX7_feed_17 : decode cX7_feed 17 = .ok (.invokevirtual 65, 3) := by decide +kernel
theorem dX7_feed_20 : decode cX7_feed 20 = .ok (.ifCond .eq 13, 3) := by decide +kernel
theorem dX7_feed_23 : decode cX7_feed 23 = .ok (.aload_n 0, 1) := by decide +kernel
theorem dX7_feed_24 : decode cX7_feed 24 = .ok (.getfield 29, 3) := by decide +kernel
theorem dX7_feed_27 : decode cX7_feed 27 = .ok (.getfield 69, 3) := by decide +kernel
theorem dX7_feed_30 : decode cX7_feed 30 = .ok (.goto 5, 3) := by decide +kernel
theorem dX7_feed_33 : decode cX7_feed 33 = .ok (.bipush (-3), 2) := by decide +kernel
theorem dX7_feed_35 : decode cX7_feed 35 = .ok (.ireturn, 1) := by decide +kernel
theorem dX7_end_0 : decode cX7_end 0 = .ok (.iload_n 1, 1) := by decide +kernel
theorem dX7_end_1 : decode cX7_end 1 = .ok (.ifCond .lt 14, 3) := by decide +kernel
theorem dX7_end_4 : decode cX7_end 4 = .ok (.iload_n 1, 1) := by decide +kernel
theorem dX7_end_5 : decode cX7_end 5 = .ok (.aload_n 0, 1) := by decide +kernel
theorem dX7_end_6 : decode cX7_end 6 = .ok (.getfield 29, 3) := by decide +kernel
theorem dX7_end_9 : decode cX7_end 9 = .ok (.getfield 69, 3) := by decide +kernel
theorem dX7_end_12 : decode cX7_end 12 = .ok (.if_icmp .le 5, 3) := by decide +kernel
theorem dX7_end_15 : decode cX7_end 15 = .ok (.iconst (-1), 1) := by decide +kernel
theorem dX7_end_16 : decode cX7_end 16 = .ok (.ireturn, 1) := by decide +kernel
theorem dX7_end_17 : decode cX7_end 17 = .ok (.aload_n 0, 1) := by decide +kernel
theorem dX7_end_18 : decode cX7_end 18 = .ok (.getfield 29, 3) := by decide +kernel
theorem dX7_end_21 : decode cX7_end 21 = .ok (.getfield 69, 3) := by decide +kernel
theorem dX7_end_24 : decode cX7_end 24 = .ok (.istore_n 2, 1) := by decide +kernel
theorem dX7_end_25 : decode cX7_end 25 = .ok (.aload_n 0, 1) := by decide +kernel
theorem dX7_end_26 : decode cX7_end 26 = .ok (.getfield 29, 3) := by decide +kernel
theorem dX7_end_29 : decode cX7_end 29 = .ok (.iload_n 1, 1) := by decide +kernel
theorem dX7_end_30 : decode cX7_end 30 = .ok (.putfield 69, 3) := by decide +kernel
theorem dX7_end_33 : decode cX7_end 33 = .ok (.iload_n 2, 1) := by decide +kernel
theorem dX7_end_34 : decode cX7_end 34 = .ok (.ireturn, 1) := by decide +kernel
set_option maxRecDepth 20000 in
theorem ggX7_text_X5_takeAll : GoodIn wsX7_text wsX5_takeAll := goodIn_r _ [13, 14, 15, 16, 17, 18, 19, 20, 21, 22, 23, 24, 25, 26, 27, 28, 29, 30, 31, 32, 33, 34, 35, 36, 37, 38, 39, 40, 12, 41, 42, 43, 44, 45, 46, 47, 48, 49, 50, 51, 52, 53, 54, 55, 56, 57, 58, 59, 60, 61, 62, 63, 64, 65, 66, 67, 68, 69, 70, 71, 72, 73, 74, 75, 76, 77, 78, 79, 80, 81, 82, 83, 84, 85, 86, 87, 88, 89, 90, 91, 92, 93, 94, 95, 96, 97, 98, 99, 100, 101, 102, 103, 104, 105, 106, 107, 108, 109, 110, 111, 112, 113, 114, 115, 116, 117, 118, 119, 120, 121, 122, 123, 124, 125, 126, 127, 128, 129, 130, 131, 132, 133, 134, 135, 136, 137, 138, 139, 140, 141, 142, 143, 144, 145, 146, 147, 148, 149, 150, 151, 152, 153, 154, 155, 156, 157, 158, 159, 160, 161, 162, 163, 164, 165, 166, 167, 168, 169, 170, 171, 200, 201, 202, 203, 204, 205, 206, 207, 208, 209, 213, 214, 215, 216, 217, 218, 219, 220, 221, 222, 223, 224, 225] (by decide +kernel) (by decide +kernel)
set_option maxRecDepth 20000 in
theorem gX7_text_X5_takeAll : GoodIn wsX7_text (wsV RX7 72 RX5 yX5_takeAll wsX5_takeAll) := goodIn_app (goodIn_of _ (by decide +kernel)) ggX7_text_X5_takeAll
set_option maxRecDepth 20000 in
theorem ggX7_text_X0_copy : GoodIn wsX7_text wsX0_copy := goodIn_r _ [175, 170, 176, 177, 178, 179, 171, 33, 164, 165, 25, 26, 27, 28, 29, 30, 31, 32, 213, 214, 215, 216, 217, 218, 219, 220, 221, 222, 223, 224, 225] (by decide +kernel) (by decide +kernel)
set_option maxRecDepth 20000 in
theorem gX7_text_X0_copy : GoodIn wsX7_text (wsV RX7 85 RX0 yX0_copy wsX0_copy) := goodIn_app (goodIn_of _ (by decide +kernel)) ggX7_text_X0_copy
set_option maxRecDepth 20000 in
theorem ggX7_text_X7_loseImages : GoodIn wsX7_text wsX7_loseImages := goodIn_r _ [184, 185, 186, 187, 188, 189, 183, 190, 191, 192, 193, 194, 195, 196, 197, 198, 199, 226, 227] (by decide +kernel) (by decide +kernel)
set_option maxRecDepth 20000 in
theorem gX7_text_X7_loseImages : GoodIn wsX7_text (wsV RX7 90 RX7 yX7_loseImages wsX7_loseImages) := goodIn_app (goodIn_of _ (by decide +kernel)) ggX7_text_X7_loseImages
theorem dX7_text_0 : decode cX7_text 0 = .ok (.aload_n 0, 1) := by decide +kernel
theorem dX7_text_1 : decode cX7_text 1 = .ok (.getfield 29, 3) := by decide +kernel
theorem dX7_text_4 : decode cX7_text 4 = .ok (.invokevirtual 72, 3) := by decide +kernel
theorem dX7_text_7 : decode cX7_text 7 = .ok (.istore_n 1, 1) := by decide +kernel
theorem dX7_text_8 : decode cX7_text 8 = .ok (.aload_n 0, 1) := by decide +kernel
theorem dX7_text_9 : decode cX7_text 9 = .ok (.getfield 29, 3) := by decide +kernel
theorem dX7_text_12 : decode cX7_text 12 = .ok (.iconst 0, 1) := by decide +kernel
theorem dX7_text_13 : decode cX7_text 13 = .ok (.putfield 69, 3) := by decide +kernel
theorem dX7_text_16 : decode cX7_text 16 = .ok (.aload_n 0, 1) := by decide +kernel
theorem dX7_text_17 : decode cX7_text 17 = .ok (.getfield 29, 3) := by decide +kernel
theorem dX7_text_20 : decode cX7_text 20 = .ok (.getfield 76, 3) := by decide +kernel
theorem dX7_text_23 : decode cX7_text 23 = .ok (.ifCond .eq 14, 3) := by decide +kernel
theorem dX7_text_26 : decode cX7_text 26 = .ok (.bipush (-10), 2) := by decide +kernel
theorem dX7_text_28 : decode cX7_text 28 = .ok (.aload_n 0, 1) := by decide +kernel
theorem dX7_text_29 : decode cX7_text 29 = .ok (.getfield 29, 3) := by decide +kernel
theorem dX7_text_32 : decode cX7_text 32 = .ok (.getfield 79, 3) := by decide +kernel
theorem dX7_text_35 : decode cX7_text 35 = .ok (.isub, 1) := by decide +kernel
theorem dX7_text_36 : decode cX7_text 36 = .ok (.ireturn, 1) := by decide +kernel
theorem dX7_text_37 : decode cX7_text 37 = .ok (.aload_n 0, 1) := by decide +kernel
theorem dX7_text_38 : decode cX7_text 38 = .ok (.getfield 10, 3) := by decide +kernel
theorem dX7_text_41 : decode cX7_text 41 = .ok (.aload_n 0, 1) := by decide +kernel
theorem dX7_text_42 : decode cX7_text 42 = .ok (.getfield 29, 3) := by decide +kernel
theorem dX7_text_45 : decode cX7_text 45 = .ok (.getfield 82, 3) := by decide +kernel
theorem dX7_text_48 : decode cX7_text 48 = .ok (.invokevirtual 85, 3) := by decide +kernel
theorem dX7_text_51 : decode cX7_text 51 = .ok (.aload_n 0, 1) := by decide +kernel
theorem dX7_text_52 : decode cX7_text 52 = .ok (.getfield 36, 3) := by decide +kernel
theorem dX7_text_55 : decode cX7_text 55 = .ok (.iconst 0, 1) := by decide +kernel
theorem dX7_text_56 : decode cX7_text 56 = .ok (.putfield 89, 3) := by decide +kernel
theorem dX7_text_59 : decode cX7_text 59 = .ok (.aload_n 0, 1) := by decide +kernel
theorem dX7_text_60 : decode cX7_text 60 = .ok (.invokevirtual 90, 3) := by decide +kernel
theorem dX7_text_63 : decode cX7_text 63 = .ok (.iload_n 1, 1) := by decide +kernel
theorem dX7_text_64 : decode cX7_text 64 = .ok (.ireturn, 1) := by decide +kernel
theorem dX7_fault_0 : decode cX7_fault 0 = .ok (.aload_n 0, 1) := by decide +kernel
theorem dX7_fault_1 : decode cX7_fault 1 = .ok (.getfield 29, 3) := by decide +kernel
theorem dX7_fault_4 : decode cX7_fault 4 = .ok (.getfield 76, 3) := by decide +kernel
theorem dX7_fault_7 : decode cX7_fault 7 = .ok (.ireturn, 1) := by decide +kernel
set_option maxRecDepth 20000 in
theorem ggX7_rule_X0_frankOfAll : GoodIn wsX7_rule wsX0_frankOfAll := goodIn_r _ [14, 15, 16, 17, 18, 13, 19, 20, 21, 22, 23, 24, 25, 26, 27, 28, 29, 30, 31, 32, 33, 34, 35, 36, 37, 38, 39, 40, 41, 42, 43, 44, 45, 46, 47, 48, 49, 50, 51, 52, 53, 63, 64, 65, 66, 67, 68, 69, 70, 71, 72, 73, 74, 75] (by decide +kernel) (by decide +kernel)
set_option maxRecDepth 20000 in
theorem gX7_rule_X0_frankOfAll : GoodIn wsX7_rule (wsV RX7 114 RX0 yX0_frankOfAll wsX0_frankOfAll) := goodIn_app (goodIn_of _ (by decide +kernel)) ggX7_rule_X0_frankOfAll
theorem dX7_rule_0 : decode cX7_rule 0 = .ok (.iload_n 1, 1) := by decide +kernel
theorem dX7_rule_1 : decode cX7_rule 1 = .ok (.tableswitch 123 0 8 #[51, 59, 67, 75, 83, 91, 99, 107, 115], 51) := by decide +kernel
theorem dX7_rule_52 : decode cX7_rule 52 = .ok (.aload_n 0, 1) := by decide +kernel
theorem dX7_rule_53 : decode cX7_rule 53 = .ok (.getfield 10, 3) := by decide +kernel
theorem dX7_rule_56 : decode cX7_rule 56 = .ok (.getfield 93, 3) := by decide +kernel
theorem dX7_rule_59 : decode cX7_rule 59 = .ok (.ireturn, 1) := by decide +kernel
theorem dX7_rule_60 : decode cX7_rule 60 = .ok (.aload_n 0, 1) := by decide +kernel
theorem dX7_rule_61 : decode cX7_rule 61 = .ok (.getfield 10, 3) := by decide +kernel
theorem dX7_rule_64 : decode cX7_rule 64 = .ok (.getfield 96, 3) := by decide +kernel
theorem dX7_rule_67 : decode cX7_rule 67 = .ok (.ireturn, 1) := by decide +kernel
theorem dX7_rule_68 : decode cX7_rule 68 = .ok (.aload_n 0, 1) := by decide +kernel
theorem dX7_rule_69 : decode cX7_rule 69 = .ok (.getfield 10, 3) := by decide +kernel
theorem dX7_rule_72 : decode cX7_rule 72 = .ok (.getfield 99, 3) := by decide +kernel
theorem dX7_rule_75 : decode cX7_rule 75 = .ok (.ireturn, 1) := by decide +kernel
theorem dX7_rule_76 : decode cX7_rule 76 = .ok (.aload_n 0, 1) := by decide +kernel
theorem dX7_rule_77 : decode cX7_rule 77 = .ok (.getfield 10, 3) := by decide +kernel
theorem dX7_rule_80 : decode cX7_rule 80 = .ok (.getfield 102, 3) := by decide +kernel
theorem dX7_rule_83 : decode cX7_rule 83 = .ok (.ireturn, 1) := by decide +kernel
theorem dX7_rule_84 : decode cX7_rule 84 = .ok (.aload_n 0, 1) := by decide +kernel
theorem dX7_rule_85 : decode cX7_rule 85 = .ok (.getfield 10, 3) := by decide +kernel
theorem dX7_rule_88 : decode cX7_rule 88 = .ok (.getfield 105, 3) := by decide +kernel
theorem dX7_rule_91 : decode cX7_rule 91 = .ok (.ireturn, 1) := by decide +kernel
theorem dX7_rule_92 : decode cX7_rule 92 = .ok (.aload_n 0, 1) := by decide +kernel
theorem dX7_rule_93 : decode cX7_rule 93 = .ok (.getfield 10, 3) := by decide +kernel
theorem dX7_rule_96 : decode cX7_rule 96 = .ok (.getfield 108, 3) := by decide +kernel
theorem dX7_rule_99 : decode cX7_rule 99 = .ok (.ireturn, 1) := by decide +kernel
theorem dX7_rule_100 : decode cX7_rule 100 = .ok (.aload_n 0, 1) := by decide +kernel
theorem dX7_rule_101 : decode cX7_rule 101 = .ok (.getfield 10, 3) := by decide +kernel
theorem dX7_rule_104 : decode cX7_rule 104 = .ok (.getfield 111, 3) := by decide +kernel
theorem dX7_rule_107 : decode cX7_rule 107 = .ok (.ireturn, 1) := by decide +kernel
theorem dX7_rule_108 : decode cX7_rule 108 = .ok (.aload_n 0, 1) := by decide +kernel
theorem dX7_rule_109 : decode cX7_rule 109 = .ok (.getfield 10, 3) := by decide +kernel
theorem dX7_rule_112 : decode cX7_rule 112 = .ok (.invokevirtual 114, 3) := by decide +kernel
theorem dX7_rule_115 : decode cX7_rule 115 = .ok (.ireturn, 1) := by decide +kernel
theorem dX7_rule_116 : decode cX7_rule 116 = .ok (.aload_n 0, 1) := by decide +kernel
theorem dX7_rule_117 : decode cX7_rule 117 = .ok (.getfield 10, 3) := by decide +kernel
theorem dX7_rule_120 : decode cX7_rule 120 = .ok (.getfield 117, 3) := by decide +kernel
theorem dX7_rule_123 : decode cX7_rule 123 = .ok (.ireturn, 1) := by decide +kernel
theorem dX7_rule_124 : decode cX7_rule 124 = .ok (.iconst (-1), 1) := by decide +kernel
theorem dX7_rule_125 : decode cX7_rule 125 = .ok (.ireturn, 1) := by decide +kernel
set_option maxRecDepth 20000 in
theorem ggX7_block_X0_hasBlock : GoodIn wsX7_block wsX0_hasBlock := goodIn_r _ [8, 9, 58, 59, 60, 61, 62, 63, 64, 65, 66, 67, 68, 69, 70] (by decide +kernel) (by decide +kernel)
set_option maxRecDepth 20000 in
theorem gX7_block_X0_hasBlock : GoodIn wsX7_block (wsV RX7 120 RX0 yX0_hasBlock wsX0_hasBlock) := goodIn_app (goodIn_of _ (by decide +kernel)) ggX7_block_X0_hasBlock
set_option maxRecDepth 20000 in
theorem ggX7_block_X0_placesOf : GoodIn wsX7_block wsX0_placesOf := goodIn_r _ [13, 14, 15, 16, 17, 7, 18, 9, 19, 20, 21, 22, 23, 58, 59, 60, 61, 62, 63, 64, 65, 66, 67, 68, 69, 70] (by decide +kernel) (by decide +kernel)
set_option maxRecDepth 20000 in
theorem gX7_block_X0_placesOf : GoodIn wsX7_block (wsV RX7 130 RX0 yX0_placesOf wsX0_placesOf) := goodIn_app (goodIn_of _ (by decide +kernel)) ggX7_block_X0_placesOf
set_option maxRecDepth 20000 in
theorem ggX7_block_X0_frankOf : GoodIn wsX7_block wsX0_frankOf := goodIn_r _ [27, 28, 29, 30, 7, 31, 32, 33, 34, 35, 36, 37, 38, 39, 40, 41, 14, 15, 16, 17, 18, 9, 19, 20, 21, 22, 23, 42, 5, 6, 8, 43, 44, 45, 46, 47, 48, 58, 59, 60, 61, 62, 63, 64, 65, 66, 67, 68, 69, 70] (by decide +kernel) (by decide +kernel)
set_option maxRecDepth 20000 in
theorem gX7_block_X0_frankOf : GoodIn wsX7_block (wsV RX7 134 RX0 yX0_frankOf wsX0_frankOf) := goodIn_app (goodIn_of _ (by decide +kernel)) ggX7_block_X0_frankOf
theorem dX7_block_0 : decode cX7_block 0 = .ok (.aload_n 0, 1) := by decide +kernel
theorem dX7_block_1 : decode cX7_block 1 = .ok (.getfield 10, 3) := by decide +kernel
theorem dX7_block_4 : decode cX7_block 4 = .ok (.iload_n 1, 1) := by decide +kernel
theorem dX7_block_5 : decode cX7_block 5 = .ok (.invokevirtual 120, 3) := by decide +kernel
theorem dX7_block_8 : decode cX7_block 8 = .ok (.ifCond .ne 5, 3) := by decide +kernel
theorem dX7_block_11 : decode cX7_block 11 = .ok (.iconst (-1), 1) := by decide +kernel
theorem dX7_block_12 : decode cX7_block 12 = .ok (.ireturn, 1) := by decide +kernel
theorem dX7_block_13 : decode cX7_block 13 = .ok (.iload_n 2, 1) := by decide +kernel
theorem dX7_block_14 : decode cX7_block 14 = .ok (.tableswitch 75 0 3 #[30, 40, 50, 59], 30) := by decide +kernel
theorem dX7_block_44 : decode cX7_block 44 = .ok (.aload_n 0, 1) := by decide +kernel
theorem dX7_block_45 : decode cX7_block 45 = .ok (.getfield 10, 3) := by decide +kernel
theorem dX7_block_48 : decode cX7_block 48 = .ok (.getfield 123, 3) := by decide +kernel
theorem dX7_block_51 : decode cX7_block 51 = .ok (.iload_n 1, 1) := by decide +kernel
theorem dX7_block_52 : decode cX7_block 52 = .ok (.iaload, 1) := by decide +kernel
theorem dX7_block_53 : decode cX7_block 53 = .ok (.ireturn, 1) := by decide +kernel
theorem dX7_block_54 : decode cX7_block 54 = .ok (.aload_n 0, 1) := by decide +kernel
theorem dX7_block_55 : decode cX7_block 55 = .ok (.getfield 10, 3) := by decide +kernel
theorem dX7_block_58 : decode cX7_block 58 = .ok (.getfield 127, 3) := by decide +kernel
theorem dX7_block_61 : decode cX7_block 61 = .ok (.iload_n 1, 1) := by decide +kernel
theorem dX7_block_62 : decode cX7_block 62 = .ok (.iaload, 1) := by decide +kernel
theorem dX7_block_63 : decode cX7_block 63 = .ok (.ireturn, 1) := by decide +kernel
theorem dX7_block_64 : decode cX7_block 64 = .ok (.aload_n 0, 1) := by decide +kernel
theorem dX7_block_65 : decode cX7_block 65 = .ok (.getfield 10, 3) := by decide +kernel
theorem dX7_block_68 : decode cX7_block 68 = .ok (.iload_n 1, 1) := by decide +kernel
theorem dX7_block_69 : decode cX7_block 69 = .ok (.invokevirtual 130, 3) := by decide +kernel
theorem dX7_block_72 : decode cX7_block 72 = .ok (.ireturn, 1) := by decide +kernel
theorem dX7_block_73 : decode cX7_block 73 = .ok (.aload_n 0, 1) := by decide +kernel
theorem dX7_block_74 : decode cX7_block 74 = .ok (.getfield 10, 3) := by decide +kernel
theorem dX7_block_77 : decode cX7_block 77 = .ok (.aload_n 0, 1) := by decide +kernel
theorem dX7_block_78 : decode cX7_block 78 = .ok (.getfield 10, 3) := by decide +kernel
theorem dX7_block_81 : decode cX7_block 81 = .ok (.iload_n 1, 1) := by decide +kernel
theorem dX7_block_82 : decode cX7_block 82 = .ok (.invokevirtual 130, 3) := by decide +kernel
theorem dX7_block_85 : decode cX7_block 85 = .ok (.invokevirtual 134, 3) := by decide +kernel
theorem dX7_block_88 : decode cX7_block 88 = .ok (.ireturn, 1) := by decide +kernel
theorem dX7_block_89 : decode cX7_block 89 = .ok (.iconst (-1), 1) := by decide +kernel
theorem dX7_block_90 : decode cX7_block 90 = .ok (.ireturn, 1) := by decide +kernel
set_option maxRecDepth 20000 in
theorem ggX7_place_X0_hasPlace : GoodIn wsX7_place wsX0_hasPlace := goodIn_r _ [7, 8, 50, 51, 52, 53, 54, 55, 56, 57, 58, 59, 60, 61, 62] (by decide +kernel) (by decide +kernel)
set_option maxRecDepth 20000 in
theorem gX7_place_X0_hasPlace : GoodIn wsX7_place (wsV RX7 137 RX0 yX0_hasPlace wsX0_hasPlace) := goodIn_app (goodIn_of _ (by decide +kernel)) ggX7_place_X0_hasPlace
set_option maxRecDepth 20000 in
theorem ggX7_place_X0_whoAt : GoodIn wsX7_place wsX0_whoAt := goodIn_r _ [12, 13, 14, 15, 16, 17, 18, 50, 51, 52, 53, 54, 55, 56, 57, 58, 59, 60, 61, 62] (by decide +kernel) (by decide +kernel)
set_option maxRecDepth 20000 in
theorem gX7_place_X0_whoAt : GoodIn wsX7_place (wsV RX7 140 RX0 yX0_whoAt wsX0_whoAt) := goodIn_app (goodIn_of _ (by decide +kernel)) ggX7_place_X0_whoAt
set_option maxRecDepth 20000 in
theorem ggX7_place_X0_frankAt : GoodIn wsX7_place wsX0_frankAt := goodIn_r _ [22, 23, 24, 25, 26, 27, 28, 29, 4, 5, 6, 7, 8, 30, 10, 11, 12, 13, 14, 15, 16, 17, 18, 31, 32, 33, 34, 35, 36, 37, 38, 39, 40, 50, 51, 52, 53, 54, 55, 56, 57, 58, 59, 60, 61, 62] (by decide +kernel) (by decide +kernel)
set_option maxRecDepth 20000 in
theorem gX7_place_X0_frankAt : GoodIn wsX7_place (wsV RX7 146 RX0 yX0_frankAt wsX0_frankAt) := goodIn_app (goodIn_of _ (by decide +kernel)) ggX7_place_X0_frankAt
theorem dX7_place_0 : decode cX7_place 0 = .ok (.aload_n 0, 1) := by decide +kernel
theorem dX7_place_1 : decode cX7_place 1 = .ok (.getfield 10, 3) := by decide +kernel
theorem dX7_place_4 : decode cX7_place 4 = .ok (.iload_n 1, 1) := by decide +kernel
theorem dX7_place_5 : decode cX7_place 5 = .ok (.invokevirtual 137, 3) := by decide +kernel
theorem dX7_place_8 : decode cX7_place 8 = .ok (.ifCond .ne 5, 3) := by decide +kernel
theorem dX7_place_11 : decode cX7_place 11 = .ok (.iconst (-1), 1) := by decide +kernel
theorem dX7_place_12 : decode cX7_place 12 = .ok (.ireturn, 1) := by decide +kernel
theorem dX7_place_13 : decode cX7_place 13 = .ok (.iload_n 2, 1) := by decide +kernel
theorem dX7_place_14 : decode cX7_place 14 = .ok (.tableswitch 54 0 2 #[26, 35, 45], 26) := by decide +kernel
theorem dX7_place_40 : decode cX7_place 40 = .ok (.aload_n 0, 1) := by decide +kernel
theorem dX7_place_41 : decode cX7_place 41 = .ok (.getfield 10, 3) := by decide +kernel
theorem dX7_place_44 : decode cX7_place 44 = .ok (.iload_n 1, 1) := by decide +kernel
theorem dX7_place_45 : decode cX7_place 45 = .ok (.invokevirtual 140, 3) := by decide +kernel
theorem dX7_place_48 : decode cX7_place 48 = .ok (.ireturn, 1) := by decide +kernel
theorem dX7_place_49 : decode cX7_place 49 = .ok (.aload_n 0, 1) := by decide +kernel
theorem dX7_place_50 : decode cX7_place 50 = .ok (.getfield 10, 3) := by decide +kernel
theorem dX7_place_53 : decode cX7_place 53 = .ok (.getfield 143, 3) := by decide +kernel
theorem dX7_place_56 : decode cX7_place 56 = .ok (.iload_n 1, 1) := by decide +kernel
theorem dX7_place_57 : decode cX7_place 57 = .ok (.iaload, 1) := by decide +kernel
theorem dX7_place_58 : decode cX7_place 58 = .ok (.ireturn, 1) := by decide +kernel
theorem dX7_place_59 : decode cX7_place 59 = .ok (.aload_n 0, 1) := by decide +kernel
theorem dX7_place_60 : decode cX7_place 60 = .ok (.getfield 10, 3) := by decide +kernel
theorem dX7_place_63 : decode cX7_place 63 = .ok (.iload_n 1, 1) := by decide +kernel
theorem dX7_place_64 : decode cX7_place 64 = .ok (.invokevirtual 146, 3) := by decide +kernel
theorem dX7_place_67 : decode cX7_place 67 = .ok (.ireturn, 1) := by decide +kernel
theorem dX7_place_68 : decode cX7_place 68 = .ok (.iconst (-1), 1) := by decide +kernel
theorem dX7_place_69 : decode cX7_place 69 = .ok (.ireturn, 1) := by decide +kernel
set_option maxRecDepth 20000 in
theorem ggX7_roll_X0_hasRoll : GoodIn wsX7_roll wsX0_hasRoll := goodIn_r _ [8, 9, 19, 20, 21, 22, 23, 24, 25, 26, 27, 28, 29, 30, 31] (by decide +kernel) (by decide +kernel)
set_option maxRecDepth 20000 in
theorem gX7_roll_X0_hasRoll : GoodIn wsX7_roll (wsV RX7 149 RX0 yX0_hasRoll wsX0_hasRoll) := goodIn_app (goodIn_of _ (by decide +kernel)) ggX7_roll_X0_hasRoll
theorem dX7_roll_0 : decode cX7_roll 0 = .ok (.aload_n 0, 1) := by decide +kernel
theorem dX7_roll_1 : decode cX7_roll 1 = .ok (.getfield 10, 3) := by decide +kernel
theorem dX7_roll_4 : decode cX7_roll 4 = .ok (.iload_n 1, 1) := by decide +kernel
theorem dX7_roll_5 : decode cX7_roll 5 = .ok (.invokevirtual 149, 3) := by decide +kernel
theorem dX7_roll_8 : decode cX7_roll 8 = .ok (.ifCond .ne 5, 3) := by decide +kernel
theorem dX7_roll_11 : decode cX7_roll 11 = .ok (.iconst (-1), 1) := by decide +kernel
theorem dX7_roll_12 : decode cX7_roll 12 = .ok (.ireturn, 1) := by decide +kernel
theorem dX7_roll_13 : decode cX7_roll 13 = .ok (.iload_n 2, 1) := by decide +kernel
theorem dX7_roll_14 : decode cX7_roll 14 = .ok (.lookupswitch 46 #[(0, 26), (1, 36)], 26) := by decide +kernel
theorem dX7_roll_40 : decode cX7_roll 40 = .ok (.aload_n 0, 1) := by decide +kernel
theorem dX7_roll_41 : decode cX7_roll 41 = .ok (.getfield 10, 3) := by decide +kernel
theorem dX7_roll_44 : decode cX7_roll 44 = .ok (.getfield 152, 3) := by decide +kernel
theorem dX7_roll_47 : decode cX7_roll 47 = .ok (.iload_n 1, 1) := by decide +kernel
theorem dX7_roll_48 : decode cX7_roll 48 = .ok (.iaload, 1) := by decide +kernel
theorem dX7_roll_49 : decode cX7_roll 49 = .ok (.ireturn, 1) := by decide +kernel
theorem dX7_roll_50 : decode cX7_roll 50 = .ok (.aload_n 0, 1) := by decide +kernel
theorem dX7_roll_51 : decode cX7_roll 51 = .ok (.getfield 10, 3) := by decide +kernel
theorem dX7_roll_54 : decode cX7_roll 54 = .ok (.getfield 155, 3) := by decide +kernel
theorem dX7_roll_57 : decode cX7_roll 57 = .ok (.iload_n 1, 1) := by decide +kernel
theorem dX7_roll_58 : decode cX7_roll 58 = .ok (.iaload, 1) := by decide +kernel
theorem dX7_roll_59 : decode cX7_roll 59 = .ok (.ireturn, 1) := by decide +kernel
theorem dX7_roll_60 : decode cX7_roll 60 = .ok (.iconst (-1), 1) := by decide +kernel
theorem dX7_roll_61 : decode cX7_roll 61 = .ok (.ireturn, 1) := by decide +kernel
set_option maxRecDepth 20000 in
theorem ggX7_alter_X0_hasBlock : GoodIn wsX7_alter wsX0_hasBlock := goodIn_r _ [8, 9, 19, 20, 21, 22, 23, 24, 25, 26, 27, 28, 29, 30, 31] (by decide +kernel) (by decide +kernel)
set_option maxRecDepth 20000 in
theorem gX7_alter_X0_hasBlock : GoodIn wsX7_alter (wsV RX7 120 RX0 yX0_hasBlock wsX0_hasBlock) := goodIn_app (goodIn_of _ (by decide +kernel)) ggX7_alter_X0_hasBlock
theorem dX7_alter_0 : decode cX7_alter 0 = .ok (.aload_n 0, 1) := by decide +kernel
theorem dX7_alter_1 : decode cX7_alter 1 = .ok (.getfield 10, 3) := by decide +kernel
theorem dX7_alter_4 : decode cX7_alter 4 = .ok (.iload_n 1, 1) := by decide +kernel
theorem dX7_alter_5 : decode cX7_alter 5 = .ok (.invokevirtual 120, 3) := by decide +kernel
theorem dX7_alter_8 : decode cX7_alter 8 = .ok (.ifCond .eq 7, 3) := by decide +kernel
theorem dX7_alter_11 : decode cX7_alter 11 = .ok (.iload_n 3, 1) := by decide +kernel
theorem dX7_alter_12 : decode cX7_alter 12 = .ok (.ifCond .ge 5, 3) := by decide +kernel
theorem dX7_alter_15 : decode cX7_alter 15 = .ok (.iconst (-1), 1) := by decide +kernel
theorem dX7_alter_16 : decode cX7_alter 16 = .ok (.ireturn, 1) := by decide +kernel
theorem dX7_alter_17 : decode cX7_alter 17 = .ok (.iload_n 2, 1) := by decide +kernel
theorem dX7_alter_18 : decode cX7_alter 18 = .ok (.ifCond .ne 32, 3) := by decide +kernel
theorem dX7_alter_21 : decode cX7_alter 21 = .ok (.iload_n 3, 1) := by decide +kernel
theorem dX7_alter_22 : decode cX7_alter 22 = .ok (.iconst 4, 1) := by decide +kernel
theorem dX7_alter_23 : decode cX7_alter 23 = .ok (.if_icmp .ge 27, 3) := by decide +kernel
theorem dX7_alter_26 : decode cX7_alter 26 = .ok (.aload_n 0, 1) := by decide +kernel
theorem dX7_alter_27 : decode cX7_alter 27 = .ok (.getfield 10, 3) := by decide +kernel
theorem dX7_alter_30 : decode cX7_alter 30 = .ok (.getfield 123, 3) := by decide +kernel
theorem dX7_alter_33 : decode cX7_alter 33 = .ok (.iload_n 1, 1) := by decide +kernel
theorem dX7_alter_34 : decode cX7_alter 34 = .ok (.iaload, 1) := by decide +kernel
theorem dX7_alter_35 : decode cX7_alter 35 = .ok (.istore 4, 2) := by decide +kernel
theorem dX7_alter_37 : decode cX7_alter 37 = .ok (.aload_n 0, 1) := by decide +kernel
theorem dX7_alter_38 : decode cX7_alter 38 = .ok (.getfield 10, 3) := by decide +kernel
theorem dX7_alter_41 : decode cX7_alter 41 = .ok (.getfield 123, 3) := by decide +kernel
theorem dX7_alter_44 : decode cX7_alter 44 = .ok (.iload_n 1, 1) := by decide +kernel
theorem dX7_alter_45 : decode cX7_alter 45 = .ok (.iload_n 3, 1) := by decide +kernel
theorem dX7_alter_46 : decode cX7_alter 46 = .ok (.iastore, 1) := by decide +kernel
theorem dX7_alter_47 : decode cX7_alter 47 = .ok (.iload 4, 2) := by decide +kernel
theorem dX7_alter_49 : decode cX7_alter 49 = .ok (.ireturn, 1) := by decide +kernel
theorem dX7_alter_50 : decode cX7_alter 50 = .ok (.iload_n 2, 1) := by decide +kernel
theorem dX7_alter_51 : decode cX7_alter 51 = .ok (.iconst 1, 1) := by decide +kernel
theorem dX7_alter_52 : decode cX7_alter 52 = .ok (.if_icmp .ne 33, 3) := by decide +kernel
theorem dX7_alter_55 : decode cX7_alter 55 = .ok (.iload_n 3, 1) := by decide +kernel
theorem dX7_alter_56 : decode cX7_alter 56 = .ok (.bipush 10, 2) := by decide +kernel
theorem dX7_alter_58 : decode cX7_alter 58 = .ok (.if_icmp .ge 27, 3) := by decide +kernel
theorem dX7_alter_61 : decode cX7_alter 61 = .ok (.aload_n 0, 1) := by decide +kernel
theorem dX7_alter_62 : decode cX7_alter 62 = .ok (.getfield 10, 3) := by decide +kernel
theorem dX7_alter_65 : decode cX7_alter 65 = .ok (.getfield 127, 3) := by decide +kernel
theorem dX7_alter_68 : decode cX7_alter 68 = .ok (.iload_n 1, 1) := by decide +kernel
theorem dX7_alter_69 : decode cX7_alter 69 = .ok (.iaload, 1) := by decide +kernel
theorem dX7_alter_70 : decode cX7_alter 70 = .ok (.istore 4, 2) := by decide +kernel
theorem dX7_alter_72 : decode cX7_alter 72 = .ok (.aload_n 0, 1) := by decide +kernel
theorem dX7_alter_73 : decode cX7_alter 73 = .ok (.getfield 10, 3) := by decide +kernel
theorem dX7_alter_76 : decode cX7_alter 76 = .ok (.getfield 127, 3) := by decide +kernel
theorem dX7_alter_79 : decode cX7_alter 79 = .ok (.iload_n 1, 1) := by decide +kernel
theorem dX7_alter_80 : decode cX7_alter 80 = .ok (.iload_n 3, 1) := by decide +kernel
theorem dX7_alter_81 : decode cX7_alter 81 = .ok (.iastore, 1) := by decide +kernel
theorem dX7_alter_82 : decode cX7_alter 82 = .ok (.iload 4, 2) := by decide +kernel
theorem dX7_alter_84 : decode cX7_alter 84 = .ok (.ireturn, 1) := by decide +kernel
theorem dX7_alter_85 : decode cX7_alter 85 = .ok (.iconst (-1), 1) := by decide +kernel
theorem dX7_alter_86 : decode cX7_alter 86 = .ok (.ireturn, 1) := by decide +kernel
theorem dX7_set_0 : decode cX7_set 0 = .ok (.iconst (-1), 1) := by decide +kernel
theorem dX7_set_1 : decode cX7_set 1 = .ok (.istore_n 3, 1) := by decide +kernel
theorem dX7_set_2 : decode cX7_set 2 = .ok (.iload_n 1, 1) := by decide +kernel
theorem dX7_set_3 : decode cX7_set 3 = .ok (.ifCond .ne 33, 3) := by decide +kernel
theorem dX7_set_6 : decode cX7_set 6 = .ok (.iload_n 2, 1) := by decide +kernel
theorem dX7_set_7 : decode cX7_set 7 = .ok (.iconst 1, 1) := by decide +kernel
theorem dX7_set_8 : decode cX7_set 8 = .ok (.if_icmp .lt 28, 3) := by decide +kernel
theorem dX7_set_11 : decode cX7_set 11 = .ok (.iload_n 2, 1) := by decide +kernel
theorem dX7_set_12 : decode cX7_set 12 = .ok (.bipush 12, 2) := by decide +kernel
theorem dX7_set_14 : decode cX7_set 14 = .ok (.if_icmp .gt 22, 3) := by decide +kernel
theorem dX7_set_17 : decode cX7_set 17 = .ok (.aload_n 0, 1) := by decide +kernel
theorem dX7_set_18 : decode cX7_set 18 = .ok (.getfield 10, 3) := by decide +kernel
theorem dX7_set_21 : decode cX7_set 21 = .ok (.getfield 96, 3) := by decide +kernel
theorem dX7_set_24 : decode cX7_set 24 = .ok (.istore_n 3, 1) := by decide +kernel
theorem dX7_set_25 : decode cX7_set 25 = .ok (.aload_n 0, 1) := by decide +kernel
theorem dX7_set_26 : decode cX7_set 26 = .ok (.getfield 10, 3) := by decide +kernel
theorem dX7_set_29 : decode cX7_set 29 = .ok (.iload_n 2, 1) := by decide +kernel
theorem dX7_set_30 : decode cX7_set 30 = .ok (.putfield 96, 3) := by decide +kernel
theorem dX7_set_33 : decode cX7_set 33 = .ok (.goto 102, 3) := by decide +kernel
theorem dX7_set_36 : decode cX7_set 36 = .ok (.iload_n 1, 1) := by decide +kernel
theorem dX7_set_37 : decode cX7_set 37 = .ok (.iconst 1, 1) := by decide +kernel
theorem dX7_set_38 : decode cX7_set 38 = .ok (.if_icmp .ne 32, 3) := by decide +kernel
theorem dX7_set_41 : decode cX7_set 41 = .ok (.iload_n 2, 1) := by decide +kernel
theorem dX7_set_42 : decode cX7_set 42 = .ok (.ifCond .lt 28, 3) := by decide +kernel
theorem dX7_set_45 : decode cX7_set 45 = .ok (.iload_n 2, 1) := by decide +kernel
theorem dX7_set_46 : decode cX7_set 46 = .ok (.bipush 6, 2) := by decide +kernel
theorem dX7_set_48 : decode cX7_set 48 = .ok (.if_icmp .ge 22, 3) := by decide +kernel
theorem dX7_set_51 : decode cX7_set 51 = .ok (.aload_n 0, 1) := by decide +kernel
theorem dX7_set_52 : decode cX7_set 52 = .ok (.getfield 10, 3) := by decide +kernel
theorem dX7_set_55 : decode cX7_set 55 = .ok (.getfield 99, 3) := by decide +kernel
theorem dX7_set_58 : decode cX7_set 58 = .ok (.istore_n 3, 1) := by decide +kernel
theorem dX7_set_59 : decode cX7_set 59 = .ok (.aload_n 0, 1) := by decide +kernel
theorem dX7_set_60 : decode cX7_set 60 = .ok (.getfield 10, 3) := by decide +kernel
theorem dX7_set_63 : decode cX7_set 63 = .ok (.iload_n 2, 1) := by decide +kernel
theorem dX7_set_64 : decode cX7_set 64 = .ok (.putfield 99, 3) := by decide +kernel
theorem dX7_set_67 : decode cX7_set 67 = .ok (.goto 68, 3) := by decide +kernel
theorem dX7_set_70 : decode cX7_set 70 = .ok (.iload_n 1, 1) := by decide +kernel
theorem dX7_set_71 : decode cX7_set 71 = .ok (.iconst 2, 1) := by decide +kernel
theorem dX7_set_72 : decode cX7_set 72 = .ok (.if_icmp .ne 32, 3) := by decide +kernel
theorem dX7_set_75 : decode cX7_set 75 = .ok (.iload_n 2, 1) := by decide +kernel
theorem dX7_set_76 : decode cX7_set 76 = .ok (.ifCond .lt 28, 3) := by decide +kernel
theorem dX7_set_79 : decode cX7_set 79 = .ok (.iload_n 2, 1) := by decide +kernel
theorem dX7_set_80 : decode cX7_set 80 = .ok (.bipush 12, 2) := by decide +kernel
theorem dX7_set_82 : decode cX7_set 82 = .ok (.if_icmp .ge 22, 3) := by decide +kernel
theorem dX7_set_85 : decode cX7_set 85 = .ok (.aload_n 0, 1) := by decide +kernel
theorem dX7_set_86 : decode cX7_set 86 = .ok (.getfield 10, 3) := by decide +kernel
theorem dX7_set_89 : decode cX7_set 89 = .ok (.getfield 102, 3) := by decide +kernel
theorem dX7_set_92 : decode cX7_set 92 = .ok (.istore_n 3, 1) := by decide +kernel
theorem dX7_set_93 : decode cX7_set 93 = .ok (.aload_n 0, 1) := by decide +kernel
theorem dX7_set_94 : decode cX7_set 94 = .ok (.getfield 10, 3) := by decide +kernel
theorem dX7_set_97 : decode cX7_set 97 = .ok (.iload_n 2, 1) := by decide +kernel
theorem dX7_set_98 : decode cX7_set 98 = .ok (.putfield 102, 3) := by decide +kernel
theorem dX7_set_101 : decode cX7_set 101 = .ok (.goto 34, 3) := by decide +kernel
theorem dX7_set_104 : decode cX7_set 104 = .ok (.iload_n 1, 1) := by decide +kernel
theorem dX7_set_105 : decode cX7_set 105 = .ok (.iconst 3, 1) := by decide +kernel
theorem dX7_set_106 : decode cX7_set 106 = .ok (.if_icmp .ne 29, 3) := by decide +kernel
theorem dX7_set_109 : decode cX7_set 109 = .ok (.iload_n 2, 1) := by decide +kernel
theorem dX7_set_110 : decode cX7_set 110 = .ok (.ifCond .lt 25, 3) := by decide +kernel
theorem dX7_set_113 : decode cX7_set 113 = .ok (.iload_n 2, 1) := by decide +kernel
theorem dX7_set_114 : decode cX7_set 114 = .ok (.bipush 12, 2) := by decide +kernel
theorem dX7_set_116 : decode cX7_set 116 = .ok (.if_icmp .ge 19, 3) := by decide +kernel
theorem dX7_set_119 : decode cX7_set 119 = .ok (.aload_n 0, 1) := by decide +kernel
theorem dX7_set_120 : decode cX7_set 120 = .ok (.getfield 10, 3) := by decide +kernel
theorem dX7_set_123 : decode cX7_set 123 = .ok (.getfield 105, 3) := by decide +kernel
theorem dX7_set_126 : decode cX7_set 126 = .ok (.istore_n 3, 1) := by decide +kernel
theorem dX7_set_127 : decode cX7_set 127 = .ok (.aload_n 0, 1) := by decide +kernel
theorem dX7_set_128 : decode cX7_set 128 = .ok (.getfield 10, 3) := by decide +kernel
theorem dX7_set_131 : decode cX7_set 131 = .ok (.iload_n 2, 1) := by decide +kernel
theorem dX7_set_132 : decode cX7_set 132 = .ok (.putfield 105, 3) := by decide +kernel
theorem dX7_set_135 : decode cX7_set 135 = .ok (.iload_n 3, 1) := by decide +kernel
theorem dX7_set_136 : decode cX7_set 136 = .ok (.ireturn, 1) := by decide +kernel
theorem dX7_turn_0 : decode cX7_turn 0 = .ok (.iload_n 1, 1) := by decide +kernel
theorem dX7_turn_1 : decode cX7_turn 1 = .ok (.ifCond .lt 9, 3) := by decide +kernel
theorem dX7_turn_4 : decode cX7_turn 4 = .ok (.iload_n 1, 1) := by decide +kernel
theorem dX7_turn_5 : decode cX7_turn 5 = .ok (.bipush 12, 2) := by decide +kernel
theorem dX7_turn_7 : decode cX7_turn 7 = .ok (.if_icmp .lt 11, 3) := by decide +kernel
theorem dX7_turn_10 : decode cX7_turn 10 = .ok (.iload_n 1, 1) := by decide +kernel
theorem dX7_turn_11 : decode cX7_turn 11 = .ok (.bipush 99, 2) := by decide +kernel
theorem dX7_turn_13 : decode cX7_turn 13 = .ok (.if_icmp .eq 5, 3) := by decide +kernel
theorem dX7_turn_16 : decode cX7_turn 16 = .ok (.iconst (-1), 1) := by decide +kernel
theorem dX7_turn_17 : decode cX7_turn 17 = .ok (.ireturn, 1) := by decide +kernel
theorem dX7_turn_18 : decode cX7_turn 18 = .ok (.aload_n 0, 1) := by decide +kernel
theorem dX7_turn_19 : decode cX7_turn 19 = .ok (.getfield 10, 3) := by decide +kernel
theorem dX7_turn_22 : decode cX7_turn 22 = .ok (.getfield 108, 3) := by decide +kernel
theorem dX7_turn_25 : decode cX7_turn 25 = .ok (.istore_n 2, 1) := by decide +kernel
theorem dX7_turn_26 : decode cX7_turn 26 = .ok (.aload_n 0, 1) := by decide +kernel
theorem dX7_turn_27 : decode cX7_turn 27 = .ok (.getfield 10, 3) := by decide +kernel
theorem dX7_turn_30 : decode cX7_turn 30 = .ok (.iload_n 1, 1) := by decide +kernel
theorem dX7_turn_31 : decode cX7_turn 31 = .ok (.bipush 99, 2) := by decide +kernel
theorem dX7_turn_33 : decode cX7_turn 33 = .ok (.if_icmp .ne 8, 3) := by decide +kernel
theorem dX7_turn_36 : decode cX7_turn 36 = .ok (.bipush (-4), 2) := by decide +kernel
theorem dX7_turn_38 : decode cX7_turn 38 = .ok (.goto 4, 3) := by decide +kernel
theorem dX7_turn_41 : decode cX7_turn 41 = .ok (.iload_n 1, 1) := by decide +kernel
theorem dX7_turn_42 : decode cX7_turn 42 = .ok (.putfield 108, 3) := by decide +kernel
theorem dX7_turn_45 : decode cX7_turn 45 = .ok (.iload_n 2, 1) := by decide +kernel
theorem dX7_turn_46 : decode cX7_turn 46 = .ok (.ireturn, 1) := by decide +kernel
set_option maxRecDepth 20000 in
theorem ggX7_paint_X0_hasPlace : GoodIn wsX7_paint wsX0_hasPlace := goodIn_r _ [7, 8, 18, 19, 20, 21, 22, 23, 24, 25, 26, 27, 28, 29, 30] (by decide +kernel) (by decide +kernel)
set_option maxRecDepth 20000 in
theorem gX7_paint_X0_hasPlace : GoodIn wsX7_paint (wsV RX7 137 RX0 yX0_hasPlace wsX0_hasPlace) := goodIn_app (goodIn_of _ (by decide +kernel)) ggX7_paint_X0_hasPlace
theorem dX7_paint_0 : decode cX7_paint 0 = .ok (.aload_n 0, 1) := by decide +kernel
theorem dX7_paint_1 : decode cX7_paint 1 = .ok (.getfield 10, 3) := by decide +kernel
theorem dX7_paint_4 : decode cX7_paint 4 = .ok (.iload_n 1, 1) := by decide +kernel
theorem dX7_paint_5 : decode cX7_paint 5 = .ok (.invokevirtual 137, 3) := by decide +kernel
theorem dX7_paint_8 : decode cX7_paint 8 = .ok (.ifCond .eq 13, 3) := by decide +kernel
theorem dX7_paint_11 : decode cX7_paint 11 = .ok (.iload_n 2, 1) := by decide +kernel
theorem dX7_paint_12 : decode cX7_paint 12 = .ok (.ifCond .lt 9, 3) := by decide +kernel
theorem dX7_paint_15 : decode cX7_paint 15 = .ok (.iload_n 2, 1) := by decide +kernel
theorem dX7_paint_16 : decode cX7_paint 16 = .ok (.bipush 99, 2) := by decide +kernel
theorem dX7_paint_18 : decode cX7_paint 18 = .ok (.if_icmp .le 5, 3) := by decide +kernel
theorem dX7_paint_21 : decode cX7_paint 21 = .ok (.iconst (-1), 1) := by decide +kernel
theorem dX7_paint_22 : decode cX7_paint 22 = .ok (.ireturn, 1) := by decide +kernel
theorem dX7_paint_23 : decode cX7_paint 23 = .ok (.aload_n 0, 1) := by decide +kernel
theorem dX7_paint_24 : decode cX7_paint 24 = .ok (.getfield 10, 3) := by decide +kernel
theorem dX7_paint_27 : decode cX7_paint 27 = .ok (.getfield 143, 3) := by decide +kernel
theorem dX7_paint_30 : decode cX7_paint 30 = .ok (.iload_n 1, 1) := by decide +kernel
theorem dX7_paint_31 : decode cX7_paint 31 = .ok (.iaload, 1) := by decide +kernel
theorem dX7_paint_32 : decode cX7_paint 32 = .ok (.istore_n 3, 1) := by decide +kernel
theorem dX7_paint_33 : decode cX7_paint 33 = .ok (.aload_n 0, 1) := by decide +kernel
theorem dX7_paint_34 : decode cX7_paint 34 = .ok (.getfield 10, 3) := by decide +kernel
theorem dX7_paint_37 : decode cX7_paint 37 = .ok (.getfield 143, 3) := by decide +kernel
theorem dX7_paint_40 : decode cX7_paint 40 = .ok (.iload_n 1, 1) := by decide +kernel
theorem dX7_paint_41 : decode cX7_paint 41 = .ok (.iload_n 2, 1) := by decide +kernel
theorem dX7_paint_42 : decode cX7_paint 42 = .ok (.iastore, 1) := by decide +kernel
theorem dX7_paint_43 : decode cX7_paint 43 = .ok (.iload_n 3, 1) := by decide +kernel
theorem dX7_paint_44 : decode cX7_paint 44 = .ok (.ireturn, 1) := by decide +kernel
set_option maxRecDepth 20000 in
theorem ggX7_print_X0_addBlock : GoodIn wsX7_print wsX0_addBlock := goodIn_r _ [6, 7, 8, 9, 19, 20, 21, 22, 23, 24, 25, 26, 27, 28, 29, 30, 31] (by decide +kernel) (by decide +kernel)
set_option maxRecDepth 20000 in
theorem gX7_print_X0_addBlock : GoodIn wsX7_print (wsV RX7 158 RX0 yX0_addBlock wsX0_addBlock) := goodIn_app (goodIn_of _ (by decide +kernel)) ggX7_print_X0_addBlock
theorem dX7_print_0 : decode cX7_print 0 = .ok (.aload_n 0, 1) := by decide +kernel
theorem dX7_print_1 : decode cX7_print 1 = .ok (.getfield 10, 3) := by decide +kernel
theorem dX7_print_4 : decode cX7_print 4 = .ok (.iload_n 1, 1) := by decide +kernel
theorem dX7_print_5 : decode cX7_print 5 = .ok (.iload_n 2, 1) := by decide +kernel
theorem dX7_print_6 : decode cX7_print 6 = .ok (.invokevirtual 158, 3) := by decide +kernel
theorem dX7_print_9 : decode cX7_print 9 = .ok (.ireturn, 1) := by decide +kernel
set_option maxRecDepth 20000 in
theorem ggX7_stock_X0_addRoll : GoodIn wsX7_stock wsX0_addRoll := goodIn_r _ [6, 7, 8, 9, 19, 20, 21, 22, 23, 24, 25, 26, 27, 28, 29, 30, 31] (by decide +kernel) (by decide +kernel)
set_option maxRecDepth 20000 in
theorem gX7_stock_X0_addRoll : GoodIn wsX7_stock (wsV RX7 162 RX0 yX0_addRoll wsX0_addRoll) := goodIn_app (goodIn_of _ (by decide +kernel)) ggX7_stock_X0_addRoll
theorem dX7_stock_0 : decode cX7_stock 0 = .ok (.aload_n 0, 1) := by decide +kernel
theorem dX7_stock_1 : decode cX7_stock 1 = .ok (.getfield 10, 3) := by decide +kernel
theorem dX7_stock_4 : decode cX7_stock 4 = .ok (.iload_n 1, 1) := by decide +kernel
theorem dX7_stock_5 : decode cX7_stock 5 = .ok (.iload_n 2, 1) := by decide +kernel
theorem dX7_stock_6 : decode cX7_stock 6 = .ok (.invokevirtual 162, 3) := by decide +kernel
theorem dX7_stock_9 : decode cX7_stock 9 = .ok (.ireturn, 1) := by decide +kernel
theorem dX7_drop_0 : decode cX7_drop 0 = .ok (.iload_n 1, 1) := by decide +kernel
theorem dX7_drop_1 : decode cX7_drop 1 = .ok (.ifCond .lt 14, 3) := by decide +kernel
theorem dX7_drop_4 : decode cX7_drop 4 = .ok (.iload_n 1, 1) := by decide +kernel
theorem dX7_drop_5 : decode cX7_drop 5 = .ok (.aload_n 0, 1) := by decide +kernel
theorem dX7_drop_6 : decode cX7_drop 6 = .ok (.getfield 10, 3) := by decide +kernel
theorem dX7_drop_9 : decode cX7_drop 9 = .ok (.getfield 117, 3) := by decide +kernel
theorem dX7_drop_12 : decode cX7_drop 12 = .ok (.if_icmp .le 5, 3) := by decide +kernel
theorem dX7_drop_15 : decode cX7_drop 15 = .ok (.iconst (-1), 1) := by decide +kernel
theorem dX7_drop_16 : decode cX7_drop 16 = .ok (.ireturn, 1) := by decide +kernel
theorem dX7_drop_17 : decode cX7_drop 17 = .ok (.aload_n 0, 1) := by decide +kernel
theorem dX7_drop_18 : decode cX7_drop 18 = .ok (.getfield 10, 3) := by decide +kernel
theorem dX7_drop_21 : decode cX7_drop 21 = .ok (.getfield 117, 3) := by decide +kernel
theorem dX7_drop_24 : decode cX7_drop 24 = .ok (.istore_n 2, 1) := by decide +kernel
theorem dX7_drop_25 : decode cX7_drop 25 = .ok (.aload_n 0, 1) := by decide +kernel
theorem dX7_drop_26 : decode cX7_drop 26 = .ok (.getfield 10, 3) := by decide +kernel
theorem dX7_drop_29 : decode cX7_drop 29 = .ok (.iload_n 1, 1) := by decide +kernel
theorem dX7_drop_30 : decode cX7_drop 30 = .ok (.putfield 117, 3) := by decide +kernel
theorem dX7_drop_33 : decode cX7_drop 33 = .ok (.iload_n 2, 1) := by decide +kernel
theorem dX7_drop_34 : decode cX7_drop 34 = .ok (.ireturn, 1) := by decide +kernel
set_option maxRecDepth 20000 in
theorem ggX7_years_X0_pass : GoodIn wsX7_years wsX0_pass := goodIn_r _ [7, 8, 9, 10, 11, 12, 13, 14, 15, 16, 17, 18, 19, 69, 70, 71, 72, 73, 74, 75, 76, 77, 78, 79, 80, 81] (by decide +kernel) (by decide +kernel)
set_option maxRecDepth 20000 in
theorem gX7_years_X0_pass : GoodIn wsX7_years (wsV RX7 165 RX0 yX0_pass wsX0_pass) := goodIn_app (goodIn_of _ (by decide +kernel)) ggX7_years_X0_pass
set_option maxRecDepth 20000 in
theorem ggX7_years_X0_frankOfAll : GoodIn wsX7_years wsX0_frankOfAll := goodIn_r _ [23, 8, 24, 25, 26, 6, 27, 28, 29, 30, 31, 32, 15, 33, 34, 12, 35, 36, 37, 38, 39, 40, 41, 42, 43, 44, 45, 46, 47, 48, 49, 50, 51, 52, 53, 54, 55, 56, 57, 58, 59, 69, 70, 71, 72, 73, 74, 75, 76, 77, 78, 79, 80, 81] (by decide +kernel) (by decide +kernel)
set_option maxRecDepth 20000 in
theorem gX7_years_X0_frankOfAll : GoodIn wsX7_years (wsV RX7 114 RX0 yX0_frankOfAll wsX0_frankOfAll) := goodIn_app (goodIn_of _ (by decide +kernel)) ggX7_years_X0_frankOfAll
theorem dX7_years_0 : decode cX7_years 0 = .ok (.iload_n 1, 1) := by decide +kernel
theorem dX7_years_1 : decode cX7_years 1 = .ok (.ifCond .lt 9, 3) := by decide +kernel
theorem dX7_years_4 : decode cX7_years 4 = .ok (.iload_n 1, 1) := by decide +kernel
theorem dX7_years_5 : decode cX7_years 5 = .ok (.bipush 30, 2) := by decide +kernel
theorem dX7_years_7 : decode cX7_years 7 = .ok (.if_icmp .le 5, 3) := by decide +kernel
theorem dX7_years_10 : decode cX7_years 10 = .ok (.iconst (-1), 1) := by decide +kernel
theorem dX7_years_11 : decode cX7_years 11 = .ok (.ireturn, 1) := by decide +kernel
theorem dX7_years_12 : decode cX7_years 12 = .ok (.aload_n 0, 1) := by decide +kernel
theorem dX7_years_13 : decode cX7_years 13 = .ok (.getfield 10, 3) := by decide +kernel
theorem dX7_years_16 : decode cX7_years 16 = .ok (.getfield 111, 3) := by decide +kernel
theorem dX7_years_19 : decode cX7_years 19 = .ok (.iload_n 1, 1) := by decide +kernel
theorem dX7_years_20 : decode cX7_years 20 = .ok (.iadd, 1) := by decide +kernel
theorem dX7_years_21 : decode cX7_years 21 = .ok (.sipush 1000, 3) := by decide +kernel
theorem dX7_years_24 : decode cX7_years 24 = .ok (.if_icmp .lt 6, 3) := by decide +kernel
theorem dX7_years_27 : decode cX7_years 27 = .ok (.bipush (-3), 2) := by decide +kernel
theorem dX7_years_29 : decode cX7_years 29 = .ok (.ireturn, 1) := by decide +kernel
theorem dX7_years_30 : decode cX7_years 30 = .ok (.aload_n 0, 1) := by decide +kernel
theorem dX7_years_31 : decode cX7_years 31 = .ok (.getfield 10, 3) := by decide +kernel
theorem dX7_years_34 : decode cX7_years 34 = .ok (.iload_n 1, 1) := by decide +kernel
theorem dX7_years_35 : decode cX7_years 35 = .ok (.invokevirtual 165, 3) := by decide +kernel
theorem dX7_years_38 : decode cX7_years 38 = .ok (.aload_n 0, 1) := by decide +kernel
theorem dX7_years_39 : decode cX7_years 39 = .ok (.getfield 10, 3) := by decide +kernel
theorem dX7_years_42 : decode cX7_years 42 = .ok (.invokevirtual 114, 3) := by decide +kernel
theorem dX7_years_45 : decode cX7_years 45 = .ok (.ireturn, 1) := by decide +kernel
set_option maxRecDepth 20000 in
theorem ggX7_runs_X0_copy : GoodIn wsX7_runs wsX0_copy := goodIn_r _ [7, 8, 9, 10, 11, 12, 13, 14, 15, 16, 17, 18, 19, 20, 21, 22, 23, 24, 89, 90, 91, 92, 93, 94, 95, 96, 97, 98, 99, 100, 101] (by decide +kernel) (by decide +kernel)
set_option maxRecDepth 20000 in
theorem gX7_runs_X0_copy : GoodIn wsX7_runs (wsV RX7 85 RX0 yX0_copy wsX0_copy) := goodIn_app (goodIn_of _ (by decide +kernel)) ggX7_runs_X0_copy
set_option maxRecDepth 20000 in
theorem ggX7_runs_X0_pass : GoodIn wsX7_runs wsX0_pass := goodIn_r _ [28, 18, 20, 29, 30, 31, 32, 21, 14, 33, 34, 35, 23, 89, 90, 91, 92, 93, 94, 95, 96, 97, 98, 99, 100, 101] (by decide +kernel) (by decide +kernel)
set_option maxRecDepth 20000 in
theorem gX7_runs_X0_pass : GoodIn wsX7_runs (wsV RX7 165 RX0 yX0_pass wsX0_pass) := goodIn_app (goodIn_of _ (by decide +kernel)) ggX7_runs_X0_pass
set_option maxRecDepth 20000 in
theorem ggX7_runs_X0_frankOfAll : GoodIn wsX7_runs wsX0_frankOfAll := goodIn_r _ [39, 18, 40, 41, 42, 6, 43, 44, 45, 46, 47, 22, 14, 48, 49, 31, 50, 51, 52, 53, 54, 55, 56, 57, 58, 17, 19, 59, 60, 61, 62, 63, 64, 65, 66, 67, 68, 69, 70, 13, 8, 89, 90, 91, 92, 93, 94, 95, 96, 97, 98, 99, 100, 101] (by decide +kernel) (by decide +kernel)
set_option maxRecDepth 20000 in
theorem gX7_runs_X0_frankOfAll : GoodIn wsX7_runs (wsV RX7 114 RX0 yX0_frankOfAll wsX0_frankOfAll) := goodIn_app (goodIn_of _ (by decide +kernel)) ggX7_runs_X0_frankOfAll
set_option maxRecDepth 20000 in
theorem ggX7_runs_X0_placesWithout : GoodIn wsX7_runs wsX0_placesWithout := goodIn_r _ [74, 18, 44, 45, 46, 6, 47, 22, 14, 48, 49, 31, 50, 51, 52, 53, 54, 55, 56, 57, 58, 17, 19, 59, 60, 61, 62, 63, 64, 65, 66, 67, 68, 69, 70, 13, 8, 89, 90, 91, 92, 93, 94, 95, 96, 97, 98, 99, 100, 101] (by decide +kernel) (by decide +kernel)
set_option maxRecDepth 20000 in
theorem gX7_runs_X0_placesWithout : GoodIn wsX7_runs (wsV RX7 169 RX0 yX0_placesWithout wsX0_placesWithout) := goodIn_app (goodIn_of _ (by decide +kernel)) ggX7_runs_X0_placesWithout
set_option maxRecDepth 20000 in
theorem ggX7_runs_X0_frankestFrom : GoodIn wsX7_runs wsX0_frankestFrom := goodIn_r _ [78, 18, 40, 41, 42, 6, 43, 44, 45, 46, 47, 22, 14, 48, 49, 31, 50, 51, 52, 53, 54, 55, 56, 57, 58, 17, 19, 59, 60, 61, 62, 63, 64, 65, 66, 67, 68, 69, 70, 13, 8, 89, 90, 91, 92, 93, 94, 95, 96, 97, 98, 99, 100, 101] (by decide +kernel) (by decide +kernel)
set_option maxRecDepth 20000 in
theorem gX7_runs_X0_frankestFrom : GoodIn wsX7_runs (wsV RX7 172 RX0 yX0_frankestFrom wsX0_frankestFrom) := goodIn_app (goodIn_of _ (by decide +kernel)) ggX7_runs_X0_frankestFrom
set_option maxRecDepth 20000 in
theorem ggX7_runs_X0_frankAt : GoodIn wsX7_runs wsX0_frankAt := goodIn_r _ [47, 22, 14, 48, 49, 31, 50, 51, 52, 53, 6, 54, 18, 55, 56, 57, 58, 17, 19, 59, 60, 61, 62, 63, 64, 65, 66, 67, 68, 69, 70, 13, 8, 89, 90, 91, 92, 93, 94, 95, 96, 97, 98, 99, 100, 101] (by decide +kernel) (by decide +kernel)
set_option maxRecDepth 20000 in
theorem gX7_runs_X0_frankAt : GoodIn wsX7_runs (wsV RX7 146 RX0 yX0_frankAt wsX0_frankAt) := goodIn_app (goodIn_of _ (by decide +kernel)) ggX7_runs_X0_frankAt
theorem dX7_runs_0 : decode cX7_runs 0 = .ok (.iload_n 1, 1) := by decide +kernel
theorem dX7_runs_1 : decode cX7_runs 1 = .ok (.ifCond .lt 18, 3) := by decide +kernel
theorem dX7_runs_4 : decode cX7_runs 4 = .ok (.iload_n 1, 1) := by decide +kernel
theorem dX7_runs_5 : decode cX7_runs 5 = .ok (.bipush 60, 2) := by decide +kernel
theorem dX7_runs_7 : decode cX7_runs 7 = .ok (.if_icmp .gt 12, 3) := by decide +kernel
theorem dX7_runs_10 : decode cX7_runs 10 = .ok (.iload_n 2, 1) := by decide +kernel
theorem dX7_runs_11 : decode cX7_runs 11 = .ok (.ifCond .lt 8, 3) := by decide +kernel
theorem dX7_runs_14 : decode cX7_runs 14 = .ok (.iload_n 2, 1) := by decide +kernel
theorem dX7_runs_15 : decode cX7_runs 15 = .ok (.iconst 3, 1) := by decide +kernel
theorem dX7_runs_16 : decode cX7_runs 16 = .ok (.if_icmp .le 5, 3) := by decide +kernel
theorem dX7_runs_19 : decode cX7_runs 19 = .ok (.iconst (-1), 1) := by decide +kernel
theorem dX7_runs_20 : decode cX7_runs 20 = .ok (.ireturn, 1) := by decide +kernel
theorem dX7_runs_21 : decode cX7_runs 21 = .ok (.aload_n 0, 1) := by decide +kernel
theorem dX7_runs_22 : decode cX7_runs 22 = .ok (.getfield 16, 3) := by decide +kernel
theorem dX7_runs_25 : decode cX7_runs 25 = .ok (.aload_n 0, 1) := by decide +kernel
theorem dX7_runs_26 : decode cX7_runs 26 = .ok (.getfield 10, 3) := by decide +kernel
theorem dX7_runs_29 : decode cX7_runs 29 = .ok (.invokevirtual 85, 3) := by decide +kernel
theorem dX7_runs_32 : decode cX7_runs 32 = .ok (.aload_n 0, 1) := by decide +kernel
theorem dX7_runs_33 : decode cX7_runs 33 = .ok (.getfield 16, 3) := by decide +kernel
theorem dX7_runs_36 : decode cX7_runs 36 = .ok (.iload_n 1, 1) := by decide +kernel
theorem dX7_runs_37 : decode cX7_runs 37 = .ok (.invokevirtual 165, 3) := by decide +kernel
theorem dX7_runs_40 : decode cX7_runs 40 = .ok (.iload_n 2, 1) := by decide +kernel
theorem dX7_runs_41 : decode cX7_runs 41 = .ok (.tableswitch 52 0 2 #[27, 35, 43], 27) := by decide +kernel
theorem dX7_runs_68 : decode cX7_runs 68 = .ok (.aload_n 0, 1) := by decide +kernel
theorem dX7_runs_69 : decode cX7_runs 69 = .ok (.getfield 16, 3) := by decide +kernel
theorem dX7_runs_72 : decode cX7_runs 72 = .ok (.invokevirtual 114, 3) := by decide +kernel
theorem dX7_runs_75 : decode cX7_runs 75 = .ok (.ireturn, 1) := by decide +kernel
theorem dX7_runs_76 : decode cX7_runs 76 = .ok (.aload_n 0, 1) := by decide +kernel
theorem dX7_runs_77 : decode cX7_runs 77 = .ok (.getfield 16, 3) := by decide +kernel
theorem dX7_runs_80 : decode cX7_runs 80 = .ok (.invokevirtual 169, 3) := by decide +kernel
theorem dX7_runs_83 : decode cX7_runs 83 = .ok (.ireturn, 1) := by decide +kernel
theorem dX7_runs_84 : decode cX7_runs 84 = .ok (.aload_n 0, 1) := by decide +kernel
theorem dX7_runs_85 : decode cX7_runs 85 = .ok (.getfield 16, 3) := by decide +kernel
theorem dX7_runs_88 : decode cX7_runs 88 = .ok (.iconst 1, 1) := by decide +kernel
theorem dX7_runs_89 : decode cX7_runs 89 = .ok (.invokevirtual 172, 3) := by decide +kernel
theorem dX7_runs_92 : decode cX7_runs 92 = .ok (.ireturn, 1) := by decide +kernel
theorem dX7_runs_93 : decode cX7_runs 93 = .ok (.aload_n 0, 1) := by decide +kernel
theorem dX7_runs_94 : decode cX7_runs 94 = .ok (.getfield 16, 3) := by decide +kernel
theorem dX7_runs_97 : decode cX7_runs 97 = .ok (.aload_n 0, 1) := by decide +kernel
theorem dX7_runs_98 : decode cX7_runs 98 = .ok (.getfield 16, 3) := by decide +kernel
theorem dX7_runs_101 : decode cX7_runs 101 = .ok (.iconst 1, 1) := by decide +kernel
theorem dX7_runs_102 : decode cX7_runs 102 = .ok (.invokevirtual 172, 3) := by decide +kernel
theorem dX7_runs_105 : decode cX7_runs 105 = .ok (.invokevirtual 146, 3) := by decide +kernel
theorem dX7_runs_108 : decode cX7_runs 108 = .ok (.ireturn, 1) := by decide +kernel
set_option maxRecDepth 20000 in
theorem ggX7_ahead_X0_hasPlace : GoodIn wsX7_ahead wsX0_hasPlace := goodIn_r _ [7, 8, 73, 74, 75, 76, 77, 78, 79, 80, 81, 82, 83, 84, 85] (by decide +kernel) (by decide +kernel)
set_option maxRecDepth 20000 in
theorem gX7_ahead_X0_hasPlace : GoodIn wsX7_ahead (wsV RX7 137 RX0 yX0_hasPlace wsX0_hasPlace) := goodIn_app (goodIn_of _ (by decide +kernel)) ggX7_ahead_X0_hasPlace
set_option maxRecDepth 20000 in
theorem ggX7_ahead_X0_copy : GoodIn wsX7_ahead wsX0_copy := goodIn_r _ [12, 13, 14, 15, 16, 17, 18, 19, 20, 21, 22, 8, 23, 24, 25, 26, 27, 28, 73, 74, 75, 76, 77, 78, 79, 80, 81, 82, 83, 84, 85] (by decide +kernel) (by decide +kernel)
set_option maxRecDepth 20000 in
theorem gX7_ahead_X0_copy : GoodIn wsX7_ahead (wsV RX7 85 RX0 yX0_copy wsX0_copy) := goodIn_app (goodIn_of _ (by decide +kernel)) ggX7_ahead_X0_copy
set_option maxRecDepth 20000 in
theorem ggX7_ahead_X0_pass : GoodIn wsX7_ahead wsX0_pass := goodIn_r _ [32, 8, 24, 33, 34, 35, 36, 25, 19, 37, 38, 39, 27, 73, 74, 75, 76, 77, 78, 79, 80, 81, 82, 83, 84, 85] (by decide +kernel) (by decide +kernel)
set_option maxRecDepth 20000 in
theorem gX7_ahead_X0_pass : GoodIn wsX7_ahead (wsV RX7 165 RX0 yX0_pass wsX0_pass) := goodIn_app (goodIn_of _ (by decide +kernel)) ggX7_ahead_X0_pass
set_option maxRecDepth 20000 in
theorem ggX7_ahead_X0_frankAt : GoodIn wsX7_ahead wsX0_frankAt := goodIn_r _ [43, 26, 19, 44, 45, 35, 46, 47, 4, 5, 6, 7, 8, 48, 49, 50, 51, 22, 23, 52, 53, 54, 55, 56, 57, 58, 59, 60, 61, 62, 63, 18, 13, 73, 74, 75, 76, 77, 78, 79, 80, 81, 82, 83, 84, 85] (by decide +kernel) (by decide +kernel)
set_option maxRecDepth 20000 in
theorem gX7_ahead_X0_frankAt : GoodIn wsX7_ahead (wsV RX7 146 RX0 yX0_frankAt wsX0_frankAt) := goodIn_app (goodIn_of _ (by decide +kernel)) ggX7_ahead_X0_frankAt
theorem dX7_ahead_0 : decode cX7_ahead 0 = .ok (.aload_n 0, 1) := by decide +kernel
theorem dX7_ahead_1 : decode cX7_ahead 1 = .ok (.getfield 10, 3) := by decide +kernel
theorem dX7_ahead_4 : decode cX7_ahead 4 = .ok (.iload_n 1, 1) := by decide +kernel
theorem dX7_ahead_5 : decode cX7_ahead 5 = .ok (.invokevirtual 137, 3) := by decide +kernel
theorem dX7_ahead_8 : decode cX7_ahead 8 = .ok (.ifCond .eq 13, 3) := by decide +kernel
theorem dX7_ahead_11 : decode cX7_ahead 11 = .ok (.iload_n 2, 1) := by decide +kernel
theorem dX7_ahead_12 : decode cX7_ahead 12 = .ok (.ifCond .lt 9, 3) := by decide +kernel
theorem dX7_ahead_15 : decode cX7_ahead 15 = .ok (.iload_n 2, 1) := by decide +kernel
theorem dX7_ahead_16 : decode cX7_ahead 16 = .ok (.bipush 60, 2) := by decide +kernel
theorem dX7_ahead_18 : decode cX7_ahead 18 = .ok (.if_icmp .le 5, 3) := by decide +kernel
theorem dX7_ahead_21 : decode cX7_ahead 21 = .ok (.iconst (-1), 1) := by decide +kernel
theorem dX7_ahead_22 : decode cX7_ahead 22 = .ok (.ireturn, 1) := by decide +kernel
theorem dX7_ahead_23 : decode cX7_ahead 23 = .ok (.aload_n 0, 1) := by decide +kernel
theorem dX7_ahead_24 : decode cX7_ahead 24 = .ok (.getfield 16, 3) := by decide +kernel
theorem dX7_ahead_27 : decode cX7_ahead 27 = .ok (.aload_n 0, 1) := by decide +kernel
theorem dX7_ahead_28 : decode cX7_ahead 28 = .ok (.getfield 10, 3) := by decide +kernel
theorem dX7_ahead_31 : decode cX7_ahead 31 = .ok (.invokevirtual 85, 3) := by decide +kernel
theorem dX7_ahead_34 : decode cX7_ahead 34 = .ok (.aload_n 0, 1) := by decide +kernel
theorem dX7_ahead_35 : decode cX7_ahead 35 = .ok (.getfield 16, 3) := by decide +kernel
theorem dX7_ahead_38 : decode cX7_ahead 38 = .ok (.iload_n 2, 1) := by decide +kernel
theorem dX7_ahead_39 : decode cX7_ahead 39 = .ok (.invokevirtual 165, 3) := by decide +kernel
theorem dX7_ahead_42 : decode cX7_ahead 42 = .ok (.aload_n 0, 1) := by decide +kernel
theorem dX7_ahead_43 : decode cX7_ahead 43 = .ok (.getfield 16, 3) := by decide +kernel
theorem dX7_ahead_46 : decode cX7_ahead 46 = .ok (.iload_n 1, 1) := by decide +kernel
theorem dX7_ahead_47 : decode cX7_ahead 47 = .ok (.invokevirtual 146, 3) := by decide +kernel
theorem dX7_ahead_50 : decode cX7_ahead 50 = .ok (.ireturn, 1) := by decide +kernel
set_option maxRecDepth 20000 in
theorem ggX7_fades_X0_hasPlace : GoodIn wsX7_fades wsX0_hasPlace := goodIn_r _ [7, 8, 73, 74, 75, 76, 77, 78, 79, 80, 81, 82, 83, 84, 85] (by decide +kernel) (by decide +kernel)
set_option maxRecDepth 20000 in
theorem gX7_fades_X0_hasPlace : GoodIn wsX7_fades (wsV RX7 137 RX0 yX0_hasPlace wsX0_hasPlace) := goodIn_app (goodIn_of _ (by decide +kernel)) ggX7_fades_X0_hasPlace
set_option maxRecDepth 20000 in
theorem ggX7_fades_X0_copy : GoodIn wsX7_fades wsX0_copy := goodIn_r _ [12, 13, 14, 15, 16, 17, 18, 19, 20, 21, 22, 8, 23, 24, 25, 26, 27, 28, 73, 74, 75, 76, 77, 78, 79, 80, 81, 82, 83, 84, 85] (by decide +kernel) (by decide +kernel)
set_option maxRecDepth 20000 in
theorem gX7_fades_X0_copy : GoodIn wsX7_fades (wsV RX7 85 RX0 yX0_copy wsX0_copy) := goodIn_app (goodIn_of _ (by decide +kernel)) ggX7_fades_X0_copy
set_option maxRecDepth 20000 in
theorem ggX7_fades_X0_frankAt : GoodIn wsX7_fades wsX0_frankAt := goodIn_r _ [32, 26, 19, 33, 34, 35, 36, 37, 4, 5, 6, 7, 8, 38, 39, 40, 41, 22, 23, 42, 43, 44, 45, 46, 47, 48, 49, 50, 51, 52, 53, 18, 13, 73, 74, 75, 76, 77, 78, 79, 80, 81, 82, 83, 84, 85] (by decide +kernel) (by decide +kernel)
set_option maxRecDepth 20000 in
theorem gX7_fades_X0_frankAt : GoodIn wsX7_fades (wsV RX7 146 RX0 yX0_frankAt wsX0_frankAt) := goodIn_app (goodIn_of _ (by decide +kernel)) ggX7_fades_X0_frankAt
set_option maxRecDepth 20000 in
theorem ggX7_fades_X0_pass : GoodIn wsX7_fades wsX0_pass := goodIn_r _ [57, 8, 24, 58, 59, 35, 60, 25, 19, 61, 62, 63, 27, 73, 74, 75, 76, 77, 78, 79, 80, 81, 82, 83, 84, 85] (by decide +kernel) (by decide +kernel)
set_option maxRecDepth 20000 in
theorem gX7_fades_X0_pass : GoodIn wsX7_fades (wsV RX7 165 RX0 yX0_pass wsX0_pass) := goodIn_app (goodIn_of _ (by decide +kernel)) ggX7_fades_X0_pass
theorem dX7_fades_0 : decode cX7_fades 0 = .ok (.aload_n 0, 1) := by decide +kernel
theorem dX7_fades_1 : decode cX7_fades 1 = .ok (.getfield 10, 3) := by decide +kernel
theorem dX7_fades_4 : decode cX7_fades 4 = .ok (.iload_n 1, 1) := by decide +kernel
theorem dX7_fades_5 : decode cX7_fades 5 = .ok (.invokevirtual 137, 3) := by decide +kernel
theorem dX7_fades_8 : decode cX7_fades 8 = .ok (.ifCond .ne 5, 3) := by decide +kernel
theorem dX7_fades_11 : decode cX7_fades 11 = .ok (.iconst (-1), 1) := by decide +kernel
theorem dX7_fades_12 : decode cX7_fades 12 = .ok (.ireturn, 1) := by decide +kernel
theorem dX7_fades_13 : decode cX7_fades 13 = .ok (.aload_n 0, 1) := by decide +kernel
theorem dX7_fades_14 : decode cX7_fades 14 = .ok (.getfield 16, 3) := by decide +kernel
theorem dX7_fades_17 : decode cX7_fades 17 = .ok (.aload_n 0, 1) := by decide +kernel
theorem dX7_fades_18 : decode cX7_fades 18 = .ok (.getfield 10, 3) := by decide +kernel
theorem dX7_fades_21 : decode cX7_fades 21 = .ok (.invokevirtual 85, 3) := by decide +kernel
theorem dX7_fades_24 : decode cX7_fades 24 = .ok (.iconst 0, 1) := by decide +kernel
theorem dX7_fades_25 : decode cX7_fades 25 = .ok (.istore_n 2, 1) := by decide +kernel
theorem dX7_fades_26 : decode cX7_fades 26 = .ok (.iload_n 2, 1) := by decide +kernel
theorem dX7_fades_27 : decode cX7_fades 27 = .ok (.bipush 60, 2) := by decide +kernel
theorem dX7_fades_29 : decode cX7_fades 29 = .ok (.if_icmp .gt 30, 3) := by decide +kernel
theorem dX7_fades_32 : decode cX7_fades 32 = .ok (.aload_n 0, 1) := by decide +kernel
theorem dX7_fades_33 : decode cX7_fades 33 = .ok (.getfield 16, 3) := by decide +kernel
theorem dX7_fades_36 : decode cX7_fades 36 = .ok (.iload_n 1, 1) := by decide +kernel
theorem dX7_fades_37 : decode cX7_fades 37 = .ok (.invokevirtual 146, 3) := by decide +kernel
theorem dX7_fades_40 : decode cX7_fades 40 = .ok (.ifCond .ne 5, 3) := by decide +kernel
theorem dX7_fades_43 : decode cX7_fades 43 = .ok (.iload_n 2, 1) := by decide +kernel
theorem dX7_fades_44 : decode cX7_fades 44 = .ok (.ireturn, 1) := by decide +kernel
theorem dX7_fades_45 : decode cX7_fades 45 = .ok (.aload_n 0, 1) := by decide +kernel
theorem dX7_fades_46 : decode cX7_fades 46 = .ok (.getfield 16, 3) := by decide +kernel
theorem dX7_fades_49 : decode cX7_fades 49 = .ok (.iconst 1, 1) := by decide +kernel
theorem dX7_fades_50 : decode cX7_fades 50 = .ok (.invokevirtual 165, 3) := by decide +kernel
theorem dX7_fades_53 : decode cX7_fades 53 = .ok (.iinc 2 1, 3) := by decide +kernel
theorem dX7_fades_56 : decode cX7_fades 56 = .ok (.goto (-30), 3) := by decide +kernel
theorem dX7_fades_59 : decode cX7_fades 59 = .ok (.bipush (-4), 2) := by decide +kernel
theorem dX7_fades_61 : decode cX7_fades 61 = .ok (.ireturn, 1) := by decide +kernel
set_option maxRecDepth 20000 in
theorem ggX7_stretch_X7_isNoPair : GoodIn wsX7_stretch wsX7_isNoPair := goodIn_r _ [6] (by decide +kernel) (by decide +kernel)
set_option maxRecDepth 20000 in
theorem gX7_stretch_X7_isNoPair : GoodIn wsX7_stretch (va_wsS RX7 175 yX7_isNoPair wsX7_isNoPair) := goodIn_app (goodIn_of _ (by decide +kernel)) ggX7_stretch_X7_isNoPair
set_option maxRecDepth 20000 in
theorem ggX7_stretch_X0_frankestFrom : GoodIn wsX7_stretch wsX0_frankestFrom := goodIn_r _ [11, 12, 13, 14, 15, 10, 16, 17, 18, 19, 20, 21, 22, 23, 24, 25, 26, 27, 28, 29, 30, 31, 32, 33, 34, 35, 36, 37, 38, 39, 40, 41, 42, 43, 44, 45, 46, 47, 48, 49, 50, 61, 62, 63, 64, 65, 66, 67, 68, 69, 70, 71, 72, 73] (by decide +kernel) (by decide +kernel)
set_option maxRecDepth 20000 in
theorem gX7_stretch_X0_frankestFrom : GoodIn wsX7_stretch (wsV RX7 172 RX0 yX0_frankestFrom wsX0_frankestFrom) := goodIn_app (goodIn_of _ (by decide +kernel)) ggX7_stretch_X0_frankestFrom
set_option maxRecDepth 20000 in
theorem ggX7_stretch_X0_frankFrom : GoodIn wsX7_stretch wsX0_frankFrom := goodIn_r _ [16, 17, 18, 19, 10, 20, 21, 22, 23, 24, 25, 26, 27, 28, 29, 30, 12, 31, 32, 33, 34, 35, 36, 37, 38, 39, 40, 41, 42, 43, 44, 45, 46, 47, 48, 49, 50, 61, 62, 63, 64, 65, 66, 67, 68, 69, 70, 71, 72, 73] (by decide +kernel) (by decide +kernel)
set_option maxRecDepth 20000 in
theorem gX7_stretch_X0_frankFrom : GoodIn wsX7_stretch (wsV RX7 178 RX0 yX0_frankFrom wsX0_frankFrom) := goodIn_app (goodIn_of _ (by decide +kernel)) ggX7_stretch_X0_frankFrom
theorem dX7_stretch_0 : decode cX7_stretch 0 = .ok (.iload_n 1, 1) := by decide +kernel
theorem dX7_stretch_1 : decode cX7_stretch 1 = .ok (.iconst 1, 1) := by decide +kernel
theorem dX7_stretch_2 : decode cX7_stretch 2 = .ok (.if_icmp .lt 21, 3) := by decide +kernel
theorem dX7_stretch_5 : decode cX7_stretch 5 = .ok (.iload_n 1, 1) := by decide +kernel
theorem dX7_stretch_6 : decode cX7_stretch 6 = .ok (.aload_n 0, 1) := by decide +kernel
theorem dX7_stretch_7 : decode cX7_stretch 7 = .ok (.getfield 10, 3) := by decide +kernel
theorem dX7_stretch_10 : decode cX7_stretch 10 = .ok (.getfield 96, 3) := by decide +kernel
theorem dX7_stretch_13 : decode cX7_stretch 13 = .ok (.if_icmp .gt 10, 3) := by decide +kernel
theorem dX7_stretch_16 : decode cX7_stretch 16 = .ok (.iload_n 2, 1) := by decide +kernel
theorem dX7_stretch_17 : decode cX7_stretch 17 = .ok (.invokestatic 175, 3) := by decide +kernel
theorem dX7_stretch_20 : decode cX7_stretch 20 = .ok (.ifCond .eq 5, 3) := by decide +kernel
theorem dX7_stretch_23 : decode cX7_stretch 23 = .ok (.iconst (-1), 1) := by decide +kernel
theorem dX7_stretch_24 : decode cX7_stretch 24 = .ok (.ireturn, 1) := by decide +kernel
theorem dX7_stretch_25 : decode cX7_stretch 25 = .ok (.aload_n 0, 1) := by decide +kernel
theorem dX7_stretch_26 : decode cX7_stretch 26 = .ok (.getfield 10, 3) := by decide +kernel
theorem dX7_stretch_29 : decode cX7_stretch 29 = .ok (.iload_n 1, 1) := by decide +kernel
theorem dX7_stretch_30 : decode cX7_stretch 30 = .ok (.invokevirtual 172, 3) := by decide +kernel
theorem dX7_stretch_33 : decode cX7_stretch 33 = .ok (.istore_n 3, 1) := by decide +kernel
theorem dX7_stretch_34 : decode cX7_stretch 34 = .ok (.iload_n 2, 1) := by decide +kernel
theorem dX7_stretch_35 : decode cX7_stretch 35 = .ok (.ifCond .ne 7, 3) := by decide +kernel
theorem dX7_stretch_38 : decode cX7_stretch 38 = .ok (.iload_n 3, 1) := by decide +kernel
theorem dX7_stretch_39 : decode cX7_stretch 39 = .ok (.goto 12, 3) := by decide +kernel
theorem dX7_stretch_42 : decode cX7_stretch 42 = .ok (.aload_n 0, 1) := by decide +kernel
theorem dX7_stretch_43 : decode cX7_stretch 43 = .ok (.getfield 10, 3) := by decide +kernel
theorem dX7_stretch_46 : decode cX7_stretch 46 = .ok (.iload_n 3, 1) := by decide +kernel
theorem dX7_stretch_47 : decode cX7_stretch 47 = .ok (.iload_n 1, 1) := by decide +kernel
theorem dX7_stretch_48 : decode cX7_stretch 48 = .ok (.invokevirtual 178, 3) := by decide +kernel
theorem dX7_stretch_51 : decode cX7_stretch 51 = .ok (.ireturn, 1) := by decide +kernel
set_option maxRecDepth 20000 in
theorem ggX7_hang_X7_isNoPair : GoodIn wsX7_hang wsX7_isNoPair := goodIn_r _ [7] (by decide +kernel) (by decide +kernel)
set_option maxRecDepth 20000 in
theorem gX7_hang_X7_isNoPair : GoodIn wsX7_hang (va_wsS RX7 175 yX7_isNoPair wsX7_isNoPair) := goodIn_app (goodIn_of _ (by decide +kernel)) ggX7_hang_X7_isNoPair
set_option maxRecDepth 20000 in
theorem ggX7_hang_X0_copy : GoodIn wsX7_hang wsX0_copy := goodIn_r _ [12, 13, 14, 15, 16, 17, 18, 19, 20, 21, 22, 23, 24, 25, 26, 27, 28, 29, 75, 76, 77, 78, 79, 80, 81, 82, 83, 84, 85, 86, 87] (by decide +kernel) (by decide +kernel)
set_option maxRecDepth 20000 in
theorem gX7_hang_X0_copy : GoodIn wsX7_hang (wsV RX7 85 RX0 yX0_copy wsX0_copy) := goodIn_app (goodIn_of _ (by decide +kernel)) ggX7_hang_X0_copy
set_option maxRecDepth 20000 in
theorem ggX7_hang_X0_frankOfAll : GoodIn wsX7_hang wsX0_frankOfAll := goodIn_r _ [33, 23, 34, 35, 36, 11, 37, 38, 39, 40, 41, 27, 19, 42, 43, 44, 45, 46, 47, 48, 49, 50, 51, 52, 53, 22, 24, 54, 55, 56, 57, 58, 59, 60, 61, 62, 63, 64, 65, 18, 13, 75, 76, 77, 78, 79, 80, 81, 82, 83, 84, 85, 86, 87] (by decide +kernel) (by decide +kernel)
set_option maxRecDepth 20000 in
theorem gX7_hang_X0_frankOfAll : GoodIn wsX7_hang (wsV RX7 114 RX0 yX0_frankOfAll wsX0_frankOfAll) := goodIn_app (goodIn_of _ (by decide +kernel)) ggX7_hang_X0_frankOfAll
theorem dX7_hang_0 : decode cX7_hang 0 = .ok (.iload_n 1, 1) := by decide +kernel
theorem dX7_hang_1 : decode cX7_hang 1 = .ok (.invokestatic 175, 3) := by decide +kernel
theorem dX7_hang_4 : decode cX7_hang 4 = .ok (.ifCond .eq 5, 3) := by decide +kernel
theorem dX7_hang_7 : decode cX7_hang 7 = .ok (.iconst (-1), 1) := by decide +kernel
theorem dX7_hang_8 : decode cX7_hang 8 = .ok (.ireturn, 1) := by decide +kernel
theorem dX7_hang_9 : decode cX7_hang 9 = .ok (.aload_n 0, 1) := by decide +kernel
theorem dX7_hang_10 : decode cX7_hang 10 = .ok (.getfield 16, 3) := by decide +kernel
theorem dX7_hang_13 : decode cX7_hang 13 = .ok (.aload_n 0, 1) := by decide +kernel
theorem dX7_hang_14 : decode cX7_hang 14 = .ok (.getfield 10, 3) := by decide +kernel
theorem dX7_hang_17 : decode cX7_hang 17 = .ok (.invokevirtual 85, 3) := by decide +kernel
theorem dX7_hang_20 : decode cX7_hang 20 = .ok (.iconst 0, 1) := by decide +kernel
theorem dX7_hang_21 : decode cX7_hang 21 = .ok (.istore_n 2, 1) := by decide +kernel
theorem dX7_hang_22 : decode cX7_hang 22 = .ok (.iconst (-1), 1) := by decide +kernel
theorem dX7_hang_23 : decode cX7_hang 23 = .ok (.istore_n 3, 1) := by decide +kernel
theorem dX7_hang_24 : decode cX7_hang 24 = .ok (.iconst 0, 1) := by decide +kernel
theorem dX7_hang_25 : decode cX7_hang 25 = .ok (.istore 4, 2) := by decide +kernel
theorem dX7_hang_27 : decode cX7_hang 27 = .ok (.iload 4, 2) := by decide +kernel
theorem dX7_hang_29 : decode cX7_hang 29 = .ok (.bipush 6, 2) := by decide +kernel
theorem dX7_hang_31 : decode cX7_hang 31 = .ok (.if_icmp .ge 39, 3) := by decide +kernel
theorem dX7_hang_34 : decode cX7_hang 34 = .ok (.aload_n 0, 1) := by decide +kernel
theorem dX7_hang_35 : decode cX7_hang 35 = .ok (.getfield 16, 3) := by decide +kernel
theorem dX7_hang_38 : decode cX7_hang 38 = .ok (.iload 4, 2) := by decide +kernel
theorem dX7_hang_40 : decode cX7_hang 40 = .ok (.putfield 99, 3) := by decide +kernel
theorem dX7_hang_43 : decode cX7_hang 43 = .ok (.aload_n 0, 1) := by decide +kernel
theorem dX7_hang_44 : decode cX7_hang 44 = .ok (.getfield 16, 3) := by decide +kernel
theorem dX7_hang_47 : decode cX7_hang 47 = .ok (.invokevirtual 114, 3) := by decide +kernel
theorem dX7_hang_50 : decode cX7_hang 50 = .ok (.istore 5, 2) := by decide +kernel
theorem dX7_hang_52 : decode cX7_hang 52 = .ok (.iload 5, 2) := by decide +kernel
theorem dX7_hang_54 : decode cX7_hang 54 = .ok (.iload_n 3, 1) := by decide +kernel
theorem dX7_hang_55 : decode cX7_hang 55 = .ok (.if_icmp .le 9, 3) := by decide +kernel
theorem dX7_hang_58 : decode cX7_hang 58 = .ok (.iload 4, 2) := by decide +kernel
theorem dX7_hang_60 : decode cX7_hang 60 = .ok (.istore_n 2, 1) := by decide +kernel
theorem dX7_hang_61 : decode cX7_hang 61 = .ok (.iload 5, 2) := by decide +kernel
theorem dX7_hang_63 : decode cX7_hang 63 = .ok (.istore_n 3, 1) := by decide +kernel
theorem dX7_hang_64 : decode cX7_hang 64 = .ok (.iinc 4 1, 3) := by decide +kernel
theorem dX7_hang_67 : decode cX7_hang 67 = .ok (.goto (-40), 3) := by decide +kernel
theorem dX7_hang_70 : decode cX7_hang 70 = .ok (.iload_n 1, 1) := by decide +kernel
theorem dX7_hang_71 : decode cX7_hang 71 = .ok (.ifCond .ne 7, 3) := by decide +kernel
theorem dX7_hang_74 : decode cX7_hang 74 = .ok (.iload_n 2, 1) := by decide +kernel
theorem dX7_hang_75 : decode cX7_hang 75 = .ok (.goto 4, 3) := by decide +kernel
theorem dX7_hang_78 : decode cX7_hang 78 = .ok (.iload_n 3, 1) := by decide +kernel
theorem dX7_hang_79 : decode cX7_hang 79 = .ok (.ireturn, 1) := by decide +kernel
set_option maxRecDepth 20000 in
theorem ggX7_shade_X7_isNoPair : GoodIn wsX7_shade wsX7_isNoPair := goodIn_r _ [7] (by decide +kernel) (by decide +kernel)
set_option maxRecDepth 20000 in
theorem gX7_shade_X7_isNoPair : GoodIn wsX7_shade (va_wsS RX7 175 yX7_isNoPair wsX7_isNoPair) := goodIn_app (goodIn_of _ (by decide +kernel)) ggX7_shade_X7_isNoPair
set_option maxRecDepth 20000 in
theorem ggX7_shade_X0_copy : GoodIn wsX7_shade wsX0_copy := goodIn_r _ [12, 13, 14, 15, 16, 17, 18, 19, 20, 21, 22, 23, 24, 25, 26, 27, 28, 29, 85, 86, 87, 88, 89, 90, 91, 92, 93, 94, 95, 96, 97] (by decide +kernel) (by decide +kernel)
set_option maxRecDepth 20000 in
theorem gX7_shade_X0_copy : GoodIn wsX7_shade (wsV RX7 85 RX0 yX0_copy wsX0_copy) := goodIn_app (goodIn_of _ (by decide +kernel)) ggX7_shade_X0_copy
set_option maxRecDepth 20000 in
theorem ggX7_shade_X0_pass : GoodIn wsX7_shade wsX0_pass := goodIn_r _ [33, 23, 25, 34, 35, 36, 37, 26, 19, 38, 39, 40, 28, 85, 86, 87, 88, 89, 90, 91, 92, 93, 94, 95, 96, 97] (by decide +kernel) (by decide +kernel)
set_option maxRecDepth 20000 in
theorem gX7_shade_X0_pass : GoodIn wsX7_shade (wsV RX7 165 RX0 yX0_pass wsX0_pass) := goodIn_app (goodIn_of _ (by decide +kernel)) ggX7_shade_X0_pass
set_option maxRecDepth 20000 in
theorem ggX7_shade_X0_frankOfAll : GoodIn wsX7_shade wsX0_frankOfAll := goodIn_r _ [44, 23, 45, 46, 47, 11, 48, 49, 50, 51, 52, 27, 19, 53, 54, 36, 55, 56, 57, 58, 59, 60, 61, 62, 63, 22, 24, 64, 65, 66, 67, 68, 69, 70, 71, 72, 73, 74, 75, 18, 13, 85, 86, 87, 88, 89, 90, 91, 92, 93, 94, 95, 96, 97] (by decide +kernel) (by decide +kernel)
set_option maxRecDepth 20000 in
theorem gX7_shade_X0_frankOfAll : GoodIn wsX7_shade (wsV RX7 114 RX0 yX0_frankOfAll wsX0_frankOfAll) := goodIn_app (goodIn_of _ (by decide +kernel)) ggX7_shade_X0_frankOfAll
theorem dX7_shade_0 : decode cX7_shade 0 = .ok (.iload_n 1, 1) := by decide +kernel
theorem dX7_shade_1 : decode cX7_shade 1 = .ok (.ifCond .lt 16, 3) := by decide +kernel
theorem dX7_shade_4 : decode cX7_shade 4 = .ok (.iload_n 1, 1) := by decide +kernel
theorem dX7_shade_5 : decode cX7_shade 5 = .ok (.bipush 60, 2) := by decide +kernel
theorem dX7_shade_7 : decode cX7_shade 7 = .ok (.if_icmp .gt 10, 3) := by decide +kernel
theorem dX7_shade_10 : decode cX7_shade 10 = .ok (.iload_n 2, 1) := by decide +kernel
theorem dX7_shade_11 : decode cX7_shade 11 = .ok (.invokestatic 175, 3) := by decide +kernel
theorem dX7_shade_14 : decode cX7_shade 14 = .ok (.ifCond .eq 5, 3) := by decide +kernel
theorem dX7_shade_17 : decode cX7_shade 17 = .ok (.iconst (-1), 1) := by decide +kernel
theorem dX7_shade_18 : decode cX7_shade 18 = .ok (.ireturn, 1) := by decide +kernel
theorem dX7_shade_19 : decode cX7_shade 19 = .ok (.iconst 0, 1) := by decide +kernel
theorem dX7_shade_20 : decode cX7_shade 20 = .ok (.istore_n 3, 1) := by decide +kernel
theorem dX7_shade_21 : decode cX7_shade 21 = .ok (.iconst (-1), 1) := by decide +kernel
theorem dX7_shade_22 : decode cX7_shade 22 = .ok (.istore 4, 2) := by decide +kernel
theorem dX7_shade_24 : decode cX7_shade 24 = .ok (.iconst 0, 1) := by decide +kernel
theorem dX7_shade_25 : decode cX7_shade 25 = .ok (.istore 5, 2) := by decide +kernel
theorem dX7_shade_27 : decode cX7_shade 27 = .ok (.iload 5, 2) := by decide +kernel
theorem dX7_shade_29 : decode cX7_shade 29 = .ok (.bipush 12, 2) := by decide +kernel
theorem dX7_shade_31 : decode cX7_shade 31 = .ok (.if_icmp .ge 60, 3) := by decide +kernel
theorem dX7_shade_34 : decode cX7_shade 34 = .ok (.aload_n 0, 1) := by decide +kernel
theorem dX7_shade_35 : decode cX7_shade 35 = .ok (.getfield 16, 3) := by decide +kernel
theorem dX7_shade_38 : decode cX7_shade 38 = .ok (.aload_n 0, 1) := by decide +kernel
theorem dX7_shade_39 : decode cX7_shade 39 = .ok (.getfield 10, 3) := by decide +kernel
theorem dX7_shade_42 : decode cX7_shade 42 = .ok (.invokevirtual 85, 3) := by decide +kernel
theorem dX7_shade_45 : decode cX7_shade 45 = .ok (.aload_n 0, 1) := by decide +kernel
theorem dX7_shade_46 : decode cX7_shade 46 = .ok (.getfield 16, 3) := by decide +kernel
theorem dX7_shade_49 : decode cX7_shade 49 = .ok (.iload 5, 2) := by decide +kernel
theorem dX7_shade_51 : decode cX7_shade 51 = .ok (.putfield 102, 3) := by decide +kernel
theorem dX7_shade_54 : decode cX7_shade 54 = .ok (.aload_n 0, 1) := by decide +kernel
theorem dX7_shade_55 : decode cX7_shade 55 = .ok (.getfield 16, 3) := by decide +kernel
theorem dX7_shade_58 : decode cX7_shade 58 = .ok (.iload_n 1, 1) := by decide +kernel
theorem dX7_shade_59 : decode cX7_shade 59 = .ok (.invokevirtual 165, 3) := by decide +kernel
theorem dX7_shade_62 : decode cX7_shade 62 = .ok (.aload_n 0, 1) := by decide +kernel
theorem dX7_shade_63 : decode cX7_shade 63 = .ok (.getfield 16, 3) := by decide +kernel
theorem dX7_shade_66 : decode cX7_shade 66 = .ok (.invokevirtual 114, 3) := by decide +kernel
theorem dX7_shade_69 : decode cX7_shade 69 = .ok (.istore 6, 2) := by decide +kernel
theorem dX7_shade_71 : decode cX7_shade 71 = .ok (.iload 6, 2) := by decide +kernel
theorem dX7_shade_73 : decode cX7_shade 73 = .ok (.iload 4, 2) := by decide +kernel
theorem dX7_shade_75 : decode cX7_shade 75 = .ok (.if_icmp .le 10, 3) := by decide +kernel
theorem dX7_shade_78 : decode cX7_shade 78 = .ok (.iload 5, 2) := by decide +kernel
theorem dX7_shade_80 : decode cX7_shade 80 = .ok (.istore_n 3, 1) := by decide +kernel
theorem dX7_shade_81 : decode cX7_shade 81 = .ok (.iload 6, 2) := by decide +kernel
theorem dX7_shade_83 : decode cX7_shade 83 = .ok (.istore 4, 2) := by decide +kernel
theorem dX7_shade_85 : decode cX7_shade 85 = .ok (.iinc 5 1, 3) := by decide +kernel
theorem dX7_shade_88 : decode cX7_shade 88 = .ok (.goto (-61), 3) := by decide +kernel
theorem dX7_shade_91 : decode cX7_shade 91 = .ok (.iload_n 2, 1) := by decide +kernel
theorem dX7_shade_92 : decode cX7_shade 92 = .ok (.ifCond .ne 7, 3) := by decide +kernel
theorem dX7_shade_95 : decode cX7_shade 95 = .ok (.iload_n 3, 1) := by decide +kernel
theorem dX7_shade_96 : decode cX7_shade 96 = .ok (.goto 5, 3) := by decide +kernel
theorem dX7_shade_99 : decode cX7_shade 99 = .ok (.iload 4, 2) := by decide +kernel
theorem dX7_shade_101 : decode cX7_shade 101 = .ok (.ireturn, 1) := by decide +kernel
set_option maxRecDepth 20000 in
theorem ggX7_swap_X7_isNoPair : GoodIn wsX7_swap wsX7_isNoPair := goodIn_r _ [7] (by decide +kernel) (by decide +kernel)
set_option maxRecDepth 20000 in
theorem gX7_swap_X7_isNoPair : GoodIn wsX7_swap (va_wsS RX7 175 yX7_isNoPair wsX7_isNoPair) := goodIn_app (goodIn_of _ (by decide +kernel)) ggX7_swap_X7_isNoPair
set_option maxRecDepth 20000 in
theorem ggX7_swap_X0_copy : GoodIn wsX7_swap wsX0_copy := goodIn_r _ [12, 13, 14, 15, 16, 17, 18, 19, 20, 21, 22, 23, 24, 25, 26, 27, 28, 29, 79, 80, 81, 82, 83, 84, 85, 86, 87, 88, 89, 90, 91] (by decide +kernel) (by decide +kernel)
set_option maxRecDepth 20000 in
theorem gX7_swap_X0_copy : GoodIn wsX7_swap (wsV RX7 85 RX0 yX0_copy wsX0_copy) := goodIn_app (goodIn_of _ (by decide +kernel)) ggX7_swap_X0_copy
set_option maxRecDepth 20000 in
theorem ggX7_swap_X0_frankOfAll : GoodIn wsX7_swap wsX0_frankOfAll := goodIn_r _ [33, 23, 34, 35, 36, 11, 37, 38, 39, 40, 41, 27, 19, 42, 43, 44, 45, 46, 47, 48, 49, 50, 51, 52, 53, 22, 24, 54, 55, 56, 57, 58, 59, 60, 61, 62, 63, 64, 65, 18, 13, 79, 80, 81, 82, 83, 84, 85, 86, 87, 88, 89, 90, 91] (by decide +kernel) (by decide +kernel)
set_option maxRecDepth 20000 in
theorem gX7_swap_X0_frankOfAll : GoodIn wsX7_swap (wsV RX7 114 RX0 yX0_frankOfAll wsX0_frankOfAll) := goodIn_app (goodIn_of _ (by decide +kernel)) ggX7_swap_X0_frankOfAll
set_option maxRecDepth 20000 in
theorem ggX7_swap_X0_exchange : GoodIn wsX7_swap wsX0_exchange := goodIn_r _ [69, 13, 18, 58, 59, 60, 11, 61, 22, 79, 80, 81, 82, 83, 84, 85, 86, 87, 88, 89, 90, 91] (by decide +kernel) (by decide +kernel)
set_option maxRecDepth 20000 in
theorem gX7_swap_X0_exchange : GoodIn wsX7_swap (wsV RX7 181 RX0 yX0_exchange wsX0_exchange) := goodIn_app (goodIn_of _ (by decide +kernel)) ggX7_swap_X0_exchange
theorem dX7_swap_0 : decode cX7_swap 0 = .ok (.iload_n 1, 1) := by decide +kernel
theorem dX7_swap_1 : decode cX7_swap 1 = .ok (.invokestatic 175, 3) := by decide +kernel
theorem dX7_swap_4 : decode cX7_swap 4 = .ok (.ifCond .eq 5, 3) := by decide +kernel
theorem dX7_swap_7 : decode cX7_swap 7 = .ok (.iconst (-1), 1) := by decide +kernel
theorem dX7_swap_8 : decode cX7_swap 8 = .ok (.ireturn, 1) := by decide +kernel
theorem dX7_swap_9 : decode cX7_swap 9 = .ok (.aload_n 0, 1) := by decide +kernel
theorem dX7_swap_10 : decode cX7_swap 10 = .ok (.getfield 16, 3) := by decide +kernel
theorem dX7_swap_13 : decode cX7_swap 13 = .ok (.aload_n 0, 1) := by decide +kernel
theorem dX7_swap_14 : decode cX7_swap 14 = .ok (.getfield 10, 3) := by decide +kernel
theorem dX7_swap_17 : decode cX7_swap 17 = .ok (.invokevirtual 85, 3) := by decide +kernel
theorem dX7_swap_20 : decode cX7_swap 20 = .ok (.bipush (-4), 2) := by decide +kernel
theorem dX7_swap_22 : decode cX7_swap 22 = .ok (.istore_n 2, 1) := by decide +kernel
theorem dX7_swap_23 : decode cX7_swap 23 = .ok (.aload_n 0, 1) := by decide +kernel
theorem dX7_swap_24 : decode cX7_swap 24 = .ok (.getfield 10, 3) := by decide +kernel
theorem dX7_swap_27 : decode cX7_swap 27 = .ok (.invokevirtual 114, 3) := by decide +kernel
theorem dX7_swap_30 : decode cX7_swap 30 = .ok (.istore_n 3, 1) := by decide +kernel
theorem dX7_swap_31 : decode cX7_swap 31 = .ok (.iconst 0, 1) := by decide +kernel
theorem dX7_swap_32 : decode cX7_swap 32 = .ok (.istore 4, 2) := by decide +kernel
theorem dX7_swap_34 : decode cX7_swap 34 = .ok (.iload 4, 2) := by decide +kernel
theorem dX7_swap_36 : decode cX7_swap 36 = .ok (.aload_n 0, 1) := by decide +kernel
theorem dX7_swap_37 : decode cX7_swap 37 = .ok (.getfield 10, 3) := by decide +kernel
theorem dX7_swap_40 : decode cX7_swap 40 = .ok (.getfield 93, 3) := by decide +kernel
theorem dX7_swap_43 : decode cX7_swap 43 = .ok (.if_icmp .ge 82, 3) := by decide +kernel
theorem dX7_swap_46 : decode cX7_swap 46 = .ok (.iload 4, 2) := by decide +kernel
theorem dX7_swap_48 : decode cX7_swap 48 = .ok (.iconst 1, 1) := by decide +kernel
theorem dX7_swap_49 : decode cX7_swap 49 = .ok (.iadd, 1) := by decide +kernel
theorem dX7_swap_50 : decode cX7_swap 50 = .ok (.istore 5, 2) := by decide +kernel
theorem dX7_swap_52 : decode cX7_swap 52 = .ok (.iload 5, 2) := by decide +kernel
theorem dX7_swap_54 : decode cX7_swap 54 = .ok (.aload_n 0, 1) := by decide +kernel
theorem dX7_swap_55 : decode cX7_swap 55 = .ok (.getfield 10, 3) := by decide +kernel
theorem dX7_swap_58 : decode cX7_swap 58 = .ok (.getfield 93, 3) := by decide +kernel
theorem dX7_swap_61 : decode cX7_swap 61 = .ok (.if_icmp .ge 58, 3) := by decide +kernel
theorem dX7_swap_64 : decode cX7_swap 64 = .ok (.aload_n 0, 1) := by decide +kernel
theorem dX7_swap_65 : decode cX7_swap 65 = .ok (.getfield 16, 3) := by decide +kernel
theorem dX7_swap_68 : decode cX7_swap 68 = .ok (.iload 4, 2) := by decide +kernel
theorem dX7_swap_70 : decode cX7_swap 70 = .ok (.iload 5, 2) := by decide +kernel
theorem dX7_swap_72 : decode cX7_swap 72 = .ok (.invokevirtual 181, 3) := by decide +kernel
theorem dX7_swap_75 : decode cX7_swap 75 = .ok (.aload_n 0, 1) := by decide +kernel
theorem dX7_swap_76 : decode cX7_swap 76 = .ok (.getfield 16, 3) := by decide +kernel
theorem dX7_swap_79 : decode cX7_swap 79 = .ok (.invokevirtual 114, 3) := by decide +kernel
theorem dX7_swap_82 : decode cX7_swap 82 = .ok (.istore 6, 2) := by decide +kernel
theorem dX7_swap_84 : decode cX7_swap 84 = .ok (.iload 6, 2) := by decide +kernel
theorem dX7_swap_86 : decode cX7_swap 86 = .ok (.iload_n 3, 1) := by decide +kernel
theorem dX7_swap_87 : decode cX7_swap 87 = .ok (.if_icmp .le 15, 3) := by decide +kernel
theorem dX7_swap_90 : decode cX7_swap 90 = .ok (.bipush 10, 2) := by decide +kernel
theorem dX7_swap_92 : decode cX7_swap 92 = .ok (.iload 4, 2) := by decide +kernel
theorem dX7_swap_94 : decode cX7_swap 94 = .ok (.imul, 1) := by decide +kernel
theorem dX7_swap_95 : decode cX7_swap 95 = .ok (.iload 5, 2) := by decide +kernel
theorem dX7_swap_97 : decode cX7_swap 97 = .ok (.iadd, 1) := by decide +kernel
theorem dX7_swap_98 : decode cX7_swap 98 = .ok (.istore_n 2, 1) := by decide +kernel
theorem dX7_swap_99 : decode cX7_swap 99 = .ok (.iload 6, 2) := by decide +kernel
theorem dX7_swap_101 : decode cX7_swap 101 = .ok (.istore_n 3, 1) := by decide +kernel
theorem dX7_swap_102 : decode cX7_swap 102 = .ok (.aload_n 0, 1) := by decide +kernel
theorem dX7_swap_103 : decode cX7_swap 103 = .ok (.getfield 16, 3) := by decide +kernel
theorem dX7_swap_106 : decode cX7_swap 106 = .ok (.iload 4, 2) := by decide +kernel
theorem dX7_swap_108 : decode cX7_swap 108 = .ok (.iload 5, 2) := by decide +kernel
theorem dX7_swap_110 : decode cX7_swap 110 = .ok (.invokevirtual 181, 3) := by decide +kernel
theorem dX7_swap_113 : decode cX7_swap 113 = .ok (.iinc 5 1, 3) := by decide +kernel
theorem dX7_swap_116 : decode cX7_swap 116 = .ok (.goto (-64), 3) := by decide +kernel
theorem dX7_swap_119 : decode cX7_swap 119 = .ok (.iinc 4 1, 3) := by decide +kernel
theorem dX7_swap_122 : decode cX7_swap 122 = .ok (.goto (-88), 3) := by decide +kernel
theorem dX7_swap_125 : decode cX7_swap 125 = .ok (.iload_n 2, 1) := by decide +kernel
theorem dX7_swap_126 : decode cX7_swap 126 = .ok (.bipush (-4), 2) := by decide +kernel
theorem dX7_swap_128 : decode cX7_swap 128 = .ok (.if_icmp .eq 7, 3) := by decide +kernel
theorem dX7_swap_131 : decode cX7_swap 131 = .ok (.iload_n 1, 1) := by decide +kernel
theorem dX7_swap_132 : decode cX7_swap 132 = .ok (.ifCond .ne 7, 3) := by decide +kernel
theorem dX7_swap_135 : decode cX7_swap 135 = .ok (.iload_n 2, 1) := by decide +kernel
theorem dX7_swap_136 : decode cX7_swap 136 = .ok (.goto 4, 3) := by decide +kernel
theorem dX7_swap_139 : decode cX7_swap 139 = .ok (.iload_n 3, 1) := by decide +kernel
theorem dX7_swap_140 : decode cX7_swap 140 = .ok (.ireturn, 1) := by decide +kernel
set_option maxRecDepth 20000 in
theorem ggX7_period_X0_repeatsBy : GoodIn wsX7_period wsX0_repeatsBy := goodIn_r _ [8, 9, 10, 11, 12, 7, 13, 14, 15, 16, 17, 18, 19, 20, 21, 22, 23, 24, 25, 26, 27, 28, 29, 39, 40, 41, 42, 43, 44, 45, 46, 47, 48, 49, 50, 51] (by decide +kernel) (by decide +kernel)
set_option maxRecDepth 20000 in
theorem gX7_period_X0_repeatsBy : GoodIn wsX7_period (wsV RX7 185 RX0 yX0_repeatsBy wsX0_repeatsBy) := goodIn_app (goodIn_of _ (by decide +kernel)) ggX7_period_X0_repeatsBy
theorem dX7_period_0 : decode cX7_period 0 = .ok (.aload_n 0, 1) := by decide +kernel
theorem dX7_period_1 : decode cX7_period 1 = .ok (.getfield 10, 3) := by decide +kernel
theorem dX7_period_4 : decode cX7_period 4 = .ok (.getfield 93, 3) := by decide +kernel
theorem dX7_period_7 : decode cX7_period 7 = .ok (.ifCond .ne 6, 3) := by decide +kernel
theorem dX7_period_10 : decode cX7_period 10 = .ok (.bipush (-2), 2) := by decide +kernel
theorem dX7_period_12 : decode cX7_period 12 = .ok (.ireturn, 1) := by decide +kernel
theorem dX7_period_13 : decode cX7_period 13 = .ok (.iconst 1, 1) := by decide +kernel
theorem dX7_period_14 : decode cX7_period 14 = .ok (.istore_n 1, 1) := by decide +kernel
theorem dX7_period_15 : decode cX7_period 15 = .ok (.iload_n 1, 1) := by decide +kernel
theorem dX7_period_16 : decode cX7_period 16 = .ok (.aload_n 0, 1) := by decide +kernel
theorem dX7_period_17 : decode cX7_period 17 = .ok (.getfield 10, 3) := by decide +kernel
theorem dX7_period_20 : decode cX7_period 20 = .ok (.getfield 96, 3) := by decide +kernel
theorem dX7_period_23 : decode cX7_period 23 = .ok (.if_icmp .ge 22, 3) := by decide +kernel
theorem dX7_period_26 : decode cX7_period 26 = .ok (.aload_n 0, 1) := by decide +kernel
theorem dX7_period_27 : decode cX7_period 27 = .ok (.getfield 10, 3) := by decide +kernel
theorem dX7_period_30 : decode cX7_period 30 = .ok (.iload_n 1, 1) := by decide +kernel
theorem dX7_period_31 : decode cX7_period 31 = .ok (.invokevirtual 185, 3) := by decide +kernel
theorem dX7_period_34 : decode cX7_period 34 = .ok (.ifCond .eq 5, 3) := by decide +kernel
theorem dX7_period_37 : decode cX7_period 37 = .ok (.iload_n 1, 1) := by decide +kernel
theorem dX7_period_38 : decode cX7_period 38 = .ok (.ireturn, 1) := by decide +kernel
theorem dX7_period_39 : decode cX7_period 39 = .ok (.iinc 1 1, 3) := by decide +kernel
theorem dX7_period_42 : decode cX7_period 42 = .ok (.goto (-27), 3) := by decide +kernel
theorem dX7_period_45 : decode cX7_period 45 = .ok (.aload_n 0, 1) := by decide +kernel
theorem dX7_period_46 : decode cX7_period 46 = .ok (.getfield 10, 3) := by decide +kernel
theorem dX7_period_49 : decode cX7_period 49 = .ok (.getfield 96, 3) := by decide +kernel
theorem dX7_period_52 : decode cX7_period 52 = .ok (.ireturn, 1) := by decide +kernel
set_option maxRecDepth 20000 in
theorem ggX7_alike_X0_copy : GoodIn wsX7_alike wsX0_copy := goodIn_r _ [9, 10, 11, 12, 13, 14, 15, 16, 17, 18, 19, 20, 21, 22, 23, 24, 25, 26, 56, 57, 58, 59, 60, 61, 62, 63, 64, 65, 66, 67, 68] (by decide +kernel) (by decide +kernel)
set_option maxRecDepth 20000 in
theorem gX7_alike_X0_copy : GoodIn wsX7_alike (wsV RX7 85 RX0 yX0_copy wsX0_copy) := goodIn_app (goodIn_of _ (by decide +kernel)) ggX7_alike_X0_copy
set_option maxRecDepth 20000 in
theorem ggX7_alike_X0_looksLike : GoodIn wsX7_alike wsX0_looksLike := goodIn_r _ [30, 20, 31, 32, 33, 8, 34, 10, 15, 35, 36, 37, 38, 19, 21, 39, 40, 41, 42, 43, 44, 45, 46, 56, 57, 58, 59, 60, 61, 62, 63, 64, 65, 66, 67, 68] (by decide +kernel) (by decide +kernel)
set_option maxRecDepth 20000 in
theorem gX7_alike_X0_looksLike : GoodIn wsX7_alike (wsV RX7 188 RX0 yX0_looksLike wsX0_looksLike) := goodIn_app (goodIn_of _ (by decide +kernel)) ggX7_alike_X0_looksLike
theorem dX7_alike_0 : decode cX7_alike 0 = .ok (.aload_n 0, 1) := by decide +kernel
theorem dX7_alike_1 : decode cX7_alike 1 = .ok (.getfield 10, 3) := by decide +kernel
theorem dX7_alike_4 : decode cX7_alike 4 = .ok (.getfield 93, 3) := by decide +kernel
theorem dX7_alike_7 : decode cX7_alike 7 = .ok (.ifCond .ne 6, 3) := by decide +kernel
theorem dX7_alike_10 : decode cX7_alike 10 = .ok (.bipush (-2), 2) := by decide +kernel
theorem dX7_alike_12 : decode cX7_alike 12 = .ok (.ireturn, 1) := by decide +kernel
theorem dX7_alike_13 : decode cX7_alike 13 = .ok (.aload_n 0, 1) := by decide +kernel
theorem dX7_alike_14 : decode cX7_alike 14 = .ok (.getfield 16, 3) := by decide +kernel
theorem dX7_alike_17 : decode cX7_alike 17 = .ok (.aload_n 0, 1) := by decide +kernel
theorem dX7_alike_18 : decode cX7_alike 18 = .ok (.getfield 10, 3) := by decide +kernel
theorem dX7_alike_21 : decode cX7_alike 21 = .ok (.invokevirtual 85, 3) := by decide +kernel
theorem dX7_alike_24 : decode cX7_alike 24 = .ok (.iconst 0, 1) := by decide +kernel
theorem dX7_alike_25 : decode cX7_alike 25 = .ok (.istore_n 1, 1) := by decide +kernel
theorem dX7_alike_26 : decode cX7_alike 26 = .ok (.iconst 0, 1) := by decide +kernel
theorem dX7_alike_27 : decode cX7_alike 27 = .ok (.istore_n 2, 1) := by decide +kernel
theorem dX7_alike_28 : decode cX7_alike 28 = .ok (.iload_n 2, 1) := by decide +kernel
theorem dX7_alike_29 : decode cX7_alike 29 = .ok (.bipush 6, 2) := by decide +kernel
theorem dX7_alike_31 : decode cX7_alike 31 = .ok (.if_icmp .ge 34, 3) := by decide +kernel
theorem dX7_alike_34 : decode cX7_alike 34 = .ok (.aload_n 0, 1) := by decide +kernel
theorem dX7_alike_35 : decode cX7_alike 35 = .ok (.getfield 16, 3) := by decide +kernel
theorem dX7_alike_38 : decode cX7_alike 38 = .ok (.iload_n 2, 1) := by decide +kernel
theorem dX7_alike_39 : decode cX7_alike 39 = .ok (.putfield 99, 3) := by decide +kernel
theorem dX7_alike_42 : decode cX7_alike 42 = .ok (.aload_n 0, 1) := by decide +kernel
theorem dX7_alike_43 : decode cX7_alike 43 = .ok (.getfield 16, 3) := by decide +kernel
theorem dX7_alike_46 : decode cX7_alike 46 = .ok (.aload_n 0, 1) := by decide +kernel
theorem dX7_alike_47 : decode cX7_alike 47 = .ok (.getfield 10, 3) := by decide +kernel
theorem dX7_alike_50 : decode cX7_alike 50 = .ok (.invokevirtual 188, 3) := by decide +kernel
theorem dX7_alike_53 : decode cX7_alike 53 = .ok (.ifCond .eq 6, 3) := by decide +kernel
theorem dX7_alike_56 : decode cX7_alike 56 = .ok (.iinc 1 1, 3) := by decide +kernel
theorem dX7_alike_59 : decode cX7_alike 59 = .ok (.iinc 2 1, 3) := by decide +kernel
theorem dX7_alike_62 : decode cX7_alike 62 = .ok (.goto (-34), 3) := by decide +kernel
theorem dX7_alike_65 : decode cX7_alike 65 = .ok (.iload_n 1, 1) := by decide +kernel
theorem dX7_alike_66 : decode cX7_alike 66 = .ok (.ireturn, 1) := by decide +kernel
set_option maxRecDepth 20000 in
theorem ggX7_cover_X7_isNoPair : GoodIn wsX7_cover wsX7_isNoPair := goodIn_r _ [7] (by decide +kernel) (by decide +kernel)
set_option maxRecDepth 20000 in
theorem gX7_cover_X7_isNoPair : GoodIn wsX7_cover (va_wsS RX7 175 yX7_isNoPair wsX7_isNoPair) := goodIn_app (goodIn_of _ (by decide +kernel)) ggX7_cover_X7_isNoPair
set_option maxRecDepth 20000 in
theorem ggX7_cover_X4_reckon : GoodIn wsX7_cover wsX4_reckon := goodIn_r _ [12, 13, 14, 15, 16, 17, 18, 19, 20, 21, 22, 23, 24, 25, 26, 11, 27, 62, 63, 49, 50, 51, 52, 53, 54, 55, 56, 57, 58, 59, 60, 61] (by decide +kernel) (by decide +kernel)
set_option maxRecDepth 20000 in
theorem gX7_cover_X4_reckon : GoodIn wsX7_cover (wsV RX7 192 RX4 yX4_reckon wsX4_reckon) := goodIn_app (goodIn_of _ (by decide +kernel)) ggX7_cover_X4_reckon
set_option maxRecDepth 20000 in
theorem ggX7_cover_X4_leastPrice : GoodIn wsX7_cover wsX4_leastPrice := goodIn_r _ [31, 15, 13, 32, 33, 34, 35, 62, 63] (by decide +kernel) (by decide +kernel)
set_option maxRecDepth 20000 in
theorem gX7_cover_X4_leastPrice : GoodIn wsX7_cover (wsV RX7 196 RX4 yX4_leastPrice wsX4_leastPrice) := goodIn_app (goodIn_of _ (by decide +kernel)) ggX7_cover_X4_leastPrice
set_option maxRecDepth 20000 in
theorem ggX7_cover_X4_leastLeft : GoodIn wsX7_cover wsX4_leastLeft := goodIn_r _ [39, 13, 62, 63] (by decide +kernel) (by decide +kernel)
set_option maxRecDepth 20000 in
theorem gX7_cover_X4_leastLeft : GoodIn wsX7_cover (wsV RX7 199 RX4 yX4_leastLeft wsX4_leastLeft) := goodIn_app (goodIn_of _ (by decide +kernel)) ggX7_cover_X4_leastLeft
theorem dX7_cover_0 : decode cX7_cover 0 = .ok (.iload_n 1, 1) := by decide +kernel
theorem dX7_cover_1 : decode cX7_cover 1 = .ok (.ifCond .lt 16, 3) := by decide +kernel
theorem dX7_cover_4 : decode cX7_cover 4 = .ok (.iload_n 1, 1) := by decide +kernel
theorem dX7_cover_5 : decode cX7_cover 5 = .ok (.bipush 60, 2) := by decide +kernel
theorem dX7_cover_7 : decode cX7_cover 7 = .ok (.if_icmp .gt 10, 3) := by decide +kernel
theorem dX7_cover_10 : decode cX7_cover 10 = .ok (.iload_n 2, 1) := by decide +kernel
theorem dX7_cover_11 : decode cX7_cover 11 = .ok (.invokestatic 175, 3) := by decide +kernel
theorem dX7_cover_14 : decode cX7_cover 14 = .ok (.ifCond .eq 5, 3) := by decide +kernel
theorem dX7_cover_17 : decode cX7_cover 17 = .ok (.iconst (-1), 1) := by decide +kernel
theorem dX7_cover_18 : decode cX7_cover 18 = .ok (.ireturn, 1) := by decide +kernel
theorem dX7_cover_19 : decode cX7_cover 19 = .ok (.aload_n 0, 1) := by decide +kernel
theorem dX7_cover_20 : decode cX7_cover 20 = .ok (.getfield 10, 3) := by decide +kernel
theorem dX7_cover_23 : decode cX7_cover 23 = .ok (.getfield 117, 3) := by decide +kernel
theorem dX7_cover_26 : decode cX7_cover 26 = .ok (.ifCond .ne 10, 3) := by decide +kernel
theorem dX7_cover_29 : decode cX7_cover 29 = .ok (.iload_n 1, 1) := by decide +kernel
theorem dX7_cover_30 : decode cX7_cover 30 = .ok (.ifCond .le 6, 3) := by decide +kernel
theorem dX7_cover_33 : decode cX7_cover 33 = .ok (.bipush (-4), 2) := by decide +kernel
theorem dX7_cover_35 : decode cX7_cover 35 = .ok (.ireturn, 1) := by decide +kernel
theorem dX7_cover_36 : decode cX7_cover 36 = .ok (.aload_n 0, 1) := by decide +kernel
theorem dX7_cover_37 : decode cX7_cover 37 = .ok (.getfield 43, 3) := by decide +kernel
theorem dX7_cover_40 : decode cX7_cover 40 = .ok (.aload_n 0, 1) := by decide +kernel
theorem dX7_cover_41 : decode cX7_cover 41 = .ok (.getfield 10, 3) := by decide +kernel
theorem dX7_cover_44 : decode cX7_cover 44 = .ok (.bipush (-4), 2) := by decide +kernel
theorem dX7_cover_46 : decode cX7_cover 46 = .ok (.invokevirtual 192, 3) := by decide +kernel
theorem dX7_cover_49 : decode cX7_cover 49 = .ok (.aload_n 0, 1) := by decide +kernel
theorem dX7_cover_50 : decode cX7_cover 50 = .ok (.getfield 43, 3) := by decide +kernel
theorem dX7_cover_53 : decode cX7_cover 53 = .ok (.iload_n 1, 1) := by decide +kernel
theorem dX7_cover_54 : decode cX7_cover 54 = .ok (.invokevirtual 196, 3) := by decide +kernel
theorem dX7_cover_57 : decode cX7_cover 57 = .ok (.istore_n 3, 1) := by decide +kernel
theorem dX7_cover_58 : decode cX7_cover 58 = .ok (.iload_n 2, 1) := by decide +kernel
theorem dX7_cover_59 : decode cX7_cover 59 = .ok (.ifCond .ne 7, 3) := by decide +kernel
theorem dX7_cover_62 : decode cX7_cover 62 = .ok (.iload_n 3, 1) := by decide +kernel
theorem dX7_cover_63 : decode cX7_cover 63 = .ok (.goto 12, 3) := by decide +kernel
theorem dX7_cover_66 : decode cX7_cover 66 = .ok (.aload_n 0, 1) := by decide +kernel
theorem dX7_cover_67 : decode cX7_cover 67 = .ok (.getfield 43, 3) := by decide +kernel
theorem dX7_cover_70 : decode cX7_cover 70 = .ok (.iload_n 1, 1) := by decide +kernel
theorem dX7_cover_71 : decode cX7_cover 71 = .ok (.iload_n 3, 1) := by decide +kernel
theorem dX7_cover_72 : decode cX7_cover 72 = .ok (.invokevirtual 199, 3) := by decide +kernel
theorem dX7_cover_75 : decode cX7_cover 75 = .ok (.ireturn, 1) := by decide +kernel
set_option maxRecDepth 20000 in
theorem ggX7_most_X0_hasRoll : GoodIn wsX7_most wsX0_hasRoll := goodIn_r _ [7, 8, 48, 49, 50, 51, 52, 53, 54, 55, 56, 57, 58, 59, 60] (by decide +kernel) (by decide +kernel)
set_option maxRecDepth 20000 in
theorem gX7_most_X0_hasRoll : GoodIn wsX7_most (wsV RX7 149 RX0 yX0_hasRoll wsX0_hasRoll) := goodIn_app (goodIn_of _ (by decide +kernel)) ggX7_most_X0_hasRoll
set_option maxRecDepth 20000 in
theorem ggX7_most_X4_reckon : GoodIn wsX7_most wsX4_reckon := goodIn_r _ [13, 14, 15, 16, 17, 18, 19, 4, 5, 6, 7, 8, 20, 21, 22, 12, 23, 61, 62, 48, 49, 50, 51, 52, 53, 54, 55, 56, 57, 58, 59, 60] (by decide +kernel) (by decide +kernel)
set_option maxRecDepth 20000 in
theorem gX7_most_X4_reckon : GoodIn wsX7_most (wsV RX7 192 RX4 yX4_reckon wsX4_reckon) := goodIn_app (goodIn_of _ (by decide +kernel)) ggX7_most_X4_reckon
set_option maxRecDepth 20000 in
theorem ggX7_most_X4_leastPrice : GoodIn wsX7_most wsX4_leastPrice := goodIn_r _ [27, 16, 14, 28, 29, 30, 31, 61, 62] (by decide +kernel) (by decide +kernel)
set_option maxRecDepth 20000 in
theorem gX7_most_X4_leastPrice : GoodIn wsX7_most (wsV RX7 196 RX4 yX4_leastPrice wsX4_leastPrice) := goodIn_app (goodIn_of _ (by decide +kernel)) ggX7_most_X4_leastPrice
set_option maxRecDepth 20000 in
theorem ggX7_most_X4_mostChosen : GoodIn wsX7_most wsX4_mostChosen := goodIn_r _ [35, 14, 15, 36, 37, 30, 38, 61, 62] (by decide +kernel) (by decide +kernel)
set_option maxRecDepth 20000 in
theorem gX7_most_X4_mostChosen : GoodIn wsX7_most (wsV RX7 202 RX4 yX4_mostChosen wsX4_mostChosen) := goodIn_app (goodIn_of _ (by decide +kernel)) ggX7_most_X4_mostChosen
theorem dX7_most_0 : decode cX7_most 0 = .ok (.aload_n 0, 1) := by decide +kernel
theorem dX7_most_1 : decode cX7_most 1 = .ok (.getfield 10, 3) := by decide +kernel
theorem dX7_most_4 : decode cX7_most 4 = .ok (.iload_n 1, 1) := by decide +kernel
theorem dX7_most_5 : decode cX7_most 5 = .ok (.invokevirtual 149, 3) := by decide +kernel
theorem dX7_most_8 : decode cX7_most 8 = .ok (.ifCond .eq 13, 3) := by decide +kernel
theorem dX7_most_11 : decode cX7_most 11 = .ok (.iload_n 2, 1) := by decide +kernel
theorem dX7_most_12 : decode cX7_most 12 = .ok (.ifCond .lt 9, 3) := by decide +kernel
theorem dX7_most_15 : decode cX7_most 15 = .ok (.iload_n 2, 1) := by decide +kernel
theorem dX7_most_16 : decode cX7_most 16 = .ok (.bipush 60, 2) := by decide +kernel
theorem dX7_most_18 : decode cX7_most 18 = .ok (.if_icmp .le 5, 3) := by decide +kernel
theorem dX7_most_21 : decode cX7_most 21 = .ok (.iconst (-1), 1) := by decide +kernel
theorem dX7_most_22 : decode cX7_most 22 = .ok (.ireturn, 1) := by decide +kernel
theorem dX7_most_23 : decode cX7_most 23 = .ok (.aload_n 0, 1) := by decide +kernel
theorem dX7_most_24 : decode cX7_most 24 = .ok (.getfield 43, 3) := by decide +kernel
theorem dX7_most_27 : decode cX7_most 27 = .ok (.aload_n 0, 1) := by decide +kernel
theorem dX7_most_28 : decode cX7_most 28 = .ok (.getfield 10, 3) := by decide +kernel
theorem dX7_most_31 : decode cX7_most 31 = .ok (.iload_n 1, 1) := by decide +kernel
theorem dX7_most_32 : decode cX7_most 32 = .ok (.invokevirtual 192, 3) := by decide +kernel
theorem dX7_most_35 : decode cX7_most 35 = .ok (.aload_n 0, 1) := by decide +kernel
theorem dX7_most_36 : decode cX7_most 36 = .ok (.getfield 43, 3) := by decide +kernel
theorem dX7_most_39 : decode cX7_most 39 = .ok (.iload_n 2, 1) := by decide +kernel
theorem dX7_most_40 : decode cX7_most 40 = .ok (.aload_n 0, 1) := by decide +kernel
theorem dX7_most_41 : decode cX7_most 41 = .ok (.getfield 43, 3) := by decide +kernel
theorem dX7_most_44 : decode cX7_most 44 = .ok (.iload_n 2, 1) := by decide +kernel
theorem dX7_most_45 : decode cX7_most 45 = .ok (.invokevirtual 196, 3) := by decide +kernel
theorem dX7_most_48 : decode cX7_most 48 = .ok (.invokevirtual 202, 3) := by decide +kernel
theorem dX7_most_51 : decode cX7_most 51 = .ok (.ireturn, 1) := by decide +kernel
set_option maxRecDepth 20000 in
theorem ggX7_luck_X7_areNoLamps : GoodIn wsX7_luck wsX7_areNoLamps := goodIn_r _ [9, 3, 10, 11, 12, 13, 14, 15, 73, 74, 75, 76, 77, 78, 79, 80, 81, 84, 85, 86, 87, 88, 89, 90, 91, 92, 93, 94, 95, 96] (by decide +kernel) (by decide +kernel)
set_option maxRecDepth 20000 in
theorem gX7_luck_X7_areNoLamps : GoodIn wsX7_luck (wsV RX7 205 RX7 yX7_areNoLamps wsX7_areNoLamps) := goodIn_app (goodIn_of _ (by decide +kernel)) ggX7_luck_X7_areNoLamps
set_option maxRecDepth 20000 in
theorem ggX7_luck_X7_isNoPair : GoodIn wsX7_luck wsX7_isNoPair := goodIn_r _ [18] (by decide +kernel) (by decide +kernel)
set_option maxRecDepth 20000 in
theorem gX7_luck_X7_isNoPair : GoodIn wsX7_luck (va_wsS RX7 175 yX7_isNoPair wsX7_isNoPair) := goodIn_app (goodIn_of _ (by decide +kernel)) ggX7_luck_X7_isNoPair
set_option maxRecDepth 20000 in
theorem ggX7_luck_X2_reckon : GoodIn wsX7_luck wsX2_reckon := goodIn_r _ [23, 24, 25, 26, 27, 28, 29, 30, 31, 32, 13, 33, 34, 35, 36, 37, 38, 39, 40, 11, 12, 14, 15, 41, 42, 43, 44, 45, 46, 47, 48, 49, 50, 51, 52, 53, 54, 55, 56, 57, 58, 59, 60, 61, 62, 63, 22, 64, 65, 82, 83, 84, 85, 86, 87, 88, 89, 90, 91, 92, 93, 94, 95, 96] (by decide +kernel) (by decide +kernel)
set_option maxRecDepth 20000 in
theorem gX7_luck_X2_reckon : GoodIn wsX7_luck (wsV RX7 211 RX2 yX2_reckon wsX2_reckon) := goodIn_app (goodIn_of _ (by decide +kernel)) ggX7_luck_X2_reckon
set_option maxRecDepth 20000 in
theorem ggX7_luck_X2_oddsOf : GoodIn wsX7_luck wsX2_oddsOf := goodIn_r _ [69, 24, 82, 83] (by decide +kernel) (by decide +kernel)
set_option maxRecDepth 20000 in
theorem gX7_luck_X2_oddsOf : GoodIn wsX7_luck (wsV RX7 214 RX2 yX2_oddsOf wsX2_oddsOf) := goodIn_app (goodIn_of _ (by decide +kernel)) ggX7_luck_X2_oddsOf
set_option maxRecDepth 20000 in
theorem ggX7_luck_X7_inLowestTerms : GoodIn wsX7_luck wsX7_inLowestTerms := goodIn_r _ [72, 1] (by decide +kernel) (by decide +kernel)
set_option maxRecDepth 20000 in
theorem gX7_luck_X7_inLowestTerms : GoodIn wsX7_luck (va_wsS RX7 222 yX7_inLowestTerms wsX7_inLowestTerms) := goodIn_app (goodIn_of _ (by decide +kernel)) ggX7_luck_X7_inLowestTerms
theorem dX7_luck_0 : decode cX7_luck 0 = .ok (.aload_n 0, 1) := by decide +kernel
theorem dX7_luck_1 : decode cX7_luck 1 = .ok (.iload_n 1, 1) := by decide +kernel
theorem dX7_luck_2 : decode cX7_luck 2 = .ok (.iload_n 2, 1) := by decide +kernel
theorem dX7_luck_3 : decode cX7_luck 3 = .ok (.iload_n 3, 1) := by decide +kernel
theorem dX7_luck_4 : decode cX7_luck 4 = .ok (.invokevirtual 205, 3) := by decide +kernel
theorem dX7_luck_7 : decode cX7_luck 7 = .ok (.ifCond .ne 24, 3) := by decide +kernel
theorem dX7_luck_10 : decode cX7_luck 10 = .ok (.iload 4, 2) := by decide +kernel
theorem dX7_luck_12 : decode cX7_luck 12 = .ok (.ifCond .lt 19, 3) := by decide +kernel
theorem dX7_luck_15 : decode cX7_luck 15 = .ok (.iload 4, 2) := by decide +kernel
theorem dX7_luck_17 : decode cX7_luck 17 = .ok (.sipush 999, 3) := by decide +kernel
theorem dX7_luck_20 : decode cX7_luck 20 = .ok (.if_icmp .gt 11, 3) := by decide +kernel
theorem dX7_luck_23 : decode cX7_luck 23 = .ok (.iload 5, 2) := by decide +kernel
theorem dX7_luck_25 : decode cX7_luck 25 = .ok (.invokestatic 175, 3) := by decide +kernel
theorem dX7_luck_28 : decode cX7_luck 28 = .ok (.ifCond .eq 7, 3) := by decide +kernel
theorem dX7_luck_31 : decode cX7_luck 31 = .ok (.ldc2_w 209, 3) := by decide +kernel
theorem dX7_luck_34 : decode cX7_luck 34 = .ok (.lreturn, 1) := by decide +kernel
theorem dX7_luck_35 : decode cX7_luck 35 = .ok (.aload_n 0, 1) := by decide +kernel
theorem dX7_luck_36 : decode cX7_luck 36 = .ok (.getfield 50, 3) := by decide +kernel
theorem dX7_luck_39 : decode cX7_luck 39 = .ok (.aload_n 0, 1) := by decide +kernel
theorem dX7_luck_40 : decode cX7_luck 40 = .ok (.getfield 10, 3) := by decide +kernel
theorem dX7_luck_43 : decode cX7_luck 43 = .ok (.iload_n 1, 1) := by decide +kernel
theorem dX7_luck_44 : decode cX7_luck 44 = .ok (.iload_n 2, 1) := by decide +kernel
theorem dX7_luck_45 : decode cX7_luck 45 = .ok (.iload_n 3, 1) := by decide +kernel
theorem dX7_luck_46 : decode cX7_luck 46 = .ok (.invokevirtual 211, 3) := by decide +kernel
theorem dX7_luck_49 : decode cX7_luck 49 = .ok (.aload_n 0, 1) := by decide +kernel
theorem dX7_luck_50 : decode cX7_luck 50 = .ok (.getfield 50, 3) := by decide +kernel
theorem dX7_luck_53 : decode cX7_luck 53 = .ok (.iload 4, 2) := by decide +kernel
theorem dX7_luck_55 : decode cX7_luck 55 = .ok (.invokevirtual 214, 3) := by decide +kernel
theorem dX7_luck_58 : decode cX7_luck 58 = .ok (.aload_n 0, 1) := by decide +kernel
theorem dX7_luck_59 : decode cX7_luck 59 = .ok (.getfield 50, 3) := by decide +kernel
theorem dX7_luck_62 : decode cX7_luck 62 = .ok (.getfield 218, 3) := by decide +kernel
theorem dX7_luck_65 : decode cX7_luck 65 = .ok (.iload 5, 2) := by decide +kernel
theorem dX7_luck_67 : decode cX7_luck 67 = .ok (.invokestatic 222, 3) := by decide +kernel
theorem dX7_luck_70 : decode cX7_luck 70 = .ok (.lreturn, 1) := by decide +kernel
set_option maxRecDepth 20000 in
theorem ggX7_mean_X7_areNoLamps : GoodIn wsX7_mean wsX7_areNoLamps := goodIn_r _ [8, 2, 9, 10, 11, 12, 13, 14, 56, 57, 58, 59, 60, 61, 62, 63, 64, 65, 66, 67, 68, 69, 70, 71, 72, 73, 74, 75, 76, 77] (by decide +kernel) (by decide +kernel)
set_option maxRecDepth 20000 in
theorem gX7_mean_X7_areNoLamps : GoodIn wsX7_mean (wsV RX7 205 RX7 yX7_areNoLamps wsX7_areNoLamps) := goodIn_app (goodIn_of _ (by decide +kernel)) ggX7_mean_X7_areNoLamps
set_option maxRecDepth 20000 in
theorem ggX7_mean_X7_isNoPair : GoodIn wsX7_mean wsX7_isNoPair := goodIn_r _ [17] (by decide +kernel) (by decide +kernel)
set_option maxRecDepth 20000 in
theorem gX7_mean_X7_isNoPair : GoodIn wsX7_mean (va_wsS RX7 175 yX7_isNoPair wsX7_isNoPair) := goodIn_app (goodIn_of _ (by decide +kernel)) ggX7_mean_X7_isNoPair
set_option maxRecDepth 20000 in
theorem ggX7_mean_X0_frankFrom : GoodIn wsX7_mean wsX0_frankFrom := goodIn_r _ [21, 22, 23, 24, 12, 25, 26, 27, 28, 29, 30, 31, 32, 10, 11, 13, 14, 33, 34, 35, 36, 37, 38, 39, 40, 41, 42, 43, 44, 45, 46, 47, 48, 49, 50, 51, 52, 65, 66, 67, 68, 69, 70, 71, 72, 73, 74, 75, 76, 77] (by decide +kernel) (by decide +kernel)
set_option maxRecDepth 20000 in
theorem gX7_mean_X0_frankFrom : GoodIn wsX7_mean (wsV RX7 178 RX0 yX0_frankFrom wsX0_frankFrom) := goodIn_app (goodIn_of _ (by decide +kernel)) ggX7_mean_X0_frankFrom
set_option maxRecDepth 20000 in
theorem ggX7_mean_X7_inLowestTerms : GoodIn wsX7_mean wsX7_inLowestTerms := goodIn_r _ [55, 1] (by decide +kernel) (by decide +kernel)
set_option maxRecDepth 20000 in
theorem gX7_mean_X7_inLowestTerms : GoodIn wsX7_mean (va_wsS RX7 222 yX7_inLowestTerms wsX7_inLowestTerms) := goodIn_app (goodIn_of _ (by decide +kernel)) ggX7_mean_X7_inLowestTerms
theorem dX7_mean_0 : decode cX7_mean 0 = .ok (.aload_n 0, 1) := by decide +kernel
theorem dX7_mean_1 : decode cX7_mean 1 = .ok (.iload_n 1, 1) := by decide +kernel
theorem dX7_mean_2 : decode cX7_mean 2 = .ok (.iload_n 2, 1) := by decide +kernel
theorem dX7_mean_3 : decode cX7_mean 3 = .ok (.iload_n 3, 1) := by decide +kernel
theorem dX7_mean_4 : decode cX7_mean 4 = .ok (.invokevirtual 205, 3) := by decide +kernel
theorem dX7_mean_7 : decode cX7_mean 7 = .ok (.ifCond .ne 11, 3) := by decide +kernel
theorem dX7_mean_10 : decode cX7_mean 10 = .ok (.iload 4, 2) := by decide +kernel
theorem dX7_mean_12 : decode cX7_mean 12 = .ok (.invokestatic 175, 3) := by decide +kernel
theorem dX7_mean_15 : decode cX7_mean 15 = .ok (.ifCond .eq 7, 3) := by decide +kernel
theorem dX7_mean_18 : decode cX7_mean 18 = .ok (.ldc2_w 209, 3) := by decide +kernel
theorem dX7_mean_21 : decode cX7_mean 21 = .ok (.lreturn, 1) := by decide +kernel
theorem dX7_mean_22 : decode cX7_mean 22 = .ok (.bipush 10, 2) := by decide +kernel
theorem dX7_mean_24 : decode cX7_mean 24 = .ok (.iload_n 1, 1) := by decide +kernel
theorem dX7_mean_25 : decode cX7_mean 25 = .ok (.isub, 1) := by decide +kernel
theorem dX7_mean_26 : decode cX7_mean 26 = .ok (.i2l, 1) := by decide +kernel
theorem dX7_mean_27 : decode cX7_mean 27 = .ok (.lstore 5, 2) := by decide +kernel
theorem dX7_mean_29 : decode cX7_mean 29 = .ok (.lload 5, 2) := by decide +kernel
theorem dX7_mean_31 : decode cX7_mean 31 = .ok (.aload_n 0, 1) := by decide +kernel
theorem dX7_mean_32 : decode cX7_mean 32 = .ok (.getfield 10, 3) := by decide +kernel
theorem dX7_mean_35 : decode cX7_mean 35 = .ok (.iload_n 2, 1) := by decide +kernel
theorem dX7_mean_36 : decode cX7_mean 36 = .ok (.iload_n 3, 1) := by decide +kernel
theorem dX7_mean_37 : decode cX7_mean 37 = .ok (.iload_n 2, 1) := by decide +kernel
theorem dX7_mean_38 : decode cX7_mean 38 = .ok (.isub, 1) := by decide +kernel
theorem dX7_mean_39 : decode cX7_mean 39 = .ok (.iconst 1, 1) := by decide +kernel
theorem dX7_mean_40 : decode cX7_mean 40 = .ok (.iadd, 1) := by decide +kernel
theorem dX7_mean_41 : decode cX7_mean 41 = .ok (.invokevirtual 178, 3) := by decide +kernel
theorem dX7_mean_44 : decode cX7_mean 44 = .ok (.i2l, 1) := by decide +kernel
theorem dX7_mean_45 : decode cX7_mean 45 = .ok (.lmul, 1) := by decide +kernel
theorem dX7_mean_46 : decode cX7_mean 46 = .ok (.ldc2_w 226, 3) := by decide +kernel
theorem dX7_mean_49 : decode cX7_mean 49 = .ok (.iload 4, 2) := by decide +kernel
theorem dX7_mean_51 : decode cX7_mean 51 = .ok (.invokestatic 222, 3) := by decide +kernel
theorem dX7_mean_54 : decode cX7_mean 54 = .ok (.lreturn, 1) := by decide +kernel
set_option maxRecDepth 20000 in
theorem ggX7_see_X3_add : GoodIn wsX7_see wsX3_add := goodIn_r _ [7, 8, 9, 10, 20, 21, 22] (by decide +kernel) (by decide +kernel)
set_option maxRecDepth 20000 in
theorem gX7_see_X3_add : GoodIn wsX7_see (wsV RX7 228 RX3 yX3_add wsX3_add) := goodIn_app (goodIn_of _ (by decide +kernel)) ggX7_see_X3_add
theorem dX7_see_0 : decode cX7_see 0 = .ok (.iload_n 1, 1) := by decide +kernel
theorem dX7_see_1 : decode cX7_see 1 = .ok (.ifCond .lt 19, 3) := by decide +kernel
theorem dX7_see_4 : decode cX7_see 4 = .ok (.iload_n 1, 1) := by decide +kernel
theorem dX7_see_5 : decode cX7_see 5 = .ok (.bipush 12, 2) := by decide +kernel
theorem dX7_see_7 : decode cX7_see 7 = .ok (.if_icmp .ge 13, 3) := by decide +kernel
theorem dX7_see_10 : decode cX7_see 10 = .ok (.iload_n 2, 1) := by decide +kernel
theorem dX7_see_11 : decode cX7_see 11 = .ok (.ifCond .lt 9, 3) := by decide +kernel
theorem dX7_see_14 : decode cX7_see 14 = .ok (.iload_n 2, 1) := by decide +kernel
theorem dX7_see_15 : decode cX7_see 15 = .ok (.bipush 99, 2) := by decide +kernel
theorem dX7_see_17 : decode cX7_see 17 = .ok (.if_icmp .le 5, 3) := by decide +kernel
theorem dX7_see_20 : decode cX7_see 20 = .ok (.iconst (-1), 1) := by decide +kernel
theorem dX7_see_21 : decode cX7_see 21 = .ok (.ireturn, 1) := by decide +kernel
theorem dX7_see_22 : decode cX7_see 22 = .ok (.aload_n 0, 1) := by decide +kernel
theorem dX7_see_23 : decode cX7_see 23 = .ok (.getfield 36, 3) := by decide +kernel
theorem dX7_see_26 : decode cX7_see 26 = .ok (.iload_n 1, 1) := by decide +kernel
theorem dX7_see_27 : decode cX7_see 27 = .ok (.iload_n 2, 1) := by decide +kernel
theorem dX7_see_28 : decode cX7_see 28 = .ok (.invokevirtual 228, 3) := by decide +kernel
theorem dX7_see_31 : decode cX7_see 31 = .ok (.ifCond .eq 13, 3) := by decide +kernel
theorem dX7_see_34 : decode cX7_see 34 = .ok (.aload_n 0, 1) := by decide +kernel
theorem dX7_see_35 : decode cX7_see 35 = .ok (.getfield 36, 3) := by decide +kernel
theorem dX7_see_38 : decode cX7_see 38 = .ok (.getfield 89, 3) := by decide +kernel
theorem dX7_see_41 : decode cX7_see 41 = .ok (.goto 5, 3) := by decide +kernel
theorem dX7_see_44 : decode cX7_see 44 = .ok (.bipush (-3), 2) := by decide +kernel
theorem dX7_see_46 : decode cX7_see 46 = .ok (.ireturn, 1) := by decide +kernel
theorem dX7_forget_0 : decode cX7_forget 0 = .ok (.iload_n 1, 1) := by decide +kernel
theorem dX7_forget_1 : decode cX7_forget 1 = .ok (.ifCond .lt 14, 3) := by decide +kernel
theorem dX7_forget_4 : decode cX7_forget 4 = .ok (.iload_n 1, 1) := by decide +kernel
theorem dX7_forget_5 : decode cX7_forget 5 = .ok (.aload_n 0, 1) := by decide +kernel
theorem dX7_forget_6 : decode cX7_forget 6 = .ok (.getfield 36, 3) := by decide +kernel
theorem dX7_forget_9 : decode cX7_forget 9 = .ok (.getfield 89, 3) := by decide +kernel
theorem dX7_forget_12 : decode cX7_forget 12 = .ok (.if_icmp .le 5, 3) := by decide +kernel
theorem dX7_forget_15 : decode cX7_forget 15 = .ok (.iconst (-1), 1) := by decide +kernel
theorem dX7_forget_16 : decode cX7_forget 16 = .ok (.ireturn, 1) := by decide +kernel
theorem dX7_forget_17 : decode cX7_forget 17 = .ok (.aload_n 0, 1) := by decide +kernel
theorem dX7_forget_18 : decode cX7_forget 18 = .ok (.getfield 36, 3) := by decide +kernel
theorem dX7_forget_21 : decode cX7_forget 21 = .ok (.getfield 89, 3) := by decide +kernel
theorem dX7_forget_24 : decode cX7_forget 24 = .ok (.istore_n 2, 1) := by decide +kernel
theorem dX7_forget_25 : decode cX7_forget 25 = .ok (.aload_n 0, 1) := by decide +kernel
theorem dX7_forget_26 : decode cX7_forget 26 = .ok (.getfield 36, 3) := by decide +kernel
theorem dX7_forget_29 : decode cX7_forget 29 = .ok (.iload_n 1, 1) := by decide +kernel
theorem dX7_forget_30 : decode cX7_forget 30 = .ok (.putfield 89, 3) := by decide +kernel
theorem dX7_forget_33 : decode cX7_forget 33 = .ok (.iload_n 2, 1) := by decide +kernel
theorem dX7_forget_34 : decode cX7_forget 34 = .ok (.ireturn, 1) := by decide +kernel
set_option maxRecDepth 20000 in
theorem ggX7_kinds_X0_hasBlock : GoodIn wsX7_kinds wsX0_hasBlock := goodIn_r _ [9, 10, 74, 75, 76, 77, 78, 79, 80, 81, 82, 83, 84, 85, 86] (by decide +kernel) (by decide +kernel)
set_option maxRecDepth 20000 in
theorem gX7_kinds_X0_hasBlock : GoodIn wsX7_kinds (wsV RX7 120 RX0 yX0_hasBlock wsX0_hasBlock) := goodIn_app (goodIn_of _ (by decide +kernel)) ggX7_kinds_X0_hasBlock
set_option maxRecDepth 20000 in
theorem ggX7_kinds_X0_copy : GoodIn wsX7_kinds wsX0_copy := goodIn_r _ [14, 15, 16, 17, 18, 19, 20, 21, 22, 23, 10, 24, 25, 26, 27, 28, 29, 30, 74, 75, 76, 77, 78, 79, 80, 81, 82, 83, 84, 85, 86] (by decide +kernel) (by decide +kernel)
set_option maxRecDepth 20000 in
theorem gX7_kinds_X0_copy : GoodIn wsX7_kinds (wsV RX7 85 RX0 yX0_copy wsX0_copy) := goodIn_app (goodIn_of _ (by decide +kernel)) ggX7_kinds_X0_copy
set_option maxRecDepth 20000 in
theorem ggX7_kinds_X3_fits : GoodIn wsX7_kinds wsX3_fits := goodIn_r _ [35, 36, 37, 38, 39, 40, 41, 8, 42, 24, 43, 44, 45, 46, 28, 21, 47, 48, 49, 50, 51, 52, 53, 54, 55, 10, 25, 56, 57, 58, 59, 60, 6, 7, 9, 61, 62, 63, 64, 20, 15, 87, 88, 89, 74, 75, 76, 77, 78, 79, 80, 81, 82, 83, 84, 85, 86] (by decide +kernel) (by decide +kernel)
set_option maxRecDepth 20000 in
theorem gX7_kinds_X3_fits : GoodIn wsX7_kinds (wsV RX7 232 RX3 yX3_fits wsX3_fits) := goodIn_app (goodIn_of _ (by decide +kernel)) ggX7_kinds_X3_fits
theorem dX7_kinds_0 : decode cX7_kinds 0 = .ok (.aload_n 0, 1) := by decide +kernel
theorem dX7_kinds_1 : decode cX7_kinds 1 = .ok (.getfield 10, 3) := by decide +kernel
theorem dX7_kinds_4 : decode cX7_kinds 4 = .ok (.iload_n 1, 1) := by decide +kernel
theorem dX7_kinds_5 : decode cX7_kinds 5 = .ok (.invokevirtual 120, 3) := by decide +kernel
theorem dX7_kinds_8 : decode cX7_kinds 8 = .ok (.ifCond .ne 5, 3) := by decide +kernel
theorem dX7_kinds_11 : decode cX7_kinds 11 = .ok (.iconst (-1), 1) := by decide +kernel
theorem dX7_kinds_12 : decode cX7_kinds 12 = .ok (.ireturn, 1) := by decide +kernel
theorem dX7_kinds_13 : decode cX7_kinds 13 = .ok (.aload_n 0, 1) := by decide +kernel
theorem dX7_kinds_14 : decode cX7_kinds 14 = .ok (.getfield 16, 3) := by decide +kernel
theorem dX7_kinds_17 : decode cX7_kinds 17 = .ok (.aload_n 0, 1) := by decide +kernel
theorem dX7_kinds_18 : decode cX7_kinds 18 = .ok (.getfield 10, 3) := by decide +kernel
theorem dX7_kinds_21 : decode cX7_kinds 21 = .ok (.invokevirtual 85, 3) := by decide +kernel
theorem dX7_kinds_24 : decode cX7_kinds 24 = .ok (.iconst 0, 1) := by decide +kernel
theorem dX7_kinds_25 : decode cX7_kinds 25 = .ok (.istore_n 2, 1) := by decide +kernel
theorem dX7_kinds_26 : decode cX7_kinds 26 = .ok (.iconst 0, 1) := by decide +kernel
theorem dX7_kinds_27 : decode cX7_kinds 27 = .ok (.istore_n 3, 1) := by decide +kernel
theorem dX7_kinds_28 : decode cX7_kinds 28 = .ok (.iload_n 3, 1) := by decide +kernel
theorem dX7_kinds_29 : decode cX7_kinds 29 = .ok (.iconst 4, 1) := by decide +kernel
theorem dX7_kinds_30 : decode cX7_kinds 30 = .ok (.if_icmp .ge 39, 3) := by decide +kernel
theorem dX7_kinds_33 : decode cX7_kinds 33 = .ok (.aload_n 0, 1) := by decide +kernel
theorem dX7_kinds_34 : decode cX7_kinds 34 = .ok (.getfield 16, 3) := by decide +kernel
theorem dX7_kinds_37 : decode cX7_kinds 37 = .ok (.getfield 123, 3) := by decide +kernel
theorem dX7_kinds_40 : decode cX7_kinds 40 = .ok (.iload_n 1, 1) := by decide +kernel
theorem dX7_kinds_41 : decode cX7_kinds 41 = .ok (.iload_n 3, 1) := by decide +kernel
theorem dX7_kinds_42 : decode cX7_kinds 42 = .ok (.iastore, 1) := by decide +kernel
theorem dX7_kinds_43 : decode cX7_kinds 43 = .ok (.aload_n 0, 1) := by decide +kernel
theorem dX7_kinds_44 : decode cX7_kinds 44 = .ok (.getfield 36, 3) := by decide +kernel
theorem dX7_kinds_47 : decode cX7_kinds 47 = .ok (.aload_n 0, 1) := by decide +kernel
theorem dX7_kinds_48 : decode cX7_kinds 48 = .ok (.getfield 16, 3) := by decide +kernel
theorem dX7_kinds_51 : decode cX7_kinds 51 = .ok (.invokevirtual 232, 3) := by decide +kernel
theorem dX7_kinds_54 : decode cX7_kinds 54 = .ok (.ifCond .eq 9, 3) := by decide +kernel
theorem dX7_kinds_57 : decode cX7_kinds 57 = .ok (.iload_n 2, 1) := by decide +kernel
theorem dX7_kinds_58 : decode cX7_kinds 58 = .ok (.iconst 1, 1) := by decide +kernel
theorem dX7_kinds_59 : decode cX7_kinds 59 = .ok (.iload_n 3, 1) := by decide +kernel
theorem dX7_kinds_60 : decode cX7_kinds 60 = .ok (.ishl, 1) := by decide +kernel
theorem dX7_kinds_61 : decode cX7_kinds 61 = .ok (.ior, 1) := by decide +kernel
theorem dX7_kinds_62 : decode cX7_kinds 62 = .ok (.istore_n 2, 1) := by decide +kernel
theorem dX7_kinds_63 : decode cX7_kinds 63 = .ok (.iinc 3 1, 3) := by decide +kernel
theorem dX7_kinds_66 : decode cX7_kinds 66 = .ok (.goto (-38), 3) := by decide +kernel
theorem dX7_kinds_69 : decode cX7_kinds 69 = .ok (.iload_n 2, 1) := by decide +kernel
theorem dX7_kinds_70 : decode cX7_kinds 70 = .ok (.ireturn, 1) := by decide +kernel
set_option maxRecDepth 20000 in
theorem ggX7_warmths_X0_hasBlock : GoodIn wsX7_warmths wsX0_hasBlock := goodIn_r _ [9, 10, 74, 75, 76, 77, 78, 79, 80, 81, 82, 83, 84, 85, 86] (by decide +kernel) (by decide +kernel)
set_option maxRecDepth 20000 in
theorem gX7_warmths_X0_hasBlock : GoodIn wsX7_warmths (wsV RX7 120 RX0 yX0_hasBlock wsX0_hasBlock) := goodIn_app (goodIn_of _ (by decide +kernel)) ggX7_warmths_X0_hasBlock
set_option maxRecDepth 20000 in
theorem ggX7_warmths_X0_copy : GoodIn wsX7_warmths wsX0_copy := goodIn_r _ [14, 15, 16, 17, 18, 19, 20, 21, 22, 23, 10, 24, 25, 26, 27, 28, 29, 30, 74, 75, 76, 77, 78, 79, 80, 81, 82, 83, 84, 85, 86] (by decide +kernel) (by decide +kernel)
set_option maxRecDepth 20000 in
theorem gX7_warmths_X0_copy : GoodIn wsX7_warmths (wsV RX7 85 RX0 yX0_copy wsX0_copy) := goodIn_app (goodIn_of _ (by decide +kernel)) ggX7_warmths_X0_copy
set_option maxRecDepth 20000 in
theorem ggX7_warmths_X3_fits : GoodIn wsX7_warmths wsX3_fits := goodIn_r _ [35, 36, 37, 38, 39, 40, 41, 8, 42, 24, 43, 44, 45, 46, 28, 21, 47, 48, 49, 50, 51, 52, 53, 54, 55, 10, 25, 56, 57, 58, 59, 60, 6, 7, 9, 61, 62, 63, 64, 20, 15, 87, 88, 89, 74, 75, 76, 77, 78, 79, 80, 81, 82, 83, 84, 85, 86] (by decide +kernel) (by decide +kernel)
set_option maxRecDepth 20000 in
theorem gX7_warmths_X3_fits : GoodIn wsX7_warmths (wsV RX7 232 RX3 yX3_fits wsX3_fits) := goodIn_app (goodIn_of _ (by decide +kernel)) ggX7_warmths_X3_fits
theorem dX7_warmths_0 : decode cX7_warmths 0 = .ok (.aload_n 0, 1) := by decide +kernel
theorem dX7_warmths_1 : decode cX7_warmths 1 = .ok (.getfield 10, 3) := by decide +kernel
theorem dX7_warmths_4 : decode cX7_warmths 4 = .ok (.iload_n 1, 1) := by decide +kernel
theorem dX7_warmths_5 : decode cX7_warmths 5 = .ok (.invokevirtual 120, 3) := by decide +kernel
theorem dX7_warmths_8 : decode cX7_warmths 8 = .ok (.ifCond .ne 5, 3) := by decide +kernel
theorem dX7_warmths_11 : decode cX7_warmths 11 = .ok (.iconst (-1), 1) := by decide +kernel
theorem dX7_warmths_12 : decode cX7_warmths 12 = .ok (.ireturn, 1) := by decide +kernel
theorem dX7_warmths_13 : decode cX7_warmths 13 = .ok (.aload_n 0, 1) := by decide +kernel
theorem dX7_warmths_14 : decode cX7_warmths 14 = .ok (.getfield 16, 3) := by decide +kernel
theorem dX7_warmths_17 : decode cX7_warmths 17 = .ok (.aload_n 0, 1) := by decide +kernel
theorem dX7_warmths_18 : decode cX7_warmths 18 = .ok (.getfield 10, 3) := by decide +kernel
theorem dX7_warmths_21 : decode cX7_warmths 21 = .ok (.invokevirtual 85, 3) := by decide +kernel
theorem dX7_warmths_24 : decode cX7_warmths 24 = .ok (.iconst 0, 1) := by decide +kernel
theorem dX7_warmths_25 : decode cX7_warmths 25 = .ok (.istore_n 2, 1) := by decide +kernel
theorem dX7_warmths_26 : decode cX7_warmths 26 = .ok (.iconst 0, 1) := by decide +kernel
theorem dX7_warmths_27 : decode cX7_warmths 27 = .ok (.istore_n 3, 1) := by decide +kernel
theorem dX7_warmths_28 : decode cX7_warmths 28 = .ok (.iload_n 3, 1) := by decide +kernel
theorem dX7_warmths_29 : decode cX7_warmths 29 = .ok (.bipush 10, 2) := by decide +kernel
theorem dX7_warmths_31 : decode cX7_warmths 31 = .ok (.if_icmp .ge 39, 3) := by decide +kernel
theorem dX7_warmths_34 : decode cX7_warmths 34 = .ok (.aload_n 0, 1) := by decide +kernel
theorem dX7_warmths_35 : decode cX7_warmths 35 = .ok (.getfield 16, 3) := by decide +kernel
theorem dX7_warmths_38 : decode cX7_warmths 38 = .ok (.getfield 127, 3) := by decide +kernel
theorem dX7_warmths_41 : decode cX7_warmths 41 = .ok (.iload_n 1, 1) := by decide +kernel
theorem dX7_warmths_42 : decode cX7_warmths 42 = .ok (.iload_n 3, 1) := by decide +kernel
theorem dX7_warmths_43 : decode cX7_warmths 43 = .ok (.iastore, 1) := by decide +kernel
theorem dX7_warmths_44 : decode cX7_warmths 44 = .ok (.aload_n 0, 1) := by decide +kernel
theorem dX7_warmths_45 : decode cX7_warmths 45 = .ok (.getfield 36, 3) := by decide +kernel
theorem dX7_warmths_48 : decode cX7_warmths 48 = .ok (.aload_n 0, 1) := by decide +kernel
theorem dX7_warmths_49 : decode cX7_warmths 49 = .ok (.getfield 16, 3) := by decide +kernel
theorem dX7_warmths_52 : decode cX7_warmths 52 = .ok (.invokevirtual 232, 3) := by decide +kernel
theorem dX7_warmths_55 : decode cX7_warmths 55 = .ok (.ifCond .eq 9, 3) := by decide +kernel
theorem dX7_warmths_58 : decode cX7_warmths 58 = .ok (.iload_n 2, 1) := by decide +kernel
theorem dX7_warmths_59 : decode cX7_warmths 59 = .ok (.iconst 1, 1) := by decide +kernel
theorem dX7_warmths_60 : decode cX7_warmths 60 = .ok (.iload_n 3, 1) := by decide +kernel
theorem dX7_warmths_61 : decode cX7_warmths 61 = .ok (.ishl, 1) := by decide +kernel
theorem dX7_warmths_62 : decode cX7_warmths 62 = .ok (.ior, 1) := by decide +kernel
theorem dX7_warmths_63 : decode cX7_warmths 63 = .ok (.istore_n 2, 1) := by decide +kernel
theorem dX7_warmths_64 : decode cX7_warmths 64 = .ok (.iinc 3 1, 3) := by decide +kernel
theorem dX7_warmths_67 : decode cX7_warmths 67 = .ok (.goto (-39), 3) := by decide +kernel
theorem dX7_warmths_70 : decode cX7_warmths 70 = .ok (.iload_n 2, 1) := by decide +kernel
theorem dX7_warmths_71 : decode cX7_warmths 71 = .ok (.ireturn, 1) := by decide +kernel
set_option maxRecDepth 20000 in
theorem ggX7_shifts_X7_fittingShifts : GoodIn wsX7_shifts wsX7_fittingShifts := goodIn_r _ [5, 6, 7, 8, 9, 10, 11, 12, 13, 14, 15, 16, 17, 18, 19, 20, 21, 22, 23, 24, 25, 26, 27, 28, 29, 30, 31, 32, 33, 34, 35, 36, 37, 38, 39, 40, 41, 42, 43, 44, 45, 46, 47, 48, 49, 50, 51, 52, 53, 54, 55, 56, 57, 58, 59, 60, 61, 62, 63, 64, 65, 66, 67, 68, 69, 70, 71, 72, 73, 74, 75, 76, 77, 78, 79, 80, 81, 82, 83, 84, 85, 86, 87, 88, 89, 90, 91, 92, 93] (by decide +kernel) (by decide +kernel)
set_option maxRecDepth 20000 in
theorem gX7_shifts_X7_fittingShifts : GoodIn wsX7_shifts (wsV RX7 235 RX7 yX7_fittingShifts wsX7_fittingShifts) := goodIn_app (goodIn_of _ (by decide +kernel)) ggX7_shifts_X7_fittingShifts
theorem dX7_shifts_0 : decode cX7_shifts 0 = .ok (.aload_n 0, 1) := by decide +kernel
theorem dX7_shifts_1 : decode cX7_shifts 1 = .ok (.invokevirtual 235, 3) := by decide +kernel
theorem dX7_shifts_4 : decode cX7_shifts 4 = .ok (.ireturn, 1) := by decide +kernel
set_option maxRecDepth 20000 in
theorem ggX7_ask_X7_isNoPair : GoodIn wsX7_ask wsX7_isNoPair := goodIn_r _ [6] (by decide +kernel) (by decide +kernel)
set_option maxRecDepth 20000 in
theorem gX7_ask_X7_isNoPair : GoodIn wsX7_ask (va_wsS RX7 175 yX7_isNoPair wsX7_isNoPair) := goodIn_app (goodIn_of _ (by decide +kernel)) ggX7_ask_X7_isNoPair
set_option maxRecDepth 20000 in
theorem ggX7_ask_X7_fittingShifts : GoodIn wsX7_ask wsX7_fittingShifts := goodIn_r _ [10, 11, 1, 12, 13, 14, 15, 16, 17, 18, 19, 20, 21, 22, 23, 24, 25, 26, 27, 28, 29, 30, 31, 32, 33, 34, 35, 36, 37, 38, 39, 40, 41, 42, 43, 44, 45, 46, 47, 48, 49, 50, 51, 52, 53, 54, 55, 56, 57, 58, 59, 60, 61, 62, 63, 64, 65, 66, 67, 68, 69, 70, 71, 72, 90, 91, 92, 93, 94, 95, 96, 97, 98, 99, 100, 101, 102, 103, 104, 105, 106, 107, 108, 109, 110, 111, 112, 113, 114] (by decide +kernel) (by decide +kernel)
set_option maxRecDepth 20000 in
theorem gX7_ask_X7_fittingShifts : GoodIn wsX7_ask (wsV RX7 235 RX7 yX7_fittingShifts wsX7_fittingShifts) := goodIn_app (goodIn_of _ (by decide +kernel)) ggX7_ask_X7_fittingShifts
set_option maxRecDepth 20000 in
theorem ggX7_ask_J6_bitCount_0f7a4 : GoodIn wsX7_ask wsJ6_bitCount_0f7a4 := goodIn_r _ [76, 77, 78, 79] (by decide +kernel) (by decide +kernel)
set_option maxRecDepth 20000 in
theorem gX7_ask_J6_bitCount_0f7a4 : GoodIn wsX7_ask (va_wsS RX7 238 yJ6_bitCount_0f7a4 wsJ6_bitCount_0f7a4) := goodIn_app (goodIn_of _ (by decide +kernel)) ggX7_ask_J6_bitCount_0f7a4
set_option maxRecDepth 20000 in
theorem ggX7_ask_X7_leftAtWorst : GoodIn wsX7_ask wsX7_leftAtWorst := goodIn_r _ [83, 84, 53, 54, 55, 85, 86, 87, 5, 88, 11, 12, 89, 49, 50, 17, 51, 33, 25, 52, 56, 45, 46, 47, 29, 57, 58, 59, 60, 28, 30, 61, 62, 63, 64, 65, 66, 67, 68, 69, 70, 71, 72, 24, 19, 90, 91, 92, 93, 94, 95, 96, 97, 98, 99, 100, 101, 102, 103, 104, 105, 106, 107, 108, 109, 110, 111] (by decide +kernel) (by decide +kernel)
set_option maxRecDepth 20000 in
theorem gX7_ask_X7_leftAtWorst : GoodIn wsX7_ask (wsV RX7 243 RX7 yX7_leftAtWorst wsX7_leftAtWorst) := goodIn_app (goodIn_of _ (by decide +kernel)) ggX7_ask_X7_leftAtWorst
theorem dX7_ask_0 : decode cX7_ask 0 = .ok (.iload_n 1, 1) := by decide +kernel
theorem dX7_ask_1 : decode cX7_ask 1 = .ok (.invokestatic 175, 3) := by decide +kernel
theorem dX7_ask_4 : decode cX7_ask 4 = .ok (.ifCond .eq 5, 3) := by decide +kernel
theorem dX7_ask_7 : decode cX7_ask 7 = .ok (.iconst (-1), 1) := by decide +kernel
theorem dX7_ask_8 : decode cX7_ask 8 = .ok (.ireturn, 1) := by decide +kernel
theorem dX7_ask_9 : decode cX7_ask 9 = .ok (.aload_n 0, 1) := by decide +kernel
theorem dX7_ask_10 : decode cX7_ask 10 = .ok (.invokevirtual 235, 3) := by decide +kernel
theorem dX7_ask_13 : decode cX7_ask 13 = .ok (.istore_n 2, 1) := by decide +kernel
theorem dX7_ask_14 : decode cX7_ask 14 = .ok (.bipush (-4), 2) := by decide +kernel
theorem dX7_ask_16 : decode cX7_ask 16 = .ok (.istore_n 3, 1) := by decide +kernel
theorem dX7_ask_17 : decode cX7_ask 17 = .ok (.iload_n 2, 1) := by decide +kernel
theorem dX7_ask_18 : decode cX7_ask 18 = .ok (.invokestatic 238, 3) := by decide +kernel
theorem dX7_ask_21 : decode cX7_ask 21 = .ok (.istore 4, 2) := by decide +kernel
theorem dX7_ask_23 : decode cX7_ask 23 = .ok (.iconst 0, 1) := by decide +kernel
theorem dX7_ask_24 : decode cX7_ask 24 = .ok (.istore 5, 2) := by decide +kernel
theorem dX7_ask_26 : decode cX7_ask 26 = .ok (.iload 5, 2) := by decide +kernel
theorem dX7_ask_28 : decode cX7_ask 28 = .ok (.aload_n 0, 1) := by decide +kernel
theorem dX7_ask_29 : decode cX7_ask 29 = .ok (.getfield 10, 3) := by decide +kernel
theorem dX7_ask_32 : decode cX7_ask 32 = .ok (.getfield 96, 3) := by decide +kernel
theorem dX7_ask_35 : decode cX7_ask 35 = .ok (.if_icmp .ge 32, 3) := by decide +kernel
theorem dX7_ask_38 : decode cX7_ask 38 = .ok (.aload_n 0, 1) := by decide +kernel
theorem dX7_ask_39 : decode cX7_ask 39 = .ok (.iload_n 2, 1) := by decide +kernel
theorem dX7_ask_40 : decode cX7_ask 40 = .ok (.iload 5, 2) := by decide +kernel
theorem dX7_ask_42 : decode cX7_ask 42 = .ok (.invokevirtual 243, 3) := by decide +kernel
theorem dX7_ask_45 : decode cX7_ask 45 = .ok (.istore 6, 2) := by decide +kernel
theorem dX7_ask_47 : decode cX7_ask 47 = .ok (.iload 6, 2) := by decide +kernel
theorem dX7_ask_49 : decode cX7_ask 49 = .ok (.iload 4, 2) := by decide +kernel
theorem dX7_ask_51 : decode cX7_ask 51 = .ok (.if_icmp .ge 10, 3) := by decide +kernel
theorem dX7_ask_54 : decode cX7_ask 54 = .ok (.iload 5, 2) := by decide +kernel
theorem dX7_ask_56 : decode cX7_ask 56 = .ok (.istore_n 3, 1) := by decide +kernel
theorem dX7_ask_57 : decode cX7_ask 57 = .ok (.iload 6, 2) := by decide +kernel
theorem dX7_ask_59 : decode cX7_ask 59 = .ok (.istore 4, 2) := by decide +kernel
theorem dX7_ask_61 : decode cX7_ask 61 = .ok (.iinc 5 1, 3) := by decide +kernel
theorem dX7_ask_64 : decode cX7_ask 64 = .ok (.goto (-38), 3) := by decide +kernel
theorem dX7_ask_67 : decode cX7_ask 67 = .ok (.iload_n 3, 1) := by decide +kernel
theorem dX7_ask_68 : decode cX7_ask 68 = .ok (.bipush (-4), 2) := by decide +kernel
theorem dX7_ask_70 : decode cX7_ask 70 = .ok (.if_icmp .eq 7, 3) := by decide +kernel
theorem dX7_ask_73 : decode cX7_ask 73 = .ok (.iload_n 1, 1) := by decide +kernel
theorem dX7_ask_74 : decode cX7_ask 74 = .ok (.ifCond .ne 7, 3) := by decide +kernel
theorem dX7_ask_77 : decode cX7_ask 77 = .ok (.iload_n 3, 1) := by decide +kernel
theorem dX7_ask_78 : decode cX7_ask 78 = .ok (.goto 5, 3) := by decide +kernel
theorem dX7_ask_81 : decode cX7_ask 81 = .ok (.iload 4, 2) := by decide +kernel
theorem dX7_ask_83 : decode cX7_ask 83 = .ok (.ireturn, 1) := by decide +kernel
set_option maxRecDepth 20000 in
theorem ggX7_drift_X7_isNoPair : GoodIn wsX7_drift wsX7_isNoPair := goodIn_r _ [9] (by decide +kernel) (by decide +kernel)
set_option maxRecDepth 20000 in
theorem gX7_drift_X7_isNoPair : GoodIn wsX7_drift (va_wsS RX7 175 yX7_isNoPair wsX7_isNoPair) := goodIn_app (goodIn_of _ (by decide +kernel)) ggX7_drift_X7_isNoPair
set_option maxRecDepth 20000 in
theorem ggX7_drift_X0_copy : GoodIn wsX7_drift wsX0_copy := goodIn_r _ [14, 15, 16, 17, 18, 19, 20, 21, 22, 23, 24, 25, 26, 27, 28, 29, 30, 31, 87, 88, 89, 90, 91, 92, 93, 94, 95, 96, 97, 98, 99] (by decide +kernel) (by decide +kernel)
set_option maxRecDepth 20000 in
theorem gX7_drift_X0_copy : GoodIn wsX7_drift (wsV RX7 85 RX0 yX0_copy wsX0_copy) := goodIn_app (goodIn_of _ (by decide +kernel)) ggX7_drift_X0_copy
set_option maxRecDepth 20000 in
theorem ggX7_drift_X0_pass : GoodIn wsX7_drift wsX0_pass := goodIn_r _ [35, 25, 27, 36, 37, 38, 39, 28, 21, 40, 41, 42, 30, 87, 88, 89, 90, 91, 92, 93, 94, 95, 96, 97, 98, 99] (by decide +kernel) (by decide +kernel)
set_option maxRecDepth 20000 in
theorem gX7_drift_X0_pass : GoodIn wsX7_drift (wsV RX7 165 RX0 yX0_pass wsX0_pass) := goodIn_app (goodIn_of _ (by decide +kernel)) ggX7_drift_X0_pass
set_option maxRecDepth 20000 in
theorem ggX7_drift_X0_frankOfAll : GoodIn wsX7_drift wsX0_frankOfAll := goodIn_r _ [46, 25, 47, 48, 49, 13, 50, 51, 52, 53, 54, 29, 21, 55, 56, 38, 57, 58, 59, 60, 61, 62, 63, 64, 65, 24, 26, 66, 67, 68, 69, 70, 71, 72, 73, 74, 75, 76, 77, 20, 15, 87, 88, 89, 90, 91, 92, 93, 94, 95, 96, 97, 98, 99] (by decide +kernel) (by decide +kernel)
set_option maxRecDepth 20000 in
theorem gX7_drift_X0_frankOfAll : GoodIn wsX7_drift (wsV RX7 114 RX0 yX0_frankOfAll wsX0_frankOfAll) := goodIn_app (goodIn_of _ (by decide +kernel)) ggX7_drift_X0_frankOfAll
theorem dX7_drift_0 : decode cX7_drift 0 = .ok (.iload_n 2, 1) := by decide +kernel
theorem dX7_drift_1 : decode cX7_drift 1 = .ok (.iconst 1, 1) := by decide +kernel
theorem dX7_drift_2 : decode cX7_drift 2 = .ok (.if_icmp .lt 16, 3) := by decide +kernel
theorem dX7_drift_5 : decode cX7_drift 5 = .ok (.iload_n 2, 1) := by decide +kernel
theorem dX7_drift_6 : decode cX7_drift 6 = .ok (.bipush 60, 2) := by decide +kernel
theorem dX7_drift_8 : decode cX7_drift 8 = .ok (.if_icmp .gt 10, 3) := by decide +kernel
theorem dX7_drift_11 : decode cX7_drift 11 = .ok (.iload_n 3, 1) := by decide +kernel
theorem dX7_drift_12 : decode cX7_drift 12 = .ok (.invokestatic 175, 3) := by decide +kernel
theorem dX7_drift_15 : decode cX7_drift 15 = .ok (.ifCond .eq 5, 3) := by decide +kernel
theorem dX7_drift_18 : decode cX7_drift 18 = .ok (.iconst (-1), 1) := by decide +kernel
theorem dX7_drift_19 : decode cX7_drift 19 = .ok (.ireturn, 1) := by decide +kernel
theorem dX7_drift_20 : decode cX7_drift 20 = .ok (.aload_n 0, 1) := by decide +kernel
theorem dX7_drift_21 : decode cX7_drift 21 = .ok (.getfield 16, 3) := by decide +kernel
theorem dX7_drift_24 : decode cX7_drift 24 = .ok (.aload_n 0, 1) := by decide +kernel
theorem dX7_drift_25 : decode cX7_drift 25 = .ok (.getfield 10, 3) := by decide +kernel
theorem dX7_drift_28 : decode cX7_drift 28 = .ok (.invokevirtual 85, 3) := by decide +kernel
theorem dX7_drift_31 : decode cX7_drift 31 = .ok (.iload_n 1, 1) := by decide +kernel
theorem dX7_drift_32 : decode cX7_drift 32 = .ok (.istore 4, 2) := by decide +kernel
theorem dX7_drift_34 : decode cX7_drift 34 = .ok (.iconst 0, 1) := by decide +kernel
theorem dX7_drift_35 : decode cX7_drift 35 = .ok (.istore 5, 2) := by decide +kernel
theorem dX7_drift_37 : decode cX7_drift 37 = .ok (.iconst 0, 1) := by decide +kernel
theorem dX7_drift_38 : decode cX7_drift 38 = .ok (.istore 6, 2) := by decide +kernel
theorem dX7_drift_40 : decode cX7_drift 40 = .ok (.iconst 0, 1) := by decide +kernel
theorem dX7_drift_41 : decode cX7_drift 41 = .ok (.istore 7, 2) := by decide +kernel
theorem dX7_drift_43 : decode cX7_drift 43 = .ok (.iload 7, 2) := by decide +kernel
theorem dX7_drift_45 : decode cX7_drift 45 = .ok (.iload_n 2, 1) := by decide +kernel
theorem dX7_drift_46 : decode cX7_drift 46 = .ok (.if_icmp .ge 82, 3) := by decide +kernel
theorem dX7_drift_49 : decode cX7_drift 49 = .ok (.iload 4, 2) := by decide +kernel
theorem dX7_drift_51 : decode cX7_drift 51 = .ok (.ldc 246, 2) := by decide +kernel
theorem dX7_drift_53 : decode cX7_drift 53 = .ok (.imul, 1) := by decide +kernel
theorem dX7_drift_54 : decode cX7_drift 54 = .ok (.sipush 12345, 3) := by decide +kernel
theorem dX7_drift_57 : decode cX7_drift 57 = .ok (.iadd, 1) := by decide +kernel
theorem dX7_drift_58 : decode cX7_drift 58 = .ok (.istore 4, 2) := by decide +kernel
theorem dX7_drift_60 : decode cX7_drift 60 = .ok (.iload 4, 2) := by decide +kernel
theorem dX7_drift_62 : decode cX7_drift 62 = .ok (.bipush 16, 2) := by decide +kernel
theorem dX7_drift_64 : decode cX7_drift 64 = .ok (.iushr, 1) := by decide +kernel
theorem dX7_drift_65 : decode cX7_drift 65 = .ok (.sipush 32767, 3) := by decide +kernel
theorem dX7_drift_68 : decode cX7_drift 68 = .ok (.iand, 1) := by decide +kernel
theorem dX7_drift_69 : decode cX7_drift 69 = .ok (.istore 8, 2) := by decide +kernel
theorem dX7_drift_71 : decode cX7_drift 71 = .ok (.aload_n 0, 1) := by decide +kernel
theorem dX7_drift_72 : decode cX7_drift 72 = .ok (.getfield 16, 3) := by decide +kernel
theorem dX7_drift_75 : decode cX7_drift 75 = .ok (.iload 8, 2) := by decide +kernel
theorem dX7_drift_77 : decode cX7_drift 77 = .ok (.bipush 6, 2) := by decide +kernel
theorem dX7_drift_79 : decode cX7_drift 79 = .ok (.irem, 1) := by decide +kernel
theorem dX7_drift_80 : decode cX7_drift 80 = .ok (.putfield 99, 3) := by decide +kernel
theorem dX7_drift_83 : decode cX7_drift 83 = .ok (.aload_n 0, 1) := by decide +kernel
theorem dX7_drift_84 : decode cX7_drift 84 = .ok (.getfield 16, 3) := by decide +kernel
theorem dX7_drift_87 : decode cX7_drift 87 = .ok (.iload 8, 2) := by decide +kernel
theorem dX7_drift_89 : decode cX7_drift 89 = .ok (.bipush 8, 2) := by decide +kernel
theorem dX7_drift_91 : decode cX7_drift 91 = .ok (.idiv, 1) := by decide +kernel
theorem dX7_drift_92 : decode cX7_drift 92 = .ok (.bipush 12, 2) := by decide +kernel
theorem dX7_drift_94 : decode cX7_drift 94 = .ok (.irem, 1) := by decide +kernel
theorem dX7_drift_95 : decode cX7_drift 95 = .ok (.putfield 102, 3) := by decide +kernel
theorem dX7_drift_98 : decode cX7_drift 98 = .ok (.aload_n 0, 1) := by decide +kernel
theorem dX7_drift_99 : decode cX7_drift 99 = .ok (.getfield 16, 3) := by decide +kernel
theorem dX7_drift_102 : decode cX7_drift 102 = .ok (.iconst 1, 1) := by decide +kernel
theorem dX7_drift_103 : decode cX7_drift 103 = .ok (.invokevirtual 165, 3) := by decide +kernel
theorem dX7_drift_106 : decode cX7_drift 106 = .ok (.aload_n 0, 1) := by decide +kernel
theorem dX7_drift_107 : decode cX7_drift 107 = .ok (.getfield 16, 3) := by decide +kernel
theorem dX7_drift_110 : decode cX7_drift 110 = .ok (.invokevirtual 114, 3) := by decide +kernel
theorem dX7_drift_113 : decode cX7_drift 113 = .ok (.istore 6, 2) := by decide +kernel
theorem dX7_drift_115 : decode cX7_drift 115 = .ok (.iload 5, 2) := by decide +kernel
theorem dX7_drift_117 : decode cX7_drift 117 = .ok (.iload 6, 2) := by decide +kernel
theorem dX7_drift_119 : decode cX7_drift 119 = .ok (.iadd, 1) := by decide +kernel
theorem dX7_drift_120 : decode cX7_drift 120 = .ok (.istore 5, 2) := by decide +kernel
theorem dX7_drift_122 : decode cX7_drift 122 = .ok (.iinc 7 1, 3) := by decide +kernel
theorem dX7_drift_125 : decode cX7_drift 125 = .ok (.goto (-82), 3) := by decide +kernel
theorem dX7_drift_128 : decode cX7_drift 128 = .ok (.iload_n 3, 1) := by decide +kernel
theorem dX7_drift_129 : decode cX7_drift 129 = .ok (.ifCond .ne 8, 3) := by decide +kernel
theorem dX7_drift_132 : decode cX7_drift 132 = .ok (.iload 5, 2) := by decide +kernel
theorem dX7_drift_134 : decode cX7_drift 134 = .ok (.goto 5, 3) := by decide +kernel
theorem dX7_drift_137 : decode cX7_drift 137 = .ok (.iload 6, 2) := by decide +kernel
theorem dX7_drift_139 : decode cX7_drift 139 = .ok (.ireturn, 1) := by decide +kernel
set_option maxRecDepth 20000 in
theorem ggX7_keep_X7_imageOf : GoodIn wsX7_keep wsX7_imageOf := goodIn_r _ [8, 9, 34, 35, 36, 37, 38, 39, 40, 41, 42] (by decide +kernel) (by decide +kernel)
set_option maxRecDepth 20000 in
theorem gX7_keep_X7_imageOf : GoodIn wsX7_keep (wsV RX7 247 RX7 yX7_imageOf wsX7_imageOf) := goodIn_app (goodIn_of _ (by decide +kernel)) ggX7_keep_X7_imageOf
set_option maxRecDepth 20000 in
theorem ggX7_keep_X0_copy : GoodIn wsX7_keep wsX0_copy := goodIn_r _ [14, 15, 16, 17, 18, 19, 20, 21, 22, 23, 24, 25, 26, 27, 28, 29, 30, 31, 43, 44, 45, 46, 47, 48, 49, 50, 51, 52, 53, 54, 55] (by decide +kernel) (by decide +kernel)
set_option maxRecDepth 20000 in
theorem gX7_keep_X0_copy : GoodIn wsX7_keep (wsV RX7 85 RX0 yX0_copy wsX0_copy) := goodIn_app (goodIn_of _ (by decide +kernel)) ggX7_keep_X0_copy
theorem dX7_keep_0 : decode cX7_keep 0 = .ok (.aload_n 0, 1) := by decide +kernel
theorem dX7_keep_1 : decode cX7_keep 1 = .ok (.iload_n 1, 1) := by decide +kernel
theorem dX7_keep_2 : decode cX7_keep 2 = .ok (.invokevirtual 247, 3) := by decide +kernel
theorem dX7_keep_5 : decode cX7_keep 5 = .ok (.astore_n 2, 1) := by decide +kernel
theorem dX7_keep_6 : decode cX7_keep 6 = .ok (.aload_n 2, 1) := by decide +kernel
theorem dX7_keep_7 : decode cX7_keep 7 = .ok (.ifnonnull 5, 3) := by decide +kernel
theorem dX7_keep_10 : decode cX7_keep 10 = .ok (.iconst (-1), 1) := by decide +kernel
theorem dX7_keep_11 : decode cX7_keep 11 = .ok (.ireturn, 1) := by decide +kernel
theorem dX7_keep_12 : decode cX7_keep 12 = .ok (.aload_n 2, 1) := by decide +kernel
theorem dX7_keep_13 : decode cX7_keep 13 = .ok (.getfield 251, 3) := by decide +kernel
theorem dX7_keep_16 : decode cX7_keep 16 = .ok (.ifCond .eq 7, 3) := by decide +kernel
theorem dX7_keep_19 : decode cX7_keep 19 = .ok (.iconst 1, 1) := by decide +kernel
theorem dX7_keep_20 : decode cX7_keep 20 = .ok (.goto 4, 3) := by decide +kernel
theorem dX7_keep_23 : decode cX7_keep 23 = .ok (.iconst 0, 1) := by decide +kernel
theorem dX7_keep_24 : decode cX7_keep 24 = .ok (.istore_n 3, 1) := by decide +kernel
theorem dX7_keep_25 : decode cX7_keep 25 = .ok (.aload_n 2, 1) := by decide +kernel
theorem dX7_keep_26 : decode cX7_keep 26 = .ok (.getfield 255, 3) := by decide +kernel
theorem dX7_keep_29 : decode cX7_keep 29 = .ok (.aload_n 0, 1) := by decide +kernel
theorem dX7_keep_30 : decode cX7_keep 30 = .ok (.getfield 10, 3) := by decide +kernel
theorem dX7_keep_33 : decode cX7_keep 33 = .ok (.invokevirtual 85, 3) := by decide +kernel
theorem dX7_keep_36 : decode cX7_keep 36 = .ok (.aload_n 2, 1) := by decide +kernel
theorem dX7_keep_37 : decode cX7_keep 37 = .ok (.iconst 1, 1) := by decide +kernel
theorem dX7_keep_38 : decode cX7_keep 38 = .ok (.putfield 251, 3) := by decide +kernel
theorem dX7_keep_41 : decode cX7_keep 41 = .ok (.iload_n 3, 1) := by decide +kernel
theorem dX7_keep_42 : decode cX7_keep 42 = .ok (.ireturn, 1) := by decide +kernel
set_option maxRecDepth 20000 in
theorem ggX7_back_X7_imageOf : GoodIn wsX7_back wsX7_imageOf := goodIn_r _ [9, 10, 35, 36, 37, 38, 39, 40, 41, 42, 43] (by decide +kernel) (by decide +kernel)
set_option maxRecDepth 20000 in
theorem gX7_back_X7_imageOf : GoodIn wsX7_back (wsV RX7 247 RX7 yX7_imageOf wsX7_imageOf) := goodIn_app (goodIn_of _ (by decide +kernel)) ggX7_back_X7_imageOf
set_option maxRecDepth 20000 in
theorem ggX7_back_X0_copy : GoodIn wsX7_back wsX0_copy := goodIn_r _ [15, 16, 17, 18, 19, 20, 21, 22, 23, 24, 25, 26, 27, 28, 29, 30, 31, 32, 44, 45, 46, 47, 48, 49, 50, 51, 52, 53, 54, 55, 56] (by decide +kernel) (by decide +kernel)
set_option maxRecDepth 20000 in
theorem gX7_back_X0_copy : GoodIn wsX7_back (wsV RX7 85 RX0 yX0_copy wsX0_copy) := goodIn_app (goodIn_of _ (by decide +kernel)) ggX7_back_X0_copy
theorem dX7_back_0 : decode cX7_back 0 = .ok (.aload_n 0, 1) := by decide +kernel
theorem dX7_back_1 : decode cX7_back 1 = .ok (.iload_n 1, 1) := by decide +kernel
theorem dX7_back_2 : decode cX7_back 2 = .ok (.invokevirtual 247, 3) := by decide +kernel
theorem dX7_back_5 : decode cX7_back 5 = .ok (.astore_n 2, 1) := by decide +kernel
theorem dX7_back_6 : decode cX7_back 6 = .ok (.aload_n 2, 1) := by decide +kernel
theorem dX7_back_7 : decode cX7_back 7 = .ok (.ifnonnull 5, 3) := by decide +kernel
theorem dX7_back_10 : decode cX7_back 10 = .ok (.iconst (-1), 1) := by decide +kernel
theorem dX7_back_11 : decode cX7_back 11 = .ok (.ireturn, 1) := by decide +kernel
theorem dX7_back_12 : decode cX7_back 12 = .ok (.aload_n 2, 1) := by decide +kernel
theorem dX7_back_13 : decode cX7_back 13 = .ok (.getfield 251, 3) := by decide +kernel
theorem dX7_back_16 : decode cX7_back 16 = .ok (.ifCond .ne 6, 3) := by decide +kernel
theorem dX7_back_19 : decode cX7_back 19 = .ok (.bipush (-2), 2) := by decide +kernel
theorem dX7_back_21 : decode cX7_back 21 = .ok (.ireturn, 1) := by decide +kernel
theorem dX7_back_22 : decode cX7_back 22 = .ok (.aload_n 0, 1) := by decide +kernel
theorem dX7_back_23 : decode cX7_back 23 = .ok (.getfield 10, 3) := by decide +kernel
theorem dX7_back_26 : decode cX7_back 26 = .ok (.aload_n 2, 1) := by decide +kernel
theorem dX7_back_27 : decode cX7_back 27 = .ok (.getfield 255, 3) := by decide +kernel
theorem dX7_back_30 : decode cX7_back 30 = .ok (.invokevirtual 85, 3) := by decide +kernel
theorem dX7_back_33 : decode cX7_back 33 = .ok (.aload_n 0, 1) := by decide +kernel
theorem dX7_back_34 : decode cX7_back 34 = .ok (.getfield 10, 3) := by decide +kernel
theorem dX7_back_37 : decode cX7_back 37 = .ok (.getfield 111, 3) := by decide +kernel
theorem dX7_back_40 : decode cX7_back 40 = .ok (.ireturn, 1) := by decide +kernel
set_option maxRecDepth 20000 in
theorem ggX7_sheet_X7_rowOf : GoodIn wsX7_sheet wsX7_rowOf := goodIn_r _ [5, 6, 19, 20, 21, 22, 23, 24, 25, 26, 27] (by decide +kernel) (by decide +kernel)
set_option maxRecDepth 20000 in
theorem gX7_sheet_X7_rowOf : GoodIn wsX7_sheet (wsV RX7 256 RX7 yX7_rowOf wsX7_rowOf) := goodIn_app (goodIn_of _ (by decide +kernel)) ggX7_sheet_X7_rowOf
set_option maxRecDepth 20000 in
theorem ggX7_sheet_X6_renew : GoodIn wsX7_sheet wsX6_renew := goodIn_r _ [11, 12, 13, 14, 15, 16, 17, 18, 28, 29, 30] (by decide +kernel) (by decide +kernel)
set_option maxRecDepth 20000 in
theorem gX7_sheet_X6_renew : GoodIn wsX7_sheet (wsV RX7 260 RX6 yX6_renew wsX6_renew) := goodIn_app (goodIn_of _ (by decide +kernel)) ggX7_sheet_X6_renew
theorem dX7_sheet_0 : decode cX7_sheet 0 = .ok (.aload_n 0, 1) := by decide +kernel
theorem dX7_sheet_1 : decode cX7_sheet 1 = .ok (.iload_n 1, 1) := by decide +kernel
theorem dX7_sheet_2 : decode cX7_sheet 2 = .ok (.invokevirtual 256, 3) := by decide +kernel
theorem dX7_sheet_5 : decode cX7_sheet 5 = .ok (.astore 4, 2) := by decide +kernel
theorem dX7_sheet_7 : decode cX7_sheet 7 = .ok (.aload 4, 2) := by decide +kernel
theorem dX7_sheet_9 : decode cX7_sheet 9 = .ok (.ifnull 18, 3) := by decide +kernel
theorem dX7_sheet_12 : decode cX7_sheet 12 = .ok (.iload_n 2, 1) := by decide +kernel
theorem dX7_sheet_13 : decode cX7_sheet 13 = .ok (.ifCond .lt 14, 3) := by decide +kernel
theorem dX7_sheet_16 : decode cX7_sheet 16 = .ok (.iload_n 2, 1) := by decide +kernel
theorem dX7_sheet_17 : decode cX7_sheet 17 = .ok (.iconst 3, 1) := by decide +kernel
theorem dX7_sheet_18 : decode cX7_sheet 18 = .ok (.if_icmp .ge 9, 3) := by decide +kernel
theorem dX7_sheet_21 : decode cX7_sheet 21 = .ok (.iload_n 3, 1) := by decide +kernel
theorem dX7_sheet_22 : decode cX7_sheet 22 = .ok (.bipush 40, 2) := by decide +kernel
theorem dX7_sheet_24 : decode cX7_sheet 24 = .ok (.if_icmp .le 5, 3) := by decide +kernel
theorem dX7_sheet_27 : decode cX7_sheet 27 = .ok (.iconst (-1), 1) := by decide +kernel
theorem dX7_sheet_28 : decode cX7_sheet 28 = .ok (.ireturn, 1) := by decide +kernel
theorem dX7_sheet_29 : decode cX7_sheet 29 = .ok (.iload_n 3, 1) := by decide +kernel
theorem dX7_sheet_30 : decode cX7_sheet 30 = .ok (.ifCond .ge 6, 3) := by decide +kernel
theorem dX7_sheet_33 : decode cX7_sheet 33 = .ok (.bipush (-14), 2) := by decide +kernel
theorem dX7_sheet_35 : decode cX7_sheet 35 = .ok (.ireturn, 1) := by decide +kernel
theorem dX7_sheet_36 : decode cX7_sheet 36 = .ok (.aload 4, 2) := by decide +kernel
theorem dX7_sheet_38 : decode cX7_sheet 38 = .ok (.iload_n 2, 1) := by decide +kernel
theorem dX7_sheet_39 : decode cX7_sheet 39 = .ok (.iload_n 3, 1) := by decide +kernel
theorem dX7_sheet_40 : decode cX7_sheet 40 = .ok (.invokevirtual 260, 3) := by decide +kernel
theorem dX7_sheet_43 : decode cX7_sheet 43 = .ok (.iconst 1, 1) := by decide +kernel
theorem dX7_sheet_44 : decode cX7_sheet 44 = .ok (.ireturn, 1) := by decide +kernel
set_option maxRecDepth 20000 in
theorem ggX7_lay_X7_rowOf : GoodIn wsX7_lay wsX7_rowOf := goodIn_r _ [6, 7, 23, 24, 25, 26, 27, 28, 29, 30, 31] (by decide +kernel) (by decide +kernel)
set_option maxRecDepth 20000 in
theorem gX7_lay_X7_rowOf : GoodIn wsX7_lay (wsV RX7 256 RX7 yX7_rowOf wsX7_rowOf) := goodIn_app (goodIn_of _ (by decide +kernel)) ggX7_lay_X7_rowOf
set_option maxRecDepth 20000 in
theorem ggX7_lay_X6_faultAt : GoodIn wsX7_lay wsX6_faultAt := goodIn_r _ [12, 13, 14, 20, 21, 22] (by decide +kernel) (by decide +kernel)
set_option maxRecDepth 20000 in
theorem gX7_lay_X6_faultAt : GoodIn wsX7_lay (wsV RX7 266 RX6 yX6_faultAt wsX6_faultAt) := goodIn_app (goodIn_of _ (by decide +kernel)) ggX7_lay_X6_faultAt
set_option maxRecDepth 20000 in
theorem ggX7_lay_X6_write : GoodIn wsX7_lay wsX6_write := goodIn_r _ [18, 13, 19, 20, 21, 22] (by decide +kernel) (by decide +kernel)
set_option maxRecDepth 20000 in
theorem gX7_lay_X6_write : GoodIn wsX7_lay (wsV RX7 268 RX6 yX6_write wsX6_write) := goodIn_app (goodIn_of _ (by decide +kernel)) ggX7_lay_X6_write
theorem dX7_lay_0 : decode cX7_lay 0 = .ok (.aload_n 0, 1) := by decide +kernel
theorem dX7_lay_1 : decode cX7_lay 1 = .ok (.iload_n 1, 1) := by decide +kernel
theorem dX7_lay_2 : decode cX7_lay 2 = .ok (.invokevirtual 256, 3) := by decide +kernel
theorem dX7_lay_5 : decode cX7_lay 5 = .ok (.astore 4, 2) := by decide +kernel
theorem dX7_lay_7 : decode cX7_lay 7 = .ok (.aload 4, 2) := by decide +kernel
theorem dX7_lay_9 : decode cX7_lay 9 = .ok (.ifnonnull 5, 3) := by decide +kernel
theorem dX7_lay_12 : decode cX7_lay 12 = .ok (.iconst (-1), 1) := by decide +kernel
theorem dX7_lay_13 : decode cX7_lay 13 = .ok (.ireturn, 1) := by decide +kernel
theorem dX7_lay_14 : decode cX7_lay 14 = .ok (.aload 4, 2) := by decide +kernel
theorem dX7_lay_16 : decode cX7_lay 16 = .ok (.aload 4, 2) := by decide +kernel
theorem dX7_lay_18 : decode cX7_lay 18 = .ok (.getfield 263, 3) := by decide +kernel
theorem dX7_lay_21 : decode cX7_lay 21 = .ok (.iload_n 2, 1) := by decide +kernel
theorem dX7_lay_22 : decode cX7_lay 22 = .ok (.invokevirtual 266, 3) := by decide +kernel
theorem dX7_lay_25 : decode cX7_lay 25 = .ok (.istore 5, 2) := by decide +kernel
theorem dX7_lay_27 : decode cX7_lay 27 = .ok (.iload 5, 2) := by decide +kernel
theorem dX7_lay_29 : decode cX7_lay 29 = .ok (.ifCond .eq 9, 3) := by decide +kernel
theorem dX7_lay_32 : decode cX7_lay 32 = .ok (.bipush (-10), 2) := by decide +kernel
theorem dX7_lay_34 : decode cX7_lay 34 = .ok (.iload 5, 2) := by decide +kernel
theorem dX7_lay_36 : decode cX7_lay 36 = .ok (.isub, 1) := by decide +kernel
theorem dX7_lay_37 : decode cX7_lay 37 = .ok (.ireturn, 1) := by decide +kernel
theorem dX7_lay_38 : decode cX7_lay 38 = .ok (.aload 4, 2) := by decide +kernel
theorem dX7_lay_40 : decode cX7_lay 40 = .ok (.iload_n 2, 1) := by decide +kernel
theorem dX7_lay_41 : decode cX7_lay 41 = .ok (.iload_n 3, 1) := by decide +kernel
theorem dX7_lay_42 : decode cX7_lay 42 = .ok (.invokevirtual 268, 3) := by decide +kernel
theorem dX7_lay_45 : decode cX7_lay 45 = .ok (.iconst 1, 1) := by decide +kernel
theorem dX7_lay_46 : decode cX7_lay 46 = .ok (.ireturn, 1) := by decide +kernel
set_option maxRecDepth 20000 in
theorem ggX7_read_X7_rowOf : GoodIn wsX7_read wsX7_rowOf := goodIn_r _ [8, 9, 52, 53, 54, 55, 56, 57, 58, 59, 60] (by decide +kernel) (by decide +kernel)
set_option maxRecDepth 20000 in
theorem gX7_read_X7_rowOf : GoodIn wsX7_read (wsV RX7 256 RX7 yX7_rowOf wsX7_rowOf) := goodIn_app (goodIn_of _ (by decide +kernel)) ggX7_read_X7_rowOf
set_option maxRecDepth 20000 in
theorem ggX7_read_X0_copy : GoodIn wsX7_read wsX0_copy := goodIn_r _ [14, 15, 16, 17, 18, 19, 20, 21, 22, 23, 24, 25, 26, 27, 28, 29, 30, 31, 61, 62, 63, 64, 65, 66, 67, 68, 69, 70, 71, 72, 73] (by decide +kernel) (by decide +kernel)
set_option maxRecDepth 20000 in
theorem gX7_read_X0_copy : GoodIn wsX7_read (wsV RX7 85 RX0 yX0_copy wsX0_copy) := goodIn_app (goodIn_of _ (by decide +kernel)) ggX7_read_X0_copy
set_option maxRecDepth 20000 in
theorem ggX7_read_X6_faultOfPair : GoodIn wsX7_read wsX6_faultOfPair := goodIn_r _ [36, 37, 38, 39, 35, 40, 41, 42, 74, 75, 76] (by decide +kernel) (by decide +kernel)
set_option maxRecDepth 20000 in
theorem gX7_read_X6_faultOfPair : GoodIn wsX7_read (wsV RX7 271 RX6 yX6_faultOfPair wsX6_faultOfPair) := goodIn_app (goodIn_of _ (by decide +kernel)) ggX7_read_X6_faultOfPair
set_option maxRecDepth 20000 in
theorem ggX7_read_X6_cellAt : GoodIn wsX7_read wsX6_cellAt := goodIn_r _ [46, 42, 47, 74, 75, 76] (by decide +kernel) (by decide +kernel)
set_option maxRecDepth 20000 in
theorem gX7_read_X6_cellAt : GoodIn wsX7_read (wsV RX7 274 RX6 yX6_cellAt wsX6_cellAt) := goodIn_app (goodIn_of _ (by decide +kernel)) ggX7_read_X6_cellAt
set_option maxRecDepth 20000 in
theorem ggX7_read_X0_addBlock : GoodIn wsX7_read wsX0_addBlock := goodIn_r _ [51, 24, 15, 20, 61, 62, 63, 64, 65, 66, 67, 68, 69, 70, 71, 72, 73] (by decide +kernel) (by decide +kernel)
set_option maxRecDepth 20000 in
theorem gX7_read_X0_addBlock : GoodIn wsX7_read (wsV RX7 158 RX0 yX0_addBlock wsX0_addBlock) := goodIn_app (goodIn_of _ (by decide +kernel)) ggX7_read_X0_addBlock
theorem dX7_read_0 : decode cX7_read 0 = .ok (.aload_n 0, 1) := by decide +kernel
theorem dX7_read_1 : decode cX7_read 1 = .ok (.iload_n 1, 1) := by decide +kernel
theorem dX7_read_2 : decode cX7_read 2 = .ok (.invokevirtual 256, 3) := by decide +kernel
theorem dX7_read_5 : decode cX7_read 5 = .ok (.astore 5, 2) := by decide +kernel
theorem dX7_read_7 : decode cX7_read 7 = .ok (.aload 5, 2) := by decide +kernel
theorem dX7_read_9 : decode cX7_read 9 = .ok (.ifnull 24, 3) := by decide +kernel
theorem dX7_read_12 : decode cX7_read 12 = .ok (.iload_n 2, 1) := by decide +kernel
theorem dX7_read_13 : decode cX7_read 13 = .ok (.ifCond .lt 20, 3) := by decide +kernel
theorem dX7_read_16 : decode cX7_read 16 = .ok (.iload_n 2, 1) := by decide +kernel
theorem dX7_read_17 : decode cX7_read 17 = .ok (.iconst 3, 1) := by decide +kernel
theorem dX7_read_18 : decode cX7_read 18 = .ok (.if_icmp .ge 15, 3) := by decide +kernel
theorem dX7_read_21 : decode cX7_read 21 = .ok (.iload 4, 2) := by decide +kernel
theorem dX7_read_23 : decode cX7_read 23 = .ok (.ifCond .lt 10, 3) := by decide +kernel
theorem dX7_read_26 : decode cX7_read 26 = .ok (.iload 4, 2) := by decide +kernel
theorem dX7_read_28 : decode cX7_read 28 = .ok (.bipush 20, 2) := by decide +kernel
theorem dX7_read_30 : decode cX7_read 30 = .ok (.if_icmp .le 5, 3) := by decide +kernel
theorem dX7_read_33 : decode cX7_read 33 = .ok (.iconst (-1), 1) := by decide +kernel
theorem dX7_read_34 : decode cX7_read 34 = .ok (.ireturn, 1) := by decide +kernel
theorem dX7_read_35 : decode cX7_read 35 = .ok (.aload_n 0, 1) := by decide +kernel
theorem dX7_read_36 : decode cX7_read 36 = .ok (.getfield 16, 3) := by decide +kernel
theorem dX7_read_39 : decode cX7_read 39 = .ok (.aload_n 0, 1) := by decide +kernel
theorem dX7_read_40 : decode cX7_read 40 = .ok (.getfield 10, 3) := by decide +kernel
theorem dX7_read_43 : decode cX7_read 43 = .ok (.invokevirtual 85, 3) := by decide +kernel
theorem dX7_read_46 : decode cX7_read 46 = .ok (.iconst 0, 1) := by decide +kernel
theorem dX7_read_47 : decode cX7_read 47 = .ok (.istore 6, 2) := by decide +kernel
theorem dX7_read_49 : decode cX7_read 49 = .ok (.iconst 0, 1) := by decide +kernel
theorem dX7_read_50 : decode cX7_read 50 = .ok (.istore 7, 2) := by decide +kernel
theorem dX7_read_52 : decode cX7_read 52 = .ok (.iconst 0, 1) := by decide +kernel
theorem dX7_read_53 : decode cX7_read 53 = .ok (.istore 8, 2) := by decide +kernel
theorem dX7_read_55 : decode cX7_read 55 = .ok (.iload 8, 2) := by decide +kernel
theorem dX7_read_57 : decode cX7_read 57 = .ok (.iload 4, 2) := by decide +kernel
theorem dX7_read_59 : decode cX7_read 59 = .ok (.if_icmp .ge 72, 3) := by decide +kernel
theorem dX7_read_62 : decode cX7_read 62 = .ok (.iload 6, 2) := by decide +kernel
theorem dX7_read_64 : decode cX7_read 64 = .ok (.ifCond .ne 67, 3) := by decide +kernel
theorem dX7_read_67 : decode cX7_read 67 = .ok (.iload_n 3, 1) := by decide +kernel
theorem dX7_read_68 : decode cX7_read 68 = .ok (.iconst 2, 1) := by decide +kernel
theorem dX7_read_69 : decode cX7_read 69 = .ok (.iload 8, 2) := by decide +kernel
theorem dX7_read_71 : decode cX7_read 71 = .ok (.imul, 1) := by decide +kernel
theorem dX7_read_72 : decode cX7_read 72 = .ok (.iadd, 1) := by decide +kernel
theorem dX7_read_73 : decode cX7_read 73 = .ok (.istore 9, 2) := by decide +kernel
theorem dX7_read_75 : decode cX7_read 75 = .ok (.aload 5, 2) := by decide +kernel
theorem dX7_read_77 : decode cX7_read 77 = .ok (.iload_n 2, 1) := by decide +kernel
theorem dX7_read_78 : decode cX7_read 78 = .ok (.iload 9, 2) := by decide +kernel
theorem dX7_read_80 : decode cX7_read 80 = .ok (.invokevirtual 271, 3) := by decide +kernel
theorem dX7_read_83 : decode cX7_read 83 = .ok (.istore 6, 2) := by decide +kernel
theorem dX7_read_85 : decode cX7_read 85 = .ok (.iload 6, 2) := by decide +kernel
theorem dX7_read_87 : decode cX7_read 87 = .ok (.ifCond .ne 38, 3) := by decide +kernel
theorem dX7_read_90 : decode cX7_read 90 = .ok (.aload_n 0, 1) := by decide +kernel
theorem dX7_read_91 : decode cX7_read 91 = .ok (.getfield 16, 3) := by decide +kernel
theorem dX7_read_94 : decode cX7_read 94 = .ok (.aload 5, 2) := by decide +kernel
theorem dX7_read_96 : decode cX7_read 96 = .ok (.iload 9, 2) := by decide +kernel
theorem dX7_read_98 : decode cX7_read 98 = .ok (.invokevirtual 274, 3) := by decide +kernel
theorem dX7_read_101 : decode cX7_read 101 = .ok (.aload 5, 2) := by decide +kernel
theorem dX7_read_103 : decode cX7_read 103 = .ok (.iload 9, 2) := by decide +kernel
theorem dX7_read_105 : decode cX7_read 105 = .ok (.iconst 1, 1) := by decide +kernel
theorem dX7_read_106 : decode cX7_read 106 = .ok (.iadd, 1) := by decide +kernel
theorem dX7_read_107 : decode cX7_read 107 = .ok (.invokevirtual 274, 3) := by decide +kernel
theorem dX7_read_110 : decode cX7_read 110 = .ok (.invokevirtual 158, 3) := by decide +kernel
theorem dX7_read_113 : decode cX7_read 113 = .ok (.ifCond .ge 9, 3) := by decide +kernel
theorem dX7_read_116 : decode cX7_read 116 = .ok (.bipush (-20), 2) := by decide +kernel
theorem dX7_read_118 : decode cX7_read 118 = .ok (.iload 8, 2) := by decide +kernel
theorem dX7_read_120 : decode cX7_read 120 = .ok (.isub, 1) := by decide +kernel
theorem dX7_read_121 : decode cX7_read 121 = .ok (.ireturn, 1) := by decide +kernel
theorem dX7_read_122 : decode cX7_read 122 = .ok (.iinc 7 1, 3) := by decide +kernel
theorem dX7_read_125 : decode cX7_read 125 = .ok (.iinc 8 1, 3) := by decide +kernel
theorem dX7_read_128 : decode cX7_read 128 = .ok (.goto (-73), 3) := by decide +kernel
theorem dX7_read_131 : decode cX7_read 131 = .ok (.aload_n 0, 1) := by decide +kernel
theorem dX7_read_132 : decode cX7_read 132 = .ok (.getfield 10, 3) := by decide +kernel
theorem dX7_read_135 : decode cX7_read 135 = .ok (.aload_n 0, 1) := by decide +kernel
theorem dX7_read_136 : decode cX7_read 136 = .ok (.getfield 16, 3) := by decide +kernel
theorem dX7_read_139 : decode cX7_read 139 = .ok (.invokevirtual 85, 3) := by decide +kernel
theorem dX7_read_142 : decode cX7_read 142 = .ok (.aload_n 0, 1) := by decide +kernel
theorem dX7_read_143 : decode cX7_read 143 = .ok (.iload 6, 2) := by decide +kernel
theorem dX7_read_145 : decode cX7_read 145 = .ok (.putfield 61, 3) := by decide +kernel
theorem dX7_read_148 : decode cX7_read 148 = .ok (.iload 7, 2) := by decide +kernel
theorem dX7_read_150 : decode cX7_read 150 = .ok (.ireturn, 1) := by decide +kernel
theorem dX7_torn_0 : decode cX7_torn 0 = .ok (.aload_n 0, 1) := by decide +kernel
theorem dX7_torn_1 : decode cX7_torn 1 = .ok (.getfield 61, 3) := by decide +kernel
theorem dX7_torn_4 : decode cX7_torn 4 = .ok (.ireturn, 1) := by decide +kernel
set_option maxRecDepth 20000 in
theorem ggX7_count_X7_imagesHeld : GoodIn wsX7_count wsX7_imagesHeld := goodIn_r _ [10, 11, 12, 13, 14, 15, 9, 16, 41, 42, 43, 44, 45, 46, 47, 48, 49, 63, 64] (by decide +kernel) (by decide +kernel)
set_option maxRecDepth 20000 in
theorem gX7_count_X7_imagesHeld : GoodIn wsX7_count (wsV RX7 277 RX7 yX7_imagesHeld wsX7_imagesHeld) := goodIn_app (goodIn_of _ (by decide +kernel)) ggX7_count_X7_imagesHeld
set_option maxRecDepth 20000 in
theorem ggX7_count_X7_cellsOfFirst : GoodIn wsX7_count wsX7_cellsOfFirst := goodIn_r _ [20, 21, 22, 23, 24, 25, 9, 26, 27, 65, 66, 67, 41, 42, 43, 44, 45, 46, 47, 48, 49] (by decide +kernel) (by decide +kernel)
set_option maxRecDepth 20000 in
theorem gX7_count_X7_cellsOfFirst : GoodIn wsX7_count (wsV RX7 280 RX7 yX7_cellsOfFirst wsX7_cellsOfFirst) := goodIn_app (goodIn_of _ (by decide +kernel)) ggX7_count_X7_cellsOfFirst
set_option maxRecDepth 20000 in
theorem ggX7_count_X0_warmthOfAll : GoodIn wsX7_count wsX0_warmthOfAll := goodIn_r _ [32, 33, 34, 68, 69, 70, 71, 72, 73, 74, 75, 76, 77, 78, 79, 80] (by decide +kernel) (by decide +kernel)
set_option maxRecDepth 20000 in
theorem gX7_count_X0_warmthOfAll : GoodIn wsX7_count (wsV RX7 283 RX0 yX0_warmthOfAll wsX0_warmthOfAll) := goodIn_app (goodIn_of _ (by decide +kernel)) ggX7_count_X0_warmthOfAll
set_option maxRecDepth 20000 in
theorem ggX7_count_X0_fadeOfAll : GoodIn wsX7_count wsX0_fadeOfAll := goodIn_r _ [38, 39, 40, 68, 69, 70, 71, 72, 73, 74, 75, 76, 77, 78, 79, 80] (by decide +kernel) (by decide +kernel)
set_option maxRecDepth 20000 in
theorem gX7_count_X0_fadeOfAll : GoodIn wsX7_count (wsV RX7 286 RX0 yX0_fadeOfAll wsX0_fadeOfAll) := goodIn_app (goodIn_of _ (by decide +kernel)) ggX7_count_X0_fadeOfAll
theorem dX7_count_0 : decode cX7_count 0 = .ok (.iload_n 1, 1) := by decide +kernel
theorem dX7_count_1 : decode cX7_count 1 = .ok (.tableswitch 81 0 5 #[39, 47, 52, 60, 65, 73], 39) := by decide +kernel
theorem dX7_count_40 : decode cX7_count 40 = .ok (.aload_n 0, 1) := by decide +kernel
theorem dX7_count_41 : decode cX7_count 41 = .ok (.getfield 36, 3) := by decide +kernel
theorem dX7_count_44 : decode cX7_count 44 = .ok (.getfield 89, 3) := by decide +kernel
theorem dX7_count_47 : decode cX7_count 47 = .ok (.ireturn, 1) := by decide +kernel
theorem dX7_count_48 : decode cX7_count 48 = .ok (.aload_n 0, 1) := by decide +kernel
theorem dX7_count_49 : decode cX7_count 49 = .ok (.invokevirtual 277, 3) := by decide +kernel
theorem dX7_count_52 : decode cX7_count 52 = .ok (.ireturn, 1) := by decide +kernel
theorem dX7_count_53 : decode cX7_count 53 = .ok (.aload_n 0, 1) := by decide +kernel
theorem dX7_count_54 : decode cX7_count 54 = .ok (.getfield 29, 3) := by decide +kernel
theorem dX7_count_57 : decode cX7_count 57 = .ok (.getfield 69, 3) := by decide +kernel
theorem dX7_count_60 : decode cX7_count 60 = .ok (.ireturn, 1) := by decide +kernel
theorem dX7_count_61 : decode cX7_count 61 = .ok (.aload_n 0, 1) := by decide +kernel
theorem dX7_count_62 : decode cX7_count 62 = .ok (.invokevirtual 280, 3) := by decide +kernel
theorem dX7_count_65 : decode cX7_count 65 = .ok (.ireturn, 1) := by decide +kernel
theorem dX7_count_66 : decode cX7_count 66 = .ok (.aload_n 0, 1) := by decide +kernel
theorem dX7_count_67 : decode cX7_count 67 = .ok (.getfield 10, 3) := by decide +kernel
theorem dX7_count_70 : decode cX7_count 70 = .ok (.invokevirtual 283, 3) := by decide +kernel
theorem dX7_count_73 : decode cX7_count 73 = .ok (.ireturn, 1) := by decide +kernel
theorem dX7_count_74 : decode cX7_count 74 = .ok (.aload_n 0, 1) := by decide +kernel
theorem dX7_count_75 : decode cX7_count 75 = .ok (.getfield 10, 3) := by decide +kernel
theorem dX7_count_78 : decode cX7_count 78 = .ok (.invokevirtual 286, 3) := by decide +kernel
theorem dX7_count_81 : decode cX7_count 81 = .ok (.ireturn, 1) := by decide +kernel
theorem dX7_count_82 : decode cX7_count 82 = .ok (.iconst (-1), 1) := by decide +kernel
theorem dX7_count_83 : decode cX7_count 83 = .ok (.ireturn, 1) := by decide +kernel
theorem dX7_isNoPair_0 : decode cX7_isNoPair 0 = .ok (.iload_n 0, 1) := by decide +kernel
theorem dX7_isNoPair_1 : decode cX7_isNoPair 1 = .ok (.ifCond .eq 12, 3) := by decide +kernel
theorem dX7_isNoPair_4 : decode cX7_isNoPair 4 = .ok (.iload_n 0, 1) := by decide +kernel
theorem dX7_isNoPair_5 : decode cX7_isNoPair 5 = .ok (.iconst 1, 1) := by decide +kernel
theorem dX7_isNoPair_6 : decode cX7_isNoPair 6 = .ok (.if_icmp .eq 7, 3) := by decide +kernel
theorem dX7_isNoPair_9 : decode cX7_isNoPair 9 = .ok (.iconst 1, 1) := by decide +kernel
theorem dX7_isNoPair_10 : decode cX7_isNoPair 10 = .ok (.goto 4, 3) := by decide +kernel
theorem dX7_isNoPair_13 : decode cX7_isNoPair 13 = .ok (.iconst 0, 1) := by decide +kernel
theorem dX7_isNoPair_14 : decode cX7_isNoPair 14 = .ok (.ireturn, 1) := by decide +kernel
set_option maxRecDepth 20000 in
theorem ggX7_areNoLamps_X0_hasPlace : GoodIn wsX7_areNoLamps wsX0_hasPlace := goodIn_r _ [6, 7, 17, 18, 19, 20, 21, 22, 23, 24, 25, 26, 27, 28, 29] (by decide +kernel) (by decide +kernel)
set_option maxRecDepth 20000 in
theorem gX7_areNoLamps_X0_hasPlace : GoodIn wsX7_areNoLamps (wsV RX7 137 RX0 yX0_hasPlace wsX0_hasPlace) := goodIn_app (goodIn_of _ (by decide +kernel)) ggX7_areNoLamps_X0_hasPlace
theorem dX7_areNoLamps_0 : decode cX7_areNoLamps 0 = .ok (.iload_n 1, 1) := by decide +kernel
theorem dX7_areNoLamps_1 : decode cX7_areNoLamps 1 = .ok (.ifCond .lt 36, 3) := by decide +kernel
theorem dX7_areNoLamps_4 : decode cX7_areNoLamps 4 = .ok (.iload_n 1, 1) := by decide +kernel
theorem dX7_areNoLamps_5 : decode cX7_areNoLamps 5 = .ok (.bipush 10, 2) := by decide +kernel
theorem dX7_areNoLamps_7 : decode cX7_areNoLamps 7 = .ok (.if_icmp .gt 30, 3) := by decide +kernel
theorem dX7_areNoLamps_10 : decode cX7_areNoLamps 10 = .ok (.aload_n 0, 1) := by decide +kernel
theorem dX7_areNoLamps_11 : decode cX7_areNoLamps 11 = .ok (.getfield 10, 3) := by decide +kernel
theorem dX7_areNoLamps_14 : decode cX7_areNoLamps 14 = .ok (.iload_n 2, 1) := by decide +kernel
theorem dX7_areNoLamps_15 : decode cX7_areNoLamps 15 = .ok (.invokevirtual 137, 3) := by decide +kernel
theorem dX7_areNoLamps_18 : decode cX7_areNoLamps 18 = .ok (.ifCond .eq 19, 3) := by decide +kernel
theorem dX7_areNoLamps_21 : decode cX7_areNoLamps 21 = .ok (.aload_n 0, 1) := by decide +kernel
theorem dX7_areNoLamps_22 : decode cX7_areNoLamps 22 = .ok (.getfield 10, 3) := by decide +kernel
theorem dX7_areNoLamps_25 : decode cX7_areNoLamps 25 = .ok (.iload_n 3, 1) := by decide +kernel
theorem dX7_areNoLamps_26 : decode cX7_areNoLamps 26 = .ok (.invokevirtual 137, 3) := by decide +kernel
theorem dX7_areNoLamps_29 : decode cX7_areNoLamps 29 = .ok (.ifCond .eq 8, 3) := by decide +kernel
theorem dX7_areNoLamps_32 : decode cX7_areNoLamps 32 = .ok (.iload_n 2, 1) := by decide +kernel
theorem dX7_areNoLamps_33 : decode cX7_areNoLamps 33 = .ok (.iload_n 3, 1) := by decide +kernel
theorem dX7_areNoLamps_34 : decode cX7_areNoLamps 34 = .ok (.if_icmp .le 7, 3) := by decide +kernel
theorem dX7_areNoLamps_37 : decode cX7_areNoLamps 37 = .ok (.iconst 1, 1) := by decide +kernel
theorem dX7_areNoLamps_38 : decode cX7_areNoLamps 38 = .ok (.goto 4, 3) := by decide +kernel
theorem dX7_areNoLamps_41 : decode cX7_areNoLamps 41 = .ok (.iconst 0, 1) := by decide +kernel
theorem dX7_areNoLamps_42 : decode cX7_areNoLamps 42 = .ok (.ireturn, 1) := by decide +kernel
theorem dX7_inLowestTerms_0 : decode cX7_inLowestTerms 0 = .ok (.lload_n 0, 1) := by decide +kernel
theorem dX7_inLowestTerms_1 : decode cX7_inLowestTerms 1 = .ok (.lstore 5, 2) := by decide +kernel
theorem dX7_inLowestTerms_3 : decode cX7_inLowestTerms 3 = .ok (.lload_n 2, 1) := by decide +kernel
theorem dX7_inLowestTerms_4 : decode cX7_inLowestTerms 4 = .ok (.lstore 7, 2) := by decide +kernel
theorem dX7_inLowestTerms_6 : decode cX7_inLowestTerms 6 = .ok (.iconst 0, 1) := by decide +kernel
theorem dX7_inLowestTerms_7 : decode cX7_inLowestTerms 7 = .ok (.istore 9, 2) := by decide +kernel
theorem dX7_inLowestTerms_9 : decode cX7_inLowestTerms 9 = .ok (.iload 9, 2) := by decide +kernel
theorem dX7_inLowestTerms_11 : decode cX7_inLowestTerms 11 = .ok (.bipush 100, 2) := by decide +kernel
theorem dX7_inLowestTerms_13 : decode cX7_inLowestTerms 13 = .ok (.if_icmp .ge 31, 3) := by decide +kernel
theorem dX7_inLowestTerms_16 : decode cX7_inLowestTerms 16 = .ok (.lload 7, 2) := by decide +kernel
theorem dX7_inLowestTerms_18 : decode cX7_inLowestTerms 18 = .ok (.lconst 0, 1) := by decide +kernel
theorem dX7_inLowestTerms_19 : decode cX7_inLowestTerms 19 = .ok (.lcmp, 1) := by decide +kernel
theorem dX7_inLowestTerms_20 : decode cX7_inLowestTerms 20 = .ok (.ifCond .eq 24, 3) := by decide +kernel
theorem dX7_inLowestTerms_23 : decode cX7_inLowestTerms 23 = .ok (.lload 5, 2) := by decide +kernel
theorem dX7_inLowestTerms_25 : decode cX7_inLowestTerms 25 = .ok (.lload 7, 2) := by decide +kernel
theorem dX7_inLowestTerms_27 : decode cX7_inLowestTerms 27 = .ok (.lrem, 1) := by decide +kernel
theorem dX7_inLowestTerms_28 : decode cX7_inLowestTerms 28 = .ok (.lstore 10, 2) := by decide +kernel
theorem dX7_inLowestTerms_30 : decode cX7_inLowestTerms 30 = .ok (.lload 7, 2) := by decide +kernel
theorem dX7_inLowestTerms_32 : decode cX7_inLowestTerms 32 = .ok (.lstore 5, 2) := by decide +kernel
theorem dX7_inLowestTerms_34 : decode cX7_inLowestTerms 34 = .ok (.lload 10, 2) := by decide +kernel
theorem dX7_inLowestTerms_36 : decode cX7_inLowestTerms 36 = .ok (.lstore 7, 2) := by decide +kernel
theorem dX7_inLowestTerms_38 : decode cX7_inLowestTerms 38 = .ok (.iinc 9 1, 3) := by decide +kernel
theorem dX7_inLowestTerms_41 : decode cX7_inLowestTerms 41 = .ok (.goto (-32), 3) := by decide +kernel
theorem dX7_inLowestTerms_44 : decode cX7_inLowestTerms 44 = .ok (.lload 5, 2) := by decide +kernel
theorem dX7_inLowestTerms_46 : decode cX7_inLowestTerms 46 = .ok (.lconst 1, 1) := by decide +kernel
theorem dX7_inLowestTerms_47 : decode cX7_inLowestTerms 47 = .ok (.lcmp, 1) := by decide +kernel
theorem dX7_inLowestTerms_48 : decode cX7_inLowestTerms 48 = .ok (.ifCond .ge 7, 3) := by decide +kernel
theorem dX7_inLowestTerms_51 : decode cX7_inLowestTerms 51 = .ok (.ldc2_w 209, 3) := by decide +kernel
theorem dX7_inLowestTerms_54 : decode cX7_inLowestTerms 54 = .ok (.lreturn, 1) := by decide +kernel
theorem dX7_inLowestTerms_55 : decode cX7_inLowestTerms 55 = .ok (.iload 4, 2) := by decide +kernel
theorem dX7_inLowestTerms_57 : decode cX7_inLowestTerms 57 = .ok (.ifCond .ne 10, 3) := by decide +kernel
theorem dX7_inLowestTerms_60 : decode cX7_inLowestTerms 60 = .ok (.lload_n 0, 1) := by decide +kernel
theorem dX7_inLowestTerms_61 : decode cX7_inLowestTerms 61 = .ok (.lload 5, 2) := by decide +kernel
theorem dX7_inLowestTerms_63 : decode cX7_inLowestTerms 63 = .ok (.ldiv, 1) := by decide +kernel
theorem dX7_inLowestTerms_64 : decode cX7_inLowestTerms 64 = .ok (.goto 7, 3) := by decide +kernel
theorem dX7_inLowestTerms_67 : decode cX7_inLowestTerms 67 = .ok (.lload_n 2, 1) := by decide +kernel
theorem dX7_inLowestTerms_68 : decode cX7_inLowestTerms 68 = .ok (.lload 5, 2) := by decide +kernel
theorem dX7_inLowestTerms_70 : decode cX7_inLowestTerms 70 = .ok (.ldiv, 1) := by decide +kernel
theorem dX7_inLowestTerms_71 : decode cX7_inLowestTerms 71 = .ok (.lreturn, 1) := by decide +kernel
set_option maxRecDepth 20000 in
theorem ggX7_fittingShifts_X0_copy : GoodIn wsX7_fittingShifts wsX0_copy := goodIn_r _ [9, 10, 11, 12, 13, 14, 15, 16, 17, 18, 19, 20, 21, 22, 23, 24, 25, 26, 73, 74, 75, 76, 77, 78, 79, 80, 81, 82, 83, 84, 85] (by decide +kernel) (by decide +kernel)
set_option maxRecDepth 20000 in
theorem gX7_fittingShifts_X0_copy : GoodIn wsX7_fittingShifts (wsV RX7 85 RX0 yX0_copy wsX0_copy) := goodIn_app (goodIn_of _ (by decide +kernel)) ggX7_fittingShifts_X0_copy
set_option maxRecDepth 20000 in
theorem ggX7_fittingShifts_X3_fits : GoodIn wsX7_fittingShifts wsX3_fits := goodIn_r _ [31, 32, 33, 34, 35, 36, 37, 8, 38, 20, 39, 40, 41, 42, 24, 16, 43, 44, 45, 46, 47, 48, 49, 50, 51, 19, 21, 52, 53, 54, 55, 56, 57, 58, 59, 60, 61, 62, 63, 15, 10, 86, 87, 88, 73, 74, 75, 76, 77, 78, 79, 80, 81, 82, 83, 84, 85] (by decide +kernel) (by decide +kernel)
set_option maxRecDepth 20000 in
theorem gX7_fittingShifts_X3_fits : GoodIn wsX7_fittingShifts (wsV RX7 232 RX3 yX3_fits wsX3_fits) := goodIn_app (goodIn_of _ (by decide +kernel)) ggX7_fittingShifts_X3_fits
theorem dX7_fittingShifts_0 : decode cX7_fittingShifts 0 = .ok (.aload_n 0, 1) := by decide +kernel
theorem dX7_fittingShifts_1 : decode cX7_fittingShifts 1 = .ok (.getfield 16, 3) := by decide +kernel
theorem dX7_fittingShifts_4 : decode cX7_fittingShifts 4 = .ok (.aload_n 0, 1) := by decide +kernel
theorem dX7_fittingShifts_5 : decode cX7_fittingShifts 5 = .ok (.getfield 10, 3) := by decide +kernel
theorem dX7_fittingShifts_8 : decode cX7_fittingShifts 8 = .ok (.invokevirtual 85, 3) := by decide +kernel
theorem dX7_fittingShifts_11 : decode cX7_fittingShifts 11 = .ok (.iconst 0, 1) := by decide +kernel
theorem dX7_fittingShifts_12 : decode cX7_fittingShifts 12 = .ok (.istore_n 1, 1) := by decide +kernel
theorem dX7_fittingShifts_13 : decode cX7_fittingShifts 13 = .ok (.iconst 0, 1) := by decide +kernel
theorem dX7_fittingShifts_14 : decode cX7_fittingShifts 14 = .ok (.istore_n 2, 1) := by decide +kernel
theorem dX7_fittingShifts_15 : decode cX7_fittingShifts 15 = .ok (.iload_n 2, 1) := by decide +kernel
theorem dX7_fittingShifts_16 : decode cX7_fittingShifts 16 = .ok (.bipush 6, 2) := by decide +kernel
theorem dX7_fittingShifts_18 : decode cX7_fittingShifts 18 = .ok (.if_icmp .ge 37, 3) := by decide +kernel
theorem dX7_fittingShifts_21 : decode cX7_fittingShifts 21 = .ok (.aload_n 0, 1) := by decide +kernel
theorem dX7_fittingShifts_22 : decode cX7_fittingShifts 22 = .ok (.getfield 16, 3) := by decide +kernel
theorem dX7_fittingShifts_25 : decode cX7_fittingShifts 25 = .ok (.iload_n 2, 1) := by decide +kernel
theorem dX7_fittingShifts_26 : decode cX7_fittingShifts 26 = .ok (.putfield 99, 3) := by decide +kernel
theorem dX7_fittingShifts_29 : decode cX7_fittingShifts 29 = .ok (.aload_n 0, 1) := by decide +kernel
theorem dX7_fittingShifts_30 : decode cX7_fittingShifts 30 = .ok (.getfield 36, 3) := by decide +kernel
theorem dX7_fittingShifts_33 : decode cX7_fittingShifts 33 = .ok (.aload_n 0, 1) := by decide +kernel
theorem dX7_fittingShifts_34 : decode cX7_fittingShifts 34 = .ok (.getfield 16, 3) := by decide +kernel
theorem dX7_fittingShifts_37 : decode cX7_fittingShifts 37 = .ok (.invokevirtual 232, 3) := by decide +kernel
theorem dX7_fittingShifts_40 : decode cX7_fittingShifts 40 = .ok (.ifCond .eq 9, 3) := by decide +kernel
theorem dX7_fittingShifts_43 : decode cX7_fittingShifts 43 = .ok (.iload_n 1, 1) := by decide +kernel
theorem dX7_fittingShifts_44 : decode cX7_fittingShifts 44 = .ok (.iconst 1, 1) := by decide +kernel
theorem dX7_fittingShifts_45 : decode cX7_fittingShifts 45 = .ok (.iload_n 2, 1) := by decide +kernel
theorem dX7_fittingShifts_46 : decode cX7_fittingShifts 46 = .ok (.ishl, 1) := by decide +kernel
theorem dX7_fittingShifts_47 : decode cX7_fittingShifts 47 = .ok (.ior, 1) := by decide +kernel
theorem dX7_fittingShifts_48 : decode cX7_fittingShifts 48 = .ok (.istore_n 1, 1) := by decide +kernel
theorem dX7_fittingShifts_49 : decode cX7_fittingShifts 49 = .ok (.iinc 2 1, 3) := by decide +kernel
theorem dX7_fittingShifts_52 : decode cX7_fittingShifts 52 = .ok (.goto (-37), 3) := by decide +kernel
theorem dX7_fittingShifts_55 : decode cX7_fittingShifts 55 = .ok (.iload_n 1, 1) := by decide +kernel
theorem dX7_fittingShifts_56 : decode cX7_fittingShifts 56 = .ok (.ireturn, 1) := by decide +kernel
set_option maxRecDepth 20000 in
theorem ggX7_leftAtWorst_X7_frankByShift : GoodIn wsX7_leftAtWorst wsX7_frankByShift := goodIn_r _ [9, 10, 11, 12, 13, 14, 15, 16, 17, 18, 19, 2, 3, 4, 20, 21, 22, 23, 24, 25, 26, 27, 28, 29, 30, 31, 32, 33, 34, 35, 36, 37, 38, 39, 40, 41, 42, 43, 44, 45, 46, 47, 48, 49, 50, 51, 52, 53, 54, 55, 56, 57, 58, 59, 60, 61, 62, 63, 64, 65, 66] (by decide +kernel) (by decide +kernel)
set_option maxRecDepth 20000 in
theorem gX7_leftAtWorst_X7_frankByShift : GoodIn wsX7_leftAtWorst (wsV RX7 289 RX7 yX7_frankByShift wsX7_frankByShift) := goodIn_app (goodIn_of _ (by decide +kernel)) ggX7_leftAtWorst_X7_frankByShift
theorem dX7_leftAtWorst_0 : decode cX7_leftAtWorst 0 = .ok (.iconst 0, 1) := by decide +kernel
theorem dX7_leftAtWorst_1 : decode cX7_leftAtWorst 1 = .ok (.istore_n 3, 1) := by decide +kernel
theorem dX7_leftAtWorst_2 : decode cX7_leftAtWorst 2 = .ok (.iconst 0, 1) := by decide +kernel
theorem dX7_leftAtWorst_3 : decode cX7_leftAtWorst 3 = .ok (.istore 4, 2) := by decide +kernel
theorem dX7_leftAtWorst_5 : decode cX7_leftAtWorst 5 = .ok (.iload 4, 2) := by decide +kernel
theorem dX7_leftAtWorst_7 : decode cX7_leftAtWorst 7 = .ok (.bipush 6, 2) := by decide +kernel
theorem dX7_leftAtWorst_9 : decode cX7_leftAtWorst 9 = .ok (.if_icmp .ge 77, 3) := by decide +kernel
theorem dX7_leftAtWorst_12 : decode cX7_leftAtWorst 12 = .ok (.iload_n 1, 1) := by decide +kernel
theorem dX7_leftAtWorst_13 : decode cX7_leftAtWorst 13 = .ok (.iload 4, 2) := by decide +kernel
theorem dX7_leftAtWorst_15 : decode cX7_leftAtWorst 15 = .ok (.ishr, 1) := by decide +kernel
theorem dX7_leftAtWorst_16 : decode cX7_leftAtWorst 16 = .ok (.iconst 1, 1) := by decide +kernel
theorem dX7_leftAtWorst_17 : decode cX7_leftAtWorst 17 = .ok (.iand, 1) := by decide +kernel
theorem dX7_leftAtWorst_18 : decode cX7_leftAtWorst 18 = .ok (.ifCond .eq 62, 3) := by decide +kernel
theorem dX7_leftAtWorst_21 : decode cX7_leftAtWorst 21 = .ok (.aload_n 0, 1) := by decide +kernel
theorem dX7_leftAtWorst_22 : decode cX7_leftAtWorst 22 = .ok (.iload 4, 2) := by decide +kernel
theorem dX7_leftAtWorst_24 : decode cX7_leftAtWorst 24 = .ok (.iload_n 2, 1) := by decide +kernel
theorem dX7_leftAtWorst_25 : decode cX7_leftAtWorst 25 = .ok (.invokevirtual 289, 3) := by decide +kernel
theorem dX7_leftAtWorst_28 : decode cX7_leftAtWorst 28 = .ok (.istore 5, 2) := by decide +kernel
theorem dX7_leftAtWorst_30 : decode cX7_leftAtWorst 30 = .ok (.iconst 0, 1) := by decide +kernel
theorem dX7_leftAtWorst_31 : decode cX7_leftAtWorst 31 = .ok (.istore 6, 2) := by decide +kernel
theorem dX7_leftAtWorst_33 : decode cX7_leftAtWorst 33 = .ok (.iconst 0, 1) := by decide +kernel
theorem dX7_leftAtWorst_34 : decode cX7_leftAtWorst 34 = .ok (.istore 7, 2) := by decide +kernel
theorem dX7_leftAtWorst_36 : decode cX7_leftAtWorst 36 = .ok (.iload 7, 2) := by decide +kernel
theorem dX7_leftAtWorst_38 : decode cX7_leftAtWorst 38 = .ok (.bipush 6, 2) := by decide +kernel
theorem dX7_leftAtWorst_40 : decode cX7_leftAtWorst 40 = .ok (.if_icmp .ge 33, 3) := by decide +kernel
theorem dX7_leftAtWorst_43 : decode cX7_leftAtWorst 43 = .ok (.iload_n 1, 1) := by decide +kernel
theorem dX7_leftAtWorst_44 : decode cX7_leftAtWorst 44 = .ok (.iload 7, 2) := by decide +kernel
theorem dX7_leftAtWorst_46 : decode cX7_leftAtWorst 46 = .ok (.ishr, 1) := by decide +kernel
theorem dX7_leftAtWorst_47 : decode cX7_leftAtWorst 47 = .ok (.iconst 1, 1) := by decide +kernel
theorem dX7_leftAtWorst_48 : decode cX7_leftAtWorst 48 = .ok (.iand, 1) := by decide +kernel
theorem dX7_leftAtWorst_49 : decode cX7_leftAtWorst 49 = .ok (.ifCond .eq 18, 3) := by decide +kernel
theorem dX7_leftAtWorst_52 : decode cX7_leftAtWorst 52 = .ok (.aload_n 0, 1) := by decide +kernel
theorem dX7_leftAtWorst_53 : decode cX7_leftAtWorst 53 = .ok (.iload 7, 2) := by decide +kernel
theorem dX7_leftAtWorst_55 : decode cX7_leftAtWorst 55 = .ok (.iload_n 2, 1) := by decide +kernel
theorem dX7_leftAtWorst_56 : decode cX7_leftAtWorst 56 = .ok (.invokevirtual 289, 3) := by decide +kernel
theorem dX7_leftAtWorst_59 : decode cX7_leftAtWorst 59 = .ok (.iload 5, 2) := by decide +kernel
theorem dX7_leftAtWorst_61 : decode cX7_leftAtWorst 61 = .ok (.if_icmp .ne 6, 3) := by decide +kernel
theorem dX7_leftAtWorst_64 : decode cX7_leftAtWorst 64 = .ok (.iinc 6 1, 3) := by decide +kernel
theorem dX7_leftAtWorst_67 : decode cX7_leftAtWorst 67 = .ok (.iinc 7 1, 3) := by decide +kernel
theorem dX7_leftAtWorst_70 : decode cX7_leftAtWorst 70 = .ok (.goto (-34), 3) := by decide +kernel
theorem dX7_leftAtWorst_73 : decode cX7_leftAtWorst 73 = .ok (.iload_n 3, 1) := by decide +kernel
theorem dX7_leftAtWorst_74 : decode cX7_leftAtWorst 74 = .ok (.iload 6, 2) := by decide +kernel
theorem dX7_leftAtWorst_76 : decode cX7_leftAtWorst 76 = .ok (.invokestatic 292, 3) := by decide +kernel
theorem dX7_leftAtWorst_79 : decode cX7_leftAtWorst 79 = .ok (.istore_n 3, 1) := by decide +kernel
theorem dX7_leftAtWorst_80 : decode cX7_leftAtWorst 80 = .ok (.iinc 4 1, 3) := by decide +kernel
theorem dX7_leftAtWorst_83 : decode cX7_leftAtWorst 83 = .ok (.goto (-78), 3) := by decide +kernel
theorem dX7_leftAtWorst_86 : decode cX7_leftAtWorst 86 = .ok (.iload_n 3, 1) := by decide +kernel
theorem dX7_leftAtWorst_87 : decode cX7_leftAtWorst 87 = .ok (.ireturn, 1) := by decide +kernel
set_option maxRecDepth 20000 in
theorem ggX7_frankByShift_X0_frankAt : GoodIn wsX7_frankByShift wsX0_frankAt := goodIn_r _ [7, 8, 9, 10, 11, 12, 13, 14, 15, 16, 6, 17, 18, 19, 20, 21, 22, 23, 24, 25, 26, 27, 28, 29, 30, 31, 32, 33, 34, 35, 36, 37, 38, 48, 49, 50, 51, 52, 53, 54, 55, 56, 57, 58, 59, 60] (by decide +kernel) (by decide +kernel)
set_option maxRecDepth 20000 in
theorem gX7_frankByShift_X0_frankAt : GoodIn wsX7_frankByShift (wsV RX7 146 RX0 yX0_frankAt wsX0_frankAt) := goodIn_app (goodIn_of _ (by decide +kernel)) ggX7_frankByShift_X0_frankAt
theorem dX7_frankByShift_0 : decode cX7_frankByShift 0 = .ok (.aload_n 0, 1) := by decide +kernel
theorem dX7_frankByShift_1 : decode cX7_frankByShift 1 = .ok (.getfield 16, 3) := by decide +kernel
theorem dX7_frankByShift_4 : decode cX7_frankByShift 4 = .ok (.iload_n 1, 1) := by decide +kernel
theorem dX7_frankByShift_5 : decode cX7_frankByShift 5 = .ok (.putfield 99, 3) := by decide +kernel
theorem dX7_frankByShift_8 : decode cX7_frankByShift 8 = .ok (.aload_n 0, 1) := by decide +kernel
theorem dX7_frankByShift_9 : decode cX7_frankByShift 9 = .ok (.getfield 16, 3) := by decide +kernel
theorem dX7_frankByShift_12 : decode cX7_frankByShift 12 = .ok (.iload_n 2, 1) := by decide +kernel
theorem dX7_frankByShift_13 : decode cX7_frankByShift 13 = .ok (.invokevirtual 146, 3) := by decide +kernel
theorem dX7_frankByShift_16 : decode cX7_frankByShift 16 = .ok (.ireturn, 1) := by decide +kernel
theorem dX7_imageOf_0 : decode cX7_imageOf 0 = .ok (.iload_n 1, 1) := by decide +kernel
theorem dX7_imageOf_1 : decode cX7_imageOf 1 = .ok (.ifCond .lt 21, 3) := by decide +kernel
theorem dX7_imageOf_4 : decode cX7_imageOf 4 = .ok (.iload_n 1, 1) := by decide +kernel
theorem dX7_imageOf_5 : decode cX7_imageOf 5 = .ok (.aload_n 0, 1) := by decide +kernel
theorem dX7_imageOf_6 : decode cX7_imageOf 6 = .ok (.getfield 22, 3) := by decide +kernel
theorem dX7_imageOf_9 : decode cX7_imageOf 9 = .ok (.arraylength, 1) := by decide +kernel
theorem dX7_imageOf_10 : decode cX7_imageOf 10 = .ok (.if_icmp .ge 12, 3) := by decide +kernel
theorem dX7_imageOf_13 : decode cX7_imageOf 13 = .ok (.aload_n 0, 1) := by decide +kernel
theorem dX7_imageOf_14 : decode cX7_imageOf 14 = .ok (.getfield 22, 3) := by decide +kernel
theorem dX7_imageOf_17 : decode cX7_imageOf 17 = .ok (.iload_n 1, 1) := by decide +kernel
theorem dX7_imageOf_18 : decode cX7_imageOf 18 = .ok (.aaload, 1) := by decide +kernel
theorem dX7_imageOf_19 : decode cX7_imageOf 19 = .ok (.goto 4, 3) := by decide +kernel
theorem dX7_imageOf_22 : decode cX7_imageOf 22 = .ok (.aconst_null, 1) := by decide +kernel
theorem dX7_imageOf_23 : decode cX7_imageOf 23 = .ok (.areturn, 1) := by decide +kernel
theorem dX7_rowOf_0 : decode cX7_rowOf 0 = .ok (.iload_n 1, 1) := by decide +kernel
theorem dX7_rowOf_1 : decode cX7_rowOf 1 = .ok (.ifCond .lt 21, 3) := by decide +kernel
theorem dX7_rowOf_4 : decode cX7_rowOf 4 = .ok (.iload_n 1, 1) := by decide +kernel
theorem dX7_rowOf_5 : decode cX7_rowOf 5 = .ok (.aload_n 0, 1) := by decide +kernel
theorem dX7_rowOf_6 : decode cX7_rowOf 6 = .ok (.getfield 57, 3) := by decide +kernel
theorem dX7_rowOf_9 : decode cX7_rowOf 9 = .ok (.arraylength, 1) := by decide +kernel
theorem dX7_rowOf_10 : decode cX7_rowOf 10 = .ok (.if_icmp .ge 12, 3) := by decide +kernel
theorem dX7_rowOf_13 : decode cX7_rowOf 13 = .ok (.aload_n 0, 1) := by decide +kernel
theorem dX7_rowOf_14 : decode cX7_rowOf 14 = .ok (.getfield 57, 3) := by decide +kernel
theorem dX7_rowOf_17 : decode cX7_rowOf 17 = .ok (.iload_n 1, 1) := by decide +kernel
theorem dX7_rowOf_18 : decode cX7_rowOf 18 = .ok (.aaload, 1) := by decide +kernel
theorem dX7_rowOf_19 : decode cX7_rowOf 19 = .ok (.goto 4, 3) := by decide +kernel
theorem dX7_rowOf_22 : decode cX7_rowOf 22 = .ok (.aconst_null, 1) := by decide +kernel
theorem dX7_rowOf_23 : decode cX7_rowOf 23 = .ok (.areturn, 1) := by decide +kernel
set_option maxRecDepth 20000 in
theorem ggX7_loseImages_X7_imageOf : GoodIn wsX7_loseImages wsX7_imageOf := goodIn_r _ [7, 1, 8, 9, 10, 11, 12, 13, 14, 15, 16] (by decide +kernel) (by decide +kernel)
set_option maxRecDepth 20000 in
theorem gX7_loseImages_X7_imageOf : GoodIn wsX7_loseImages (wsV RX7 247 RX7 yX7_imageOf wsX7_imageOf) := goodIn_app (goodIn_of _ (by decide +kernel)) ggX7_loseImages_X7_imageOf
theorem dX7_loseImages_0 : decode cX7_loseImages 0 = .ok (.iconst 0, 1) := by decide +kernel
theorem dX7_loseImages_1 : decode cX7_loseImages 1 = .ok (.istore_n 1, 1) := by decide +kernel
theorem dX7_loseImages_2 : decode cX7_loseImages 2 = .ok (.iload_n 1, 1) := by decide +kernel
theorem dX7_loseImages_3 : decode cX7_loseImages 3 = .ok (.aload_n 0, 1) := by decide +kernel
theorem dX7_loseImages_4 : decode cX7_loseImages 4 = .ok (.getfield 22, 3) := by decide +kernel
theorem dX7_loseImages_7 : decode cX7_loseImages 7 = .ok (.arraylength, 1) := by decide +kernel
theorem dX7_loseImages_8 : decode cX7_loseImages 8 = .ok (.if_icmp .ge 24, 3) := by decide +kernel
theorem dX7_loseImages_11 : decode cX7_loseImages 11 = .ok (.aload_n 0, 1) := by decide +kernel
theorem dX7_loseImages_12 : decode cX7_loseImages 12 = .ok (.iload_n 1, 1) := by decide +kernel
theorem dX7_loseImages_13 : decode cX7_loseImages 13 = .ok (.invokevirtual 247, 3) := by decide +kernel
theorem dX7_loseImages_16 : decode cX7_loseImages 16 = .ok (.astore_n 2, 1) := by decide +kernel
theorem dX7_loseImages_17 : decode cX7_loseImages 17 = .ok (.aload_n 2, 1) := by decide +kernel
theorem dX7_loseImages_18 : decode cX7_loseImages 18 = .ok (.ifnull 8, 3) := by decide +kernel
theorem dX7_loseImages_21 : decode cX7_loseImages 21 = .ok (.aload_n 2, 1) := by decide +kernel
theorem dX7_loseImages_22 : decode cX7_loseImages 22 = .ok (.iconst 0, 1) := by decide +kernel
theorem dX7_loseImages_23 : decode cX7_loseImages 23 = .ok (.putfield 251, 3) := by decide +kernel
theorem dX7_loseImages_26 : decode cX7_loseImages 26 = .ok (.iinc 1 1, 3) := by decide +kernel
theorem dX7_loseImages_29 : decode cX7_loseImages 29 = .ok (.goto (-27), 3) := by decide +kernel
theorem dX7_loseImages_32 : decode cX7_loseImages 32 = .ok (.return_, 1) := by decide +kernel
set_option maxRecDepth 20000 in
theorem ggX7_imagesHeld_X7_imageOf : GoodIn wsX7_imagesHeld wsX7_imageOf := goodIn_r _ [7, 1, 8, 9, 10, 11, 12, 13, 14, 15, 16] (by decide +kernel) (by decide +kernel)
set_option maxRecDepth 20000 in
theorem gX7_imagesHeld_X7_imageOf : GoodIn wsX7_imagesHeld (wsV RX7 247 RX7 yX7_imageOf wsX7_imageOf) := goodIn_app (goodIn_of _ (by decide +kernel)) ggX7_imagesHeld_X7_imageOf
theorem dX7_imagesHeld_0 : decode cX7_imagesHeld 0 = .ok (.iconst 0, 1) := by decide +kernel
theorem dX7_imagesHeld_1 : decode cX7_imagesHeld 1 = .ok (.istore_n 1, 1) := by decide +kernel
theorem dX7_imagesHeld_2 : decode cX7_imagesHeld 2 = .ok (.iconst 0, 1) := by decide +kernel
theorem dX7_imagesHeld_3 : decode cX7_imagesHeld 3 = .ok (.istore_n 2, 1) := by decide +kernel
theorem dX7_imagesHeld_4 : decode cX7_imagesHeld 4 = .ok (.iload_n 2, 1) := by decide +kernel
theorem dX7_imagesHeld_5 : decode cX7_imagesHeld 5 = .ok (.aload_n 0, 1) := by decide +kernel
theorem dX7_imagesHeld_6 : decode cX7_imagesHeld 6 = .ok (.getfield 22, 3) := by decide +kernel
theorem dX7_imagesHeld_9 : decode cX7_imagesHeld 9 = .ok (.arraylength, 1) := by decide +kernel
theorem dX7_imagesHeld_10 : decode cX7_imagesHeld 10 = .ok (.if_icmp .ge 29, 3) := by decide +kernel
theorem dX7_imagesHeld_13 : decode cX7_imagesHeld 13 = .ok (.aload_n 0, 1) := by decide +kernel
theorem dX7_imagesHeld_14 : decode cX7_imagesHeld 14 = .ok (.iload_n 2, 1) := by decide +kernel
theorem dX7_imagesHeld_15 : decode cX7_imagesHeld 15 = .ok (.invokevirtual 247, 3) := by decide +kernel
theorem dX7_imagesHeld_18 : decode cX7_imagesHeld 18 = .ok (.astore_n 3, 1) := by decide +kernel
theorem dX7_imagesHeld_19 : decode cX7_imagesHeld 19 = .ok (.aload_n 3, 1) := by decide +kernel
theorem dX7_imagesHeld_20 : decode cX7_imagesHeld 20 = .ok (.ifnull 13, 3) := by decide +kernel
theorem dX7_imagesHeld_23 : decode cX7_imagesHeld 23 = .ok (.aload_n 3, 1) := by decide +kernel
theorem dX7_imagesHeld_24 : decode cX7_imagesHeld 24 = .ok (.getfield 251, 3) := by decide +kernel
theorem dX7_imagesHeld_27 : decode cX7_imagesHeld 27 = .ok (.ifCond .eq 6, 3) := by decide +kernel
theorem dX7_imagesHeld_30 : decode cX7_imagesHeld 30 = .ok (.iinc 1 1, 3) := by decide +kernel
theorem dX7_imagesHeld_33 : decode cX7_imagesHeld 33 = .ok (.iinc 2 1, 3) := by decide +kernel
theorem dX7_imagesHeld_36 : decode cX7_imagesHeld 36 = .ok (.goto (-32), 3) := by decide +kernel
theorem dX7_imagesHeld_39 : decode cX7_imagesHeld 39 = .ok (.iload_n 1, 1) := by decide +kernel
theorem dX7_imagesHeld_40 : decode cX7_imagesHeld 40 = .ok (.ireturn, 1) := by decide +kernel
set_option maxRecDepth 20000 in
theorem ggX7_cellsOfFirst_X7_rowOf : GoodIn wsX7_cellsOfFirst wsX7_rowOf := goodIn_r _ [7, 8, 12, 13, 14, 15, 16, 17, 18, 19, 20] (by decide +kernel) (by decide +kernel)
set_option maxRecDepth 20000 in
theorem gX7_cellsOfFirst_X7_rowOf : GoodIn wsX7_cellsOfFirst (wsV RX7 256 RX7 yX7_rowOf wsX7_rowOf) := goodIn_app (goodIn_of _ (by decide +kernel)) ggX7_cellsOfFirst_X7_rowOf
theorem dX7_cellsOfFirst_0 : decode cX7_cellsOfFirst 0 = .ok (.aload_n 0, 1) := by decide +kernel
theorem dX7_cellsOfFirst_1 : decode cX7_cellsOfFirst 1 = .ok (.iconst 0, 1) := by decide +kernel
theorem dX7_cellsOfFirst_2 : decode cX7_cellsOfFirst 2 = .ok (.invokevirtual 256, 3) := by decide +kernel
theorem dX7_cellsOfFirst_5 : decode cX7_cellsOfFirst 5 = .ok (.astore_n 1, 1) := by decide +kernel
theorem dX7_cellsOfFirst_6 : decode cX7_cellsOfFirst 6 = .ok (.aload_n 1, 1) := by decide +kernel
theorem dX7_cellsOfFirst_7 : decode cX7_cellsOfFirst 7 = .ok (.ifnull 12, 3) := by decide +kernel
theorem dX7_cellsOfFirst_10 : decode cX7_cellsOfFirst 10 = .ok (.aload_n 1, 1) := by decide +kernel
theorem dX7_cellsOfFirst_11 : decode cX7_cellsOfFirst 11 = .ok (.getfield 263, 3) := by decide +kernel
theorem dX7_cellsOfFirst_14 : decode cX7_cellsOfFirst 14 = .ok (.bipush (-4), 2) := by decide +kernel
theorem dX7_cellsOfFirst_16 : decode cX7_cellsOfFirst 16 = .ok (.if_icmp .ne 8, 3) := by decide +kernel
theorem dX7_cellsOfFirst_19 : decode cX7_cellsOfFirst 19 = .ok (.bipush (-4), 2) := by decide +kernel
theorem dX7_cellsOfFirst_21 : decode cX7_cellsOfFirst 21 = .ok (.goto 7, 3) := by decide +kernel
theorem dX7_cellsOfFirst_24 : decode cX7_cellsOfFirst 24 = .ok (.aload_n 1, 1) := by decide +kernel
theorem dX7_cellsOfFirst_25 : decode cX7_cellsOfFirst 25 = .ok (.getfield 297, 3) := by decide +kernel
theorem dX7_cellsOfFirst_28 : decode cX7_cellsOfFirst 28 = .ok (.ireturn, 1) := by decide +kernel

theorem dJ6_bitCount_0f7a4_0 : decode cJ6_bitCount_0f7a4 0 = .ok (.iload_n 0, 1) := by decide +kernel
theorem dJ6_bitCount_0f7a4_1 : decode cJ6_bitCount_0f7a4 1 = .ok (.iload_n 0, 1) := by decide +kernel
theorem dJ6_bitCount_0f7a4_2 : decode cJ6_bitCount_0f7a4 2 = .ok (.iconst 1, 1) := by decide +kernel
theorem dJ6_bitCount_0f7a4_3 : decode cJ6_bitCount_0f7a4 3 = .ok (.iushr, 1) := by decide +kernel
theorem dJ6_bitCount_0f7a4_4 : decode cJ6_bitCount_0f7a4 4 = .ok (.ldc_w 265, 3) := by decide +kernel
theorem dJ6_bitCount_0f7a4_7 : decode cJ6_bitCount_0f7a4 7 = .ok (.iand, 1) := by decide +kernel
theorem dJ6_bitCount_0f7a4_8 : decode cJ6_bitCount_0f7a4 8 = .ok (.isub, 1) := by decide +kernel
theorem dJ6_bitCount_0f7a4_9 : decode cJ6_bitCount_0f7a4 9 = .ok (.istore_n 0, 1) := by decide +kernel
theorem dJ6_bitCount_0f7a4_10 : decode cJ6_bitCount_0f7a4 10 = .ok (.iload_n 0, 1) := by decide +kernel
theorem dJ6_bitCount_0f7a4_11 : decode cJ6_bitCount_0f7a4 11 = .ok (.ldc_w 266, 3) := by decide +kernel
theorem dJ6_bitCount_0f7a4_14 : decode cJ6_bitCount_0f7a4 14 = .ok (.iand, 1) := by decide +kernel
theorem dJ6_bitCount_0f7a4_15 : decode cJ6_bitCount_0f7a4 15 = .ok (.iload_n 0, 1) := by decide +kernel
theorem dJ6_bitCount_0f7a4_16 : decode cJ6_bitCount_0f7a4 16 = .ok (.iconst 2, 1) := by decide +kernel
theorem dJ6_bitCount_0f7a4_17 : decode cJ6_bitCount_0f7a4 17 = .ok (.iushr, 1) := by decide +kernel
theorem dJ6_bitCount_0f7a4_18 : decode cJ6_bitCount_0f7a4 18 = .ok (.ldc_w 266, 3) := by decide +kernel
theorem dJ6_bitCount_0f7a4_21 : decode cJ6_bitCount_0f7a4 21 = .ok (.iand, 1) := by decide +kernel
theorem dJ6_bitCount_0f7a4_22 : decode cJ6_bitCount_0f7a4 22 = .ok (.iadd, 1) := by decide +kernel
theorem dJ6_bitCount_0f7a4_23 : decode cJ6_bitCount_0f7a4 23 = .ok (.istore_n 0, 1) := by decide +kernel
theorem dJ6_bitCount_0f7a4_24 : decode cJ6_bitCount_0f7a4 24 = .ok (.iload_n 0, 1) := by decide +kernel
theorem dJ6_bitCount_0f7a4_25 : decode cJ6_bitCount_0f7a4 25 = .ok (.iload_n 0, 1) := by decide +kernel
theorem dJ6_bitCount_0f7a4_26 : decode cJ6_bitCount_0f7a4 26 = .ok (.iconst 4, 1) := by decide +kernel
theorem dJ6_bitCount_0f7a4_27 : decode cJ6_bitCount_0f7a4 27 = .ok (.iushr, 1) := by decide +kernel
theorem dJ6_bitCount_0f7a4_28 : decode cJ6_bitCount_0f7a4 28 = .ok (.iadd, 1) := by decide +kernel
theorem dJ6_bitCount_0f7a4_29 : decode cJ6_bitCount_0f7a4 29 = .ok (.ldc_w 267, 3) := by decide +kernel
theorem dJ6_bitCount_0f7a4_32 : decode cJ6_bitCount_0f7a4 32 = .ok (.iand, 1) := by decide +kernel
theorem dJ6_bitCount_0f7a4_33 : decode cJ6_bitCount_0f7a4 33 = .ok (.istore_n 0, 1) := by decide +kernel
theorem dJ6_bitCount_0f7a4_34 : decode cJ6_bitCount_0f7a4 34 = .ok (.iload_n 0, 1) := by decide +kernel
theorem dJ6_bitCount_0f7a4_35 : decode cJ6_bitCount_0f7a4 35 = .ok (.iload_n 0, 1) := by decide +kernel
theorem dJ6_bitCount_0f7a4_36 : decode cJ6_bitCount_0f7a4 36 = .ok (.bipush 8, 2) := by decide +kernel
theorem dJ6_bitCount_0f7a4_38 : decode cJ6_bitCount_0f7a4 38 = .ok (.iushr, 1) := by decide +kernel
theorem dJ6_bitCount_0f7a4_39 : decode cJ6_bitCount_0f7a4 39 = .ok (.iadd, 1) := by decide +kernel
theorem dJ6_bitCount_0f7a4_40 : decode cJ6_bitCount_0f7a4 40 = .ok (.istore_n 0, 1) := by decide +kernel
theorem dJ6_bitCount_0f7a4_41 : decode cJ6_bitCount_0f7a4 41 = .ok (.iload_n 0, 1) := by decide +kernel
theorem dJ6_bitCount_0f7a4_42 : decode cJ6_bitCount_0f7a4 42 = .ok (.iload_n 0, 1) := by decide +kernel
theorem dJ6_bitCount_0f7a4_43 : decode cJ6_bitCount_0f7a4 43 = .ok (.bipush 16, 2) := by decide +kernel
theorem dJ6_bitCount_0f7a4_45 : decode cJ6_bitCount_0f7a4 45 = .ok (.iushr, 1) := by decide +kernel
theorem dJ6_bitCount_0f7a4_46 : decode cJ6_bitCount_0f7a4 46 = .ok (.iadd, 1) := by decide +kernel
theorem dJ6_bitCount_0f7a4_47 : decode cJ6_bitCount_0f7a4 47 = .ok (.istore_n 0, 1) := by decide +kernel
theorem dJ6_bitCount_0f7a4_48 : decode cJ6_bitCount_0f7a4 48 = .ok (.iload_n 0, 1) := by decide +kernel
theorem dJ6_bitCount_0f7a4_49 : decode cJ6_bitCount_0f7a4 49 = .ok (.bipush 63, 2) := by decide +kernel
theorem dJ6_bitCount_0f7a4_51 : decode cJ6_bitCount_0f7a4 51 = .ok (.iand, 1) := by decide +kernel
theorem dJ6_bitCount_0f7a4_52 : decode cJ6_bitCount_0f7a4 52 = .ok (.ireturn, 1) := by decide +kernel
theorem dJ9_floorMod_7cf53_0 : decode cJ9_floorMod_7cf53 0 = .ok (.iload_n 0, 1) := by decide +kernel
theorem dJ9_floorMod_7cf53_1 : decode cJ9_floorMod_7cf53 1 = .ok (.iload_n 1, 1) := by decide +kernel
theorem dJ9_floorMod_7cf53_2 : decode cJ9_floorMod_7cf53 2 = .ok (.irem, 1) := by decide +kernel
theorem dJ9_floorMod_7cf53_3 : decode cJ9_floorMod_7cf53 3 = .ok (.istore_n 2, 1) := by decide +kernel
theorem dJ9_floorMod_7cf53_4 : decode cJ9_floorMod_7cf53 4 = .ok (.iload_n 0, 1) := by decide +kernel
theorem dJ9_floorMod_7cf53_5 : decode cJ9_floorMod_7cf53 5 = .ok (.iload_n 1, 1) := by decide +kernel
theorem dJ9_floorMod_7cf53_6 : decode cJ9_floorMod_7cf53 6 = .ok (.ixor, 1) := by decide +kernel
theorem dJ9_floorMod_7cf53_7 : decode cJ9_floorMod_7cf53 7 = .ok (.ifCond .ge 11, 3) := by decide +kernel
theorem dJ9_floorMod_7cf53_10 : decode cJ9_floorMod_7cf53 10 = .ok (.iload_n 2, 1) := by decide +kernel
theorem dJ9_floorMod_7cf53_11 : decode cJ9_floorMod_7cf53 11 = .ok (.ifCond .eq 7, 3) := by decide +kernel
theorem dJ9_floorMod_7cf53_14 : decode cJ9_floorMod_7cf53 14 = .ok (.iload_n 2, 1) := by decide +kernel
theorem dJ9_floorMod_7cf53_15 : decode cJ9_floorMod_7cf53 15 = .ok (.iload_n 1, 1) := by decide +kernel
theorem dJ9_floorMod_7cf53_16 : decode cJ9_floorMod_7cf53 16 = .ok (.iadd, 1) := by decide +kernel
theorem dJ9_floorMod_7cf53_17 : decode cJ9_floorMod_7cf53 17 = .ok (.ireturn, 1) := by decide +kernel
theorem dJ9_floorMod_7cf53_18 : decode cJ9_floorMod_7cf53 18 = .ok (.iload_n 2, 1) := by decide +kernel
theorem dJ9_floorMod_7cf53_19 : decode cJ9_floorMod_7cf53 19 = .ok (.ireturn, 1) := by decide +kernel
theorem dJ9_abs_0f7a4_0 : decode cJ9_abs_0f7a4 0 = .ok (.iload_n 0, 1) := by decide +kernel
theorem dJ9_abs_0f7a4_1 : decode cJ9_abs_0f7a4 1 = .ok (.ifCond .ge 8, 3) := by decide +kernel
theorem dJ9_abs_0f7a4_4 : decode cJ9_abs_0f7a4 4 = .ok (.iload_n 0, 1) := by decide +kernel
theorem dJ9_abs_0f7a4_5 : decode cJ9_abs_0f7a4 5 = .ok (.ineg, 1) := by decide +kernel
theorem dJ9_abs_0f7a4_6 : decode cJ9_abs_0f7a4 6 = .ok (.goto 4, 3) := by decide +kernel
theorem dJ9_abs_0f7a4_9 : decode cJ9_abs_0f7a4 9 = .ok (.iload_n 0, 1) := by decide +kernel
theorem dJ9_abs_0f7a4_10 : decode cJ9_abs_0f7a4 10 = .ok (.ireturn, 1) := by decide +kernel
theorem dJ9_max_7cf53_0 : decode cJ9_max_7cf53 0 = .ok (.iload_n 0, 1) := by decide +kernel
theorem dJ9_max_7cf53_1 : decode cJ9_max_7cf53 1 = .ok (.iload_n 1, 1) := by decide +kernel
theorem dJ9_max_7cf53_2 : decode cJ9_max_7cf53 2 = .ok (.if_icmp .lt 7, 3) := by decide +kernel
theorem dJ9_max_7cf53_5 : decode cJ9_max_7cf53 5 = .ok (.iload_n 0, 1) := by decide +kernel
theorem dJ9_max_7cf53_6 : decode cJ9_max_7cf53 6 = .ok (.goto 4, 3) := by decide +kernel
theorem dJ9_max_7cf53_9 : decode cJ9_max_7cf53 9 = .ok (.iload_n 1, 1) := by decide +kernel
theorem dJ9_max_7cf53_10 : decode cJ9_max_7cf53 10 = .ok (.ireturn, 1) := by decide +kernel
theorem dJ9_min_7cf53_0 : decode cJ9_min_7cf53 0 = .ok (.iload_n 0, 1) := by decide +kernel
theorem dJ9_min_7cf53_1 : decode cJ9_min_7cf53 1 = .ok (.iload_n 1, 1) := by decide +kernel
theorem dJ9_min_7cf53_2 : decode cJ9_min_7cf53 2 = .ok (.if_icmp .gt 7, 3) := by decide +kernel
theorem dJ9_min_7cf53_5 : decode cJ9_min_7cf53 5 = .ok (.iload_n 0, 1) := by decide +kernel
theorem dJ9_min_7cf53_6 : decode cJ9_min_7cf53 6 = .ok (.goto 4, 3) := by decide +kernel
theorem dJ9_min_7cf53_9 : decode cJ9_min_7cf53 9 = .ok (.iload_n 1, 1) := by decide +kernel
theorem dJ9_min_7cf53_10 : decode cJ9_min_7cf53 10 = .ok (.ireturn, 1) := by decide +kernel
set_option maxRecDepth 20000 in
theorem ggJ0_length_8abf5_J0_coder_7d493 : GoodIn wsJ0_length_8abf5 wsJ0_coder_7d493 := goodIn_r _ [6, 7, 8] (by decide +kernel) (by decide +kernel)
set_option maxRecDepth 20000 in
theorem gJ0_length_8abf5_J0_coder_7d493 : GoodIn wsJ0_length_8abf5 (wsV RJ0 335 RJ0 yJ0_coder_7d493 wsJ0_coder_7d493) := goodIn_app (goodIn_of _ (by decide +kernel)) ggJ0_length_8abf5_J0_coder_7d493
theorem dJ0_length_8abf5_0 : decode cJ0_length_8abf5 0 = .ok (.aload_n 0, 1) := by decide +kernel
theorem dJ0_length_8abf5_1 : decode cJ0_length_8abf5 1 = .ok (.getfield 9, 3) := by decide +kernel
theorem dJ0_length_8abf5_4 : decode cJ0_length_8abf5 4 = .ok (.arraylength, 1) := by decide +kernel
theorem dJ0_length_8abf5_5 : decode cJ0_length_8abf5 5 = .ok (.aload_n 0, 1) := by decide +kernel
theorem dJ0_length_8abf5_6 : decode cJ0_length_8abf5 6 = .ok (.invokevirtual 335, 3) := by decide +kernel
theorem dJ0_length_8abf5_9 : decode cJ0_length_8abf5 9 = .ok (.ishr, 1) := by decide +kernel
theorem dJ0_length_8abf5_10 : decode cJ0_length_8abf5 10 = .ok (.ireturn, 1) := by decide +kernel
set_option maxRecDepth 20000 in
theorem ggJ0_charAt_5068e_J0_isLatin1_aae02 : GoodIn wsJ0_charAt_5068e wsJ0_isLatin1_aae02 := goodIn_r _ [6, 7, 8] (by decide +kernel) (by decide +kernel)
set_option maxRecDepth 20000 in
theorem gJ0_charAt_5068e_J0_isLatin1_aae02 : GoodIn wsJ0_charAt_5068e (wsV RJ0 492 RJ0 yJ0_isLatin1_aae02 wsJ0_isLatin1_aae02) := goodIn_app (goodIn_of _ (by decide +kernel)) ggJ0_charAt_5068e_J0_isLatin1_aae02
set_option maxRecDepth 20000 in
theorem ggJ0_charAt_5068e_J1_charAt_3b067 : GoodIn wsJ0_charAt_5068e wsJ1_charAt_3b067 := goodIn_r _ [12, 13, 14, 5, 15, 16, 17, 18, 19, 20] (by decide +kernel) (by decide +kernel)
set_option maxRecDepth 20000 in
theorem gJ0_charAt_5068e_J1_charAt_3b067 : GoodIn wsJ0_charAt_5068e (va_wsS RJ0 495 yJ1_charAt_3b067 wsJ1_charAt_3b067) := goodIn_app (goodIn_of _ (by decide +kernel)) ggJ0_charAt_5068e_J1_charAt_3b067
set_option maxRecDepth 20000 in
theorem ggJ0_charAt_5068e_J2_charAt_3b067 : GoodIn wsJ0_charAt_5068e wsJ2_charAt_3b067 := goodIn_r _ [24, 25, 26, 23, 27, 28, 29, 30, 31, 14, 5, 15, 16, 17, 18, 19, 20, 32, 33, 34, 35, 36, 37] (by decide +kernel) (by decide +kernel)
set_option maxRecDepth 20000 in
theorem gJ0_charAt_5068e_J2_charAt_3b067 : GoodIn wsJ0_charAt_5068e (va_wsS RJ0 498 yJ2_charAt_3b067 wsJ2_charAt_3b067) := goodIn_app (goodIn_of _ (by decide +kernel)) ggJ0_charAt_5068e_J2_charAt_3b067
theorem dJ0_charAt_5068e_0 : decode cJ0_charAt_5068e 0 = .ok (.aload_n 0, 1) := by decide +kernel
theorem dJ0_charAt_5068e_1 : decode cJ0_charAt_5068e 1 = .ok (.invokevirtual 492, 3) := by decide +kernel
theorem dJ0_charAt_5068e_4 : decode cJ0_charAt_5068e 4 = .ok (.ifCond .eq 12, 3) := by decide +kernel
theorem dJ0_charAt_5068e_7 : decode cJ0_charAt_5068e 7 = .ok (.aload_n 0, 1) := by decide +kernel
theorem dJ0_charAt_5068e_8 : decode cJ0_charAt_5068e 8 = .ok (.getfield 9, 3) := by decide +kernel
theorem dJ0_charAt_5068e_11 : decode cJ0_charAt_5068e 11 = .ok (.iload_n 1, 1) := by decide +kernel
theorem dJ0_charAt_5068e_12 : decode cJ0_charAt_5068e 12 = .ok (.invokestatic 495, 3) := by decide +kernel
theorem dJ0_charAt_5068e_15 : decode cJ0_charAt_5068e 15 = .ok (.ireturn, 1) := by decide +kernel
theorem dJ0_charAt_5068e_16 : decode cJ0_charAt_5068e 16 = .ok (.aload_n 0, 1) := by decide +kernel
theorem dJ0_charAt_5068e_17 : decode cJ0_charAt_5068e 17 = .ok (.getfield 9, 3) := by decide +kernel
theorem dJ0_charAt_5068e_20 : decode cJ0_charAt_5068e 20 = .ok (.iload_n 1, 1) := by decide +kernel
theorem dJ0_charAt_5068e_21 : decode cJ0_charAt_5068e 21 = .ok (.invokestatic 498, 3) := by decide +kernel
theorem dJ0_charAt_5068e_24 : decode cJ0_charAt_5068e 24 = .ok (.ireturn, 1) := by decide +kernel
theorem dJ0_coder_7d493_0 : decode cJ0_coder_7d493 0 = .ok (.getstatic 38, 3) := by decide +kernel
theorem dJ0_coder_7d493_3 : decode cJ0_coder_7d493 3 = .ok (.ifCond .eq 10, 3) := by decide +kernel
theorem dJ0_coder_7d493_6 : decode cJ0_coder_7d493 6 = .ok (.aload_n 0, 1) := by decide +kernel
theorem dJ0_coder_7d493_7 : decode cJ0_coder_7d493 7 = .ok (.getfield 15, 3) := by decide +kernel
theorem dJ0_coder_7d493_10 : decode cJ0_coder_7d493 10 = .ok (.goto 4, 3) := by decide +kernel
theorem dJ0_coder_7d493_13 : decode cJ0_coder_7d493 13 = .ok (.iconst 1, 1) := by decide +kernel
theorem dJ0_coder_7d493_14 : decode cJ0_coder_7d493 14 = .ok (.ireturn, 1) := by decide +kernel
theorem dJ0_isLatin1_aae02_0 : decode cJ0_isLatin1_aae02 0 = .ok (.getstatic 38, 3) := by decide +kernel
theorem dJ0_isLatin1_aae02_3 : decode cJ0_isLatin1_aae02 3 = .ok (.ifCond .eq 14, 3) := by decide +kernel
theorem dJ0_isLatin1_aae02_6 : decode cJ0_isLatin1_aae02 6 = .ok (.aload_n 0, 1) := by decide +kernel
theorem dJ0_isLatin1_aae02_7 : decode cJ0_isLatin1_aae02 7 = .ok (.getfield 15, 3) := by decide +kernel
theorem dJ0_isLatin1_aae02_10 : decode cJ0_isLatin1_aae02 10 = .ok (.ifCond .ne 7, 3) := by decide +kernel
theorem dJ0_isLatin1_aae02_13 : decode cJ0_isLatin1_aae02 13 = .ok (.iconst 1, 1) := by decide +kernel
theorem dJ0_isLatin1_aae02_14 : decode cJ0_isLatin1_aae02 14 = .ok (.goto 4, 3) := by decide +kernel
theorem dJ0_isLatin1_aae02_17 : decode cJ0_isLatin1_aae02 17 = .ok (.iconst 0, 1) := by decide +kernel
theorem dJ0_isLatin1_aae02_18 : decode cJ0_isLatin1_aae02 18 = .ok (.ireturn, 1) := by decide +kernel
set_option maxRecDepth 20000 in
theorem ggJ0_checkIndex_df160_J3_checkIndex_8e157 : GoodIn wsJ0_checkIndex_df160 wsJ3_checkIndex_8e157 := goodIn_r _ [5] (by decide +kernel) (by decide +kernel)
set_option maxRecDepth 20000 in
theorem gJ0_checkIndex_df160_J3_checkIndex_8e157 : GoodIn wsJ0_checkIndex_df160 (va_wsS RJ0 1059 yJ3_checkIndex_8e157 wsJ3_checkIndex_8e157) := goodIn_app (goodIn_of _ (by decide +kernel)) ggJ0_checkIndex_df160_J3_checkIndex_8e157
theorem dJ0_checkIndex_df160_0 : decode cJ0_checkIndex_df160 0 = .ok (.iload_n 0, 1) := by decide +kernel
theorem dJ0_checkIndex_df160_1 : decode cJ0_checkIndex_df160 1 = .ok (.iload_n 1, 1) := by decide +kernel
theorem dJ0_checkIndex_df160_2 : decode cJ0_checkIndex_df160 2 = .ok (.getstatic 1053, 3) := by decide +kernel
theorem dJ0_checkIndex_df160_5 : decode cJ0_checkIndex_df160 5 = .ok (.invokestatic 1059, 3) := by decide +kernel
theorem dJ0_checkIndex_df160_8 : decode cJ0_checkIndex_df160 8 = .ok (.pop, 1) := by decide +kernel
theorem dJ0_checkIndex_df160_9 : decode cJ0_checkIndex_df160 9 = .ok (.return_, 1) := by decide +kernel
set_option maxRecDepth 20000 in
theorem ggJ1_charAt_3b067_J0_checkIndex_df160 : GoodIn wsJ1_charAt_3b067 wsJ0_checkIndex_df160 := goodIn_r _ [4, 5, 6, 7, 8, 9] (by decide +kernel) (by decide +kernel)
set_option maxRecDepth 20000 in
theorem gJ1_charAt_3b067_J0_checkIndex_df160 : GoodIn wsJ1_charAt_3b067 (va_wsS RJ1 9 yJ0_checkIndex_df160 wsJ0_checkIndex_df160) := goodIn_app (goodIn_of _ (by decide +kernel)) ggJ1_charAt_3b067_J0_checkIndex_df160
theorem dJ1_charAt_3b067_0 : decode cJ1_charAt_3b067 0 = .ok (.iload_n 1, 1) := by decide +kernel
theorem dJ1_charAt_3b067_1 : decode cJ1_charAt_3b067 1 = .ok (.aload_n 0, 1) := by decide +kernel
theorem dJ1_charAt_3b067_2 : decode cJ1_charAt_3b067 2 = .ok (.arraylength, 1) := by decide +kernel
theorem dJ1_charAt_3b067_3 : decode cJ1_charAt_3b067 3 = .ok (.invokestatic 9, 3) := by decide +kernel
theorem dJ1_charAt_3b067_6 : decode cJ1_charAt_3b067 6 = .ok (.aload_n 0, 1) := by decide +kernel
theorem dJ1_charAt_3b067_7 : decode cJ1_charAt_3b067 7 = .ok (.iload_n 1, 1) := by decide +kernel
theorem dJ1_charAt_3b067_8 : decode cJ1_charAt_3b067 8 = .ok (.baload, 1) := by decide +kernel
theorem dJ1_charAt_3b067_9 : decode cJ1_charAt_3b067 9 = .ok (.sipush 255, 3) := by decide +kernel
theorem dJ1_charAt_3b067_12 : decode cJ1_charAt_3b067 12 = .ok (.iand, 1) := by decide +kernel
theorem dJ1_charAt_3b067_13 : decode cJ1_charAt_3b067 13 = .ok (.i2c, 1) := by decide +kernel
theorem dJ1_charAt_3b067_14 : decode cJ1_charAt_3b067 14 = .ok (.ireturn, 1) := by decide +kernel
set_option maxRecDepth 20000 in
theorem ggJ2_getChar_3b067_J2_length_9d52b : GoodIn wsJ2_getChar_3b067 wsJ2_length_9d52b := goodIn_r _ [7] (by decide +kernel) (by decide +kernel)
set_option maxRecDepth 20000 in
theorem gJ2_getChar_3b067_J2_length_9d52b : GoodIn wsJ2_getChar_3b067 (va_wsS RJ2 48 yJ2_length_9d52b wsJ2_length_9d52b) := goodIn_app (goodIn_of _ (by decide +kernel)) ggJ2_getChar_3b067_J2_length_9d52b
theorem dJ2_getChar_3b067_0 : decode cJ2_getChar_3b067 0 = .ok (.getstatic 44, 3) := by decide +kernel
theorem dJ2_getChar_3b067_3 : decode cJ2_getChar_3b067 3 = .ok (.ifCond .ne 25, 3) := by decide +kernel
theorem dJ2_getChar_3b067_6 : decode cJ2_getChar_3b067 6 = .ok (.iload_n 1, 1) := by decide +kernel
theorem dJ2_getChar_3b067_7 : decode cJ2_getChar_3b067 7 = .ok (.ifCond .lt 11, 3) := by decide +kernel
theorem dJ2_getChar_3b067_10 : decode cJ2_getChar_3b067 10 = .ok (.iload_n 1, 1) := by decide +kernel
theorem dJ2_getChar_3b067_11 : decode cJ2_getChar_3b067 11 = .ok (.aload_n 0, 1) := by decide +kernel
theorem dJ2_getChar_3b067_12 : decode cJ2_getChar_3b067 12 = .ok (.invokestatic 48, 3) := by decide +kernel
theorem dJ2_getChar_3b067_15 : decode cJ2_getChar_3b067 15 = .ok (.if_icmp .lt 13, 3) := by decide +kernel
theorem dJ2_getChar_3b067_18 : decode cJ2_getChar_3b067 18 = .ok (.new 52, 3) := by decide +kernel
theorem dJ2_getChar_3b067_21 : decode cJ2_getChar_3b067 21 = .ok (.dup, 1) := by decide +kernel
theorem dJ2_getChar_3b067_22 : decode cJ2_getChar_3b067 22 = .ok (.ldc 54, 2) := by decide +kernel
theorem dJ2_getChar_3b067_24 : decode cJ2_getChar_3b067 24 = .ok (.invokespecial 56, 3) := by decide +kernel
theorem dJ2_getChar_3b067_27 : decode cJ2_getChar_3b067 27 = .ok (.athrow, 1) := by decide +kernel
theorem dJ2_getChar_3b067_28 : decode cJ2_getChar_3b067 28 = .ok (.iload_n 1, 1) := by decide +kernel
theorem dJ2_getChar_3b067_29 : decode cJ2_getChar_3b067 29 = .ok (.iconst 1, 1) := by decide +kernel
theorem dJ2_getChar_3b067_30 : decode cJ2_getChar_3b067 30 = .ok (.ishl, 1) := by decide +kernel
theorem dJ2_getChar_3b067_31 : decode cJ2_getChar_3b067 31 = .ok (.istore_n 1, 1) := by decide +kernel
theorem dJ2_getChar_3b067_32 : decode cJ2_getChar_3b067 32 = .ok (.aload_n 0, 1) := by decide +kernel
theorem dJ2_getChar_3b067_33 : decode cJ2_getChar_3b067 33 = .ok (.iload_n 1, 1) := by decide +kernel
theorem dJ2_getChar_3b067_34 : decode cJ2_getChar_3b067 34 = .ok (.iinc 1 1, 3) := by decide +kernel
theorem dJ2_getChar_3b067_37 : decode cJ2_getChar_3b067 37 = .ok (.baload, 1) := by decide +kernel
theorem dJ2_getChar_3b067_38 : decode cJ2_getChar_3b067 38 = .ok (.sipush 255, 3) := by decide +kernel
theorem dJ2_getChar_3b067_41 : decode cJ2_getChar_3b067 41 = .ok (.iand, 1) := by decide +kernel
theorem dJ2_getChar_3b067_42 : decode cJ2_getChar_3b067 42 = .ok (.getstatic 59, 3) := by decide +kernel
theorem dJ2_getChar_3b067_45 : decode cJ2_getChar_3b067 45 = .ok (.ishl, 1) := by decide +kernel
theorem dJ2_getChar_3b067_46 : decode cJ2_getChar_3b067 46 = .ok (.aload_n 0, 1) := by decide +kernel
theorem dJ2_getChar_3b067_47 : decode cJ2_getChar_3b067 47 = .ok (.iload_n 1, 1) := by decide +kernel
theorem dJ2_getChar_3b067_48 : decode cJ2_getChar_3b067 48 = .ok (.baload, 1) := by decide +kernel
theorem dJ2_getChar_3b067_49 : decode cJ2_getChar_3b067 49 = .ok (.sipush 255, 3) := by decide +kernel
theorem dJ2_getChar_3b067_52 : decode cJ2_getChar_3b067 52 = .ok (.iand, 1) := by decide +kernel
theorem dJ2_getChar_3b067_53 : decode cJ2_getChar_3b067 53 = .ok (.getstatic 63, 3) := by decide +kernel
theorem dJ2_getChar_3b067_56 : decode cJ2_getChar_3b067 56 = .ok (.ishl, 1) := by decide +kernel
theorem dJ2_getChar_3b067_57 : decode cJ2_getChar_3b067 57 = .ok (.ior, 1) := by decide +kernel
theorem dJ2_getChar_3b067_58 : decode cJ2_getChar_3b067 58 = .ok (.i2c, 1) := by decide +kernel
theorem dJ2_getChar_3b067_59 : decode cJ2_getChar_3b067 59 = .ok (.ireturn, 1) := by decide +kernel
theorem dJ2_length_9d52b_0 : decode cJ2_length_9d52b 0 = .ok (.aload_n 0, 1) := by decide +kernel
theorem dJ2_length_9d52b_1 : decode cJ2_length_9d52b 1 = .ok (.arraylength, 1) := by decide +kernel
theorem dJ2_length_9d52b_2 : decode cJ2_length_9d52b 2 = .ok (.iconst 1, 1) := by decide +kernel
theorem dJ2_length_9d52b_3 : decode cJ2_length_9d52b 3 = .ok (.ishr, 1) := by decide +kernel
theorem dJ2_length_9d52b_4 : decode cJ2_length_9d52b 4 = .ok (.ireturn, 1) := by decide +kernel
set_option maxRecDepth 20000 in
theorem ggJ2_charAt_3b067_J2_checkIndex_2214a : GoodIn wsJ2_charAt_3b067 wsJ2_checkIndex_2214a := goodIn_r _ [4, 5, 6, 3, 7, 8, 9, 10, 11, 12, 13, 14, 15, 16] (by decide +kernel) (by decide +kernel)
set_option maxRecDepth 20000 in
theorem gJ2_charAt_3b067_J2_checkIndex_2214a : GoodIn wsJ2_charAt_3b067 (va_wsS RJ2 67 yJ2_checkIndex_2214a wsJ2_checkIndex_2214a) := goodIn_app (goodIn_of _ (by decide +kernel)) ggJ2_charAt_3b067_J2_checkIndex_2214a
set_option maxRecDepth 20000 in
theorem ggJ2_charAt_3b067_J2_getChar_3b067 : GoodIn wsJ2_charAt_3b067 wsJ2_getChar_3b067 := goodIn_r _ [19, 20, 21, 22, 5, 6, 3, 7] (by decide +kernel) (by decide +kernel)
set_option maxRecDepth 20000 in
theorem gJ2_charAt_3b067_J2_getChar_3b067 : GoodIn wsJ2_charAt_3b067 (va_wsS RJ2 71 yJ2_getChar_3b067 wsJ2_getChar_3b067) := goodIn_app (goodIn_of _ (by decide +kernel)) ggJ2_charAt_3b067_J2_getChar_3b067
theorem dJ2_charAt_3b067_0 : decode cJ2_charAt_3b067 0 = .ok (.iload_n 1, 1) := by decide +kernel
theorem dJ2_charAt_3b067_1 : decode cJ2_charAt_3b067 1 = .ok (.aload_n 0, 1) := by decide +kernel
theorem dJ2_charAt_3b067_2 : decode cJ2_charAt_3b067 2 = .ok (.invokestatic 67, 3) := by decide +kernel
theorem dJ2_charAt_3b067_5 : decode cJ2_charAt_3b067 5 = .ok (.aload_n 0, 1) := by decide +kernel
theorem dJ2_charAt_3b067_6 : decode cJ2_charAt_3b067 6 = .ok (.iload_n 1, 1) := by decide +kernel
theorem dJ2_charAt_3b067_7 : decode cJ2_charAt_3b067 7 = .ok (.invokestatic 71, 3) := by decide +kernel
theorem dJ2_charAt_3b067_10 : decode cJ2_charAt_3b067 10 = .ok (.ireturn, 1) := by decide +kernel
set_option maxRecDepth 20000 in
theorem ggJ2_checkIndex_2214a_J2_length_9d52b : GoodIn wsJ2_checkIndex_2214a wsJ2_length_9d52b := goodIn_r _ [4] (by decide +kernel) (by decide +kernel)
set_option maxRecDepth 20000 in
theorem gJ2_checkIndex_2214a_J2_length_9d52b : GoodIn wsJ2_checkIndex_2214a (va_wsS RJ2 48 yJ2_length_9d52b wsJ2_length_9d52b) := goodIn_app (goodIn_of _ (by decide +kernel)) ggJ2_checkIndex_2214a_J2_length_9d52b
set_option maxRecDepth 20000 in
theorem ggJ2_checkIndex_2214a_J0_checkIndex_df160 : GoodIn wsJ2_checkIndex_2214a wsJ0_checkIndex_df160 := goodIn_r _ [8, 9, 10, 11, 12, 13] (by decide +kernel) (by decide +kernel)
set_option maxRecDepth 20000 in
theorem gJ2_checkIndex_2214a_J0_checkIndex_df160 : GoodIn wsJ2_checkIndex_2214a (va_wsS RJ2 414 yJ0_checkIndex_df160 wsJ0_checkIndex_df160) := goodIn_app (goodIn_of _ (by decide +kernel)) ggJ2_checkIndex_2214a_J0_checkIndex_df160
theorem dJ2_checkIndex_2214a_0 : decode cJ2_checkIndex_2214a 0 = .ok (.iload_n 0, 1) := by decide +kernel
theorem dJ2_checkIndex_2214a_1 : decode cJ2_checkIndex_2214a 1 = .ok (.aload_n 1, 1) := by decide +kernel
theorem dJ2_checkIndex_2214a_2 : decode cJ2_checkIndex_2214a 2 = .ok (.invokestatic 48, 3) := by decide +kernel
theorem dJ2_checkIndex_2214a_5 : decode cJ2_checkIndex_2214a 5 = .ok (.invokestatic 414, 3) := by decide +kernel
theorem dJ2_checkIndex_2214a_8 : decode cJ2_checkIndex_2214a 8 = .ok (.return_, 1) := by decide +kernel
theorem dJ7_fill_d0a16_0 : decode cJ7_fill_d0a16 0 = .ok (.iconst 0, 1) := by decide +kernel
theorem dJ7_fill_d0a16_1 : decode cJ7_fill_d0a16 1 = .ok (.istore_n 3, 1) := by decide +kernel
theorem dJ7_fill_d0a16_2 : decode cJ7_fill_d0a16 2 = .ok (.aload_n 0, 1) := by decide +kernel
theorem dJ7_fill_d0a16_3 : decode cJ7_fill_d0a16 3 = .ok (.arraylength, 1) := by decide +kernel
theorem dJ7_fill_d0a16_4 : decode cJ7_fill_d0a16 4 = .ok (.istore 4, 2) := by decide +kernel
theorem dJ7_fill_d0a16_6 : decode cJ7_fill_d0a16 6 = .ok (.iload_n 3, 1) := by decide +kernel
theorem dJ7_fill_d0a16_7 : decode cJ7_fill_d0a16 7 = .ok (.iload 4, 2) := by decide +kernel
theorem dJ7_fill_d0a16_9 : decode cJ7_fill_d0a16 9 = .ok (.if_icmp .ge 13, 3) := by decide +kernel
theorem dJ7_fill_d0a16_12 : decode cJ7_fill_d0a16 12 = .ok (.aload_n 0, 1) := by decide +kernel
theorem dJ7_fill_d0a16_13 : decode cJ7_fill_d0a16 13 = .ok (.iload_n 3, 1) := by decide +kernel
theorem dJ7_fill_d0a16_14 : decode cJ7_fill_d0a16 14 = .ok (.lload_n 1, 1) := by decide +kernel
theorem dJ7_fill_d0a16_15 : decode cJ7_fill_d0a16 15 = .ok (.lastore, 1) := by decide +kernel
theorem dJ7_fill_d0a16_16 : decode cJ7_fill_d0a16 16 = .ok (.iinc 3 1, 3) := by decide +kernel
theorem dJ7_fill_d0a16_19 : decode cJ7_fill_d0a16 19 = .ok (.goto (-13), 3) := by decide +kernel
theorem dJ7_fill_d0a16_22 : decode cJ7_fill_d0a16 22 = .ok (.return_, 1) := by decide +kernel
theorem dJ7_fill_53178_0 : decode cJ7_fill_53178 0 = .ok (.iconst 0, 1) := by decide +kernel
theorem dJ7_fill_53178_1 : decode cJ7_fill_53178 1 = .ok (.istore_n 2, 1) := by decide +kernel
theorem dJ7_fill_53178_2 : decode cJ7_fill_53178 2 = .ok (.aload_n 0, 1) := by decide +kernel
theorem dJ7_fill_53178_3 : decode cJ7_fill_53178 3 = .ok (.arraylength, 1) := by decide +kernel
theorem dJ7_fill_53178_4 : decode cJ7_fill_53178 4 = .ok (.istore_n 3, 1) := by decide +kernel
theorem dJ7_fill_53178_5 : decode cJ7_fill_53178 5 = .ok (.iload_n 2, 1) := by decide +kernel
theorem dJ7_fill_53178_6 : decode cJ7_fill_53178 6 = .ok (.iload_n 3, 1) := by decide +kernel
theorem dJ7_fill_53178_7 : decode cJ7_fill_53178 7 = .ok (.if_icmp .ge 13, 3) := by decide +kernel
theorem dJ7_fill_53178_10 : decode cJ7_fill_53178 10 = .ok (.aload_n 0, 1) := by decide +kernel
theorem dJ7_fill_53178_11 : decode cJ7_fill_53178 11 = .ok (.iload_n 2, 1) := by decide +kernel
theorem dJ7_fill_53178_12 : decode cJ7_fill_53178 12 = .ok (.iload_n 1, 1) := by decide +kernel
theorem dJ7_fill_53178_13 : decode cJ7_fill_53178 13 = .ok (.iastore, 1) := by decide +kernel
theorem dJ7_fill_53178_14 : decode cJ7_fill_53178 14 = .ok (.iinc 2 1, 3) := by decide +kernel
theorem dJ7_fill_53178_17 : decode cJ7_fill_53178 17 = .ok (.goto (-12), 3) := by decide +kernel
theorem dJ7_fill_53178_20 : decode cJ7_fill_53178 20 = .ok (.return_, 1) := by decide +kernel
theorem dJ3_checkIndex_8e157_0 : decode cJ3_checkIndex_8e157 0 = .ok (.iload_n 0, 1) := by decide +kernel
theorem dJ3_checkIndex_8e157_1 : decode cJ3_checkIndex_8e157 1 = .ok (.ifCond .lt 8, 3) := by decide +kernel
theorem dJ3_checkIndex_8e157_4 : decode cJ3_checkIndex_8e157 4 = .ok (.iload_n 0, 1) := by decide +kernel
theorem dJ3_checkIndex_8e157_5 : decode cJ3_checkIndex_8e157 5 = .ok (.iload_n 1, 1) := by decide +kernel
theorem dJ3_checkIndex_8e157_6 : decode cJ3_checkIndex_8e157 6 = .ok (.if_icmp .lt 10, 3) := by decide +kernel
theorem dJ3_checkIndex_8e157_9 : decode cJ3_checkIndex_8e157 9 = .ok (.aload_n 2, 1) := by decide +kernel
theorem dJ3_checkIndex_8e157_10 : decode cJ3_checkIndex_8e157 10 = .ok (.iload_n 0, 1) := by decide +kernel
theorem dJ3_checkIndex_8e157_11 : decode cJ3_checkIndex_8e157 11 = .ok (.iload_n 1, 1) := by decide +kernel
theorem dJ3_checkIndex_8e157_12 : decode cJ3_checkIndex_8e157 12 = .ok (.invokestatic 95, 3) := by decide +kernel
theorem dJ3_checkIndex_8e157_15 : decode cJ3_checkIndex_8e157 15 = .ok (.athrow, 1) := by decide +kernel
theorem dJ3_checkIndex_8e157_16 : decode cJ3_checkIndex_8e157 16 = .ok (.iload_n 0, 1) := by decide +kernel
theorem dJ3_checkIndex_8e157_17 : decode cJ3_checkIndex_8e157 17 = .ok (.ireturn, 1) := by decide +kernel
set_option maxRecDepth 20000 in
theorem ggX0_init_X0_clear : GoodIn wsX0_init wsX0_clear := goodIn_r _ [14, 15, 16, 17, 18, 19, 20, 21, 22, 7, 23, 24, 25, 26, 27, 28, 29, 30, 31, 32, 33, 34, 35, 36, 37, 38, 39] (by decide +kernel) (by decide +kernel)
set_option maxRecDepth 20000 in
theorem gX0_init_X0_clear : GoodIn wsX0_init (wsV RX0 27 RX0 yX0_clear wsX0_clear) := goodIn_app (goodIn_of _ (by decide +kernel)) ggX0_init_X0_clear
theorem dX0_init_0 : decode cX0_init 0 = .ok (.aload_n 0, 1) := by decide +kernel
theorem dX0_init_1 : decode cX0_init 1 = .ok (.invokespecial 3, 3) := by decide +kernel
theorem dX0_init_4 : decode cX0_init 4 = .ok (.aload_n 0, 1) := by decide +kernel
theorem dX0_init_5 : decode cX0_init 5 = .ok (.bipush 6, 2) := by decide +kernel
theorem dX0_init_7 : decode cX0_init 7 = .ok (.newarray .int, 2) := by decide +kernel
theorem dX0_init_9 : decode cX0_init 9 = .ok (.putfield 9, 3) := by decide +kernel
theorem dX0_init_12 : decode cX0_init 12 = .ok (.aload_n 0, 1) := by decide +kernel
theorem dX0_init_13 : decode cX0_init 13 = .ok (.bipush 6, 2) := by decide +kernel
theorem dX0_init_15 : decode cX0_init 15 = .ok (.newarray .int, 2) := by decide +kernel
theorem dX0_init_17 : decode cX0_init 17 = .ok (.putfield 15, 3) := by decide +kernel
theorem dX0_init_20 : decode cX0_init 20 = .ok (.aload_n 0, 1) := by decide +kernel
theorem dX0_init_21 : decode cX0_init 21 = .ok (.bipush 12, 2) := by decide +kernel
theorem dX0_init_23 : decode cX0_init 23 = .ok (.newarray .int, 2) := by decide +kernel
theorem dX0_init_25 : decode cX0_init 25 = .ok (.putfield 18, 3) := by decide +kernel
theorem dX0_init_28 : decode cX0_init 28 = .ok (.aload_n 0, 1) := by decide +kernel
theorem dX0_init_29 : decode cX0_init 29 = .ok (.iconst 4, 1) := by decide +kernel
theorem dX0_init_30 : decode cX0_init 30 = .ok (.newarray .int, 2) := by decide +kernel
theorem dX0_init_32 : decode cX0_init 32 = .ok (.putfield 21, 3) := by decide +kernel
theorem dX0_init_35 : decode cX0_init 35 = .ok (.aload_n 0, 1) := by decide +kernel
theorem dX0_init_36 : decode cX0_init 36 = .ok (.iconst 4, 1) := by decide +kernel
theorem dX0_init_37 : decode cX0_init 37 = .ok (.newarray .int, 2) := by decide +kernel
theorem dX0_init_39 : decode cX0_init 39 = .ok (.putfield 24, 3) := by decide +kernel
theorem dX0_init_42 : decode cX0_init 42 = .ok (.aload_n 0, 1) := by decide +kernel
theorem dX0_init_43 : decode cX0_init 43 = .ok (.invokevirtual 27, 3) := by decide +kernel
theorem dX0_init_46 : decode cX0_init 46 = .ok (.return_, 1) := by decide +kernel
set_option maxRecDepth 20000 in
theorem ggX0_clear_J7_fill_53178 : GoodIn wsX0_clear wsJ7_fill_53178 := goodIn_r _ [13] (by decide +kernel) (by decide +kernel)
set_option maxRecDepth 20000 in
theorem gX0_clear_J7_fill_53178 : GoodIn wsX0_clear (va_wsS RX0 55 yJ7_fill_53178 wsJ7_fill_53178) := goodIn_app (goodIn_of _ (by decide +kernel)) ggX0_clear_J7_fill_53178
theorem dX0_clear_0 : decode cX0_clear 0 = .ok (.aload_n 0, 1) := by decide +kernel
theorem dX0_clear_1 : decode cX0_clear 1 = .ok (.iconst 0, 1) := by decide +kernel
theorem dX0_clear_2 : decode cX0_clear 2 = .ok (.putfield 30, 3) := by decide +kernel
theorem dX0_clear_5 : decode cX0_clear 5 = .ok (.aload_n 0, 1) := by decide +kernel
theorem dX0_clear_6 : decode cX0_clear 6 = .ok (.bipush 12, 2) := by decide +kernel
theorem dX0_clear_8 : decode cX0_clear 8 = .ok (.putfield 34, 3) := by decide +kernel
theorem dX0_clear_11 : decode cX0_clear 11 = .ok (.aload_n 0, 1) := by decide +kernel
theorem dX0_clear_12 : decode cX0_clear 12 = .ok (.iconst 0, 1) := by decide +kernel
theorem dX0_clear_13 : decode cX0_clear 13 = .ok (.putfield 37, 3) := by decide +kernel
theorem dX0_clear_16 : decode cX0_clear 16 = .ok (.aload_n 0, 1) := by decide +kernel
theorem dX0_clear_17 : decode cX0_clear 17 = .ok (.iconst 0, 1) := by decide +kernel
theorem dX0_clear_18 : decode cX0_clear 18 = .ok (.putfield 40, 3) := by decide +kernel
theorem dX0_clear_21 : decode cX0_clear 21 = .ok (.aload_n 0, 1) := by decide +kernel
theorem dX0_clear_22 : decode cX0_clear 22 = .ok (.iconst 2, 1) := by decide +kernel
theorem dX0_clear_23 : decode cX0_clear 23 = .ok (.putfield 43, 3) := by decide +kernel
theorem dX0_clear_26 : decode cX0_clear 26 = .ok (.aload_n 0, 1) := by decide +kernel
theorem dX0_clear_27 : decode cX0_clear 27 = .ok (.bipush (-4), 2) := by decide +kernel
theorem dX0_clear_29 : decode cX0_clear 29 = .ok (.putfield 46, 3) := by decide +kernel
theorem dX0_clear_32 : decode cX0_clear 32 = .ok (.aload_n 0, 1) := by decide +kernel
theorem dX0_clear_33 : decode cX0_clear 33 = .ok (.iconst 0, 1) := by decide +kernel
theorem dX0_clear_34 : decode cX0_clear 34 = .ok (.putfield 49, 3) := by decide +kernel
theorem dX0_clear_37 : decode cX0_clear 37 = .ok (.aload_n 0, 1) := by decide +kernel
theorem dX0_clear_38 : decode cX0_clear 38 = .ok (.iconst 0, 1) := by decide +kernel
theorem dX0_clear_39 : decode cX0_clear 39 = .ok (.putfield 52, 3) := by decide +kernel
theorem dX0_clear_42 : decode cX0_clear 42 = .ok (.aload_n 0, 1) := by decide +kernel
theorem dX0_clear_43 : decode cX0_clear 43 = .ok (.getfield 18, 3) := by decide +kernel
theorem dX0_clear_46 : decode cX0_clear 46 = .ok (.iconst 0, 1) := by decide +kernel
theorem dX0_clear_47 : decode cX0_clear 47 = .ok (.invokestatic 55, 3) := by decide +kernel
theorem dX0_clear_50 : decode cX0_clear 50 = .ok (.return_, 1) := by decide +kernel
theorem dX0_copy_0 : decode cX0_copy 0 = .ok (.aload_n 1, 1) := by decide +kernel
theorem dX0_copy_1 : decode cX0_copy 1 = .ok (.ifnonnull 4, 3) := by decide +kernel
theorem dX0_copy_4 : decode cX0_copy 4 = .ok (.return_, 1) := by decide +kernel
theorem dX0_copy_5 : decode cX0_copy 5 = .ok (.aload_n 1, 1) := by decide +kernel
theorem dX0_copy_6 : decode cX0_copy 6 = .ok (.getfield 9, 3) := by decide +kernel
theorem dX0_copy_9 : decode cX0_copy 9 = .ok (.iconst 0, 1) := by decide +kernel
theorem dX0_copy_10 : decode cX0_copy 10 = .ok (.aload_n 0, 1) := by decide +kernel
theorem dX0_copy_11 : decode cX0_copy 11 = .ok (.getfield 9, 3) := by decide +kernel
theorem dX0_copy_14 : decode cX0_copy 14 = .ok (.iconst 0, 1) := by decide +kernel
theorem dX0_copy_15 : decode cX0_copy 15 = .ok (.bipush 6, 2) := by decide +kernel
theorem dX0_copy_17 : decode cX0_copy 17 = .ok (.invokestatic 61, 3) := by decide +kernel
theorem dX0_copy_20 : decode cX0_copy 20 = .ok (.aload_n 1, 1) := by decide +kernel
theorem dX0_copy_21 : decode cX0_copy 21 = .ok (.getfield 15, 3) := by decide +kernel
theorem dX0_copy_24 : decode cX0_copy 24 = .ok (.iconst 0, 1) := by decide +kernel
theorem dX0_copy_25 : decode cX0_copy 25 = .ok (.aload_n 0, 1) := by decide +kernel
theorem dX0_copy_26 : decode cX0_copy 26 = .ok (.getfield 15, 3) := by decide +kernel
theorem dX0_copy_29 : decode cX0_copy 29 = .ok (.iconst 0, 1) := by decide +kernel
theorem dX0_copy_30 : decode cX0_copy 30 = .ok (.bipush 6, 2) := by decide +kernel
theorem dX0_copy_32 : decode cX0_copy 32 = .ok (.invokestatic 61, 3) := by decide +kernel
theorem dX0_copy_35 : decode cX0_copy 35 = .ok (.aload_n 1, 1) := by decide +kernel
theorem dX0_copy_36 : decode cX0_copy 36 = .ok (.getfield 18, 3) := by decide +kernel
theorem dX0_copy_39 : decode cX0_copy 39 = .ok (.iconst 0, 1) := by decide +kernel
theorem dX0_copy_40 : decode cX0_copy 40 = .ok (.aload_n 0, 1) := by decide +kernel
theorem dX0_copy_41 : decode cX0_copy 41 = .ok (.getfield 18, 3) := by decide +kernel
theorem dX0_copy_44 : decode cX0_copy 44 = .ok (.iconst 0, 1) := by decide +kernel
theorem dX0_copy_45 : decode cX0_copy 45 = .ok (.bipush 12, 2) := by decide +kernel
theorem dX0_copy_47 : decode cX0_copy 47 = .ok (.invokestatic 61, 3) := by decide +kernel
theorem dX0_copy_50 : decode cX0_copy 50 = .ok (.aload_n 1, 1) := by decide +kernel
theorem dX0_copy_51 : decode cX0_copy 51 = .ok (.getfield 21, 3) := by decide +kernel
theorem dX0_copy_54 : decode cX0_copy 54 = .ok (.iconst 0, 1) := by decide +kernel
theorem dX0_copy_55 : decode cX0_copy 55 = .ok (.aload_n 0, 1) := by decide +kernel
theorem dX0_copy_56 : decode cX0_copy 56 = .ok (.getfield 21, 3) := by decide +kernel
theorem dX0_copy_59 : decode cX0_copy 59 = .ok (.iconst 0, 1) := by decide +kernel
theorem dX0_copy_60 : decode cX0_copy 60 = .ok (.iconst 4, 1) := by decide +kernel
theorem dX0_copy_61 : decode cX0_copy 61 = .ok (.invokestatic 61, 3) := by decide +kernel
theorem dX0_copy_64 : decode cX0_copy 64 = .ok (.aload_n 1, 1) := by decide +kernel
theorem dX0_copy_65 : decode cX0_copy 65 = .ok (.getfield 24, 3) := by decide +kernel
theorem dX0_copy_68 : decode cX0_copy 68 = .ok (.iconst 0, 1) := by decide +kernel
theorem dX0_copy_69 : decode cX0_copy 69 = .ok (.aload_n 0, 1) := by decide +kernel
theorem dX0_copy_70 : decode cX0_copy 70 = .ok (.getfield 24, 3) := by decide +kernel
theorem dX0_copy_73 : decode cX0_copy 73 = .ok (.iconst 0, 1) := by decide +kernel
theorem dX0_copy_74 : decode cX0_copy 74 = .ok (.iconst 4, 1) := by decide +kernel
theorem dX0_copy_75 : decode cX0_copy 75 = .ok (.invokestatic 61, 3) := by decide +kernel
theorem dX0_copy_78 : decode cX0_copy 78 = .ok (.aload_n 0, 1) := by decide +kernel
theorem dX0_copy_79 : decode cX0_copy 79 = .ok (.aload_n 1, 1) := by decide +kernel
theorem dX0_copy_80 : decode cX0_copy 80 = .ok (.getfield 30, 3) := by decide +kernel
theorem dX0_copy_83 : decode cX0_copy 83 = .ok (.putfield 30, 3) := by decide +kernel
theorem dX0_copy_86 : decode cX0_copy 86 = .ok (.aload_n 0, 1) := by decide +kernel
theorem dX0_copy_87 : decode cX0_copy 87 = .ok (.aload_n 1, 1) := by decide +kernel
theorem dX0_copy_88 : decode cX0_copy 88 = .ok (.getfield 34, 3) := by decide +kernel
theorem dX0_copy_91 : decode cX0_copy 91 = .ok (.putfield 34, 3) := by decide +kernel
theorem dX0_copy_94 : decode cX0_copy 94 = .ok (.aload_n 0, 1) := by decide +kernel
theorem dX0_copy_95 : decode cX0_copy 95 = .ok (.aload_n 1, 1) := by decide +kernel
theorem dX0_copy_96 : decode cX0_copy 96 = .ok (.getfield 37, 3) := by decide +kernel
theorem dX0_copy_99 : decode cX0_copy 99 = .ok (.putfield 37, 3) := by decide +kernel
theorem dX0_copy_102 : decode cX0_copy 102 = .ok (.aload_n 0, 1) := by decide +kernel
theorem dX0_copy_103 : decode cX0_copy 103 = .ok (.aload_n 1, 1) := by decide +kernel
theorem dX0_copy_104 : decode cX0_copy 104 = .ok (.getfield 40, 3) := by decide +kernel
theorem dX0_copy_107 : decode cX0_copy 107 = .ok (.putfield 40, 3) := by decide +kernel
theorem dX0_copy_110 : decode cX0_copy 110 = .ok (.aload_n 0, 1) := by decide +kernel
theorem dX0_copy_111 : decode cX0_copy 111 = .ok (.aload_n 1, 1) := by decide +kernel
theorem dX0_copy_112 : decode cX0_copy 112 = .ok (.getfield 43, 3) := by decide +kernel
theorem dX0_copy_115 : decode cX0_copy 115 = .ok (.putfield 43, 3) := by decide +kernel
theorem dX0_copy_118 : decode cX0_copy 118 = .ok (.aload_n 0, 1) := by decide +kernel
theorem dX0_copy_119 : decode cX0_copy 119 = .ok (.aload_n 1, 1) := by decide +kernel
theorem dX0_copy_120 : decode cX0_copy 120 = .ok (.getfield 46, 3) := by decide +kernel
theorem dX0_copy_123 : decode cX0_copy 123 = .ok (.putfield 46, 3) := by decide +kernel
theorem dX0_copy_126 : decode cX0_copy 126 = .ok (.aload_n 0, 1) := by decide +kernel
theorem dX0_copy_127 : decode cX0_copy 127 = .ok (.aload_n 1, 1) := by decide +kernel
theorem dX0_copy_128 : decode cX0_copy 128 = .ok (.getfield 49, 3) := by decide +kernel
theorem dX0_copy_131 : decode cX0_copy 131 = .ok (.putfield 49, 3) := by decide +kernel
theorem dX0_copy_134 : decode cX0_copy 134 = .ok (.aload_n 0, 1) := by decide +kernel
theorem dX0_copy_135 : decode cX0_copy 135 = .ok (.aload_n 1, 1) := by decide +kernel
theorem dX0_copy_136 : decode cX0_copy 136 = .ok (.getfield 52, 3) := by decide +kernel
theorem dX0_copy_139 : decode cX0_copy 139 = .ok (.putfield 52, 3) := by decide +kernel
theorem dX0_copy_142 : decode cX0_copy 142 = .ok (.return_, 1) := by decide +kernel
theorem dX0_hasBlock_0 : decode cX0_hasBlock 0 = .ok (.iload_n 1, 1) := by decide +kernel
theorem dX0_hasBlock_1 : decode cX0_hasBlock 1 = .ok (.ifCond .lt 21, 3) := by decide +kernel
theorem dX0_hasBlock_4 : decode cX0_hasBlock 4 = .ok (.iload_n 1, 1) := by decide +kernel
theorem dX0_hasBlock_5 : decode cX0_hasBlock 5 = .ok (.aload_n 0, 1) := by decide +kernel
theorem dX0_hasBlock_6 : decode cX0_hasBlock 6 = .ok (.getfield 30, 3) := by decide +kernel
theorem dX0_hasBlock_9 : decode cX0_hasBlock 9 = .ok (.if_icmp .ge 13, 3) := by decide +kernel
theorem dX0_hasBlock_12 : decode cX0_hasBlock 12 = .ok (.iload_n 1, 1) := by decide +kernel
theorem dX0_hasBlock_13 : decode cX0_hasBlock 13 = .ok (.bipush 6, 2) := by decide +kernel
theorem dX0_hasBlock_15 : decode cX0_hasBlock 15 = .ok (.if_icmp .ge 7, 3) := by decide +kernel
theorem dX0_hasBlock_18 : decode cX0_hasBlock 18 = .ok (.iconst 1, 1) := by decide +kernel
theorem dX0_hasBlock_19 : decode cX0_hasBlock 19 = .ok (.goto 4, 3) := by decide +kernel
theorem dX0_hasBlock_22 : decode cX0_hasBlock 22 = .ok (.iconst 0, 1) := by decide +kernel
theorem dX0_hasBlock_23 : decode cX0_hasBlock 23 = .ok (.ireturn, 1) := by decide +kernel
theorem dX0_hasPlace_0 : decode cX0_hasPlace 0 = .ok (.iload_n 1, 1) := by decide +kernel
theorem dX0_hasPlace_1 : decode cX0_hasPlace 1 = .ok (.ifCond .lt 21, 3) := by decide +kernel
theorem dX0_hasPlace_4 : decode cX0_hasPlace 4 = .ok (.iload_n 1, 1) := by decide +kernel
theorem dX0_hasPlace_5 : decode cX0_hasPlace 5 = .ok (.aload_n 0, 1) := by decide +kernel
theorem dX0_hasPlace_6 : decode cX0_hasPlace 6 = .ok (.getfield 34, 3) := by decide +kernel
theorem dX0_hasPlace_9 : decode cX0_hasPlace 9 = .ok (.if_icmp .ge 13, 3) := by decide +kernel
theorem dX0_hasPlace_12 : decode cX0_hasPlace 12 = .ok (.iload_n 1, 1) := by decide +kernel
theorem dX0_hasPlace_13 : decode cX0_hasPlace 13 = .ok (.bipush 12, 2) := by decide +kernel
theorem dX0_hasPlace_15 : decode cX0_hasPlace 15 = .ok (.if_icmp .ge 7, 3) := by decide +kernel
theorem dX0_hasPlace_18 : decode cX0_hasPlace 18 = .ok (.iconst 1, 1) := by decide +kernel
theorem dX0_hasPlace_19 : decode cX0_hasPlace 19 = .ok (.goto 4, 3) := by decide +kernel
theorem dX0_hasPlace_22 : decode cX0_hasPlace 22 = .ok (.iconst 0, 1) := by decide +kernel
theorem dX0_hasPlace_23 : decode cX0_hasPlace 23 = .ok (.ireturn, 1) := by decide +kernel
theorem dX0_hasRoll_0 : decode cX0_hasRoll 0 = .ok (.iload_n 1, 1) := by decide +kernel
theorem dX0_hasRoll_1 : decode cX0_hasRoll 1 = .ok (.ifCond .lt 20, 3) := by decide +kernel
theorem dX0_hasRoll_4 : decode cX0_hasRoll 4 = .ok (.iload_n 1, 1) := by decide +kernel
theorem dX0_hasRoll_5 : decode cX0_hasRoll 5 = .ok (.aload_n 0, 1) := by decide +kernel
theorem dX0_hasRoll_6 : decode cX0_hasRoll 6 = .ok (.getfield 52, 3) := by decide +kernel
theorem dX0_hasRoll_9 : decode cX0_hasRoll 9 = .ok (.if_icmp .ge 12, 3) := by decide +kernel
theorem dX0_hasRoll_12 : decode cX0_hasRoll 12 = .ok (.iload_n 1, 1) := by decide +kernel
theorem dX0_hasRoll_13 : decode cX0_hasRoll 13 = .ok (.iconst 4, 1) := by decide +kernel
theorem dX0_hasRoll_14 : decode cX0_hasRoll 14 = .ok (.if_icmp .ge 7, 3) := by decide +kernel
theorem dX0_hasRoll_17 : decode cX0_hasRoll 17 = .ok (.iconst 1, 1) := by decide +kernel
theorem dX0_hasRoll_18 : decode cX0_hasRoll 18 = .ok (.goto 4, 3) := by decide +kernel
theorem dX0_hasRoll_21 : decode cX0_hasRoll 21 = .ok (.iconst 0, 1) := by decide +kernel
theorem dX0_hasRoll_22 : decode cX0_hasRoll 22 = .ok (.ireturn, 1) := by decide +kernel
theorem dX0_addBlock_0 : decode cX0_addBlock 0 = .ok (.iload_n 1, 1) := by decide +kernel
theorem dX0_addBlock_1 : decode cX0_addBlock 1 = .ok (.ifCond .lt 18, 3) := by decide +kernel
theorem dX0_addBlock_4 : decode cX0_addBlock 4 = .ok (.iload_n 1, 1) := by decide +kernel
theorem dX0_addBlock_5 : decode cX0_addBlock 5 = .ok (.iconst 4, 1) := by decide +kernel
theorem dX0_addBlock_6 : decode cX0_addBlock 6 = .ok (.if_icmp .ge 13, 3) := by decide +kernel
theorem dX0_addBlock_9 : decode cX0_addBlock 9 = .ok (.iload_n 2, 1) := by decide +kernel
theorem dX0_addBlock_10 : decode cX0_addBlock 10 = .ok (.ifCond .lt 9, 3) := by decide +kernel
theorem dX0_addBlock_13 : decode cX0_addBlock 13 = .ok (.iload_n 2, 1) := by decide +kernel
theorem dX0_addBlock_14 : decode cX0_addBlock 14 = .ok (.bipush 10, 2) := by decide +kernel
theorem dX0_addBlock_16 : decode cX0_addBlock 16 = .ok (.if_icmp .lt 5, 3) := by decide +kernel
theorem dX0_addBlock_19 : decode cX0_addBlock 19 = .ok (.iconst (-1), 1) := by decide +kernel
theorem dX0_addBlock_20 : decode cX0_addBlock 20 = .ok (.ireturn, 1) := by decide +kernel
theorem dX0_addBlock_21 : decode cX0_addBlock 21 = .ok (.aload_n 0, 1) := by decide +kernel
theorem dX0_addBlock_22 : decode cX0_addBlock 22 = .ok (.getfield 30, 3) := by decide +kernel
theorem dX0_addBlock_25 : decode cX0_addBlock 25 = .ok (.ifCond .lt 12, 3) := by decide +kernel
theorem dX0_addBlock_28 : decode cX0_addBlock 28 = .ok (.aload_n 0, 1) := by decide +kernel
theorem dX0_addBlock_29 : decode cX0_addBlock 29 = .ok (.getfield 30, 3) := by decide +kernel
theorem dX0_addBlock_32 : decode cX0_addBlock 32 = .ok (.bipush 6, 2) := by decide +kernel
theorem dX0_addBlock_34 : decode cX0_addBlock 34 = .ok (.if_icmp .lt 6, 3) := by decide +kernel
theorem dX0_addBlock_37 : decode cX0_addBlock 37 = .ok (.bipush (-3), 2) := by decide +kernel
theorem dX0_addBlock_39 : decode cX0_addBlock 39 = .ok (.ireturn, 1) := by decide +kernel
theorem dX0_addBlock_40 : decode cX0_addBlock 40 = .ok (.aload_n 0, 1) := by decide +kernel
theorem dX0_addBlock_41 : decode cX0_addBlock 41 = .ok (.getfield 9, 3) := by decide +kernel
theorem dX0_addBlock_44 : decode cX0_addBlock 44 = .ok (.aload_n 0, 1) := by decide +kernel
theorem dX0_addBlock_45 : decode cX0_addBlock 45 = .ok (.getfield 30, 3) := by decide +kernel
theorem dX0_addBlock_48 : decode cX0_addBlock 48 = .ok (.iload_n 1, 1) := by decide +kernel
theorem dX0_addBlock_49 : decode cX0_addBlock 49 = .ok (.iastore, 1) := by decide +kernel
theorem dX0_addBlock_50 : decode cX0_addBlock 50 = .ok (.aload_n 0, 1) := by decide +kernel
theorem dX0_addBlock_51 : decode cX0_addBlock 51 = .ok (.getfield 15, 3) := by decide +kernel
theorem dX0_addBlock_54 : decode cX0_addBlock 54 = .ok (.aload_n 0, 1) := by decide +kernel
theorem dX0_addBlock_55 : decode cX0_addBlock 55 = .ok (.getfield 30, 3) := by decide +kernel
theorem dX0_addBlock_58 : decode cX0_addBlock 58 = .ok (.iload_n 2, 1) := by decide +kernel
theorem dX0_addBlock_59 : decode cX0_addBlock 59 = .ok (.iastore, 1) := by decide +kernel
theorem dX0_addBlock_60 : decode cX0_addBlock 60 = .ok (.aload_n 0, 1) := by decide +kernel
theorem dX0_addBlock_61 : decode cX0_addBlock 61 = .ok (.dup, 1) := by decide +kernel
theorem dX0_addBlock_62 : decode cX0_addBlock 62 = .ok (.getfield 30, 3) := by decide +kernel
theorem dX0_addBlock_65 : decode cX0_addBlock 65 = .ok (.iconst 1, 1) := by decide +kernel
theorem dX0_addBlock_66 : decode cX0_addBlock 66 = .ok (.iadd, 1) := by decide +kernel
theorem dX0_addBlock_67 : decode cX0_addBlock 67 = .ok (.putfield 30, 3) := by decide +kernel
theorem dX0_addBlock_70 : decode cX0_addBlock 70 = .ok (.aload_n 0, 1) := by decide +kernel
theorem dX0_addBlock_71 : decode cX0_addBlock 71 = .ok (.getfield 30, 3) := by decide +kernel
theorem dX0_addBlock_74 : decode cX0_addBlock 74 = .ok (.ireturn, 1) := by decide +kernel
theorem dX0_addRoll_0 : decode cX0_addRoll 0 = .ok (.iload_n 1, 1) := by decide +kernel
theorem dX0_addRoll_1 : decode cX0_addRoll 1 = .ok (.iconst 1, 1) := by decide +kernel
theorem dX0_addRoll_2 : decode cX0_addRoll 2 = .ok (.if_icmp .lt 20, 3) := by decide +kernel
theorem dX0_addRoll_5 : decode cX0_addRoll 5 = .ok (.iload_n 1, 1) := by decide +kernel
theorem dX0_addRoll_6 : decode cX0_addRoll 6 = .ok (.bipush 9, 2) := by decide +kernel
theorem dX0_addRoll_8 : decode cX0_addRoll 8 = .ok (.if_icmp .gt 14, 3) := by decide +kernel
theorem dX0_addRoll_11 : decode cX0_addRoll 11 = .ok (.iload_n 2, 1) := by decide +kernel
theorem dX0_addRoll_12 : decode cX0_addRoll 12 = .ok (.iconst 1, 1) := by decide +kernel
theorem dX0_addRoll_13 : decode cX0_addRoll 13 = .ok (.if_icmp .lt 9, 3) := by decide +kernel
theorem dX0_addRoll_16 : decode cX0_addRoll 16 = .ok (.iload_n 2, 1) := by decide +kernel
theorem dX0_addRoll_17 : decode cX0_addRoll 17 = .ok (.bipush 9, 2) := by decide +kernel
theorem dX0_addRoll_19 : decode cX0_addRoll 19 = .ok (.if_icmp .le 5, 3) := by decide +kernel
theorem dX0_addRoll_22 : decode cX0_addRoll 22 = .ok (.iconst (-1), 1) := by decide +kernel
theorem dX0_addRoll_23 : decode cX0_addRoll 23 = .ok (.ireturn, 1) := by decide +kernel
theorem dX0_addRoll_24 : decode cX0_addRoll 24 = .ok (.aload_n 0, 1) := by decide +kernel
theorem dX0_addRoll_25 : decode cX0_addRoll 25 = .ok (.getfield 52, 3) := by decide +kernel
theorem dX0_addRoll_28 : decode cX0_addRoll 28 = .ok (.ifCond .lt 11, 3) := by decide +kernel
theorem dX0_addRoll_31 : decode cX0_addRoll 31 = .ok (.aload_n 0, 1) := by decide +kernel
theorem dX0_addRoll_32 : decode cX0_addRoll 32 = .ok (.getfield 52, 3) := by decide +kernel
theorem dX0_addRoll_35 : decode cX0_addRoll 35 = .ok (.iconst 4, 1) := by decide +kernel
theorem dX0_addRoll_36 : decode cX0_addRoll 36 = .ok (.if_icmp .lt 6, 3) := by decide +kernel
theorem dX0_addRoll_39 : decode cX0_addRoll 39 = .ok (.bipush (-3), 2) := by decide +kernel
theorem dX0_addRoll_41 : decode cX0_addRoll 41 = .ok (.ireturn, 1) := by decide +kernel
theorem dX0_addRoll_42 : decode cX0_addRoll 42 = .ok (.aload_n 0, 1) := by decide +kernel
theorem dX0_addRoll_43 : decode cX0_addRoll 43 = .ok (.getfield 21, 3) := by decide +kernel
theorem dX0_addRoll_46 : decode cX0_addRoll 46 = .ok (.aload_n 0, 1) := by decide +kernel
theorem dX0_addRoll_47 : decode cX0_addRoll 47 = .ok (.getfield 52, 3) := by decide +kernel
theorem dX0_addRoll_50 : decode cX0_addRoll 50 = .ok (.iload_n 1, 1) := by decide +kernel
theorem dX0_addRoll_51 : decode cX0_addRoll 51 = .ok (.iastore, 1) := by decide +kernel
theorem dX0_addRoll_52 : decode cX0_addRoll 52 = .ok (.aload_n 0, 1) := by decide +kernel
theorem dX0_addRoll_53 : decode cX0_addRoll 53 = .ok (.getfield 24, 3) := by decide +kernel
theorem dX0_addRoll_56 : decode cX0_addRoll 56 = .ok (.aload_n 0, 1) := by decide +kernel
theorem dX0_addRoll_57 : decode cX0_addRoll 57 = .ok (.getfield 52, 3) := by decide +kernel
theorem dX0_addRoll_60 : decode cX0_addRoll 60 = .ok (.iload_n 2, 1) := by decide +kernel
theorem dX0_addRoll_61 : decode cX0_addRoll 61 = .ok (.iastore, 1) := by decide +kernel
theorem dX0_addRoll_62 : decode cX0_addRoll 62 = .ok (.aload_n 0, 1) := by decide +kernel
theorem dX0_addRoll_63 : decode cX0_addRoll 63 = .ok (.dup, 1) := by decide +kernel
theorem dX0_addRoll_64 : decode cX0_addRoll 64 = .ok (.getfield 52, 3) := by decide +kernel
theorem dX0_addRoll_67 : decode cX0_addRoll 67 = .ok (.iconst 1, 1) := by decide +kernel
theorem dX0_addRoll_68 : decode cX0_addRoll 68 = .ok (.iadd, 1) := by decide +kernel
theorem dX0_addRoll_69 : decode cX0_addRoll 69 = .ok (.putfield 52, 3) := by decide +kernel
theorem dX0_addRoll_72 : decode cX0_addRoll 72 = .ok (.aload_n 0, 1) := by decide +kernel
theorem dX0_addRoll_73 : decode cX0_addRoll 73 = .ok (.getfield 52, 3) := by decide +kernel
theorem dX0_addRoll_76 : decode cX0_addRoll 76 = .ok (.ireturn, 1) := by decide +kernel
set_option maxRecDepth 20000 in
theorem ggX0_exchange_X0_hasBlock : GoodIn wsX0_exchange wsX0_hasBlock := goodIn_r _ [7, 8, 9, 10, 11, 12, 13, 14, 15, 16, 17, 18, 19, 20, 21] (by decide +kernel) (by decide +kernel)
set_option maxRecDepth 20000 in
theorem gX0_exchange_X0_hasBlock : GoodIn wsX0_exchange (wsV RX0 67 RX0 yX0_hasBlock wsX0_hasBlock) := goodIn_app (goodIn_of _ (by decide +kernel)) ggX0_exchange_X0_hasBlock
theorem dX0_exchange_0 : decode cX0_exchange 0 = .ok (.aload_n 0, 1) := by decide +kernel
theorem dX0_exchange_1 : decode cX0_exchange 1 = .ok (.iload_n 1, 1) := by decide +kernel
theorem dX0_exchange_2 : decode cX0_exchange 2 = .ok (.invokevirtual 67, 3) := by decide +kernel
theorem dX0_exchange_5 : decode cX0_exchange 5 = .ok (.ifCond .eq 11, 3) := by decide +kernel
theorem dX0_exchange_8 : decode cX0_exchange 8 = .ok (.aload_n 0, 1) := by decide +kernel
theorem dX0_exchange_9 : decode cX0_exchange 9 = .ok (.iload_n 2, 1) := by decide +kernel
theorem dX0_exchange_10 : decode cX0_exchange 10 = .ok (.invokevirtual 67, 3) := by decide +kernel
theorem dX0_exchange_13 : decode cX0_exchange 13 = .ok (.ifCond .ne 4, 3) := by decide +kernel
theorem dX0_exchange_16 : decode cX0_exchange 16 = .ok (.return_, 1) := by decide +kernel
theorem dX0_exchange_17 : decode cX0_exchange 17 = .ok (.aload_n 0, 1) := by decide +kernel
theorem dX0_exchange_18 : decode cX0_exchange 18 = .ok (.getfield 9, 3) := by decide +kernel
theorem dX0_exchange_21 : decode cX0_exchange 21 = .ok (.iload_n 1, 1) := by decide +kernel
theorem dX0_exchange_22 : decode cX0_exchange 22 = .ok (.iaload, 1) := by decide +kernel
theorem dX0_exchange_23 : decode cX0_exchange 23 = .ok (.istore_n 3, 1) := by decide +kernel
theorem dX0_exchange_24 : decode cX0_exchange 24 = .ok (.aload_n 0, 1) := by decide +kernel
theorem dX0_exchange_25 : decode cX0_exchange 25 = .ok (.getfield 15, 3) := by decide +kernel
theorem dX0_exchange_28 : decode cX0_exchange 28 = .ok (.iload_n 1, 1) := by decide +kernel
theorem dX0_exchange_29 : decode cX0_exchange 29 = .ok (.iaload, 1) := by decide +kernel
theorem dX0_exchange_30 : decode cX0_exchange 30 = .ok (.istore 4, 2) := by decide +kernel
theorem dX0_exchange_32 : decode cX0_exchange 32 = .ok (.aload_n 0, 1) := by decide +kernel
theorem dX0_exchange_33 : decode cX0_exchange 33 = .ok (.getfield 9, 3) := by decide +kernel
theorem dX0_exchange_36 : decode cX0_exchange 36 = .ok (.iload_n 1, 1) := by decide +kernel
theorem dX0_exchange_37 : decode cX0_exchange 37 = .ok (.aload_n 0, 1) := by decide +kernel
theorem dX0_exchange_38 : decode cX0_exchange 38 = .ok (.getfield 9, 3) := by decide +kernel
theorem dX0_exchange_41 : decode cX0_exchange 41 = .ok (.iload_n 2, 1) := by decide +kernel
theorem dX0_exchange_42 : decode cX0_exchange 42 = .ok (.iaload, 1) := by decide +kernel
theorem dX0_exchange_43 : decode cX0_exchange 43 = .ok (.iastore, 1) := by decide +kernel
theorem dX0_exchange_44 : decode cX0_exchange 44 = .ok (.aload_n 0, 1) := by decide +kernel
theorem dX0_exchange_45 : decode cX0_exchange 45 = .ok (.getfield 15, 3) := by decide +kernel
theorem dX0_exchange_48 : decode cX0_exchange 48 = .ok (.iload_n 1, 1) := by decide +kernel
theorem dX0_exchange_49 : decode cX0_exchange 49 = .ok (.aload_n 0, 1) := by decide +kernel
theorem dX0_exchange_50 : decode cX0_exchange 50 = .ok (.getfield 15, 3) := by decide +kernel
theorem dX0_exchange_53 : decode cX0_exchange 53 = .ok (.iload_n 2, 1) := by decide +kernel
theorem dX0_exchange_54 : decode cX0_exchange 54 = .ok (.iaload, 1) := by decide +kernel
theorem dX0_exchange_55 : decode cX0_exchange 55 = .ok (.iastore, 1) := by decide +kernel
theorem dX0_exchange_56 : decode cX0_exchange 56 = .ok (.aload_n 0, 1) := by decide +kernel
theorem dX0_exchange_57 : decode cX0_exchange 57 = .ok (.getfield 9, 3) := by decide +kernel
theorem dX0_exchange_60 : decode cX0_exchange 60 = .ok (.iload_n 2, 1) := by decide +kernel
theorem dX0_exchange_61 : decode cX0_exchange 61 = .ok (.iload_n 3, 1) := by decide +kernel
theorem dX0_exchange_62 : decode cX0_exchange 62 = .ok (.iastore, 1) := by decide +kernel
theorem dX0_exchange_63 : decode cX0_exchange 63 = .ok (.aload_n 0, 1) := by decide +kernel
theorem dX0_exchange_64 : decode cX0_exchange 64 = .ok (.getfield 15, 3) := by decide +kernel
theorem dX0_exchange_67 : decode cX0_exchange 67 = .ok (.iload_n 2, 1) := by decide +kernel
theorem dX0_exchange_68 : decode cX0_exchange 68 = .ok (.iload 4, 2) := by decide +kernel
theorem dX0_exchange_70 : decode cX0_exchange 70 = .ok (.iastore, 1) := by decide +kernel
theorem dX0_exchange_71 : decode cX0_exchange 71 = .ok (.return_, 1) := by decide +kernel
theorem dX0_pass_0 : decode cX0_pass 0 = .ok (.iconst 0, 1) := by decide +kernel
theorem dX0_pass_1 : decode cX0_pass 1 = .ok (.istore_n 2, 1) := by decide +kernel
theorem dX0_pass_2 : decode cX0_pass 2 = .ok (.iload_n 2, 1) := by decide +kernel
theorem dX0_pass_3 : decode cX0_pass 3 = .ok (.aload_n 0, 1) := by decide +kernel
theorem dX0_pass_4 : decode cX0_pass 4 = .ok (.getfield 34, 3) := by decide +kernel
theorem dX0_pass_7 : decode cX0_pass 7 = .ok (.if_icmp .ge 50, 3) := by decide +kernel
theorem dX0_pass_10 : decode cX0_pass 10 = .ok (.iload_n 2, 1) := by decide +kernel
theorem dX0_pass_11 : decode cX0_pass 11 = .ok (.bipush 12, 2) := by decide +kernel
theorem dX0_pass_13 : decode cX0_pass 13 = .ok (.if_icmp .ge 44, 3) := by decide +kernel
theorem dX0_pass_16 : decode cX0_pass 16 = .ok (.iload_n 2, 1) := by decide +kernel
theorem dX0_pass_17 : decode cX0_pass 17 = .ok (.aload_n 0, 1) := by decide +kernel
theorem dX0_pass_18 : decode cX0_pass 18 = .ok (.getfield 40, 3) := by decide +kernel
theorem dX0_pass_21 : decode cX0_pass 21 = .ok (.isub, 1) := by decide +kernel
theorem dX0_pass_22 : decode cX0_pass 22 = .ok (.invokestatic 71, 3) := by decide +kernel
theorem dX0_pass_25 : decode cX0_pass 25 = .ok (.aload_n 0, 1) := by decide +kernel
theorem dX0_pass_26 : decode cX0_pass 26 = .ok (.getfield 43, 3) := by decide +kernel
theorem dX0_pass_29 : decode cX0_pass 29 = .ok (.if_icmp .gt 22, 3) := by decide +kernel
theorem dX0_pass_32 : decode cX0_pass 32 = .ok (.aload_n 0, 1) := by decide +kernel
theorem dX0_pass_33 : decode cX0_pass 33 = .ok (.getfield 18, 3) := by decide +kernel
theorem dX0_pass_36 : decode cX0_pass 36 = .ok (.iload_n 2, 1) := by decide +kernel
theorem dX0_pass_37 : decode cX0_pass 37 = .ok (.bipush 99, 2) := by decide +kernel
theorem dX0_pass_39 : decode cX0_pass 39 = .ok (.aload_n 0, 1) := by decide +kernel
theorem dX0_pass_40 : decode cX0_pass 40 = .ok (.getfield 18, 3) := by decide +kernel
theorem dX0_pass_43 : decode cX0_pass 43 = .ok (.iload_n 2, 1) := by decide +kernel
theorem dX0_pass_44 : decode cX0_pass 44 = .ok (.iaload, 1) := by decide +kernel
theorem dX0_pass_45 : decode cX0_pass 45 = .ok (.iload_n 1, 1) := by decide +kernel
theorem dX0_pass_46 : decode cX0_pass 46 = .ok (.iadd, 1) := by decide +kernel
theorem dX0_pass_47 : decode cX0_pass 47 = .ok (.invokestatic 77, 3) := by decide +kernel
theorem dX0_pass_50 : decode cX0_pass 50 = .ok (.iastore, 1) := by decide +kernel
theorem dX0_pass_51 : decode cX0_pass 51 = .ok (.iinc 2 1, 3) := by decide +kernel
theorem dX0_pass_54 : decode cX0_pass 54 = .ok (.goto (-52), 3) := by decide +kernel
theorem dX0_pass_57 : decode cX0_pass 57 = .ok (.aload_n 0, 1) := by decide +kernel
theorem dX0_pass_58 : decode cX0_pass 58 = .ok (.dup, 1) := by decide +kernel
theorem dX0_pass_59 : decode cX0_pass 59 = .ok (.getfield 49, 3) := by decide +kernel
theorem dX0_pass_62 : decode cX0_pass 62 = .ok (.iload_n 1, 1) := by decide +kernel
theorem dX0_pass_63 : decode cX0_pass 63 = .ok (.iadd, 1) := by decide +kernel
theorem dX0_pass_64 : decode cX0_pass 64 = .ok (.putfield 49, 3) := by decide +kernel
theorem dX0_pass_67 : decode cX0_pass 67 = .ok (.return_, 1) := by decide +kernel
set_option maxRecDepth 20000 in
theorem ggX0_whoAt_J9_floorMod_7cf53 : GoodIn wsX0_whoAt wsJ9_floorMod_7cf53 := goodIn_r _ [6] (by decide +kernel) (by decide +kernel)
set_option maxRecDepth 20000 in
theorem gX0_whoAt_J9_floorMod_7cf53 : GoodIn wsX0_whoAt (va_wsS RX0 81 yJ9_floorMod_7cf53 wsJ9_floorMod_7cf53) := goodIn_app (goodIn_of _ (by decide +kernel)) ggX0_whoAt_J9_floorMod_7cf53
theorem dX0_whoAt_0 : decode cX0_whoAt 0 = .ok (.aload_n 0, 1) := by decide +kernel
theorem dX0_whoAt_1 : decode cX0_whoAt 1 = .ok (.getfield 30, 3) := by decide +kernel
theorem dX0_whoAt_4 : decode cX0_whoAt 4 = .ok (.iconst 1, 1) := by decide +kernel
theorem dX0_whoAt_5 : decode cX0_whoAt 5 = .ok (.if_icmp .ge 8, 3) := by decide +kernel
theorem dX0_whoAt_8 : decode cX0_whoAt 8 = .ok (.bipush (-4), 2) := by decide +kernel
theorem dX0_whoAt_10 : decode cX0_whoAt 10 = .ok (.goto 16, 3) := by decide +kernel
theorem dX0_whoAt_13 : decode cX0_whoAt 13 = .ok (.iload_n 1, 1) := by decide +kernel
theorem dX0_whoAt_14 : decode cX0_whoAt 14 = .ok (.aload_n 0, 1) := by decide +kernel
theorem dX0_whoAt_15 : decode cX0_whoAt 15 = .ok (.getfield 37, 3) := by decide +kernel
theorem dX0_whoAt_18 : decode cX0_whoAt 18 = .ok (.iadd, 1) := by decide +kernel
theorem dX0_whoAt_19 : decode cX0_whoAt 19 = .ok (.aload_n 0, 1) := by decide +kernel
theorem dX0_whoAt_20 : decode cX0_whoAt 20 = .ok (.getfield 30, 3) := by decide +kernel
theorem dX0_whoAt_23 : decode cX0_whoAt 23 = .ok (.invokestatic 81, 3) := by decide +kernel
theorem dX0_whoAt_26 : decode cX0_whoAt 26 = .ok (.ireturn, 1) := by decide +kernel
set_option maxRecDepth 20000 in
theorem ggX0_frankAt_X0_hasPlace : GoodIn wsX0_frankAt wsX0_hasPlace := goodIn_r _ [11, 12, 33, 34, 35, 36, 37, 38, 39, 40, 41, 42, 43, 44, 45] (by decide +kernel) (by decide +kernel)
set_option maxRecDepth 20000 in
theorem gX0_frankAt_X0_hasPlace : GoodIn wsX0_frankAt (wsV RX0 84 RX0 yX0_hasPlace wsX0_hasPlace) := goodIn_app (goodIn_of _ (by decide +kernel)) ggX0_frankAt_X0_hasPlace
set_option maxRecDepth 20000 in
theorem ggX0_frankAt_X0_whoAt : GoodIn wsX0_frankAt wsX0_whoAt := goodIn_r _ [16, 17, 18, 19, 20, 21, 22, 33, 34, 35, 36, 37, 38, 39, 40, 41, 42, 43, 44, 45] (by decide +kernel) (by decide +kernel)
set_option maxRecDepth 20000 in
theorem gX0_frankAt_X0_whoAt : GoodIn wsX0_frankAt (wsV RX0 87 RX0 yX0_whoAt wsX0_whoAt) := goodIn_app (goodIn_of _ (by decide +kernel)) ggX0_frankAt_X0_whoAt
set_option maxRecDepth 20000 in
theorem ggX0_frankAt_X0_hasBlock : GoodIn wsX0_frankAt wsX0_hasBlock := goodIn_r _ [26, 17, 33, 34, 35, 36, 37, 38, 39, 40, 41, 42, 43, 44, 45] (by decide +kernel) (by decide +kernel)
set_option maxRecDepth 20000 in
theorem gX0_frankAt_X0_hasBlock : GoodIn wsX0_frankAt (wsV RX0 67 RX0 yX0_hasBlock wsX0_hasBlock) := goodIn_app (goodIn_of _ (by decide +kernel)) ggX0_frankAt_X0_hasBlock
set_option maxRecDepth 20000 in
theorem ggX0_frankAt_X0_frankWhenNew : GoodIn wsX0_frankAt wsX0_frankWhenNew := goodIn_r _ [30, 31, 32, 23, 24, 25, 10, 26, 17, 33, 34, 35, 36, 37, 38, 39, 40, 41, 42, 43, 44, 45] (by decide +kernel) (by decide +kernel)
set_option maxRecDepth 20000 in
theorem gX0_frankAt_X0_frankWhenNew : GoodIn wsX0_frankAt (wsV RX0 90 RX0 yX0_frankWhenNew wsX0_frankWhenNew) := goodIn_app (goodIn_of _ (by decide +kernel)) ggX0_frankAt_X0_frankWhenNew
theorem dX0_frankAt_0 : decode cX0_frankAt 0 = .ok (.aload_n 0, 1) := by decide +kernel
theorem dX0_frankAt_1 : decode cX0_frankAt 1 = .ok (.iload_n 1, 1) := by decide +kernel
theorem dX0_frankAt_2 : decode cX0_frankAt 2 = .ok (.invokevirtual 84, 3) := by decide +kernel
theorem dX0_frankAt_5 : decode cX0_frankAt 5 = .ok (.ifCond .eq 11, 3) := by decide +kernel
theorem dX0_frankAt_8 : decode cX0_frankAt 8 = .ok (.iload_n 1, 1) := by decide +kernel
theorem dX0_frankAt_9 : decode cX0_frankAt 9 = .ok (.aload_n 0, 1) := by decide +kernel
theorem dX0_frankAt_10 : decode cX0_frankAt 10 = .ok (.getfield 46, 3) := by decide +kernel
theorem dX0_frankAt_13 : decode cX0_frankAt 13 = .ok (.if_icmp .ne 5, 3) := by decide +kernel
theorem dX0_frankAt_16 : decode cX0_frankAt 16 = .ok (.iconst 0, 1) := by decide +kernel
theorem dX0_frankAt_17 : decode cX0_frankAt 17 = .ok (.ireturn, 1) := by decide +kernel
theorem dX0_frankAt_18 : decode cX0_frankAt 18 = .ok (.aload_n 0, 1) := by decide +kernel
theorem dX0_frankAt_19 : decode cX0_frankAt 19 = .ok (.iload_n 1, 1) := by decide +kernel
theorem dX0_frankAt_20 : decode cX0_frankAt 20 = .ok (.invokevirtual 87, 3) := by decide +kernel
theorem dX0_frankAt_23 : decode cX0_frankAt 23 = .ok (.istore_n 2, 1) := by decide +kernel
theorem dX0_frankAt_24 : decode cX0_frankAt 24 = .ok (.aload_n 0, 1) := by decide +kernel
theorem dX0_frankAt_25 : decode cX0_frankAt 25 = .ok (.iload_n 2, 1) := by decide +kernel
theorem dX0_frankAt_26 : decode cX0_frankAt 26 = .ok (.invokevirtual 67, 3) := by decide +kernel
theorem dX0_frankAt_29 : decode cX0_frankAt 29 = .ok (.ifCond .eq 23, 3) := by decide +kernel
theorem dX0_frankAt_32 : decode cX0_frankAt 32 = .ok (.iconst 0, 1) := by decide +kernel
theorem dX0_frankAt_33 : decode cX0_frankAt 33 = .ok (.aload_n 0, 1) := by decide +kernel
theorem dX0_frankAt_34 : decode cX0_frankAt 34 = .ok (.iload_n 2, 1) := by decide +kernel
theorem dX0_frankAt_35 : decode cX0_frankAt 35 = .ok (.iload_n 1, 1) := by decide +kernel
theorem dX0_frankAt_36 : decode cX0_frankAt 36 = .ok (.invokevirtual 90, 3) := by decide +kernel
theorem dX0_frankAt_39 : decode cX0_frankAt 39 = .ok (.aload_n 0, 1) := by decide +kernel
theorem dX0_frankAt_40 : decode cX0_frankAt 40 = .ok (.getfield 18, 3) := by decide +kernel
theorem dX0_frankAt_43 : decode cX0_frankAt 43 = .ok (.iload_n 1, 1) := by decide +kernel
theorem dX0_frankAt_44 : decode cX0_frankAt 44 = .ok (.iaload, 1) := by decide +kernel
theorem dX0_frankAt_45 : decode cX0_frankAt 45 = .ok (.isub, 1) := by decide +kernel
theorem dX0_frankAt_46 : decode cX0_frankAt 46 = .ok (.invokestatic 93, 3) := by decide +kernel
theorem dX0_frankAt_49 : decode cX0_frankAt 49 = .ok (.goto 4, 3) := by decide +kernel
theorem dX0_frankAt_52 : decode cX0_frankAt 52 = .ok (.iconst 0, 1) := by decide +kernel
theorem dX0_frankAt_53 : decode cX0_frankAt 53 = .ok (.ireturn, 1) := by decide +kernel
set_option maxRecDepth 20000 in
theorem ggX0_frankWhenNew_X0_hasBlock : GoodIn wsX0_frankWhenNew wsX0_hasBlock := goodIn_r _ [7, 8, 9, 10, 11, 12, 13, 14, 15, 16, 17, 18, 19, 20, 21] (by decide +kernel) (by decide +kernel)
set_option maxRecDepth 20000 in
theorem gX0_frankWhenNew_X0_hasBlock : GoodIn wsX0_frankWhenNew (wsV RX0 67 RX0 yX0_hasBlock wsX0_hasBlock) := goodIn_app (goodIn_of _ (by decide +kernel)) ggX0_frankWhenNew_X0_hasBlock
theorem dX0_frankWhenNew_0 : decode cX0_frankWhenNew 0 = .ok (.aload_n 0, 1) := by decide +kernel
theorem dX0_frankWhenNew_1 : decode cX0_frankWhenNew 1 = .ok (.iload_n 1, 1) := by decide +kernel
theorem dX0_frankWhenNew_2 : decode cX0_frankWhenNew 2 = .ok (.invokevirtual 67, 3) := by decide +kernel
theorem dX0_frankWhenNew_5 : decode cX0_frankWhenNew 5 = .ok (.ifCond .ne 5, 3) := by decide +kernel
theorem dX0_frankWhenNew_8 : decode cX0_frankWhenNew 8 = .ok (.iconst 0, 1) := by decide +kernel
theorem dX0_frankWhenNew_9 : decode cX0_frankWhenNew 9 = .ok (.ireturn, 1) := by decide +kernel
theorem dX0_frankWhenNew_10 : decode cX0_frankWhenNew 10 = .ok (.aload_n 0, 1) := by decide +kernel
theorem dX0_frankWhenNew_11 : decode cX0_frankWhenNew 11 = .ok (.getfield 15, 3) := by decide +kernel
theorem dX0_frankWhenNew_14 : decode cX0_frankWhenNew 14 = .ok (.iload_n 1, 1) := by decide +kernel
theorem dX0_frankWhenNew_15 : decode cX0_frankWhenNew 15 = .ok (.iaload, 1) := by decide +kernel
theorem dX0_frankWhenNew_16 : decode cX0_frankWhenNew 16 = .ok (.istore_n 3, 1) := by decide +kernel
theorem dX0_frankWhenNew_17 : decode cX0_frankWhenNew 17 = .ok (.iload_n 2, 1) := by decide +kernel
theorem dX0_frankWhenNew_18 : decode cX0_frankWhenNew 18 = .ok (.iconst 3, 1) := by decide +kernel
theorem dX0_frankWhenNew_19 : decode cX0_frankWhenNew 19 = .ok (.irem, 1) := by decide +kernel
theorem dX0_frankWhenNew_20 : decode cX0_frankWhenNew 20 = .ok (.iconst 2, 1) := by decide +kernel
theorem dX0_frankWhenNew_21 : decode cX0_frankWhenNew 21 = .ok (.if_icmp .ne 9, 3) := by decide +kernel
theorem dX0_frankWhenNew_24 : decode cX0_frankWhenNew 24 = .ok (.iload_n 3, 1) := by decide +kernel
theorem dX0_frankWhenNew_25 : decode cX0_frankWhenNew 25 = .ok (.iconst 3, 1) := by decide +kernel
theorem dX0_frankWhenNew_26 : decode cX0_frankWhenNew 26 = .ok (.iadd, 1) := by decide +kernel
theorem dX0_frankWhenNew_27 : decode cX0_frankWhenNew 27 = .ok (.goto 4, 3) := by decide +kernel
theorem dX0_frankWhenNew_30 : decode cX0_frankWhenNew 30 = .ok (.iload_n 3, 1) := by decide +kernel
theorem dX0_frankWhenNew_31 : decode cX0_frankWhenNew 31 = .ok (.istore 4, 2) := by decide +kernel
theorem dX0_frankWhenNew_33 : decode cX0_frankWhenNew 33 = .ok (.aload_n 0, 1) := by decide +kernel
theorem dX0_frankWhenNew_34 : decode cX0_frankWhenNew 34 = .ok (.getfield 9, 3) := by decide +kernel
theorem dX0_frankWhenNew_37 : decode cX0_frankWhenNew 37 = .ok (.iload_n 1, 1) := by decide +kernel
theorem dX0_frankWhenNew_38 : decode cX0_frankWhenNew 38 = .ok (.iaload, 1) := by decide +kernel
theorem dX0_frankWhenNew_39 : decode cX0_frankWhenNew 39 = .ok (.tableswitch 43 0 3 #[29, 31, 34, 39], 29) := by decide +kernel
theorem dX0_frankWhenNew_68 : decode cX0_frankWhenNew 68 = .ok (.iload_n 3, 1) := by decide +kernel
theorem dX0_frankWhenNew_69 : decode cX0_frankWhenNew 69 = .ok (.ireturn, 1) := by decide +kernel
theorem dX0_frankWhenNew_70 : decode cX0_frankWhenNew 70 = .ok (.iload 4, 2) := by decide +kernel
theorem dX0_frankWhenNew_72 : decode cX0_frankWhenNew 72 = .ok (.ireturn, 1) := by decide +kernel
theorem dX0_frankWhenNew_73 : decode cX0_frankWhenNew 73 = .ok (.iconst 2, 1) := by decide +kernel
theorem dX0_frankWhenNew_74 : decode cX0_frankWhenNew 74 = .ok (.iload 4, 2) := by decide +kernel
theorem dX0_frankWhenNew_76 : decode cX0_frankWhenNew 76 = .ok (.imul, 1) := by decide +kernel
theorem dX0_frankWhenNew_77 : decode cX0_frankWhenNew 77 = .ok (.ireturn, 1) := by decide +kernel
theorem dX0_frankWhenNew_78 : decode cX0_frankWhenNew 78 = .ok (.iload_n 3, 1) := by decide +kernel
theorem dX0_frankWhenNew_79 : decode cX0_frankWhenNew 79 = .ok (.iconst 2, 1) := by decide +kernel
theorem dX0_frankWhenNew_80 : decode cX0_frankWhenNew 80 = .ok (.idiv, 1) := by decide +kernel
theorem dX0_frankWhenNew_81 : decode cX0_frankWhenNew 81 = .ok (.ireturn, 1) := by decide +kernel
theorem dX0_frankWhenNew_82 : decode cX0_frankWhenNew 82 = .ok (.iconst 0, 1) := by decide +kernel
theorem dX0_frankWhenNew_83 : decode cX0_frankWhenNew 83 = .ok (.ireturn, 1) := by decide +kernel
set_option maxRecDepth 20000 in
theorem ggX0_frankFrom_X0_frankAt : GoodIn wsX0_frankFrom wsX0_frankAt := goodIn_r _ [5, 6, 7, 8, 9, 10, 11, 12, 13, 14, 4, 15, 16, 17, 18, 19, 20, 21, 22, 23, 24, 25, 26, 27, 28, 29, 30, 31, 32, 33, 34, 35, 36, 37, 38, 39, 40, 41, 42, 43, 44, 45, 46, 47, 48, 49] (by decide +kernel) (by decide +kernel)
set_option maxRecDepth 20000 in
theorem gX0_frankFrom_X0_frankAt : GoodIn wsX0_frankFrom (wsV RX0 96 RX0 yX0_frankAt wsX0_frankAt) := goodIn_app (goodIn_of _ (by decide +kernel)) ggX0_frankFrom_X0_frankAt
theorem dX0_frankFrom_0 : decode cX0_frankFrom 0 = .ok (.iconst 0, 1) := by decide +kernel
theorem dX0_frankFrom_1 : decode cX0_frankFrom 1 = .ok (.istore_n 3, 1) := by decide +kernel
theorem dX0_frankFrom_2 : decode cX0_frankFrom 2 = .ok (.iconst 0, 1) := by decide +kernel
theorem dX0_frankFrom_3 : decode cX0_frankFrom 3 = .ok (.istore 4, 2) := by decide +kernel
theorem dX0_frankFrom_5 : decode cX0_frankFrom 5 = .ok (.iload 4, 2) := by decide +kernel
theorem dX0_frankFrom_7 : decode cX0_frankFrom 7 = .ok (.bipush 12, 2) := by decide +kernel
theorem dX0_frankFrom_9 : decode cX0_frankFrom 9 = .ok (.if_icmp .ge 32, 3) := by decide +kernel
theorem dX0_frankFrom_12 : decode cX0_frankFrom 12 = .ok (.iload 4, 2) := by decide +kernel
theorem dX0_frankFrom_14 : decode cX0_frankFrom 14 = .ok (.iload_n 1, 1) := by decide +kernel
theorem dX0_frankFrom_15 : decode cX0_frankFrom 15 = .ok (.if_icmp .lt 20, 3) := by decide +kernel
theorem dX0_frankFrom_18 : decode cX0_frankFrom 18 = .ok (.iload 4, 2) := by decide +kernel
theorem dX0_frankFrom_20 : decode cX0_frankFrom 20 = .ok (.iload_n 1, 1) := by decide +kernel
theorem dX0_frankFrom_21 : decode cX0_frankFrom 21 = .ok (.iload_n 2, 1) := by decide +kernel
theorem dX0_frankFrom_22 : decode cX0_frankFrom 22 = .ok (.iadd, 1) := by decide +kernel
theorem dX0_frankFrom_23 : decode cX0_frankFrom 23 = .ok (.if_icmp .ge 12, 3) := by decide +kernel
theorem dX0_frankFrom_26 : decode cX0_frankFrom 26 = .ok (.iload_n 3, 1) := by decide +kernel
theorem dX0_frankFrom_27 : decode cX0_frankFrom 27 = .ok (.aload_n 0, 1) := by decide +kernel
theorem dX0_frankFrom_28 : decode cX0_frankFrom 28 = .ok (.iload 4, 2) := by decide +kernel
theorem dX0_frankFrom_30 : decode cX0_frankFrom 30 = .ok (.invokevirtual 96, 3) := by decide +kernel
theorem dX0_frankFrom_33 : decode cX0_frankFrom 33 = .ok (.iadd, 1) := by decide +kernel
theorem dX0_frankFrom_34 : decode cX0_frankFrom 34 = .ok (.istore_n 3, 1) := by decide +kernel
theorem dX0_frankFrom_35 : decode cX0_frankFrom 35 = .ok (.iinc 4 1, 3) := by decide +kernel
theorem dX0_frankFrom_38 : decode cX0_frankFrom 38 = .ok (.goto (-33), 3) := by decide +kernel
theorem dX0_frankFrom_41 : decode cX0_frankFrom 41 = .ok (.iload_n 3, 1) := by decide +kernel
theorem dX0_frankFrom_42 : decode cX0_frankFrom 42 = .ok (.ireturn, 1) := by decide +kernel
set_option maxRecDepth 20000 in
theorem ggX0_frankOfAll_X0_frankFrom : GoodIn wsX0_frankOfAll wsX0_frankFrom := goodIn_r _ [6, 7, 8, 9, 5, 10, 11, 12, 13, 14, 15, 16, 17, 18, 19, 20, 1, 21, 22, 23, 24, 25, 26, 27, 28, 29, 30, 31, 32, 33, 34, 35, 36, 37, 38, 39, 40, 41, 42, 43, 44, 45, 46, 47, 48, 49, 50, 51, 52, 53] (by decide +kernel) (by decide +kernel)
set_option maxRecDepth 20000 in
theorem gX0_frankOfAll_X0_frankFrom : GoodIn wsX0_frankOfAll (wsV RX0 99 RX0 yX0_frankFrom wsX0_frankFrom) := goodIn_app (goodIn_of _ (by decide +kernel)) ggX0_frankOfAll_X0_frankFrom
theorem dX0_frankOfAll_0 : decode cX0_frankOfAll 0 = .ok (.aload_n 0, 1) := by decide +kernel
theorem dX0_frankOfAll_1 : decode cX0_frankOfAll 1 = .ok (.iconst 0, 1) := by decide +kernel
theorem dX0_frankOfAll_2 : decode cX0_frankOfAll 2 = .ok (.aload_n 0, 1) := by decide +kernel
theorem dX0_frankOfAll_3 : decode cX0_frankOfAll 3 = .ok (.getfield 34, 3) := by decide +kernel
theorem dX0_frankOfAll_6 : decode cX0_frankOfAll 6 = .ok (.invokevirtual 99, 3) := by decide +kernel
theorem dX0_frankOfAll_9 : decode cX0_frankOfAll 9 = .ok (.ireturn, 1) := by decide +kernel
set_option maxRecDepth 20000 in
theorem ggX0_frankOf_X0_frankAt : GoodIn wsX0_frankOf wsX0_frankAt := goodIn_r _ [5, 6, 7, 8, 9, 10, 11, 12, 13, 14, 4, 15, 16, 17, 18, 19, 20, 21, 22, 23, 24, 25, 26, 27, 28, 29, 30, 31, 32, 33, 34, 35, 36, 37, 38, 39, 40, 41, 42, 43, 44, 45, 46, 47, 48, 49] (by decide +kernel) (by decide +kernel)
set_option maxRecDepth 20000 in
theorem gX0_frankOf_X0_frankAt : GoodIn wsX0_frankOf (wsV RX0 96 RX0 yX0_frankAt wsX0_frankAt) := goodIn_app (goodIn_of _ (by decide +kernel)) ggX0_frankOf_X0_frankAt
theorem dX0_frankOf_0 : decode cX0_frankOf 0 = .ok (.iconst 0, 1) := by decide +kernel
theorem dX0_frankOf_1 : decode cX0_frankOf 1 = .ok (.istore_n 2, 1) := by decide +kernel
theorem dX0_frankOf_2 : decode cX0_frankOf 2 = .ok (.iconst 0, 1) := by decide +kernel
theorem dX0_frankOf_3 : decode cX0_frankOf 3 = .ok (.istore_n 3, 1) := by decide +kernel
theorem dX0_frankOf_4 : decode cX0_frankOf 4 = .ok (.iload_n 3, 1) := by decide +kernel
theorem dX0_frankOf_5 : decode cX0_frankOf 5 = .ok (.bipush 12, 2) := by decide +kernel
theorem dX0_frankOf_7 : decode cX0_frankOf 7 = .ok (.if_icmp .ge 25, 3) := by decide +kernel
theorem dX0_frankOf_10 : decode cX0_frankOf 10 = .ok (.iload_n 1, 1) := by decide +kernel
theorem dX0_frankOf_11 : decode cX0_frankOf 11 = .ok (.iload_n 3, 1) := by decide +kernel
theorem dX0_frankOf_12 : decode cX0_frankOf 12 = .ok (.ishr, 1) := by decide +kernel
theorem dX0_frankOf_13 : decode cX0_frankOf 13 = .ok (.iconst 1, 1) := by decide +kernel
theorem dX0_frankOf_14 : decode cX0_frankOf 14 = .ok (.iand, 1) := by decide +kernel
theorem dX0_frankOf_15 : decode cX0_frankOf 15 = .ok (.ifCond .eq 11, 3) := by decide +kernel
theorem dX0_frankOf_18 : decode cX0_frankOf 18 = .ok (.iload_n 2, 1) := by decide +kernel
theorem dX0_frankOf_19 : decode cX0_frankOf 19 = .ok (.aload_n 0, 1) := by decide +kernel
theorem dX0_frankOf_20 : decode cX0_frankOf 20 = .ok (.iload_n 3, 1) := by decide +kernel
theorem dX0_frankOf_21 : decode cX0_frankOf 21 = .ok (.invokevirtual 96, 3) := by decide +kernel
theorem dX0_frankOf_24 : decode cX0_frankOf 24 = .ok (.iadd, 1) := by decide +kernel
theorem dX0_frankOf_25 : decode cX0_frankOf 25 = .ok (.istore_n 2, 1) := by decide +kernel
theorem dX0_frankOf_26 : decode cX0_frankOf 26 = .ok (.iinc 3 1, 3) := by decide +kernel
theorem dX0_frankOf_29 : decode cX0_frankOf 29 = .ok (.goto (-25), 3) := by decide +kernel
theorem dX0_frankOf_32 : decode cX0_frankOf 32 = .ok (.iload_n 2, 1) := by decide +kernel
theorem dX0_frankOf_33 : decode cX0_frankOf 33 = .ok (.ireturn, 1) := by decide +kernel
set_option maxRecDepth 20000 in
theorem ggX0_placesOf_X0_whoAt : GoodIn wsX0_placesOf wsX0_whoAt := goodIn_r _ [6, 7, 8, 9, 10, 11, 12, 13, 14, 15, 16, 17, 18, 19, 20, 21, 22, 23, 24, 25] (by decide +kernel) (by decide +kernel)
set_option maxRecDepth 20000 in
theorem gX0_placesOf_X0_whoAt : GoodIn wsX0_placesOf (wsV RX0 87 RX0 yX0_whoAt wsX0_whoAt) := goodIn_app (goodIn_of _ (by decide +kernel)) ggX0_placesOf_X0_whoAt
theorem dX0_placesOf_0 : decode cX0_placesOf 0 = .ok (.iconst 0, 1) := by decide +kernel
theorem dX0_placesOf_1 : decode cX0_placesOf 1 = .ok (.istore_n 2, 1) := by decide +kernel
theorem dX0_placesOf_2 : decode cX0_placesOf 2 = .ok (.iconst 0, 1) := by decide +kernel
theorem dX0_placesOf_3 : decode cX0_placesOf 3 = .ok (.istore_n 3, 1) := by decide +kernel
theorem dX0_placesOf_4 : decode cX0_placesOf 4 = .ok (.iload_n 3, 1) := by decide +kernel
theorem dX0_placesOf_5 : decode cX0_placesOf 5 = .ok (.aload_n 0, 1) := by decide +kernel
theorem dX0_placesOf_6 : decode cX0_placesOf 6 = .ok (.getfield 34, 3) := by decide +kernel
theorem dX0_placesOf_9 : decode cX0_placesOf 9 = .ok (.if_icmp .ge 30, 3) := by decide +kernel
theorem dX0_placesOf_12 : decode cX0_placesOf 12 = .ok (.iload_n 3, 1) := by decide +kernel
theorem dX0_placesOf_13 : decode cX0_placesOf 13 = .ok (.bipush 12, 2) := by decide +kernel
theorem dX0_placesOf_15 : decode cX0_placesOf 15 = .ok (.if_icmp .ge 24, 3) := by decide +kernel
theorem dX0_placesOf_18 : decode cX0_placesOf 18 = .ok (.aload_n 0, 1) := by decide +kernel
theorem dX0_placesOf_19 : decode cX0_placesOf 19 = .ok (.iload_n 3, 1) := by decide +kernel
theorem dX0_placesOf_20 : decode cX0_placesOf 20 = .ok (.invokevirtual 87, 3) := by decide +kernel
theorem dX0_placesOf_23 : decode cX0_placesOf 23 = .ok (.iload_n 1, 1) := by decide +kernel
theorem dX0_placesOf_24 : decode cX0_placesOf 24 = .ok (.if_icmp .ne 9, 3) := by decide +kernel
theorem dX0_placesOf_27 : decode cX0_placesOf 27 = .ok (.iload_n 2, 1) := by decide +kernel
theorem dX0_placesOf_28 : decode cX0_placesOf 28 = .ok (.iconst 1, 1) := by decide +kernel
theorem dX0_placesOf_29 : decode cX0_placesOf 29 = .ok (.iload_n 3, 1) := by decide +kernel
theorem dX0_placesOf_30 : decode cX0_placesOf 30 = .ok (.ishl, 1) := by decide +kernel
theorem dX0_placesOf_31 : decode cX0_placesOf 31 = .ok (.ior, 1) := by decide +kernel
theorem dX0_placesOf_32 : decode cX0_placesOf 32 = .ok (.istore_n 2, 1) := by decide +kernel
theorem dX0_placesOf_33 : decode cX0_placesOf 33 = .ok (.iinc 3 1, 3) := by decide +kernel
theorem dX0_placesOf_36 : decode cX0_placesOf 36 = .ok (.goto (-32), 3) := by decide +kernel
theorem dX0_placesOf_39 : decode cX0_placesOf 39 = .ok (.iload_n 2, 1) := by decide +kernel
theorem dX0_placesOf_40 : decode cX0_placesOf 40 = .ok (.ireturn, 1) := by decide +kernel
set_option maxRecDepth 20000 in
theorem ggX0_placesWithout_X0_frankAt : GoodIn wsX0_placesWithout wsX0_frankAt := goodIn_r _ [6, 7, 8, 9, 10, 11, 12, 13, 14, 15, 5, 16, 1, 17, 18, 19, 20, 21, 22, 23, 24, 25, 26, 27, 28, 29, 30, 31, 32, 33, 34, 35, 36, 37, 38, 39, 40, 41, 42, 43, 44, 45, 46, 47, 48, 49] (by decide +kernel) (by decide +kernel)
set_option maxRecDepth 20000 in
theorem gX0_placesWithout_X0_frankAt : GoodIn wsX0_placesWithout (wsV RX0 96 RX0 yX0_frankAt wsX0_frankAt) := goodIn_app (goodIn_of _ (by decide +kernel)) ggX0_placesWithout_X0_frankAt
theorem dX0_placesWithout_0 : decode cX0_placesWithout 0 = .ok (.iconst 0, 1) := by decide +kernel
theorem dX0_placesWithout_1 : decode cX0_placesWithout 1 = .ok (.istore_n 1, 1) := by decide +kernel
theorem dX0_placesWithout_2 : decode cX0_placesWithout 2 = .ok (.iconst 0, 1) := by decide +kernel
theorem dX0_placesWithout_3 : decode cX0_placesWithout 3 = .ok (.istore_n 2, 1) := by decide +kernel
theorem dX0_placesWithout_4 : decode cX0_placesWithout 4 = .ok (.iload_n 2, 1) := by decide +kernel
theorem dX0_placesWithout_5 : decode cX0_placesWithout 5 = .ok (.aload_n 0, 1) := by decide +kernel
theorem dX0_placesWithout_6 : decode cX0_placesWithout 6 = .ok (.getfield 34, 3) := by decide +kernel
theorem dX0_placesWithout_9 : decode cX0_placesWithout 9 = .ok (.if_icmp .ge 29, 3) := by decide +kernel
theorem dX0_placesWithout_12 : decode cX0_placesWithout 12 = .ok (.iload_n 2, 1) := by decide +kernel
theorem dX0_placesWithout_13 : decode cX0_placesWithout 13 = .ok (.bipush 12, 2) := by decide +kernel
theorem dX0_placesWithout_15 : decode cX0_placesWithout 15 = .ok (.if_icmp .ge 23, 3) := by decide +kernel
theorem dX0_placesWithout_18 : decode cX0_placesWithout 18 = .ok (.aload_n 0, 1) := by decide +kernel
theorem dX0_placesWithout_19 : decode cX0_placesWithout 19 = .ok (.iload_n 2, 1) := by decide +kernel
theorem dX0_placesWithout_20 : decode cX0_placesWithout 20 = .ok (.invokevirtual 96, 3) := by decide +kernel
theorem dX0_placesWithout_23 : decode cX0_placesWithout 23 = .ok (.ifCond .ne 9, 3) := by decide +kernel
theorem dX0_placesWithout_26 : decode cX0_placesWithout 26 = .ok (.iload_n 1, 1) := by decide +kernel
theorem dX0_placesWithout_27 : decode cX0_placesWithout 27 = .ok (.iconst 1, 1) := by decide +kernel
theorem dX0_placesWithout_28 : decode cX0_placesWithout 28 = .ok (.iload_n 2, 1) := by decide +kernel
theorem dX0_placesWithout_29 : decode cX0_placesWithout 29 = .ok (.ishl, 1) := by decide +kernel
theorem dX0_placesWithout_30 : decode cX0_placesWithout 30 = .ok (.ior, 1) := by decide +kernel
theorem dX0_placesWithout_31 : decode cX0_placesWithout 31 = .ok (.istore_n 1, 1) := by decide +kernel
theorem dX0_placesWithout_32 : decode cX0_placesWithout 32 = .ok (.iinc 2 1, 3) := by decide +kernel
theorem dX0_placesWithout_35 : decode cX0_placesWithout 35 = .ok (.goto (-31), 3) := by decide +kernel
theorem dX0_placesWithout_38 : decode cX0_placesWithout 38 = .ok (.iload_n 1, 1) := by decide +kernel
theorem dX0_placesWithout_39 : decode cX0_placesWithout 39 = .ok (.ireturn, 1) := by decide +kernel
set_option maxRecDepth 20000 in
theorem ggX0_frankestFrom_X0_frankFrom : GoodIn wsX0_frankestFrom wsX0_frankFrom := goodIn_r _ [6, 7, 8, 9, 5, 10, 11, 12, 13, 14, 15, 16, 17, 18, 19, 20, 1, 21, 22, 23, 24, 25, 26, 27, 28, 29, 30, 31, 32, 33, 34, 35, 36, 37, 38, 39, 40, 41, 42, 43, 44, 45, 46, 47, 48, 49, 50, 51, 52, 53] (by decide +kernel) (by decide +kernel)
set_option maxRecDepth 20000 in
theorem gX0_frankestFrom_X0_frankFrom : GoodIn wsX0_frankestFrom (wsV RX0 99 RX0 yX0_frankFrom wsX0_frankFrom) := goodIn_app (goodIn_of _ (by decide +kernel)) ggX0_frankestFrom_X0_frankFrom
theorem dX0_frankestFrom_0 : decode cX0_frankestFrom 0 = .ok (.iconst 0, 1) := by decide +kernel
theorem dX0_frankestFrom_1 : decode cX0_frankestFrom 1 = .ok (.istore_n 2, 1) := by decide +kernel
theorem dX0_frankestFrom_2 : decode cX0_frankestFrom 2 = .ok (.iconst (-1), 1) := by decide +kernel
theorem dX0_frankestFrom_3 : decode cX0_frankestFrom 3 = .ok (.istore_n 3, 1) := by decide +kernel
theorem dX0_frankestFrom_4 : decode cX0_frankestFrom 4 = .ok (.iconst 0, 1) := by decide +kernel
theorem dX0_frankestFrom_5 : decode cX0_frankestFrom 5 = .ok (.istore 4, 2) := by decide +kernel
theorem dX0_frankestFrom_7 : decode cX0_frankestFrom 7 = .ok (.iload 4, 2) := by decide +kernel
theorem dX0_frankestFrom_9 : decode cX0_frankestFrom 9 = .ok (.iload_n 1, 1) := by decide +kernel
theorem dX0_frankestFrom_10 : decode cX0_frankestFrom 10 = .ok (.iadd, 1) := by decide +kernel
theorem dX0_frankestFrom_11 : decode cX0_frankestFrom 11 = .ok (.aload_n 0, 1) := by decide +kernel
theorem dX0_frankestFrom_12 : decode cX0_frankestFrom 12 = .ok (.getfield 34, 3) := by decide +kernel
theorem dX0_frankestFrom_15 : decode cX0_frankestFrom 15 = .ok (.if_icmp .gt 37, 3) := by decide +kernel
theorem dX0_frankestFrom_18 : decode cX0_frankestFrom 18 = .ok (.iload 4, 2) := by decide +kernel
theorem dX0_frankestFrom_20 : decode cX0_frankestFrom 20 = .ok (.bipush 12, 2) := by decide +kernel
theorem dX0_frankestFrom_22 : decode cX0_frankestFrom 22 = .ok (.if_icmp .ge 30, 3) := by decide +kernel
theorem dX0_frankestFrom_25 : decode cX0_frankestFrom 25 = .ok (.aload_n 0, 1) := by decide +kernel
theorem dX0_frankestFrom_26 : decode cX0_frankestFrom 26 = .ok (.iload 4, 2) := by decide +kernel
theorem dX0_frankestFrom_28 : decode cX0_frankestFrom 28 = .ok (.iload_n 1, 1) := by decide +kernel
theorem dX0_frankestFrom_29 : decode cX0_frankestFrom 29 = .ok (.invokevirtual 99, 3) := by decide +kernel
theorem dX0_frankestFrom_32 : decode cX0_frankestFrom 32 = .ok (.istore 5, 2) := by decide +kernel
theorem dX0_frankestFrom_34 : decode cX0_frankestFrom 34 = .ok (.iload 5, 2) := by decide +kernel
theorem dX0_frankestFrom_36 : decode cX0_frankestFrom 36 = .ok (.iload_n 3, 1) := by decide +kernel
theorem dX0_frankestFrom_37 : decode cX0_frankestFrom 37 = .ok (.if_icmp .le 9, 3) := by decide +kernel
theorem dX0_frankestFrom_40 : decode cX0_frankestFrom 40 = .ok (.iload 4, 2) := by decide +kernel
theorem dX0_frankestFrom_42 : decode cX0_frankestFrom 42 = .ok (.istore_n 2, 1) := by decide +kernel
theorem dX0_frankestFrom_43 : decode cX0_frankestFrom 43 = .ok (.iload 5, 2) := by decide +kernel
theorem dX0_frankestFrom_45 : decode cX0_frankestFrom 45 = .ok (.istore_n 3, 1) := by decide +kernel
theorem dX0_frankestFrom_46 : decode cX0_frankestFrom 46 = .ok (.iinc 4 1, 3) := by decide +kernel
theorem dX0_frankestFrom_49 : decode cX0_frankestFrom 49 = .ok (.goto (-42), 3) := by decide +kernel
theorem dX0_frankestFrom_52 : decode cX0_frankestFrom 52 = .ok (.iload_n 2, 1) := by decide +kernel
theorem dX0_frankestFrom_53 : decode cX0_frankestFrom 53 = .ok (.ireturn, 1) := by decide +kernel
set_option maxRecDepth 20000 in
theorem ggX0_repeatsBy_X0_looksAt : GoodIn wsX0_repeatsBy wsX0_looksAt := goodIn_r _ [6, 7, 8, 9, 10, 11, 5, 12, 13, 14, 15, 16, 17, 18, 19, 20, 21, 22, 23, 24, 25, 26, 27, 28, 29, 30, 31, 32, 33, 34, 35] (by decide +kernel) (by decide +kernel)
set_option maxRecDepth 20000 in
theorem gX0_repeatsBy_X0_looksAt : GoodIn wsX0_repeatsBy (wsV RX0 102 RX0 yX0_looksAt wsX0_looksAt) := goodIn_app (goodIn_of _ (by decide +kernel)) ggX0_repeatsBy_X0_looksAt
theorem dX0_repeatsBy_0 : decode cX0_repeatsBy 0 = .ok (.iconst 0, 1) := by decide +kernel
theorem dX0_repeatsBy_1 : decode cX0_repeatsBy 1 = .ok (.istore_n 2, 1) := by decide +kernel
theorem dX0_repeatsBy_2 : decode cX0_repeatsBy 2 = .ok (.iload_n 2, 1) := by decide +kernel
theorem dX0_repeatsBy_3 : decode cX0_repeatsBy 3 = .ok (.iload_n 1, 1) := by decide +kernel
theorem dX0_repeatsBy_4 : decode cX0_repeatsBy 4 = .ok (.iadd, 1) := by decide +kernel
theorem dX0_repeatsBy_5 : decode cX0_repeatsBy 5 = .ok (.aload_n 0, 1) := by decide +kernel
theorem dX0_repeatsBy_6 : decode cX0_repeatsBy 6 = .ok (.getfield 34, 3) := by decide +kernel
theorem dX0_repeatsBy_9 : decode cX0_repeatsBy 9 = .ok (.if_icmp .ge 32, 3) := by decide +kernel
theorem dX0_repeatsBy_12 : decode cX0_repeatsBy 12 = .ok (.iload_n 2, 1) := by decide +kernel
theorem dX0_repeatsBy_13 : decode cX0_repeatsBy 13 = .ok (.bipush 12, 2) := by decide +kernel
theorem dX0_repeatsBy_15 : decode cX0_repeatsBy 15 = .ok (.if_icmp .ge 26, 3) := by decide +kernel
theorem dX0_repeatsBy_18 : decode cX0_repeatsBy 18 = .ok (.aload_n 0, 1) := by decide +kernel
theorem dX0_repeatsBy_19 : decode cX0_repeatsBy 19 = .ok (.iload_n 2, 1) := by decide +kernel
theorem dX0_repeatsBy_20 : decode cX0_repeatsBy 20 = .ok (.invokevirtual 102, 3) := by decide +kernel
theorem dX0_repeatsBy_23 : decode cX0_repeatsBy 23 = .ok (.aload_n 0, 1) := by decide +kernel
theorem dX0_repeatsBy_24 : decode cX0_repeatsBy 24 = .ok (.iload_n 2, 1) := by decide +kernel
theorem dX0_repeatsBy_25 : decode cX0_repeatsBy 25 = .ok (.iload_n 1, 1) := by decide +kernel
theorem dX0_repeatsBy_26 : decode cX0_repeatsBy 26 = .ok (.iadd, 1) := by decide +kernel
theorem dX0_repeatsBy_27 : decode cX0_repeatsBy 27 = .ok (.invokevirtual 102, 3) := by decide +kernel
theorem dX0_repeatsBy_30 : decode cX0_repeatsBy 30 = .ok (.if_icmp .eq 5, 3) := by decide +kernel
theorem dX0_repeatsBy_33 : decode cX0_repeatsBy 33 = .ok (.iconst 0, 1) := by decide +kernel
theorem dX0_repeatsBy_34 : decode cX0_repeatsBy 34 = .ok (.ireturn, 1) := by decide +kernel
theorem dX0_repeatsBy_35 : decode cX0_repeatsBy 35 = .ok (.iinc 2 1, 3) := by decide +kernel
theorem dX0_repeatsBy_38 : decode cX0_repeatsBy 38 = .ok (.goto (-36), 3) := by decide +kernel
theorem dX0_repeatsBy_41 : decode cX0_repeatsBy 41 = .ok (.iconst 1, 1) := by decide +kernel
theorem dX0_repeatsBy_42 : decode cX0_repeatsBy 42 = .ok (.ireturn, 1) := by decide +kernel
set_option maxRecDepth 20000 in
theorem ggX0_looksLike_X0_looksAt : GoodIn wsX0_looksLike wsX0_looksAt := goodIn_r _ [6, 7, 8, 9, 10, 11, 5, 12, 13, 14, 15, 16, 17, 18, 19, 20, 21, 22, 23, 24, 25, 26, 27, 28, 29, 30, 31, 32, 33, 34, 35] (by decide +kernel) (by decide +kernel)
set_option maxRecDepth 20000 in
theorem gX0_looksLike_X0_looksAt : GoodIn wsX0_looksLike (wsV RX0 102 RX0 yX0_looksAt wsX0_looksAt) := goodIn_app (goodIn_of _ (by decide +kernel)) ggX0_looksLike_X0_looksAt
theorem dX0_looksLike_0 : decode cX0_looksLike 0 = .ok (.aload_n 1, 1) := by decide +kernel
theorem dX0_looksLike_1 : decode cX0_looksLike 1 = .ok (.ifnonnull 5, 3) := by decide +kernel
theorem dX0_looksLike_4 : decode cX0_looksLike 4 = .ok (.iconst 0, 1) := by decide +kernel
theorem dX0_looksLike_5 : decode cX0_looksLike 5 = .ok (.ireturn, 1) := by decide +kernel
theorem dX0_looksLike_6 : decode cX0_looksLike 6 = .ok (.iconst 0, 1) := by decide +kernel
theorem dX0_looksLike_7 : decode cX0_looksLike 7 = .ok (.istore_n 2, 1) := by decide +kernel
theorem dX0_looksLike_8 : decode cX0_looksLike 8 = .ok (.iload_n 2, 1) := by decide +kernel
theorem dX0_looksLike_9 : decode cX0_looksLike 9 = .ok (.aload_n 0, 1) := by decide +kernel
theorem dX0_looksLike_10 : decode cX0_looksLike 10 = .ok (.getfield 34, 3) := by decide +kernel
theorem dX0_looksLike_13 : decode cX0_looksLike 13 = .ok (.if_icmp .ge 30, 3) := by decide +kernel
theorem dX0_looksLike_16 : decode cX0_looksLike 16 = .ok (.iload_n 2, 1) := by decide +kernel
theorem dX0_looksLike_17 : decode cX0_looksLike 17 = .ok (.bipush 12, 2) := by decide +kernel
theorem dX0_looksLike_19 : decode cX0_looksLike 19 = .ok (.if_icmp .ge 24, 3) := by decide +kernel
theorem dX0_looksLike_22 : decode cX0_looksLike 22 = .ok (.aload_n 0, 1) := by decide +kernel
theorem dX0_looksLike_23 : decode cX0_looksLike 23 = .ok (.iload_n 2, 1) := by decide +kernel
theorem dX0_looksLike_24 : decode cX0_looksLike 24 = .ok (.invokevirtual 102, 3) := by decide +kernel
theorem dX0_looksLike_27 : decode cX0_looksLike 27 = .ok (.aload_n 1, 1) := by decide +kernel
theorem dX0_looksLike_28 : decode cX0_looksLike 28 = .ok (.iload_n 2, 1) := by decide +kernel
theorem dX0_looksLike_29 : decode cX0_looksLike 29 = .ok (.invokevirtual 102, 3) := by decide +kernel
theorem dX0_looksLike_32 : decode cX0_looksLike 32 = .ok (.if_icmp .eq 5, 3) := by decide +kernel
theorem dX0_looksLike_35 : decode cX0_looksLike 35 = .ok (.iconst 0, 1) := by decide +kernel
theorem dX0_looksLike_36 : decode cX0_looksLike 36 = .ok (.ireturn, 1) := by decide +kernel
theorem dX0_looksLike_37 : decode cX0_looksLike 37 = .ok (.iinc 2 1, 3) := by decide +kernel
theorem dX0_looksLike_40 : decode cX0_looksLike 40 = .ok (.goto (-32), 3) := by decide +kernel
theorem dX0_looksLike_43 : decode cX0_looksLike 43 = .ok (.iconst 1, 1) := by decide +kernel
theorem dX0_looksLike_44 : decode cX0_looksLike 44 = .ok (.ireturn, 1) := by decide +kernel
set_option maxRecDepth 20000 in
theorem ggX0_looksAt_X0_whoAt : GoodIn wsX0_looksAt wsX0_whoAt := goodIn_r _ [7, 8, 9, 10, 11, 12, 13, 18, 19, 20, 21, 22, 23, 24, 25, 26, 27, 28, 29, 30] (by decide +kernel) (by decide +kernel)
set_option maxRecDepth 20000 in
theorem gX0_looksAt_X0_whoAt : GoodIn wsX0_looksAt (wsV RX0 87 RX0 yX0_whoAt wsX0_whoAt) := goodIn_app (goodIn_of _ (by decide +kernel)) ggX0_looksAt_X0_whoAt
set_option maxRecDepth 20000 in
theorem ggX0_looksAt_X0_hasBlock : GoodIn wsX0_looksAt wsX0_hasBlock := goodIn_r _ [17, 8, 18, 19, 20, 21, 22, 23, 24, 25, 26, 27, 28, 29, 30] (by decide +kernel) (by decide +kernel)
set_option maxRecDepth 20000 in
theorem gX0_looksAt_X0_hasBlock : GoodIn wsX0_looksAt (wsV RX0 67 RX0 yX0_hasBlock wsX0_hasBlock) := goodIn_app (goodIn_of _ (by decide +kernel)) ggX0_looksAt_X0_hasBlock
theorem dX0_looksAt_0 : decode cX0_looksAt 0 = .ok (.aload_n 0, 1) := by decide +kernel
theorem dX0_looksAt_1 : decode cX0_looksAt 1 = .ok (.iload_n 1, 1) := by decide +kernel
theorem dX0_looksAt_2 : decode cX0_looksAt 2 = .ok (.invokevirtual 87, 3) := by decide +kernel
theorem dX0_looksAt_5 : decode cX0_looksAt 5 = .ok (.istore_n 2, 1) := by decide +kernel
theorem dX0_looksAt_6 : decode cX0_looksAt 6 = .ok (.aload_n 0, 1) := by decide +kernel
theorem dX0_looksAt_7 : decode cX0_looksAt 7 = .ok (.iload_n 2, 1) := by decide +kernel
theorem dX0_looksAt_8 : decode cX0_looksAt 8 = .ok (.invokevirtual 67, 3) := by decide +kernel
theorem dX0_looksAt_11 : decode cX0_looksAt 11 = .ok (.ifCond .eq 22, 3) := by decide +kernel
theorem dX0_looksAt_14 : decode cX0_looksAt 14 = .ok (.aload_n 0, 1) := by decide +kernel
theorem dX0_looksAt_15 : decode cX0_looksAt 15 = .ok (.getfield 9, 3) := by decide +kernel
theorem dX0_looksAt_18 : decode cX0_looksAt 18 = .ok (.iload_n 2, 1) := by decide +kernel
theorem dX0_looksAt_19 : decode cX0_looksAt 19 = .ok (.iaload, 1) := by decide +kernel
theorem dX0_looksAt_20 : decode cX0_looksAt 20 = .ok (.bipush 10, 2) := by decide +kernel
theorem dX0_looksAt_22 : decode cX0_looksAt 22 = .ok (.imul, 1) := by decide +kernel
theorem dX0_looksAt_23 : decode cX0_looksAt 23 = .ok (.aload_n 0, 1) := by decide +kernel
theorem dX0_looksAt_24 : decode cX0_looksAt 24 = .ok (.getfield 15, 3) := by decide +kernel
theorem dX0_looksAt_27 : decode cX0_looksAt 27 = .ok (.iload_n 2, 1) := by decide +kernel
theorem dX0_looksAt_28 : decode cX0_looksAt 28 = .ok (.iaload, 1) := by decide +kernel
theorem dX0_looksAt_29 : decode cX0_looksAt 29 = .ok (.iadd, 1) := by decide +kernel
theorem dX0_looksAt_30 : decode cX0_looksAt 30 = .ok (.goto 5, 3) := by decide +kernel
theorem dX0_looksAt_33 : decode cX0_looksAt 33 = .ok (.bipush (-4), 2) := by decide +kernel
theorem dX0_looksAt_35 : decode cX0_looksAt 35 = .ok (.ireturn, 1) := by decide +kernel
theorem dX0_warmthOfAll_0 : decode cX0_warmthOfAll 0 = .ok (.iconst 0, 1) := by decide +kernel
theorem dX0_warmthOfAll_1 : decode cX0_warmthOfAll 1 = .ok (.istore_n 1, 1) := by decide +kernel
theorem dX0_warmthOfAll_2 : decode cX0_warmthOfAll 2 = .ok (.iconst 0, 1) := by decide +kernel
theorem dX0_warmthOfAll_3 : decode cX0_warmthOfAll 3 = .ok (.istore_n 2, 1) := by decide +kernel
theorem dX0_warmthOfAll_4 : decode cX0_warmthOfAll 4 = .ok (.iload_n 2, 1) := by decide +kernel
theorem dX0_warmthOfAll_5 : decode cX0_warmthOfAll 5 = .ok (.aload_n 0, 1) := by decide +kernel
theorem dX0_warmthOfAll_6 : decode cX0_warmthOfAll 6 = .ok (.getfield 30, 3) := by decide +kernel
theorem dX0_warmthOfAll_9 : decode cX0_warmthOfAll 9 = .ok (.if_icmp .ge 24, 3) := by decide +kernel
theorem dX0_warmthOfAll_12 : decode cX0_warmthOfAll 12 = .ok (.iload_n 2, 1) := by decide +kernel
theorem dX0_warmthOfAll_13 : decode cX0_warmthOfAll 13 = .ok (.bipush 6, 2) := by decide +kernel
theorem dX0_warmthOfAll_15 : decode cX0_warmthOfAll 15 = .ok (.if_icmp .ge 18, 3) := by decide +kernel
theorem dX0_warmthOfAll_18 : decode cX0_warmthOfAll 18 = .ok (.iload_n 1, 1) := by decide +kernel
theorem dX0_warmthOfAll_19 : decode cX0_warmthOfAll 19 = .ok (.aload_n 0, 1) := by decide +kernel
theorem dX0_warmthOfAll_20 : decode cX0_warmthOfAll 20 = .ok (.getfield 15, 3) := by decide +kernel
theorem dX0_warmthOfAll_23 : decode cX0_warmthOfAll 23 = .ok (.iload_n 2, 1) := by decide +kernel
theorem dX0_warmthOfAll_24 : decode cX0_warmthOfAll 24 = .ok (.iaload, 1) := by decide +kernel
theorem dX0_warmthOfAll_25 : decode cX0_warmthOfAll 25 = .ok (.iadd, 1) := by decide +kernel
theorem dX0_warmthOfAll_26 : decode cX0_warmthOfAll 26 = .ok (.istore_n 1, 1) := by decide +kernel
theorem dX0_warmthOfAll_27 : decode cX0_warmthOfAll 27 = .ok (.iinc 2 1, 3) := by decide +kernel
theorem dX0_warmthOfAll_30 : decode cX0_warmthOfAll 30 = .ok (.goto (-26), 3) := by decide +kernel
theorem dX0_warmthOfAll_33 : decode cX0_warmthOfAll 33 = .ok (.iload_n 1, 1) := by decide +kernel
theorem dX0_warmthOfAll_34 : decode cX0_warmthOfAll 34 = .ok (.ireturn, 1) := by decide +kernel
theorem dX0_fadeOfAll_0 : decode cX0_fadeOfAll 0 = .ok (.iconst 0, 1) := by decide +kernel
theorem dX0_fadeOfAll_1 : decode cX0_fadeOfAll 1 = .ok (.istore_n 1, 1) := by decide +kernel
theorem dX0_fadeOfAll_2 : decode cX0_fadeOfAll 2 = .ok (.iconst 0, 1) := by decide +kernel
theorem dX0_fadeOfAll_3 : decode cX0_fadeOfAll 3 = .ok (.istore_n 2, 1) := by decide +kernel
theorem dX0_fadeOfAll_4 : decode cX0_fadeOfAll 4 = .ok (.iload_n 2, 1) := by decide +kernel
theorem dX0_fadeOfAll_5 : decode cX0_fadeOfAll 5 = .ok (.aload_n 0, 1) := by decide +kernel
theorem dX0_fadeOfAll_6 : decode cX0_fadeOfAll 6 = .ok (.getfield 34, 3) := by decide +kernel
theorem dX0_fadeOfAll_9 : decode cX0_fadeOfAll 9 = .ok (.if_icmp .ge 24, 3) := by decide +kernel
theorem dX0_fadeOfAll_12 : decode cX0_fadeOfAll 12 = .ok (.iload_n 2, 1) := by decide +kernel
theorem dX0_fadeOfAll_13 : decode cX0_fadeOfAll 13 = .ok (.bipush 12, 2) := by decide +kernel
theorem dX0_fadeOfAll_15 : decode cX0_fadeOfAll 15 = .ok (.if_icmp .ge 18, 3) := by decide +kernel
theorem dX0_fadeOfAll_18 : decode cX0_fadeOfAll 18 = .ok (.iload_n 1, 1) := by decide +kernel
theorem dX0_fadeOfAll_19 : decode cX0_fadeOfAll 19 = .ok (.aload_n 0, 1) := by decide +kernel
theorem dX0_fadeOfAll_20 : decode cX0_fadeOfAll 20 = .ok (.getfield 18, 3) := by decide +kernel
theorem dX0_fadeOfAll_23 : decode cX0_fadeOfAll 23 = .ok (.iload_n 2, 1) := by decide +kernel
theorem dX0_fadeOfAll_24 : decode cX0_fadeOfAll 24 = .ok (.iaload, 1) := by decide +kernel
theorem dX0_fadeOfAll_25 : decode cX0_fadeOfAll 25 = .ok (.iadd, 1) := by decide +kernel
theorem dX0_fadeOfAll_26 : decode cX0_fadeOfAll 26 = .ok (.istore_n 1, 1) := by decide +kernel
theorem dX0_fadeOfAll_27 : decode cX0_fadeOfAll 27 = .ok (.iinc 2 1, 3) := by decide +kernel
theorem dX0_fadeOfAll_30 : decode cX0_fadeOfAll 30 = .ok (.goto (-26), 3) := by decide +kernel
theorem dX0_fadeOfAll_33 : decode cX0_fadeOfAll 33 = .ok (.iload_n 1, 1) := by decide +kernel
theorem dX0_fadeOfAll_34 : decode cX0_fadeOfAll 34 = .ok (.ireturn, 1) := by decide +kernel
set_option maxRecDepth 20000 in
theorem ggX1_init_X0_init : GoodIn wsX1_init wsX0_init := goodIn_r _ [11, 12, 2, 3, 13, 14, 15, 16, 17, 18, 19, 20, 21, 6, 22, 23, 24, 25, 26, 27, 28, 29, 30, 31, 32, 33, 34, 35, 36, 37, 38, 39, 40, 41, 42, 43, 44, 45, 46, 47] (by decide +kernel) (by decide +kernel)
set_option maxRecDepth 20000 in
theorem gX1_init_X0_init : GoodIn wsX1_init (wsX0_init) := ggX1_init_X0_init
theorem dX1_init_0 : decode cX1_init 0 = .ok (.aload_n 0, 1) := by decide +kernel
theorem dX1_init_1 : decode cX1_init 1 = .ok (.invokespecial 1, 3) := by decide +kernel
theorem dX1_init_4 : decode cX1_init 4 = .ok (.aload_n 0, 1) := by decide +kernel
theorem dX1_init_5 : decode cX1_init 5 = .ok (.new 7, 3) := by decide +kernel
theorem dX1_init_8 : decode cX1_init 8 = .ok (.dup, 1) := by decide +kernel
theorem dX1_init_9 : decode cX1_init 9 = .ok (.invokespecial 9, 3) := by decide +kernel
theorem dX1_init_12 : decode cX1_init 12 = .ok (.putfield 10, 3) := by decide +kernel
theorem dX1_init_15 : decode cX1_init 15 = .ok (.aload_n 0, 1) := by decide +kernel
theorem dX1_init_16 : decode cX1_init 16 = .ok (.iconst 0, 1) := by decide +kernel
theorem dX1_init_17 : decode cX1_init 17 = .ok (.putfield 16, 3) := by decide +kernel
theorem dX1_init_20 : decode cX1_init 20 = .ok (.return_, 1) := by decide +kernel
theorem dX2_init_0 : decode cX2_init 0 = .ok (.aload_n 0, 1) := by decide +kernel
theorem dX2_init_1 : decode cX2_init 1 = .ok (.invokespecial 3, 3) := by decide +kernel
theorem dX2_init_4 : decode cX2_init 4 = .ok (.aload_n 0, 1) := by decide +kernel
theorem dX2_init_5 : decode cX2_init 5 = .ok (.sipush 289, 3) := by decide +kernel
theorem dX2_init_8 : decode cX2_init 8 = .ok (.newarray .long, 2) := by decide +kernel
theorem dX2_init_10 : decode cX2_init 10 = .ok (.putfield 11, 3) := by decide +kernel
theorem dX2_init_13 : decode cX2_init 13 = .ok (.aload_n 0, 1) := by decide +kernel
theorem dX2_init_14 : decode cX2_init 14 = .ok (.lconst 1, 1) := by decide +kernel
theorem dX2_init_15 : decode cX2_init 15 = .ok (.putfield 15, 3) := by decide +kernel
theorem dX2_init_18 : decode cX2_init 18 = .ok (.return_, 1) := by decide +kernel
set_option maxRecDepth 20000 in
theorem ggX2_reckon_J7_fill_d0a16 : GoodIn wsX2_reckon wsJ7_fill_d0a16 := goodIn_r _ [6] (by decide +kernel) (by decide +kernel)
set_option maxRecDepth 20000 in
theorem gX2_reckon_J7_fill_d0a16 : GoodIn wsX2_reckon (va_wsS RX2 19 yJ7_fill_d0a16 wsJ7_fill_d0a16) := goodIn_app (goodIn_of _ (by decide +kernel)) ggX2_reckon_J7_fill_d0a16
set_option maxRecDepth 20000 in
theorem ggX2_reckon_X0_frankAt : GoodIn wsX2_reckon wsX0_frankAt := goodIn_r _ [11, 12, 13, 14, 15, 16, 17, 18, 19, 20, 10, 21, 22, 23, 24, 25, 26, 27, 28, 29, 30, 31, 32, 33, 34, 35, 36, 37, 38, 39, 40, 41, 42, 51, 52, 53, 54, 55, 56, 57, 58, 59, 60, 61, 62, 63] (by decide +kernel) (by decide +kernel)
set_option maxRecDepth 20000 in
theorem gX2_reckon_X0_frankAt : GoodIn wsX2_reckon (wsV RX2 25 RX0 yX0_frankAt wsX0_frankAt) := goodIn_app (goodIn_of _ (by decide +kernel)) ggX2_reckon_X0_frankAt
set_option maxRecDepth 20000 in
theorem ggX2_reckon_X2_hangLamp : GoodIn wsX2_reckon wsX2_hangLamp := goodIn_r _ [47, 1, 2, 48, 49, 50] (by decide +kernel) (by decide +kernel)
set_option maxRecDepth 20000 in
theorem gX2_reckon_X2_hangLamp : GoodIn wsX2_reckon (wsV RX2 31 RX2 yX2_hangLamp wsX2_hangLamp) := goodIn_app (goodIn_of _ (by decide +kernel)) ggX2_reckon_X2_hangLamp
theorem dX2_reckon_0 : decode cX2_reckon 0 = .ok (.aload_n 0, 1) := by decide +kernel
theorem dX2_reckon_1 : decode cX2_reckon 1 = .ok (.getfield 11, 3) := by decide +kernel
theorem dX2_reckon_4 : decode cX2_reckon 4 = .ok (.lconst 0, 1) := by decide +kernel
theorem dX2_reckon_5 : decode cX2_reckon 5 = .ok (.invokestatic 19, 3) := by decide +kernel
theorem dX2_reckon_8 : decode cX2_reckon 8 = .ok (.aload_n 0, 1) := by decide +kernel
theorem dX2_reckon_9 : decode cX2_reckon 9 = .ok (.getfield 11, 3) := by decide +kernel
theorem dX2_reckon_12 : decode cX2_reckon 12 = .ok (.iconst 0, 1) := by decide +kernel
theorem dX2_reckon_13 : decode cX2_reckon 13 = .ok (.lconst 1, 1) := by decide +kernel
theorem dX2_reckon_14 : decode cX2_reckon 14 = .ok (.lastore, 1) := by decide +kernel
theorem dX2_reckon_15 : decode cX2_reckon 15 = .ok (.aload_n 0, 1) := by decide +kernel
theorem dX2_reckon_16 : decode cX2_reckon 16 = .ok (.lconst 1, 1) := by decide +kernel
theorem dX2_reckon_17 : decode cX2_reckon 17 = .ok (.putfield 15, 3) := by decide +kernel
theorem dX2_reckon_20 : decode cX2_reckon 20 = .ok (.aload_n 1, 1) := by decide +kernel
theorem dX2_reckon_21 : decode cX2_reckon 21 = .ok (.ifnonnull 4, 3) := by decide +kernel
theorem dX2_reckon_24 : decode cX2_reckon 24 = .ok (.return_, 1) := by decide +kernel
theorem dX2_reckon_25 : decode cX2_reckon 25 = .ok (.iconst 0, 1) := by decide +kernel
theorem dX2_reckon_26 : decode cX2_reckon 26 = .ok (.istore 5, 2) := by decide +kernel
theorem dX2_reckon_28 : decode cX2_reckon 28 = .ok (.iload 5, 2) := by decide +kernel
theorem dX2_reckon_30 : decode cX2_reckon 30 = .ok (.bipush 12, 2) := by decide +kernel
theorem dX2_reckon_32 : decode cX2_reckon 32 = .ok (.if_icmp .ge 33, 3) := by decide +kernel
theorem dX2_reckon_35 : decode cX2_reckon 35 = .ok (.iload 5, 2) := by decide +kernel
theorem dX2_reckon_37 : decode cX2_reckon 37 = .ok (.iload_n 3, 1) := by decide +kernel
theorem dX2_reckon_38 : decode cX2_reckon 38 = .ok (.if_icmp .lt 21, 3) := by decide +kernel
theorem dX2_reckon_41 : decode cX2_reckon 41 = .ok (.iload 5, 2) := by decide +kernel
theorem dX2_reckon_43 : decode cX2_reckon 43 = .ok (.iload 4, 2) := by decide +kernel
theorem dX2_reckon_45 : decode cX2_reckon 45 = .ok (.if_icmp .gt 14, 3) := by decide +kernel
theorem dX2_reckon_48 : decode cX2_reckon 48 = .ok (.aload_n 0, 1) := by decide +kernel
theorem dX2_reckon_49 : decode cX2_reckon 49 = .ok (.aload_n 1, 1) := by decide +kernel
theorem dX2_reckon_50 : decode cX2_reckon 50 = .ok (.iload 5, 2) := by decide +kernel
theorem dX2_reckon_52 : decode cX2_reckon 52 = .ok (.invokevirtual 25, 3) := by decide +kernel
theorem dX2_reckon_55 : decode cX2_reckon 55 = .ok (.iload_n 2, 1) := by decide +kernel
theorem dX2_reckon_56 : decode cX2_reckon 56 = .ok (.invokevirtual 31, 3) := by decide +kernel
theorem dX2_reckon_59 : decode cX2_reckon 59 = .ok (.iinc 5 1, 3) := by decide +kernel
theorem dX2_reckon_62 : decode cX2_reckon 62 = .ok (.goto (-34), 3) := by decide +kernel
theorem dX2_reckon_65 : decode cX2_reckon 65 = .ok (.return_, 1) := by decide +kernel
theorem dX2_hangLamp_0 : decode cX2_hangLamp 0 = .ok (.sipush 288, 3) := by decide +kernel
theorem dX2_hangLamp_3 : decode cX2_hangLamp 3 = .ok (.istore_n 3, 1) := by decide +kernel
theorem dX2_hangLamp_4 : decode cX2_hangLamp 4 = .ok (.iload_n 3, 1) := by decide +kernel
theorem dX2_hangLamp_5 : decode cX2_hangLamp 5 = .ok (.ifCond .lt 64, 3) := by decide +kernel
theorem dX2_hangLamp_8 : decode cX2_hangLamp 8 = .ok (.iload_n 3, 1) := by decide +kernel
theorem dX2_hangLamp_9 : decode cX2_hangLamp 9 = .ok (.iload_n 1, 1) := by decide +kernel
theorem dX2_hangLamp_10 : decode cX2_hangLamp 10 = .ok (.isub, 1) := by decide +kernel
theorem dX2_hangLamp_11 : decode cX2_hangLamp 11 = .ok (.istore 4, 2) := by decide +kernel
theorem dX2_hangLamp_13 : decode cX2_hangLamp 13 = .ok (.iload 4, 2) := by decide +kernel
theorem dX2_hangLamp_15 : decode cX2_hangLamp 15 = .ok (.ifCond .lt 27, 3) := by decide +kernel
theorem dX2_hangLamp_18 : decode cX2_hangLamp 18 = .ok (.iload 4, 2) := by decide +kernel
theorem dX2_hangLamp_20 : decode cX2_hangLamp 20 = .ok (.sipush 288, 3) := by decide +kernel
theorem dX2_hangLamp_23 : decode cX2_hangLamp 23 = .ok (.if_icmp .gt 19, 3) := by decide +kernel
theorem dX2_hangLamp_26 : decode cX2_hangLamp 26 = .ok (.aload_n 0, 1) := by decide +kernel
theorem dX2_hangLamp_27 : decode cX2_hangLamp 27 = .ok (.getfield 11, 3) := by decide +kernel
theorem dX2_hangLamp_30 : decode cX2_hangLamp 30 = .ok (.iload 4, 2) := by decide +kernel
theorem dX2_hangLamp_32 : decode cX2_hangLamp 32 = .ok (.laload, 1) := by decide +kernel
theorem dX2_hangLamp_33 : decode cX2_hangLamp 33 = .ok (.bipush 10, 2) := by decide +kernel
theorem dX2_hangLamp_35 : decode cX2_hangLamp 35 = .ok (.iload_n 2, 1) := by decide +kernel
theorem dX2_hangLamp_36 : decode cX2_hangLamp 36 = .ok (.isub, 1) := by decide +kernel
theorem dX2_hangLamp_37 : decode cX2_hangLamp 37 = .ok (.i2l, 1) := by decide +kernel
theorem dX2_hangLamp_38 : decode cX2_hangLamp 38 = .ok (.lmul, 1) := by decide +kernel
theorem dX2_hangLamp_39 : decode cX2_hangLamp 39 = .ok (.goto 4, 3) := by decide +kernel
theorem dX2_hangLamp_42 : decode cX2_hangLamp 42 = .ok (.lconst 0, 1) := by decide +kernel
theorem dX2_hangLamp_43 : decode cX2_hangLamp 43 = .ok (.lstore 5, 2) := by decide +kernel
theorem dX2_hangLamp_45 : decode cX2_hangLamp 45 = .ok (.aload_n 0, 1) := by decide +kernel
theorem dX2_hangLamp_46 : decode cX2_hangLamp 46 = .ok (.getfield 11, 3) := by decide +kernel
theorem dX2_hangLamp_49 : decode cX2_hangLamp 49 = .ok (.iload_n 3, 1) := by decide +kernel
theorem dX2_hangLamp_50 : decode cX2_hangLamp 50 = .ok (.aload_n 0, 1) := by decide +kernel
theorem dX2_hangLamp_51 : decode cX2_hangLamp 51 = .ok (.getfield 11, 3) := by decide +kernel
theorem dX2_hangLamp_54 : decode cX2_hangLamp 54 = .ok (.iload_n 3, 1) := by decide +kernel
theorem dX2_hangLamp_55 : decode cX2_hangLamp 55 = .ok (.laload, 1) := by decide +kernel
theorem dX2_hangLamp_56 : decode cX2_hangLamp 56 = .ok (.iload_n 2, 1) := by decide +kernel
theorem dX2_hangLamp_57 : decode cX2_hangLamp 57 = .ok (.i2l, 1) := by decide +kernel
theorem dX2_hangLamp_58 : decode cX2_hangLamp 58 = .ok (.lmul, 1) := by decide +kernel
theorem dX2_hangLamp_59 : decode cX2_hangLamp 59 = .ok (.lload 5, 2) := by decide +kernel
theorem dX2_hangLamp_61 : decode cX2_hangLamp 61 = .ok (.ladd, 1) := by decide +kernel
theorem dX2_hangLamp_62 : decode cX2_hangLamp 62 = .ok (.lastore, 1) := by decide +kernel
theorem dX2_hangLamp_63 : decode cX2_hangLamp 63 = .ok (.iinc 3 (-1), 3) := by decide +kernel
theorem dX2_hangLamp_66 : decode cX2_hangLamp 66 = .ok (.goto (-62), 3) := by decide +kernel
theorem dX2_hangLamp_69 : decode cX2_hangLamp 69 = .ok (.aload_n 0, 1) := by decide +kernel
theorem dX2_hangLamp_70 : decode cX2_hangLamp 70 = .ok (.dup, 1) := by decide +kernel
theorem dX2_hangLamp_71 : decode cX2_hangLamp 71 = .ok (.getfield 15, 3) := by decide +kernel
theorem dX2_hangLamp_74 : decode cX2_hangLamp 74 = .ok (.ldc2_w 35, 3) := by decide +kernel
theorem dX2_hangLamp_77 : decode cX2_hangLamp 77 = .ok (.lmul, 1) := by decide +kernel
theorem dX2_hangLamp_78 : decode cX2_hangLamp 78 = .ok (.putfield 15, 3) := by decide +kernel
theorem dX2_hangLamp_81 : decode cX2_hangLamp 81 = .ok (.return_, 1) := by decide +kernel
theorem dX2_oddsOf_0 : decode cX2_oddsOf 0 = .ok (.lconst 0, 1) := by decide +kernel
theorem dX2_oddsOf_1 : decode cX2_oddsOf 1 = .ok (.lstore_n 2, 1) := by decide +kernel
theorem dX2_oddsOf_2 : decode cX2_oddsOf 2 = .ok (.iconst 0, 1) := by decide +kernel
theorem dX2_oddsOf_3 : decode cX2_oddsOf 3 = .ok (.istore 4, 2) := by decide +kernel
theorem dX2_oddsOf_5 : decode cX2_oddsOf 5 = .ok (.iload 4, 2) := by decide +kernel
theorem dX2_oddsOf_7 : decode cX2_oddsOf 7 = .ok (.sipush 288, 3) := by decide +kernel
theorem dX2_oddsOf_10 : decode cX2_oddsOf 10 = .ok (.if_icmp .gt 25, 3) := by decide +kernel
theorem dX2_oddsOf_13 : decode cX2_oddsOf 13 = .ok (.iload 4, 2) := by decide +kernel
theorem dX2_oddsOf_15 : decode cX2_oddsOf 15 = .ok (.iload_n 1, 1) := by decide +kernel
theorem dX2_oddsOf_16 : decode cX2_oddsOf 16 = .ok (.if_icmp .lt 13, 3) := by decide +kernel
theorem dX2_oddsOf_19 : decode cX2_oddsOf 19 = .ok (.lload_n 2, 1) := by decide +kernel
theorem dX2_oddsOf_20 : decode cX2_oddsOf 20 = .ok (.aload_n 0, 1) := by decide +kernel
theorem dX2_oddsOf_21 : decode cX2_oddsOf 21 = .ok (.getfield 11, 3) := by decide +kernel
theorem dX2_oddsOf_24 : decode cX2_oddsOf 24 = .ok (.iload 4, 2) := by decide +kernel
theorem dX2_oddsOf_26 : decode cX2_oddsOf 26 = .ok (.laload, 1) := by decide +kernel
theorem dX2_oddsOf_27 : decode cX2_oddsOf 27 = .ok (.ladd, 1) := by decide +kernel
theorem dX2_oddsOf_28 : decode cX2_oddsOf 28 = .ok (.lstore_n 2, 1) := by decide +kernel
theorem dX2_oddsOf_29 : decode cX2_oddsOf 29 = .ok (.iinc 4 1, 3) := by decide +kernel
theorem dX2_oddsOf_32 : decode cX2_oddsOf 32 = .ok (.goto (-27), 3) := by decide +kernel
theorem dX2_oddsOf_35 : decode cX2_oddsOf 35 = .ok (.lload_n 2, 1) := by decide +kernel
theorem dX2_oddsOf_36 : decode cX2_oddsOf 36 = .ok (.lreturn, 1) := by decide +kernel
theorem dX3_init_0 : decode cX3_init 0 = .ok (.aload_n 0, 1) := by decide +kernel
theorem dX3_init_1 : decode cX3_init 1 = .ok (.invokespecial 3, 3) := by decide +kernel
theorem dX3_init_4 : decode cX3_init 4 = .ok (.aload_n 0, 1) := by decide +kernel
theorem dX3_init_5 : decode cX3_init 5 = .ok (.bipush 6, 2) := by decide +kernel
theorem dX3_init_7 : decode cX3_init 7 = .ok (.newarray .int, 2) := by decide +kernel
theorem dX3_init_9 : decode cX3_init 9 = .ok (.putfield 9, 3) := by decide +kernel
theorem dX3_init_12 : decode cX3_init 12 = .ok (.aload_n 0, 1) := by decide +kernel
theorem dX3_init_13 : decode cX3_init 13 = .ok (.bipush 6, 2) := by decide +kernel
theorem dX3_init_15 : decode cX3_init 15 = .ok (.newarray .int, 2) := by decide +kernel
theorem dX3_init_17 : decode cX3_init 17 = .ok (.putfield 15, 3) := by decide +kernel
theorem dX3_init_20 : decode cX3_init 20 = .ok (.aload_n 0, 1) := by decide +kernel
theorem dX3_init_21 : decode cX3_init 21 = .ok (.iconst 0, 1) := by decide +kernel
theorem dX3_init_22 : decode cX3_init 22 = .ok (.putfield 18, 3) := by decide +kernel
theorem dX3_init_25 : decode cX3_init 25 = .ok (.return_, 1) := by decide +kernel
theorem dX3_add_0 : decode cX3_add 0 = .ok (.aload_n 0, 1) := by decide +kernel
theorem dX3_add_1 : decode cX3_add 1 = .ok (.getfield 18, 3) := by decide +kernel
theorem dX3_add_4 : decode cX3_add 4 = .ok (.ifCond .lt 12, 3) := by decide +kernel
theorem dX3_add_7 : decode cX3_add 7 = .ok (.aload_n 0, 1) := by decide +kernel
theorem dX3_add_8 : decode cX3_add 8 = .ok (.getfield 18, 3) := by decide +kernel
theorem dX3_add_11 : decode cX3_add 11 = .ok (.bipush 6, 2) := by decide +kernel
theorem dX3_add_13 : decode cX3_add 13 = .ok (.if_icmp .lt 5, 3) := by decide +kernel
theorem dX3_add_16 : decode cX3_add 16 = .ok (.iconst 0, 1) := by decide +kernel
theorem dX3_add_17 : decode cX3_add 17 = .ok (.ireturn, 1) := by decide +kernel
theorem dX3_add_18 : decode cX3_add 18 = .ok (.aload_n 0, 1) := by decide +kernel
theorem dX3_add_19 : decode cX3_add 19 = .ok (.getfield 9, 3) := by decide +kernel
theorem dX3_add_22 : decode cX3_add 22 = .ok (.aload_n 0, 1) := by decide +kernel
theorem dX3_add_23 : decode cX3_add 23 = .ok (.getfield 18, 3) := by decide +kernel
theorem dX3_add_26 : decode cX3_add 26 = .ok (.iload_n 1, 1) := by decide +kernel
theorem dX3_add_27 : decode cX3_add 27 = .ok (.iastore, 1) := by decide +kernel
theorem dX3_add_28 : decode cX3_add 28 = .ok (.aload_n 0, 1) := by decide +kernel
theorem dX3_add_29 : decode cX3_add 29 = .ok (.getfield 15, 3) := by decide +kernel
theorem dX3_add_32 : decode cX3_add 32 = .ok (.aload_n 0, 1) := by decide +kernel
theorem dX3_add_33 : decode cX3_add 33 = .ok (.getfield 18, 3) := by decide +kernel
theorem dX3_add_36 : decode cX3_add 36 = .ok (.iload_n 2, 1) := by decide +kernel
theorem dX3_add_37 : decode cX3_add 37 = .ok (.iastore, 1) := by decide +kernel
theorem dX3_add_38 : decode cX3_add 38 = .ok (.aload_n 0, 1) := by decide +kernel
theorem dX3_add_39 : decode cX3_add 39 = .ok (.dup, 1) := by decide +kernel
theorem dX3_add_40 : decode cX3_add 40 = .ok (.getfield 18, 3) := by decide +kernel
theorem dX3_add_43 : decode cX3_add 43 = .ok (.iconst 1, 1) := by decide +kernel
theorem dX3_add_44 : decode cX3_add 44 = .ok (.iadd, 1) := by decide +kernel
theorem dX3_add_45 : decode cX3_add 45 = .ok (.putfield 18, 3) := by decide +kernel
theorem dX3_add_48 : decode cX3_add 48 = .ok (.iconst 1, 1) := by decide +kernel
theorem dX3_add_49 : decode cX3_add 49 = .ok (.ireturn, 1) := by decide +kernel
set_option maxRecDepth 20000 in
theorem ggX3_fits_X0_hasPlace : GoodIn wsX3_fits wsX0_hasPlace := goodIn_r _ [8, 9, 44, 45, 46, 47, 48, 49, 50, 51, 52, 53, 54, 55, 56] (by decide +kernel) (by decide +kernel)
set_option maxRecDepth 20000 in
theorem gX3_fits_X0_hasPlace : GoodIn wsX3_fits (wsV RX3 22 RX0 yX0_hasPlace wsX0_hasPlace) := goodIn_app (goodIn_of _ (by decide +kernel)) ggX3_fits_X0_hasPlace
set_option maxRecDepth 20000 in
theorem ggX3_fits_X0_frankAt : GoodIn wsX3_fits wsX0_frankAt := goodIn_r _ [13, 14, 15, 16, 17, 18, 19, 20, 5, 6, 7, 8, 9, 21, 22, 23, 24, 25, 26, 27, 28, 29, 30, 31, 32, 33, 34, 35, 36, 37, 38, 39, 40, 44, 45, 46, 47, 48, 49, 50, 51, 52, 53, 54, 55, 56] (by decide +kernel) (by decide +kernel)
set_option maxRecDepth 20000 in
theorem gX3_fits_X0_frankAt : GoodIn wsX3_fits (wsV RX3 28 RX0 yX0_frankAt wsX0_frankAt) := goodIn_app (goodIn_of _ (by decide +kernel)) ggX3_fits_X0_frankAt
theorem dX3_fits_0 : decode cX3_fits 0 = .ok (.aload_n 1, 1) := by decide +kernel
theorem dX3_fits_1 : decode cX3_fits 1 = .ok (.ifnonnull 5, 3) := by decide +kernel
theorem dX3_fits_4 : decode cX3_fits 4 = .ok (.iconst 0, 1) := by decide +kernel
theorem dX3_fits_5 : decode cX3_fits 5 = .ok (.ireturn, 1) := by decide +kernel
theorem dX3_fits_6 : decode cX3_fits 6 = .ok (.iconst 0, 1) := by decide +kernel
theorem dX3_fits_7 : decode cX3_fits 7 = .ok (.istore_n 2, 1) := by decide +kernel
theorem dX3_fits_8 : decode cX3_fits 8 = .ok (.iload_n 2, 1) := by decide +kernel
theorem dX3_fits_9 : decode cX3_fits 9 = .ok (.aload_n 0, 1) := by decide +kernel
theorem dX3_fits_10 : decode cX3_fits 10 = .ok (.getfield 18, 3) := by decide +kernel
theorem dX3_fits_13 : decode cX3_fits 13 = .ok (.if_icmp .ge 49, 3) := by decide +kernel
theorem dX3_fits_16 : decode cX3_fits 16 = .ok (.iload_n 2, 1) := by decide +kernel
theorem dX3_fits_17 : decode cX3_fits 17 = .ok (.bipush 6, 2) := by decide +kernel
theorem dX3_fits_19 : decode cX3_fits 19 = .ok (.if_icmp .ge 43, 3) := by decide +kernel
theorem dX3_fits_22 : decode cX3_fits 22 = .ok (.aload_n 1, 1) := by decide +kernel
theorem dX3_fits_23 : decode cX3_fits 23 = .ok (.aload_n 0, 1) := by decide +kernel
theorem dX3_fits_24 : decode cX3_fits 24 = .ok (.getfield 9, 3) := by decide +kernel
theorem dX3_fits_27 : decode cX3_fits 27 = .ok (.iload_n 2, 1) := by decide +kernel
theorem dX3_fits_28 : decode cX3_fits 28 = .ok (.iaload, 1) := by decide +kernel
theorem dX3_fits_29 : decode cX3_fits 29 = .ok (.invokevirtual 22, 3) := by decide +kernel
theorem dX3_fits_32 : decode cX3_fits 32 = .ok (.ifCond .eq 22, 3) := by decide +kernel
theorem dX3_fits_35 : decode cX3_fits 35 = .ok (.aload_n 1, 1) := by decide +kernel
theorem dX3_fits_36 : decode cX3_fits 36 = .ok (.aload_n 0, 1) := by decide +kernel
theorem dX3_fits_37 : decode cX3_fits 37 = .ok (.getfield 9, 3) := by decide +kernel
theorem dX3_fits_40 : decode cX3_fits 40 = .ok (.iload_n 2, 1) := by decide +kernel
theorem dX3_fits_41 : decode cX3_fits 41 = .ok (.iaload, 1) := by decide +kernel
theorem dX3_fits_42 : decode cX3_fits 42 = .ok (.invokevirtual 28, 3) := by decide +kernel
theorem dX3_fits_45 : decode cX3_fits 45 = .ok (.aload_n 0, 1) := by decide +kernel
theorem dX3_fits_46 : decode cX3_fits 46 = .ok (.getfield 15, 3) := by decide +kernel
theorem dX3_fits_49 : decode cX3_fits 49 = .ok (.iload_n 2, 1) := by decide +kernel
theorem dX3_fits_50 : decode cX3_fits 50 = .ok (.iaload, 1) := by decide +kernel
theorem dX3_fits_51 : decode cX3_fits 51 = .ok (.if_icmp .eq 5, 3) := by decide +kernel
theorem dX3_fits_54 : decode cX3_fits 54 = .ok (.iconst 0, 1) := by decide +kernel
theorem dX3_fits_55 : decode cX3_fits 55 = .ok (.ireturn, 1) := by decide +kernel
theorem dX3_fits_56 : decode cX3_fits 56 = .ok (.iinc 2 1, 3) := by decide +kernel
theorem dX3_fits_59 : decode cX3_fits 59 = .ok (.goto (-51), 3) := by decide +kernel
theorem dX3_fits_62 : decode cX3_fits 62 = .ok (.iconst 1, 1) := by decide +kernel
theorem dX3_fits_63 : decode cX3_fits 63 = .ok (.ireturn, 1) := by decide +kernel
theorem dX4_init_0 : decode cX4_init 0 = .ok (.aload_n 0, 1) := by decide +kernel
theorem dX4_init_1 : decode cX4_init 1 = .ok (.invokespecial 3, 3) := by decide +kernel
theorem dX4_init_4 : decode cX4_init 4 = .ok (.aload_n 0, 1) := by decide +kernel
theorem dX4_init_5 : decode cX4_init 5 = .ok (.bipush 69, 2) := by decide +kernel
theorem dX4_init_7 : decode cX4_init 7 = .ok (.newarray .int, 2) := by decide +kernel
theorem dX4_init_9 : decode cX4_init 9 = .ok (.putfield 11, 3) := by decide +kernel
theorem dX4_init_12 : decode cX4_init 12 = .ok (.aload_n 0, 1) := by decide +kernel
theorem dX4_init_13 : decode cX4_init 13 = .ok (.bipush 69, 2) := by decide +kernel
theorem dX4_init_15 : decode cX4_init 15 = .ok (.newarray .int, 2) := by decide +kernel
theorem dX4_init_17 : decode cX4_init 17 = .ok (.putfield 15, 3) := by decide +kernel
theorem dX4_init_20 : decode cX4_init 20 = .ok (.return_, 1) := by decide +kernel
set_option maxRecDepth 20000 in
theorem ggX4_reckon_X0_hasRoll : GoodIn wsX4_reckon wsX0_hasRoll := goodIn_r _ [10, 11, 19, 20, 21, 22, 23, 24, 25, 26, 27, 28, 29, 30, 31] (by decide +kernel) (by decide +kernel)
set_option maxRecDepth 20000 in
theorem gX4_reckon_X0_hasRoll : GoodIn wsX4_reckon (wsV RX4 19 RX0 yX0_hasRoll wsX0_hasRoll) := goodIn_app (goodIn_of _ (by decide +kernel)) ggX4_reckon_X0_hasRoll
set_option maxRecDepth 20000 in
theorem ggX4_reckon_X4_lengthen : GoodIn wsX4_reckon wsX4_lengthen := goodIn_r _ [16, 1, 3, 2, 17, 18] (by decide +kernel) (by decide +kernel)
set_option maxRecDepth 20000 in
theorem gX4_reckon_X4_lengthen : GoodIn wsX4_reckon (wsV RX4 31 RX4 yX4_lengthen wsX4_lengthen) := goodIn_app (goodIn_of _ (by decide +kernel)) ggX4_reckon_X4_lengthen
theorem dX4_reckon_0 : decode cX4_reckon 0 = .ok (.aload_n 1, 1) := by decide +kernel
theorem dX4_reckon_1 : decode cX4_reckon 1 = .ok (.ifnonnull 4, 3) := by decide +kernel
theorem dX4_reckon_4 : decode cX4_reckon 4 = .ok (.return_, 1) := by decide +kernel
theorem dX4_reckon_5 : decode cX4_reckon 5 = .ok (.aload_n 0, 1) := by decide +kernel
theorem dX4_reckon_6 : decode cX4_reckon 6 = .ok (.getfield 11, 3) := by decide +kernel
theorem dX4_reckon_9 : decode cX4_reckon 9 = .ok (.iconst 0, 1) := by decide +kernel
theorem dX4_reckon_10 : decode cX4_reckon 10 = .ok (.iconst 0, 1) := by decide +kernel
theorem dX4_reckon_11 : decode cX4_reckon 11 = .ok (.iastore, 1) := by decide +kernel
theorem dX4_reckon_12 : decode cX4_reckon 12 = .ok (.aload_n 0, 1) := by decide +kernel
theorem dX4_reckon_13 : decode cX4_reckon 13 = .ok (.getfield 15, 3) := by decide +kernel
theorem dX4_reckon_16 : decode cX4_reckon 16 = .ok (.iconst 0, 1) := by decide +kernel
theorem dX4_reckon_17 : decode cX4_reckon 17 = .ok (.iconst 0, 1) := by decide +kernel
theorem dX4_reckon_18 : decode cX4_reckon 18 = .ok (.iastore, 1) := by decide +kernel
theorem dX4_reckon_19 : decode cX4_reckon 19 = .ok (.iconst 1, 1) := by decide +kernel
theorem dX4_reckon_20 : decode cX4_reckon 20 = .ok (.istore_n 3, 1) := by decide +kernel
theorem dX4_reckon_21 : decode cX4_reckon 21 = .ok (.iload_n 3, 1) := by decide +kernel
theorem dX4_reckon_22 : decode cX4_reckon 22 = .ok (.bipush 69, 2) := by decide +kernel
theorem dX4_reckon_24 : decode cX4_reckon 24 = .ok (.if_icmp .ge 80, 3) := by decide +kernel
theorem dX4_reckon_27 : decode cX4_reckon 27 = .ok (.aload_n 0, 1) := by decide +kernel
theorem dX4_reckon_28 : decode cX4_reckon 28 = .ok (.getfield 11, 3) := by decide +kernel
theorem dX4_reckon_31 : decode cX4_reckon 31 = .ok (.iload_n 3, 1) := by decide +kernel
theorem dX4_reckon_32 : decode cX4_reckon 32 = .ok (.ldc 18, 2) := by decide +kernel
theorem dX4_reckon_34 : decode cX4_reckon 34 = .ok (.iastore, 1) := by decide +kernel
theorem dX4_reckon_35 : decode cX4_reckon 35 = .ok (.aload_n 0, 1) := by decide +kernel
theorem dX4_reckon_36 : decode cX4_reckon 36 = .ok (.getfield 15, 3) := by decide +kernel
theorem dX4_reckon_39 : decode cX4_reckon 39 = .ok (.iload_n 3, 1) := by decide +kernel
theorem dX4_reckon_40 : decode cX4_reckon 40 = .ok (.iconst 0, 1) := by decide +kernel
theorem dX4_reckon_41 : decode cX4_reckon 41 = .ok (.iastore, 1) := by decide +kernel
theorem dX4_reckon_42 : decode cX4_reckon 42 = .ok (.iconst 0, 1) := by decide +kernel
theorem dX4_reckon_43 : decode cX4_reckon 43 = .ok (.istore 4, 2) := by decide +kernel
theorem dX4_reckon_45 : decode cX4_reckon 45 = .ok (.iload 4, 2) := by decide +kernel
theorem dX4_reckon_47 : decode cX4_reckon 47 = .ok (.iconst 4, 1) := by decide +kernel
theorem dX4_reckon_48 : decode cX4_reckon 48 = .ok (.if_icmp .ge 50, 3) := by decide +kernel
theorem dX4_reckon_51 : decode cX4_reckon 51 = .ok (.aload_n 1, 1) := by decide +kernel
theorem dX4_reckon_52 : decode cX4_reckon 52 = .ok (.iload 4, 2) := by decide +kernel
theorem dX4_reckon_54 : decode cX4_reckon 54 = .ok (.invokevirtual 19, 3) := by decide +kernel
theorem dX4_reckon_57 : decode cX4_reckon 57 = .ok (.ifCond .eq 41, 3) := by decide +kernel
theorem dX4_reckon_60 : decode cX4_reckon 60 = .ok (.aload_n 0, 1) := by decide +kernel
theorem dX4_reckon_61 : decode cX4_reckon 61 = .ok (.iload_n 3, 1) := by decide +kernel
theorem dX4_reckon_62 : decode cX4_reckon 62 = .ok (.iload_n 3, 1) := by decide +kernel
theorem dX4_reckon_63 : decode cX4_reckon 63 = .ok (.aload_n 1, 1) := by decide +kernel
theorem dX4_reckon_64 : decode cX4_reckon 64 = .ok (.getfield 25, 3) := by decide +kernel
theorem dX4_reckon_67 : decode cX4_reckon 67 = .ok (.iload 4, 2) := by decide +kernel
theorem dX4_reckon_69 : decode cX4_reckon 69 = .ok (.iaload, 1) := by decide +kernel
theorem dX4_reckon_70 : decode cX4_reckon 70 = .ok (.isub, 1) := by decide +kernel
theorem dX4_reckon_71 : decode cX4_reckon 71 = .ok (.aload_n 1, 1) := by decide +kernel
theorem dX4_reckon_72 : decode cX4_reckon 72 = .ok (.getfield 28, 3) := by decide +kernel
theorem dX4_reckon_75 : decode cX4_reckon 75 = .ok (.iload 4, 2) := by decide +kernel
theorem dX4_reckon_77 : decode cX4_reckon 77 = .ok (.iaload, 1) := by decide +kernel
theorem dX4_reckon_78 : decode cX4_reckon 78 = .ok (.iload 4, 2) := by decide +kernel
theorem dX4_reckon_80 : decode cX4_reckon 80 = .ok (.iload_n 2, 1) := by decide +kernel
theorem dX4_reckon_81 : decode cX4_reckon 81 = .ok (.if_icmp .ne 7, 3) := by decide +kernel
theorem dX4_reckon_84 : decode cX4_reckon 84 = .ok (.iconst 1, 1) := by decide +kernel
theorem dX4_reckon_85 : decode cX4_reckon 85 = .ok (.goto 4, 3) := by decide +kernel
theorem dX4_reckon_88 : decode cX4_reckon 88 = .ok (.iconst 0, 1) := by decide +kernel
theorem dX4_reckon_89 : decode cX4_reckon 89 = .ok (.invokevirtual 31, 3) := by decide +kernel
theorem dX4_reckon_92 : decode cX4_reckon 92 = .ok (.iinc 4 1, 3) := by decide +kernel
theorem dX4_reckon_95 : decode cX4_reckon 95 = .ok (.goto (-50), 3) := by decide +kernel
theorem dX4_reckon_98 : decode cX4_reckon 98 = .ok (.iinc 3 1, 3) := by decide +kernel
theorem dX4_reckon_101 : decode cX4_reckon 101 = .ok (.goto (-80), 3) := by decide +kernel
theorem dX4_reckon_104 : decode cX4_reckon 104 = .ok (.return_, 1) := by decide +kernel
theorem dX4_lengthen_0 : decode cX4_lengthen 0 = .ok (.iload_n 2, 1) := by decide +kernel
theorem dX4_lengthen_1 : decode cX4_lengthen 1 = .ok (.ifCond .lt 30, 3) := by decide +kernel
theorem dX4_lengthen_4 : decode cX4_lengthen 4 = .ok (.iload_n 2, 1) := by decide +kernel
theorem dX4_lengthen_5 : decode cX4_lengthen 5 = .ok (.bipush 69, 2) := by decide +kernel
theorem dX4_lengthen_7 : decode cX4_lengthen 7 = .ok (.if_icmp .ge 24, 3) := by decide +kernel
theorem dX4_lengthen_10 : decode cX4_lengthen 10 = .ok (.iload_n 1, 1) := by decide +kernel
theorem dX4_lengthen_11 : decode cX4_lengthen 11 = .ok (.ifCond .lt 20, 3) := by decide +kernel
theorem dX4_lengthen_14 : decode cX4_lengthen 14 = .ok (.iload_n 1, 1) := by decide +kernel
theorem dX4_lengthen_15 : decode cX4_lengthen 15 = .ok (.bipush 69, 2) := by decide +kernel
theorem dX4_lengthen_17 : decode cX4_lengthen 17 = .ok (.if_icmp .ge 14, 3) := by decide +kernel
theorem dX4_lengthen_20 : decode cX4_lengthen 20 = .ok (.aload_n 0, 1) := by decide +kernel
theorem dX4_lengthen_21 : decode cX4_lengthen 21 = .ok (.getfield 11, 3) := by decide +kernel
theorem dX4_lengthen_24 : decode cX4_lengthen 24 = .ok (.iload_n 2, 1) := by decide +kernel
theorem dX4_lengthen_25 : decode cX4_lengthen 25 = .ok (.iaload, 1) := by decide +kernel
theorem dX4_lengthen_26 : decode cX4_lengthen 26 = .ok (.ldc 18, 2) := by decide +kernel
theorem dX4_lengthen_28 : decode cX4_lengthen 28 = .ok (.if_icmp .ne 4, 3) := by decide +kernel
theorem dX4_lengthen_31 : decode cX4_lengthen 31 = .ok (.return_, 1) := by decide +kernel
theorem dX4_lengthen_32 : decode cX4_lengthen 32 = .ok (.aload_n 0, 1) := by decide +kernel
theorem dX4_lengthen_33 : decode cX4_lengthen 33 = .ok (.getfield 11, 3) := by decide +kernel
theorem dX4_lengthen_36 : decode cX4_lengthen 36 = .ok (.iload_n 2, 1) := by decide +kernel
theorem dX4_lengthen_37 : decode cX4_lengthen 37 = .ok (.iaload, 1) := by decide +kernel
theorem dX4_lengthen_38 : decode cX4_lengthen 38 = .ok (.iload_n 3, 1) := by decide +kernel
theorem dX4_lengthen_39 : decode cX4_lengthen 39 = .ok (.iadd, 1) := by decide +kernel
theorem dX4_lengthen_40 : decode cX4_lengthen 40 = .ok (.istore 5, 2) := by decide +kernel
theorem dX4_lengthen_42 : decode cX4_lengthen 42 = .ok (.aload_n 0, 1) := by decide +kernel
theorem dX4_lengthen_43 : decode cX4_lengthen 43 = .ok (.getfield 15, 3) := by decide +kernel
theorem dX4_lengthen_46 : decode cX4_lengthen 46 = .ok (.iload_n 2, 1) := by decide +kernel
theorem dX4_lengthen_47 : decode cX4_lengthen 47 = .ok (.iaload, 1) := by decide +kernel
theorem dX4_lengthen_48 : decode cX4_lengthen 48 = .ok (.iload 4, 2) := by decide +kernel
theorem dX4_lengthen_50 : decode cX4_lengthen 50 = .ok (.iadd, 1) := by decide +kernel
theorem dX4_lengthen_51 : decode cX4_lengthen 51 = .ok (.istore 6, 2) := by decide +kernel
theorem dX4_lengthen_53 : decode cX4_lengthen 53 = .ok (.iload 5, 2) := by decide +kernel
theorem dX4_lengthen_55 : decode cX4_lengthen 55 = .ok (.aload_n 0, 1) := by decide +kernel
theorem dX4_lengthen_56 : decode cX4_lengthen 56 = .ok (.getfield 11, 3) := by decide +kernel
theorem dX4_lengthen_59 : decode cX4_lengthen 59 = .ok (.iload_n 1, 1) := by decide +kernel
theorem dX4_lengthen_60 : decode cX4_lengthen 60 = .ok (.iaload, 1) := by decide +kernel
theorem dX4_lengthen_61 : decode cX4_lengthen 61 = .ok (.if_icmp .lt 25, 3) := by decide +kernel
theorem dX4_lengthen_64 : decode cX4_lengthen 64 = .ok (.iload 5, 2) := by decide +kernel
theorem dX4_lengthen_66 : decode cX4_lengthen 66 = .ok (.aload_n 0, 1) := by decide +kernel
theorem dX4_lengthen_67 : decode cX4_lengthen 67 = .ok (.getfield 11, 3) := by decide +kernel
theorem dX4_lengthen_70 : decode cX4_lengthen 70 = .ok (.iload_n 1, 1) := by decide +kernel
theorem dX4_lengthen_71 : decode cX4_lengthen 71 = .ok (.iaload, 1) := by decide +kernel
theorem dX4_lengthen_72 : decode cX4_lengthen 72 = .ok (.if_icmp .ne 30, 3) := by decide +kernel
theorem dX4_lengthen_75 : decode cX4_lengthen 75 = .ok (.iload 6, 2) := by decide +kernel
theorem dX4_lengthen_77 : decode cX4_lengthen 77 = .ok (.aload_n 0, 1) := by decide +kernel
theorem dX4_lengthen_78 : decode cX4_lengthen 78 = .ok (.getfield 15, 3) := by decide +kernel
theorem dX4_lengthen_81 : decode cX4_lengthen 81 = .ok (.iload_n 1, 1) := by decide +kernel
theorem dX4_lengthen_82 : decode cX4_lengthen 82 = .ok (.iaload, 1) := by decide +kernel
theorem dX4_lengthen_83 : decode cX4_lengthen 83 = .ok (.if_icmp .le 19, 3) := by decide +kernel
theorem dX4_lengthen_86 : decode cX4_lengthen 86 = .ok (.aload_n 0, 1) := by decide +kernel
theorem dX4_lengthen_87 : decode cX4_lengthen 87 = .ok (.getfield 11, 3) := by decide +kernel
theorem dX4_lengthen_90 : decode cX4_lengthen 90 = .ok (.iload_n 1, 1) := by decide +kernel
theorem dX4_lengthen_91 : decode cX4_lengthen 91 = .ok (.iload 5, 2) := by decide +kernel
theorem dX4_lengthen_93 : decode cX4_lengthen 93 = .ok (.iastore, 1) := by decide +kernel
theorem dX4_lengthen_94 : decode cX4_lengthen 94 = .ok (.aload_n 0, 1) := by decide +kernel
theorem dX4_lengthen_95 : decode cX4_lengthen 95 = .ok (.getfield 15, 3) := by decide +kernel
theorem dX4_lengthen_98 : decode cX4_lengthen 98 = .ok (.iload_n 1, 1) := by decide +kernel
theorem dX4_lengthen_99 : decode cX4_lengthen 99 = .ok (.iload 6, 2) := by decide +kernel
theorem dX4_lengthen_101 : decode cX4_lengthen 101 = .ok (.iastore, 1) := by decide +kernel
theorem dX4_lengthen_102 : decode cX4_lengthen 102 = .ok (.return_, 1) := by decide +kernel
theorem dX4_leastPrice_0 : decode cX4_leastPrice 0 = .ok (.ldc 18, 2) := by decide +kernel
theorem dX4_leastPrice_2 : decode cX4_leastPrice 2 = .ok (.istore_n 2, 1) := by decide +kernel
theorem dX4_leastPrice_3 : decode cX4_leastPrice 3 = .ok (.iconst 0, 1) := by decide +kernel
theorem dX4_leastPrice_4 : decode cX4_leastPrice 4 = .ok (.istore_n 3, 1) := by decide +kernel
theorem dX4_leastPrice_5 : decode cX4_leastPrice 5 = .ok (.iload_n 3, 1) := by decide +kernel
theorem dX4_leastPrice_6 : decode cX4_leastPrice 6 = .ok (.bipush 69, 2) := by decide +kernel
theorem dX4_leastPrice_8 : decode cX4_leastPrice 8 = .ok (.if_icmp .ge 25, 3) := by decide +kernel
theorem dX4_leastPrice_11 : decode cX4_leastPrice 11 = .ok (.iload_n 3, 1) := by decide +kernel
theorem dX4_leastPrice_12 : decode cX4_leastPrice 12 = .ok (.iload_n 1, 1) := by decide +kernel
theorem dX4_leastPrice_13 : decode cX4_leastPrice 13 = .ok (.if_icmp .lt 14, 3) := by decide +kernel
theorem dX4_leastPrice_16 : decode cX4_leastPrice 16 = .ok (.iload_n 2, 1) := by decide +kernel
theorem dX4_leastPrice_17 : decode cX4_leastPrice 17 = .ok (.aload_n 0, 1) := by decide +kernel
theorem dX4_leastPrice_18 : decode cX4_leastPrice 18 = .ok (.getfield 11, 3) := by decide +kernel
theorem dX4_leastPrice_21 : decode cX4_leastPrice 21 = .ok (.iload_n 3, 1) := by decide +kernel
theorem dX4_leastPrice_22 : decode cX4_leastPrice 22 = .ok (.iaload, 1) := by decide +kernel
theorem dX4_leastPrice_23 : decode cX4_leastPrice 23 = .ok (.invokestatic 35, 3) := by decide +kernel
theorem dX4_leastPrice_26 : decode cX4_leastPrice 26 = .ok (.istore_n 2, 1) := by decide +kernel
theorem dX4_leastPrice_27 : decode cX4_leastPrice 27 = .ok (.iinc 3 1, 3) := by decide +kernel
theorem dX4_leastPrice_30 : decode cX4_leastPrice 30 = .ok (.goto (-25), 3) := by decide +kernel
theorem dX4_leastPrice_33 : decode cX4_leastPrice 33 = .ok (.iload_n 2, 1) := by decide +kernel
theorem dX4_leastPrice_34 : decode cX4_leastPrice 34 = .ok (.ireturn, 1) := by decide +kernel
theorem dX4_leastLeft_0 : decode cX4_leastLeft 0 = .ok (.iconst 0, 1) := by decide +kernel
theorem dX4_leastLeft_1 : decode cX4_leastLeft 1 = .ok (.istore_n 3, 1) := by decide +kernel
theorem dX4_leastLeft_2 : decode cX4_leastLeft 2 = .ok (.iload_n 3, 1) := by decide +kernel
theorem dX4_leastLeft_3 : decode cX4_leastLeft 3 = .ok (.bipush 69, 2) := by decide +kernel
theorem dX4_leastLeft_5 : decode cX4_leastLeft 5 = .ok (.if_icmp .ge 28, 3) := by decide +kernel
theorem dX4_leastLeft_8 : decode cX4_leastLeft 8 = .ok (.iload_n 3, 1) := by decide +kernel
theorem dX4_leastLeft_9 : decode cX4_leastLeft 9 = .ok (.iload_n 1, 1) := by decide +kernel
theorem dX4_leastLeft_10 : decode cX4_leastLeft 10 = .ok (.if_icmp .lt 17, 3) := by decide +kernel
theorem dX4_leastLeft_13 : decode cX4_leastLeft 13 = .ok (.aload_n 0, 1) := by decide +kernel
theorem dX4_leastLeft_14 : decode cX4_leastLeft 14 = .ok (.getfield 11, 3) := by decide +kernel
theorem dX4_leastLeft_17 : decode cX4_leastLeft 17 = .ok (.iload_n 3, 1) := by decide +kernel
theorem dX4_leastLeft_18 : decode cX4_leastLeft 18 = .ok (.iaload, 1) := by decide +kernel
theorem dX4_leastLeft_19 : decode cX4_leastLeft 19 = .ok (.iload_n 2, 1) := by decide +kernel
theorem dX4_leastLeft_20 : decode cX4_leastLeft 20 = .ok (.if_icmp .ne 7, 3) := by decide +kernel
theorem dX4_leastLeft_23 : decode cX4_leastLeft 23 = .ok (.iload_n 3, 1) := by decide +kernel
theorem dX4_leastLeft_24 : decode cX4_leastLeft 24 = .ok (.iload_n 1, 1) := by decide +kernel
theorem dX4_leastLeft_25 : decode cX4_leastLeft 25 = .ok (.isub, 1) := by decide +kernel
theorem dX4_leastLeft_26 : decode cX4_leastLeft 26 = .ok (.ireturn, 1) := by decide +kernel
theorem dX4_leastLeft_27 : decode cX4_leastLeft 27 = .ok (.iinc 3 1, 3) := by decide +kernel
theorem dX4_leastLeft_30 : decode cX4_leastLeft 30 = .ok (.goto (-28), 3) := by decide +kernel
theorem dX4_leastLeft_33 : decode cX4_leastLeft 33 = .ok (.bipush (-4), 2) := by decide +kernel
theorem dX4_leastLeft_35 : decode cX4_leastLeft 35 = .ok (.ireturn, 1) := by decide +kernel
theorem dX4_mostChosen_0 : decode cX4_mostChosen 0 = .ok (.iconst 0, 1) := by decide +kernel
theorem dX4_mostChosen_1 : decode cX4_mostChosen 1 = .ok (.istore_n 3, 1) := by decide +kernel
theorem dX4_mostChosen_2 : decode cX4_mostChosen 2 = .ok (.iconst 0, 1) := by decide +kernel
theorem dX4_mostChosen_3 : decode cX4_mostChosen 3 = .ok (.istore 4, 2) := by decide +kernel
theorem dX4_mostChosen_5 : decode cX4_mostChosen 5 = .ok (.iload 4, 2) := by decide +kernel
theorem dX4_mostChosen_7 : decode cX4_mostChosen 7 = .ok (.bipush 69, 2) := by decide +kernel
theorem dX4_mostChosen_9 : decode cX4_mostChosen 9 = .ok (.if_icmp .ge 38, 3) := by decide +kernel
theorem dX4_mostChosen_12 : decode cX4_mostChosen 12 = .ok (.iload 4, 2) := by decide +kernel
theorem dX4_mostChosen_14 : decode cX4_mostChosen 14 = .ok (.iload_n 1, 1) := by decide +kernel
theorem dX4_mostChosen_15 : decode cX4_mostChosen 15 = .ok (.if_icmp .lt 26, 3) := by decide +kernel
theorem dX4_mostChosen_18 : decode cX4_mostChosen 18 = .ok (.aload_n 0, 1) := by decide +kernel
theorem dX4_mostChosen_19 : decode cX4_mostChosen 19 = .ok (.getfield 11, 3) := by decide +kernel
theorem dX4_mostChosen_22 : decode cX4_mostChosen 22 = .ok (.iload 4, 2) := by decide +kernel
theorem dX4_mostChosen_24 : decode cX4_mostChosen 24 = .ok (.iaload, 1) := by decide +kernel
theorem dX4_mostChosen_25 : decode cX4_mostChosen 25 = .ok (.iload_n 2, 1) := by decide +kernel
theorem dX4_mostChosen_26 : decode cX4_mostChosen 26 = .ok (.if_icmp .ne 15, 3) := by decide +kernel
theorem dX4_mostChosen_29 : decode cX4_mostChosen 29 = .ok (.iload_n 3, 1) := by decide +kernel
theorem dX4_mostChosen_30 : decode cX4_mostChosen 30 = .ok (.aload_n 0, 1) := by decide +kernel
theorem dX4_mostChosen_31 : decode cX4_mostChosen 31 = .ok (.getfield 15, 3) := by decide +kernel
theorem dX4_mostChosen_34 : decode cX4_mostChosen 34 = .ok (.iload 4, 2) := by decide +kernel
theorem dX4_mostChosen_36 : decode cX4_mostChosen 36 = .ok (.iaload, 1) := by decide +kernel
theorem dX4_mostChosen_37 : decode cX4_mostChosen 37 = .ok (.invokestatic 41, 3) := by decide +kernel
theorem dX4_mostChosen_40 : decode cX4_mostChosen 40 = .ok (.istore_n 3, 1) := by decide +kernel
theorem dX4_mostChosen_41 : decode cX4_mostChosen 41 = .ok (.iinc 4 1, 3) := by decide +kernel
theorem dX4_mostChosen_44 : decode cX4_mostChosen 44 = .ok (.goto (-39), 3) := by decide +kernel
theorem dX4_mostChosen_47 : decode cX4_mostChosen 47 = .ok (.iload_n 3, 1) := by decide +kernel
theorem dX4_mostChosen_48 : decode cX4_mostChosen 48 = .ok (.ireturn, 1) := by decide +kernel
set_option maxRecDepth 20000 in
theorem ggX5_init_X0_init : GoodIn wsX5_init wsX0_init := goodIn_r _ [20, 21, 2, 3, 22, 23, 24, 25, 26, 27, 28, 29, 30, 6, 31, 32, 33, 34, 35, 36, 37, 38, 39, 40, 41, 42, 43, 44, 45, 46, 47, 48, 49, 50, 51, 52, 53, 54, 55, 56] (by decide +kernel) (by decide +kernel)
set_option maxRecDepth 20000 in
theorem gX5_init_X0_init : GoodIn wsX5_init (wsX0_init) := ggX5_init_X0_init
theorem dX5_init_0 : decode cX5_init 0 = .ok (.aload_n 0, 1) := by decide +kernel
theorem dX5_init_1 : decode cX5_init 1 = .ok (.invokespecial 3, 3) := by decide +kernel
theorem dX5_init_4 : decode cX5_init 4 = .ok (.aload_n 0, 1) := by decide +kernel
theorem dX5_init_5 : decode cX5_init 5 = .ok (.new 9, 3) := by decide +kernel
theorem dX5_init_8 : decode cX5_init 8 = .ok (.dup, 1) := by decide +kernel
theorem dX5_init_9 : decode cX5_init 9 = .ok (.invokespecial 11, 3) := by decide +kernel
theorem dX5_init_12 : decode cX5_init 12 = .ok (.putfield 12, 3) := by decide +kernel
theorem dX5_init_15 : decode cX5_init 15 = .ok (.aload_n 0, 1) := by decide +kernel
theorem dX5_init_16 : decode cX5_init 16 = .ok (.sipush 160, 3) := by decide +kernel
theorem dX5_init_19 : decode cX5_init 19 = .ok (.newarray .byte, 2) := by decide +kernel
theorem dX5_init_21 : decode cX5_init 21 = .ok (.putfield 18, 3) := by decide +kernel
theorem dX5_init_24 : decode cX5_init 24 = .ok (.aload_n 0, 1) := by decide +kernel
theorem dX5_init_25 : decode cX5_init 25 = .ok (.iconst 0, 1) := by decide +kernel
theorem dX5_init_26 : decode cX5_init 26 = .ok (.putfield 22, 3) := by decide +kernel
theorem dX5_init_29 : decode cX5_init 29 = .ok (.aload_n 0, 1) := by decide +kernel
theorem dX5_init_30 : decode cX5_init 30 = .ok (.iconst 0, 1) := by decide +kernel
theorem dX5_init_31 : decode cX5_init 31 = .ok (.putfield 26, 3) := by decide +kernel
theorem dX5_init_34 : decode cX5_init 34 = .ok (.aload_n 0, 1) := by decide +kernel
theorem dX5_init_35 : decode cX5_init 35 = .ok (.iconst 0, 1) := by decide +kernel
theorem dX5_init_36 : decode cX5_init 36 = .ok (.putfield 29, 3) := by decide +kernel
theorem dX5_init_39 : decode cX5_init 39 = .ok (.aload_n 0, 1) := by decide +kernel
theorem dX5_init_40 : decode cX5_init 40 = .ok (.iconst 0, 1) := by decide +kernel
theorem dX5_init_41 : decode cX5_init 41 = .ok (.putfield 32, 3) := by decide +kernel
theorem dX5_init_44 : decode cX5_init 44 = .ok (.aload_n 0, 1) := by decide +kernel
theorem dX5_init_45 : decode cX5_init 45 = .ok (.iconst 0, 1) := by decide +kernel
theorem dX5_init_46 : decode cX5_init 46 = .ok (.putfield 35, 3) := by decide +kernel
theorem dX5_init_49 : decode cX5_init 49 = .ok (.aload_n 0, 1) := by decide +kernel
theorem dX5_init_50 : decode cX5_init 50 = .ok (.iconst 0, 1) := by decide +kernel
theorem dX5_init_51 : decode cX5_init 51 = .ok (.putfield 38, 3) := by decide +kernel
theorem dX5_init_54 : decode cX5_init 54 = .ok (.aload_n 0, 1) := by decide +kernel
theorem dX5_init_55 : decode cX5_init 55 = .ok (.iconst 0, 1) := by decide +kernel
theorem dX5_init_56 : decode cX5_init 56 = .ok (.putfield 41, 3) := by decide +kernel
theorem dX5_init_59 : decode cX5_init 59 = .ok (.aload_n 0, 1) := by decide +kernel
theorem dX5_init_60 : decode cX5_init 60 = .ok (.iconst 0, 1) := by decide +kernel
theorem dX5_init_61 : decode cX5_init 61 = .ok (.putfield 44, 3) := by decide +kernel
theorem dX5_init_64 : decode cX5_init 64 = .ok (.return_, 1) := by decide +kernel
theorem dX5_append_0 : decode cX5_append 0 = .ok (.aload_n 0, 1) := by decide +kernel
theorem dX5_append_1 : decode cX5_append 1 = .ok (.getfield 22, 3) := by decide +kernel
theorem dX5_append_4 : decode cX5_append 4 = .ok (.ifCond .lt 13, 3) := by decide +kernel
theorem dX5_append_7 : decode cX5_append 7 = .ok (.aload_n 0, 1) := by decide +kernel
theorem dX5_append_8 : decode cX5_append 8 = .ok (.getfield 22, 3) := by decide +kernel
theorem dX5_append_11 : decode cX5_append 11 = .ok (.sipush 160, 3) := by decide +kernel
theorem dX5_append_14 : decode cX5_append 14 = .ok (.if_icmp .lt 5, 3) := by decide +kernel
theorem dX5_append_17 : decode cX5_append 17 = .ok (.iconst 0, 1) := by decide +kernel
theorem dX5_append_18 : decode cX5_append 18 = .ok (.ireturn, 1) := by decide +kernel
theorem dX5_append_19 : decode cX5_append 19 = .ok (.aload_n 0, 1) := by decide +kernel
theorem dX5_append_20 : decode cX5_append 20 = .ok (.getfield 18, 3) := by decide +kernel
theorem dX5_append_23 : decode cX5_append 23 = .ok (.aload_n 0, 1) := by decide +kernel
theorem dX5_append_24 : decode cX5_append 24 = .ok (.getfield 22, 3) := by decide +kernel
theorem dX5_append_27 : decode cX5_append 27 = .ok (.iload_n 1, 1) := by decide +kernel
theorem dX5_append_28 : decode cX5_append 28 = .ok (.i2b, 1) := by decide +kernel
theorem dX5_append_29 : decode cX5_append 29 = .ok (.bastore, 1) := by decide +kernel
theorem dX5_append_30 : decode cX5_append 30 = .ok (.aload_n 0, 1) := by decide +kernel
theorem dX5_append_31 : decode cX5_append 31 = .ok (.dup, 1) := by decide +kernel
theorem dX5_append_32 : decode cX5_append 32 = .ok (.getfield 22, 3) := by decide +kernel
theorem dX5_append_35 : decode cX5_append 35 = .ok (.iconst 1, 1) := by decide +kernel
theorem dX5_append_36 : decode cX5_append 36 = .ok (.iadd, 1) := by decide +kernel
theorem dX5_append_37 : decode cX5_append 37 = .ok (.putfield 22, 3) := by decide +kernel
theorem dX5_append_40 : decode cX5_append 40 = .ok (.iconst 1, 1) := by decide +kernel
theorem dX5_append_41 : decode cX5_append 41 = .ok (.ireturn, 1) := by decide +kernel
set_option maxRecDepth 20000 in
theorem ggX5_takeAll_X0_clear : GoodIn wsX5_takeAll wsX0_clear := goodIn_r _ [11, 12, 13, 14, 15, 16, 17, 18, 19, 20, 21, 22, 23, 24, 170, 171, 172, 173, 174, 175, 176, 177, 178, 179, 180, 181, 182] (by decide +kernel) (by decide +kernel)
set_option maxRecDepth 20000 in
theorem gX5_takeAll_X0_clear : GoodIn wsX5_takeAll (wsV RX5 47 RX0 yX0_clear wsX0_clear) := goodIn_app (goodIn_of _ (by decide +kernel)) ggX5_takeAll_X0_clear
set_option maxRecDepth 20000 in
theorem ggX5_takeAll_X5_nextToken : GoodIn wsX5_takeAll wsX5_nextToken := goodIn_r _ [29, 4, 30, 31, 6, 32, 33, 34, 28, 35, 36, 37, 38, 39, 40, 41, 42, 43, 44, 45, 46, 47, 48, 49, 50, 51, 160, 161, 162, 163, 164, 165, 166, 167, 168, 169] (by decide +kernel) (by decide +kernel)
set_option maxRecDepth 20000 in
theorem gX5_takeAll_X5_nextToken : GoodIn wsX5_takeAll (wsV RX5 50 RX5 yX5_nextToken wsX5_nextToken) := goodIn_app (goodIn_of _ (by decide +kernel)) ggX5_takeAll_X5_nextToken
set_option maxRecDepth 20000 in
theorem ggX5_takeAll_X5_takeLine : GoodIn wsX5_takeAll wsX5_takeLine := goodIn_r _ [55, 6, 56, 57, 51, 58, 59, 60, 61, 62, 28, 63, 64, 65, 66, 67, 4, 30, 68, 69, 70, 71, 72, 73, 74, 75, 76, 77, 78, 79, 32, 33, 34, 35, 31, 36, 80, 81, 82, 83, 84, 85, 86, 87, 88, 89, 90, 91, 92, 93, 94, 95, 96, 97, 98, 99, 100, 101, 102, 103, 104, 105, 106, 107, 108, 109, 110, 111, 112, 113, 114, 115, 116, 117, 118, 119, 120, 2, 3, 121, 122, 123, 124, 5, 125, 126, 127, 128, 1, 129, 130, 131, 132, 133, 134, 25, 26, 27, 29, 37, 38, 39, 40, 41, 42, 43, 44, 45, 46, 47, 48, 49, 50, 135, 136, 137, 138, 139, 140, 141, 142, 143, 144, 145, 146, 147, 148, 149, 150, 10, 151, 19, 152, 153, 154, 155, 156, 157, 12, 158, 159, 160, 161, 162, 163, 164, 165, 166, 167, 168, 169, 170, 171, 172, 173, 174, 175, 176, 177, 178, 179, 180, 181, 182] (by decide +kernel) (by decide +kernel)
set_option maxRecDepth 20000 in
theorem gX5_takeAll_X5_takeLine : GoodIn wsX5_takeAll (wsV RX5 53 RX5 yX5_takeLine wsX5_takeLine) := goodIn_app (goodIn_of _ (by decide +kernel)) ggX5_takeAll_X5_takeLine
theorem dX5_takeAll_0 : decode cX5_takeAll 0 = .ok (.aload_n 0, 1) := by decide +kernel
theorem dX5_takeAll_1 : decode cX5_takeAll 1 = .ok (.getfield 12, 3) := by decide +kernel
theorem dX5_takeAll_4 : decode cX5_takeAll 4 = .ok (.invokevirtual 47, 3) := by decide +kernel
theorem dX5_takeAll_7 : decode cX5_takeAll 7 = .ok (.aload_n 0, 1) := by decide +kernel
theorem dX5_takeAll_8 : decode cX5_takeAll 8 = .ok (.iconst 0, 1) := by decide +kernel
theorem dX5_takeAll_9 : decode cX5_takeAll 9 = .ok (.putfield 26, 3) := by decide +kernel
theorem dX5_takeAll_12 : decode cX5_takeAll 12 = .ok (.aload_n 0, 1) := by decide +kernel
theorem dX5_takeAll_13 : decode cX5_takeAll 13 = .ok (.iconst 0, 1) := by decide +kernel
theorem dX5_takeAll_14 : decode cX5_takeAll 14 = .ok (.putfield 29, 3) := by decide +kernel
theorem dX5_takeAll_17 : decode cX5_takeAll 17 = .ok (.aload_n 0, 1) := by decide +kernel
theorem dX5_takeAll_18 : decode cX5_takeAll 18 = .ok (.iconst 0, 1) := by decide +kernel
theorem dX5_takeAll_19 : decode cX5_takeAll 19 = .ok (.putfield 38, 3) := by decide +kernel
theorem dX5_takeAll_22 : decode cX5_takeAll 22 = .ok (.aload_n 0, 1) := by decide +kernel
theorem dX5_takeAll_23 : decode cX5_takeAll 23 = .ok (.iconst 0, 1) := by decide +kernel
theorem dX5_takeAll_24 : decode cX5_takeAll 24 = .ok (.putfield 44, 3) := by decide +kernel
theorem dX5_takeAll_27 : decode cX5_takeAll 27 = .ok (.iconst 0, 1) := by decide +kernel
theorem dX5_takeAll_28 : decode cX5_takeAll 28 = .ok (.istore_n 1, 1) := by decide +kernel
theorem dX5_takeAll_29 : decode cX5_takeAll 29 = .ok (.iconst 0, 1) := by decide +kernel
theorem dX5_takeAll_30 : decode cX5_takeAll 30 = .ok (.istore_n 2, 1) := by decide +kernel
theorem dX5_takeAll_31 : decode cX5_takeAll 31 = .ok (.iload_n 2, 1) := by decide +kernel
theorem dX5_takeAll_32 : decode cX5_takeAll 32 = .ok (.sipush 160, 3) := by decide +kernel
theorem dX5_takeAll_35 : decode cX5_takeAll 35 = .ok (.if_icmp .ge 32, 3) := by decide +kernel
theorem dX5_takeAll_38 : decode cX5_takeAll 38 = .ok (.aload_n 0, 1) := by decide +kernel
theorem dX5_takeAll_39 : decode cX5_takeAll 39 = .ok (.invokevirtual 50, 3) := by decide +kernel
theorem dX5_takeAll_42 : decode cX5_takeAll 42 = .ok (.aload_n 0, 1) := by decide +kernel
theorem dX5_takeAll_43 : decode cX5_takeAll 43 = .ok (.getfield 32, 3) := by decide +kernel
theorem dX5_takeAll_46 : decode cX5_takeAll 46 = .ok (.ifCond .eq 10, 3) := by decide +kernel
theorem dX5_takeAll_49 : decode cX5_takeAll 49 = .ok (.aload_n 0, 1) := by decide +kernel
theorem dX5_takeAll_50 : decode cX5_takeAll 50 = .ok (.invokevirtual 53, 3) := by decide +kernel
theorem dX5_takeAll_53 : decode cX5_takeAll 53 = .ok (.ifCond .ne 5, 3) := by decide +kernel
theorem dX5_takeAll_56 : decode cX5_takeAll 56 = .ok (.iload_n 1, 1) := by decide +kernel
theorem dX5_takeAll_57 : decode cX5_takeAll 57 = .ok (.ireturn, 1) := by decide +kernel
theorem dX5_takeAll_58 : decode cX5_takeAll 58 = .ok (.iinc 1 1, 3) := by decide +kernel
theorem dX5_takeAll_61 : decode cX5_takeAll 61 = .ok (.iinc 2 1, 3) := by decide +kernel
theorem dX5_takeAll_64 : decode cX5_takeAll 64 = .ok (.goto (-33), 3) := by decide +kernel
theorem dX5_takeAll_67 : decode cX5_takeAll 67 = .ok (.iload_n 1, 1) := by decide +kernel
theorem dX5_takeAll_68 : decode cX5_takeAll 68 = .ok (.ireturn, 1) := by decide +kernel
set_option maxRecDepth 20000 in
theorem ggX5_takeLine_X5_lineNamed : GoodIn wsX5_takeLine wsX5_lineNamed := goodIn_r _ [11, 12, 13, 14, 10, 15, 16, 17, 18, 19, 20, 21, 22, 23, 24, 25, 26, 27, 28, 29, 30, 31, 32, 33, 34, 35, 36, 37, 38, 39, 40, 41, 42, 43, 44, 45, 46, 47, 48, 49, 50, 51, 52, 53, 54, 55, 56, 57, 58, 59, 60, 61, 62, 63, 64, 65, 66, 67, 68, 69, 70, 71, 72, 141, 142, 143, 144, 145, 146, 147, 148, 149, 150] (by decide +kernel) (by decide +kernel)
set_option maxRecDepth 20000 in
theorem gX5_takeLine_X5_lineNamed : GoodIn wsX5_takeLine (wsV RX5 57 RX5 yX5_lineNamed wsX5_lineNamed) := goodIn_app (goodIn_of _ (by decide +kernel)) ggX5_takeLine_X5_lineNamed
set_option maxRecDepth 20000 in
theorem ggX5_takeLine_X5_refuse : GoodIn wsX5_takeLine wsX5_refuse := goodIn_r _ [76, 1, 77, 17, 78, 141, 142, 143, 144, 145, 146, 147, 148, 149, 150] (by decide +kernel) (by decide +kernel)
set_option maxRecDepth 20000 in
theorem gX5_takeLine_X5_refuse : GoodIn wsX5_takeLine (wsV RX5 61 RX5 yX5_refuse wsX5_refuse) := goodIn_app (goodIn_of _ (by decide +kernel)) ggX5_takeLine_X5_refuse
set_option maxRecDepth 20000 in
theorem ggX5_takeLine_X5_isSecond : GoodIn wsX5_takeLine wsX5_isSecond := goodIn_r _ [82, 83, 141, 142, 143, 144, 145, 146, 147, 148, 149, 150] (by decide +kernel) (by decide +kernel)
set_option maxRecDepth 20000 in
theorem gX5_takeLine_X5_isSecond : GoodIn wsX5_takeLine (wsV RX5 65 RX5 yX5_isSecond wsX5_isSecond) := goodIn_app (goodIn_of _ (by decide +kernel)) ggX5_takeLine_X5_isSecond
set_option maxRecDepth 20000 in
theorem ggX5_takeLine_X5_isTooMany : GoodIn wsX5_takeLine wsX5_isTooMany := goodIn_r _ [87, 88, 89, 90, 141, 142, 143, 144, 145, 146, 147, 148, 149, 150, 151, 152, 153, 154, 155, 156, 157, 158, 159, 160, 161, 162, 163] (by decide +kernel) (by decide +kernel)
set_option maxRecDepth 20000 in
theorem gX5_takeLine_X5_isTooMany : GoodIn wsX5_takeLine (wsV RX5 68 RX5 yX5_isTooMany wsX5_isTooMany) := goodIn_app (goodIn_of _ (by decide +kernel)) ggX5_takeLine_X5_isTooMany
set_option maxRecDepth 20000 in
theorem ggX5_takeLine_X5_takeNumber : GoodIn wsX5_takeLine wsX5_takeNumber := goodIn_r _ [94, 1, 4, 95, 96, 97, 10, 98, 16, 17, 34, 30, 31, 32, 33, 35, 99, 100, 101, 102, 103, 104, 105, 106, 107, 108, 109, 110, 111, 112, 73, 74, 75, 76, 77, 78, 141, 142, 143, 144, 145, 146, 147, 148, 149, 150] (by decide +kernel) (by decide +kernel)
set_option maxRecDepth 20000 in
theorem gX5_takeLine_X5_takeNumber : GoodIn wsX5_takeLine (wsV RX5 78 RX5 yX5_takeNumber wsX5_takeNumber) := goodIn_app (goodIn_of _ (by decide +kernel)) ggX5_takeLine_X5_takeNumber
set_option maxRecDepth 20000 in
theorem ggX5_takeLine_X5_hasTwo : GoodIn wsX5_takeLine wsX5_hasTwo := goodIn_r _ [116] (by decide +kernel) (by decide +kernel)
set_option maxRecDepth 20000 in
theorem gX5_takeLine_X5_hasTwo : GoodIn wsX5_takeLine (wsV RX5 82 RX5 yX5_hasTwo wsX5_hasTwo) := goodIn_app (goodIn_of _ (by decide +kernel)) ggX5_takeLine_X5_hasTwo
set_option maxRecDepth 20000 in
theorem ggX5_takeLine_X5_nextToken : GoodIn wsX5_takeLine wsX5_nextToken := goodIn_r _ [98, 16, 17, 34, 1, 30, 31, 32, 10, 33, 35, 99, 100, 101, 102, 103, 104, 105, 106, 107, 108, 109, 110, 111, 112, 4, 141, 142, 143, 144, 145, 146, 147, 148, 149, 150] (by decide +kernel) (by decide +kernel)
set_option maxRecDepth 20000 in
theorem gX5_takeLine_X5_nextToken : GoodIn wsX5_takeLine (wsV RX5 50 RX5 yX5_nextToken wsX5_nextToken) := goodIn_app (goodIn_of _ (by decide +kernel)) ggX5_takeLine_X5_nextToken
set_option maxRecDepth 20000 in
theorem ggX5_takeLine_X5_tell : GoodIn wsX5_takeLine wsX5_tell := goodIn_r _ [120, 83, 88, 121, 122, 123, 124, 125, 126, 127, 128, 129, 130, 131, 132, 133, 134, 135, 136, 137, 138, 139, 140, 141, 142, 143, 144, 145, 146, 147, 148, 149, 150, 151, 152, 153, 154, 155, 156, 157, 158, 159, 160, 161, 162, 163] (by decide +kernel) (by decide +kernel)
set_option maxRecDepth 20000 in
theorem gX5_takeLine_X5_tell : GoodIn wsX5_takeLine (wsV RX5 91 RX5 yX5_tell wsX5_tell) := goodIn_app (goodIn_of _ (by decide +kernel)) ggX5_takeLine_X5_tell
theorem dX5_takeLine_0 : decode cX5_takeLine 0 = .ok (.aload_n 0, 1) := by decide +kernel
theorem dX5_takeLine_1 : decode cX5_takeLine 1 = .ok (.getfield 32, 3) := by decide +kernel
theorem dX5_takeLine_4 : decode cX5_takeLine 4 = .ok (.iconst 1, 1) := by decide +kernel
theorem dX5_takeLine_5 : decode cX5_takeLine 5 = .ok (.if_icmp .ne 10, 3) := by decide +kernel
theorem dX5_takeLine_8 : decode cX5_takeLine 8 = .ok (.aload_n 0, 1) := by decide +kernel
theorem dX5_takeLine_9 : decode cX5_takeLine 9 = .ok (.invokevirtual 57, 3) := by decide +kernel
theorem dX5_takeLine_12 : decode cX5_takeLine 12 = .ok (.goto 5, 3) := by decide +kernel
theorem dX5_takeLine_15 : decode cX5_takeLine 15 = .ok (.bipush (-4), 2) := by decide +kernel
theorem dX5_takeLine_17 : decode cX5_takeLine 17 = .ok (.istore_n 1, 1) := by decide +kernel
theorem dX5_takeLine_18 : decode cX5_takeLine 18 = .ok (.iload_n 1, 1) := by decide +kernel
theorem dX5_takeLine_19 : decode cX5_takeLine 19 = .ok (.ifCond .lt 9, 3) := by decide +kernel
theorem dX5_takeLine_22 : decode cX5_takeLine 22 = .ok (.iload_n 1, 1) := by decide +kernel
theorem dX5_takeLine_23 : decode cX5_takeLine 23 = .ok (.bipush 8, 2) := by decide +kernel
theorem dX5_takeLine_25 : decode cX5_takeLine 25 = .ok (.if_icmp .lt 9, 3) := by decide +kernel
theorem dX5_takeLine_28 : decode cX5_takeLine 28 = .ok (.aload_n 0, 1) := by decide +kernel
theorem dX5_takeLine_29 : decode cX5_takeLine 29 = .ok (.iconst 2, 1) := by decide +kernel
theorem dX5_takeLine_30 : decode cX5_takeLine 30 = .ok (.invokevirtual 61, 3) := by decide +kernel
theorem dX5_takeLine_33 : decode cX5_takeLine 33 = .ok (.ireturn, 1) := by decide +kernel
theorem dX5_takeLine_34 : decode cX5_takeLine 34 = .ok (.aload_n 0, 1) := by decide +kernel
theorem dX5_takeLine_35 : decode cX5_takeLine 35 = .ok (.iload_n 1, 1) := by decide +kernel
theorem dX5_takeLine_36 : decode cX5_takeLine 36 = .ok (.invokevirtual 65, 3) := by decide +kernel
theorem dX5_takeLine_39 : decode cX5_takeLine 39 = .ok (.ifCond .eq 9, 3) := by decide +kernel
theorem dX5_takeLine_42 : decode cX5_takeLine 42 = .ok (.aload_n 0, 1) := by decide +kernel
theorem dX5_takeLine_43 : decode cX5_takeLine 43 = .ok (.iconst 4, 1) := by decide +kernel
theorem dX5_takeLine_44 : decode cX5_takeLine 44 = .ok (.invokevirtual 61, 3) := by decide +kernel
theorem dX5_takeLine_47 : decode cX5_takeLine 47 = .ok (.ireturn, 1) := by decide +kernel
theorem dX5_takeLine_48 : decode cX5_takeLine 48 = .ok (.aload_n 0, 1) := by decide +kernel
theorem dX5_takeLine_49 : decode cX5_takeLine 49 = .ok (.iload_n 1, 1) := by decide +kernel
theorem dX5_takeLine_50 : decode cX5_takeLine 50 = .ok (.invokevirtual 68, 3) := by decide +kernel
theorem dX5_takeLine_53 : decode cX5_takeLine 53 = .ok (.ifCond .eq 9, 3) := by decide +kernel
theorem dX5_takeLine_56 : decode cX5_takeLine 56 = .ok (.aload_n 0, 1) := by decide +kernel
theorem dX5_takeLine_57 : decode cX5_takeLine 57 = .ok (.iconst 5, 1) := by decide +kernel
theorem dX5_takeLine_58 : decode cX5_takeLine 58 = .ok (.invokevirtual 61, 3) := by decide +kernel
theorem dX5_takeLine_61 : decode cX5_takeLine 61 = .ok (.ireturn, 1) := by decide +kernel
theorem dX5_takeLine_62 : decode cX5_takeLine 62 = .ok (.aload_n 0, 1) := by decide +kernel
theorem dX5_takeLine_63 : decode cX5_takeLine 63 = .ok (.getstatic 71, 3) := by decide +kernel
theorem dX5_takeLine_66 : decode cX5_takeLine 66 = .ok (.iload_n 1, 1) := by decide +kernel
theorem dX5_takeLine_67 : decode cX5_takeLine 67 = .ok (.iaload, 1) := by decide +kernel
theorem dX5_takeLine_68 : decode cX5_takeLine 68 = .ok (.getstatic 75, 3) := by decide +kernel
theorem dX5_takeLine_71 : decode cX5_takeLine 71 = .ok (.iload_n 1, 1) := by decide +kernel
theorem dX5_takeLine_72 : decode cX5_takeLine 72 = .ok (.iaload, 1) := by decide +kernel
theorem dX5_takeLine_73 : decode cX5_takeLine 73 = .ok (.invokevirtual 78, 3) := by decide +kernel
theorem dX5_takeLine_76 : decode cX5_takeLine 76 = .ok (.ifCond .ne 5, 3) := by decide +kernel
theorem dX5_takeLine_79 : decode cX5_takeLine 79 = .ok (.iconst 0, 1) := by decide +kernel
theorem dX5_takeLine_80 : decode cX5_takeLine 80 = .ok (.ireturn, 1) := by decide +kernel
theorem dX5_takeLine_81 : decode cX5_takeLine 81 = .ok (.aload_n 0, 1) := by decide +kernel
theorem dX5_takeLine_82 : decode cX5_takeLine 82 = .ok (.getfield 41, 3) := by decide +kernel
theorem dX5_takeLine_85 : decode cX5_takeLine 85 = .ok (.istore_n 2, 1) := by decide +kernel
theorem dX5_takeLine_86 : decode cX5_takeLine 86 = .ok (.aload_n 0, 1) := by decide +kernel
theorem dX5_takeLine_87 : decode cX5_takeLine 87 = .ok (.iload_n 1, 1) := by decide +kernel
theorem dX5_takeLine_88 : decode cX5_takeLine 88 = .ok (.invokevirtual 82, 3) := by decide +kernel
theorem dX5_takeLine_91 : decode cX5_takeLine 91 = .ok (.ifCond .eq 22, 3) := by decide +kernel
theorem dX5_takeLine_94 : decode cX5_takeLine 94 = .ok (.aload_n 0, 1) := by decide +kernel
theorem dX5_takeLine_95 : decode cX5_takeLine 95 = .ok (.getstatic 85, 3) := by decide +kernel
theorem dX5_takeLine_98 : decode cX5_takeLine 98 = .ok (.iload_n 1, 1) := by decide +kernel
theorem dX5_takeLine_99 : decode cX5_takeLine 99 = .ok (.iaload, 1) := by decide +kernel
theorem dX5_takeLine_100 : decode cX5_takeLine 100 = .ok (.getstatic 88, 3) := by decide +kernel
theorem dX5_takeLine_103 : decode cX5_takeLine 103 = .ok (.iload_n 1, 1) := by decide +kernel
theorem dX5_takeLine_104 : decode cX5_takeLine 104 = .ok (.iaload, 1) := by decide +kernel
theorem dX5_takeLine_105 : decode cX5_takeLine 105 = .ok (.invokevirtual 78, 3) := by decide +kernel
theorem dX5_takeLine_108 : decode cX5_takeLine 108 = .ok (.ifCond .ne 5, 3) := by decide +kernel
theorem dX5_takeLine_111 : decode cX5_takeLine 111 = .ok (.iconst 0, 1) := by decide +kernel
theorem dX5_takeLine_112 : decode cX5_takeLine 112 = .ok (.ireturn, 1) := by decide +kernel
theorem dX5_takeLine_113 : decode cX5_takeLine 113 = .ok (.aload_n 0, 1) := by decide +kernel
theorem dX5_takeLine_114 : decode cX5_takeLine 114 = .ok (.getfield 41, 3) := by decide +kernel
theorem dX5_takeLine_117 : decode cX5_takeLine 117 = .ok (.istore_n 3, 1) := by decide +kernel
theorem dX5_takeLine_118 : decode cX5_takeLine 118 = .ok (.aload_n 0, 1) := by decide +kernel
theorem dX5_takeLine_119 : decode cX5_takeLine 119 = .ok (.invokevirtual 50, 3) := by decide +kernel
theorem dX5_takeLine_122 : decode cX5_takeLine 122 = .ok (.aload_n 0, 1) := by decide +kernel
theorem dX5_takeLine_123 : decode cX5_takeLine 123 = .ok (.getfield 32, 3) := by decide +kernel
theorem dX5_takeLine_126 : decode cX5_takeLine 126 = .ok (.iconst 3, 1) := by decide +kernel
theorem dX5_takeLine_127 : decode cX5_takeLine 127 = .ok (.if_icmp .eq 9, 3) := by decide +kernel
theorem dX5_takeLine_130 : decode cX5_takeLine 130 = .ok (.aload_n 0, 1) := by decide +kernel
theorem dX5_takeLine_131 : decode cX5_takeLine 131 = .ok (.iconst 2, 1) := by decide +kernel
theorem dX5_takeLine_132 : decode cX5_takeLine 132 = .ok (.invokevirtual 61, 3) := by decide +kernel
theorem dX5_takeLine_135 : decode cX5_takeLine 135 = .ok (.ireturn, 1) := by decide +kernel
theorem dX5_takeLine_136 : decode cX5_takeLine 136 = .ok (.aload_n 0, 1) := by decide +kernel
theorem dX5_takeLine_137 : decode cX5_takeLine 137 = .ok (.iload_n 1, 1) := by decide +kernel
theorem dX5_takeLine_138 : decode cX5_takeLine 138 = .ok (.iload_n 2, 1) := by decide +kernel
theorem dX5_takeLine_139 : decode cX5_takeLine 139 = .ok (.iload_n 3, 1) := by decide +kernel
theorem dX5_takeLine_140 : decode cX5_takeLine 140 = .ok (.invokevirtual 91, 3) := by decide +kernel
theorem dX5_takeLine_143 : decode cX5_takeLine 143 = .ok (.iconst 1, 1) := by decide +kernel
theorem dX5_takeLine_144 : decode cX5_takeLine 144 = .ok (.ireturn, 1) := by decide +kernel
set_option maxRecDepth 20000 in
theorem ggX5_takeNumber_X5_nextToken : GoodIn wsX5_takeNumber wsX5_nextToken := goodIn_r _ [7, 8, 9, 10, 1, 11, 12, 13, 6, 14, 15, 16, 17, 18, 19, 20, 21, 22, 23, 24, 25, 26, 27, 28, 29, 2, 36, 37, 38, 39, 40, 41, 42, 43, 44, 45] (by decide +kernel) (by decide +kernel)
set_option maxRecDepth 20000 in
theorem gX5_takeNumber_X5_nextToken : GoodIn wsX5_takeNumber (wsV RX5 50 RX5 yX5_nextToken wsX5_nextToken) := goodIn_app (goodIn_of _ (by decide +kernel)) ggX5_takeNumber_X5_nextToken
set_option maxRecDepth 20000 in
theorem ggX5_takeNumber_X5_refuse : GoodIn wsX5_takeNumber wsX5_refuse := goodIn_r _ [33, 1, 34, 9, 35, 36, 37, 38, 39, 40, 41, 42, 43, 44, 45] (by decide +kernel) (by decide +kernel)
set_option maxRecDepth 20000 in
theorem gX5_takeNumber_X5_refuse : GoodIn wsX5_takeNumber (wsV RX5 61 RX5 yX5_refuse wsX5_refuse) := goodIn_app (goodIn_of _ (by decide +kernel)) ggX5_takeNumber_X5_refuse
theorem dX5_takeNumber_0 : decode cX5_takeNumber 0 = .ok (.aload_n 0, 1) := by decide +kernel
theorem dX5_takeNumber_1 : decode cX5_takeNumber 1 = .ok (.invokevirtual 50, 3) := by decide +kernel
theorem dX5_takeNumber_4 : decode cX5_takeNumber 4 = .ok (.aload_n 0, 1) := by decide +kernel
theorem dX5_takeNumber_5 : decode cX5_takeNumber 5 = .ok (.getfield 32, 3) := by decide +kernel
theorem dX5_takeNumber_8 : decode cX5_takeNumber 8 = .ok (.iconst 2, 1) := by decide +kernel
theorem dX5_takeNumber_9 : decode cX5_takeNumber 9 = .ok (.if_icmp .eq 9, 3) := by decide +kernel
theorem dX5_takeNumber_12 : decode cX5_takeNumber 12 = .ok (.aload_n 0, 1) := by decide +kernel
theorem dX5_takeNumber_13 : decode cX5_takeNumber 13 = .ok (.iconst 2, 1) := by decide +kernel
theorem dX5_takeNumber_14 : decode cX5_takeNumber 14 = .ok (.invokevirtual 61, 3) := by decide +kernel
theorem dX5_takeNumber_17 : decode cX5_takeNumber 17 = .ok (.ireturn, 1) := by decide +kernel
theorem dX5_takeNumber_18 : decode cX5_takeNumber 18 = .ok (.aload_n 0, 1) := by decide +kernel
theorem dX5_takeNumber_19 : decode cX5_takeNumber 19 = .ok (.getfield 41, 3) := by decide +kernel
theorem dX5_takeNumber_22 : decode cX5_takeNumber 22 = .ok (.iload_n 1, 1) := by decide +kernel
theorem dX5_takeNumber_23 : decode cX5_takeNumber 23 = .ok (.if_icmp .lt 11, 3) := by decide +kernel
theorem dX5_takeNumber_26 : decode cX5_takeNumber 26 = .ok (.aload_n 0, 1) := by decide +kernel
theorem dX5_takeNumber_27 : decode cX5_takeNumber 27 = .ok (.getfield 41, 3) := by decide +kernel
theorem dX5_takeNumber_30 : decode cX5_takeNumber 30 = .ok (.iload_n 2, 1) := by decide +kernel
theorem dX5_takeNumber_31 : decode cX5_takeNumber 31 = .ok (.if_icmp .le 11, 3) := by decide +kernel
theorem dX5_takeNumber_34 : decode cX5_takeNumber 34 = .ok (.aload_n 0, 1) := by decide +kernel
theorem dX5_takeNumber_35 : decode cX5_takeNumber 35 = .ok (.iconst 3, 1) := by decide +kernel
theorem dX5_takeNumber_36 : decode cX5_takeNumber 36 = .ok (.invokevirtual 61, 3) := by decide +kernel
theorem dX5_takeNumber_39 : decode cX5_takeNumber 39 = .ok (.ifCond .eq 7, 3) := by decide +kernel
theorem dX5_takeNumber_42 : decode cX5_takeNumber 42 = .ok (.iconst 1, 1) := by decide +kernel
theorem dX5_takeNumber_43 : decode cX5_takeNumber 43 = .ok (.goto 4, 3) := by decide +kernel
theorem dX5_takeNumber_46 : decode cX5_takeNumber 46 = .ok (.iconst 0, 1) := by decide +kernel
theorem dX5_takeNumber_47 : decode cX5_takeNumber 47 = .ok (.ireturn, 1) := by decide +kernel
theorem dX5_refuse_0 : decode cX5_refuse 0 = .ok (.aload_n 0, 1) := by decide +kernel
theorem dX5_refuse_1 : decode cX5_refuse 1 = .ok (.aload_n 0, 1) := by decide +kernel
theorem dX5_refuse_2 : decode cX5_refuse 2 = .ok (.getfield 32, 3) := by decide +kernel
theorem dX5_refuse_5 : decode cX5_refuse 5 = .ok (.iconst 4, 1) := by decide +kernel
theorem dX5_refuse_6 : decode cX5_refuse 6 = .ok (.if_icmp .ne 7, 3) := by decide +kernel
theorem dX5_refuse_9 : decode cX5_refuse 9 = .ok (.iconst 1, 1) := by decide +kernel
theorem dX5_refuse_10 : decode cX5_refuse 10 = .ok (.goto 4, 3) := by decide +kernel
theorem dX5_refuse_13 : decode cX5_refuse 13 = .ok (.iload_n 1, 1) := by decide +kernel
theorem dX5_refuse_14 : decode cX5_refuse 14 = .ok (.putfield 26, 3) := by decide +kernel
theorem dX5_refuse_17 : decode cX5_refuse 17 = .ok (.aload_n 0, 1) := by decide +kernel
theorem dX5_refuse_18 : decode cX5_refuse 18 = .ok (.aload_n 0, 1) := by decide +kernel
theorem dX5_refuse_19 : decode cX5_refuse 19 = .ok (.getfield 35, 3) := by decide +kernel
theorem dX5_refuse_22 : decode cX5_refuse 22 = .ok (.putfield 29, 3) := by decide +kernel
theorem dX5_refuse_25 : decode cX5_refuse 25 = .ok (.iconst 0, 1) := by decide +kernel
theorem dX5_refuse_26 : decode cX5_refuse 26 = .ok (.ireturn, 1) := by decide +kernel
theorem dX5_hasTwo_0 : decode cX5_hasTwo 0 = .ok (.iload_n 1, 1) := by decide +kernel
theorem dX5_hasTwo_1 : decode cX5_hasTwo 1 = .ok (.iconst 4, 1) := by decide +kernel
theorem dX5_hasTwo_2 : decode cX5_hasTwo 2 = .ok (.if_icmp .eq 14, 3) := by decide +kernel
theorem dX5_hasTwo_5 : decode cX5_hasTwo 5 = .ok (.iload_n 1, 1) := by decide +kernel
theorem dX5_hasTwo_6 : decode cX5_hasTwo 6 = .ok (.iconst 5, 1) := by decide +kernel
theorem dX5_hasTwo_7 : decode cX5_hasTwo 7 = .ok (.if_icmp .eq 9, 3) := by decide +kernel
theorem dX5_hasTwo_10 : decode cX5_hasTwo 10 = .ok (.iload_n 1, 1) := by decide +kernel
theorem dX5_hasTwo_11 : decode cX5_hasTwo 11 = .ok (.bipush 7, 2) := by decide +kernel
theorem dX5_hasTwo_13 : decode cX5_hasTwo 13 = .ok (.if_icmp .ne 7, 3) := by decide +kernel
theorem dX5_hasTwo_16 : decode cX5_hasTwo 16 = .ok (.iconst 1, 1) := by decide +kernel
theorem dX5_hasTwo_17 : decode cX5_hasTwo 17 = .ok (.goto 4, 3) := by decide +kernel
theorem dX5_hasTwo_20 : decode cX5_hasTwo 20 = .ok (.iconst 0, 1) := by decide +kernel
theorem dX5_hasTwo_21 : decode cX5_hasTwo 21 = .ok (.ireturn, 1) := by decide +kernel
theorem dX5_isSecond_0 : decode cX5_isSecond 0 = .ok (.iload_n 1, 1) := by decide +kernel
theorem dX5_isSecond_1 : decode cX5_isSecond 1 = .ok (.iconst 4, 1) := by decide +kernel
theorem dX5_isSecond_2 : decode cX5_isSecond 2 = .ok (.if_icmp .eq 14, 3) := by decide +kernel
theorem dX5_isSecond_5 : decode cX5_isSecond 5 = .ok (.iload_n 1, 1) := by decide +kernel
theorem dX5_isSecond_6 : decode cX5_isSecond 6 = .ok (.iconst 5, 1) := by decide +kernel
theorem dX5_isSecond_7 : decode cX5_isSecond 7 = .ok (.if_icmp .eq 9, 3) := by decide +kernel
theorem dX5_isSecond_10 : decode cX5_isSecond 10 = .ok (.iload_n 1, 1) := by decide +kernel
theorem dX5_isSecond_11 : decode cX5_isSecond 11 = .ok (.bipush 6, 2) := by decide +kernel
theorem dX5_isSecond_13 : decode cX5_isSecond 13 = .ok (.if_icmp .ne 18, 3) := by decide +kernel
theorem dX5_isSecond_16 : decode cX5_isSecond 16 = .ok (.aload_n 0, 1) := by decide +kernel
theorem dX5_isSecond_17 : decode cX5_isSecond 17 = .ok (.getfield 44, 3) := by decide +kernel
theorem dX5_isSecond_20 : decode cX5_isSecond 20 = .ok (.iload_n 1, 1) := by decide +kernel
theorem dX5_isSecond_21 : decode cX5_isSecond 21 = .ok (.ishr, 1) := by decide +kernel
theorem dX5_isSecond_22 : decode cX5_isSecond 22 = .ok (.iconst 1, 1) := by decide +kernel
theorem dX5_isSecond_23 : decode cX5_isSecond 23 = .ok (.iand, 1) := by decide +kernel
theorem dX5_isSecond_24 : decode cX5_isSecond 24 = .ok (.ifCond .eq 7, 3) := by decide +kernel
theorem dX5_isSecond_27 : decode cX5_isSecond 27 = .ok (.iconst 1, 1) := by decide +kernel
theorem dX5_isSecond_28 : decode cX5_isSecond 28 = .ok (.goto 4, 3) := by decide +kernel
theorem dX5_isSecond_31 : decode cX5_isSecond 31 = .ok (.iconst 0, 1) := by decide +kernel
theorem dX5_isSecond_32 : decode cX5_isSecond 32 = .ok (.ireturn, 1) := by decide +kernel
theorem dX5_isTooMany_0 : decode cX5_isTooMany 0 = .ok (.iload_n 1, 1) := by decide +kernel
theorem dX5_isTooMany_1 : decode cX5_isTooMany 1 = .ok (.iconst 4, 1) := by decide +kernel
theorem dX5_isTooMany_2 : decode cX5_isTooMany 2 = .ok (.if_icmp .ge 15, 3) := by decide +kernel
theorem dX5_isTooMany_5 : decode cX5_isTooMany 5 = .ok (.aload_n 0, 1) := by decide +kernel
theorem dX5_isTooMany_6 : decode cX5_isTooMany 6 = .ok (.getfield 12, 3) := by decide +kernel
theorem dX5_isTooMany_9 : decode cX5_isTooMany 9 = .ok (.getfield 95, 3) := by decide +kernel
theorem dX5_isTooMany_12 : decode cX5_isTooMany 12 = .ok (.bipush 6, 2) := by decide +kernel
theorem dX5_isTooMany_14 : decode cX5_isTooMany 14 = .ok (.if_icmp .ge 20, 3) := by decide +kernel
theorem dX5_isTooMany_17 : decode cX5_isTooMany 17 = .ok (.iload_n 1, 1) := by decide +kernel
theorem dX5_isTooMany_18 : decode cX5_isTooMany 18 = .ok (.bipush 7, 2) := by decide +kernel
theorem dX5_isTooMany_20 : decode cX5_isTooMany 20 = .ok (.if_icmp .ne 18, 3) := by decide +kernel
theorem dX5_isTooMany_23 : decode cX5_isTooMany 23 = .ok (.aload_n 0, 1) := by decide +kernel
theorem dX5_isTooMany_24 : decode cX5_isTooMany 24 = .ok (.getfield 12, 3) := by decide +kernel
theorem dX5_isTooMany_27 : decode cX5_isTooMany 27 = .ok (.getfield 98, 3) := by decide +kernel
theorem dX5_isTooMany_30 : decode cX5_isTooMany 30 = .ok (.iconst 4, 1) := by decide +kernel
theorem dX5_isTooMany_31 : decode cX5_isTooMany 31 = .ok (.if_icmp .lt 7, 3) := by decide +kernel
theorem dX5_isTooMany_34 : decode cX5_isTooMany 34 = .ok (.iconst 1, 1) := by decide +kernel
theorem dX5_isTooMany_35 : decode cX5_isTooMany 35 = .ok (.goto 4, 3) := by decide +kernel
theorem dX5_isTooMany_38 : decode cX5_isTooMany 38 = .ok (.iconst 0, 1) := by decide +kernel
theorem dX5_isTooMany_39 : decode cX5_isTooMany 39 = .ok (.ireturn, 1) := by decide +kernel
set_option maxRecDepth 20000 in
theorem ggX5_tell_X0_addRoll : GoodIn wsX5_tell wsX0_addRoll := goodIn_r _ [12, 13, 14, 15, 33, 34, 35, 36, 37, 38, 39, 40, 41, 42, 43, 44, 45] (by decide +kernel) (by decide +kernel)
set_option maxRecDepth 20000 in
theorem gX5_tell_X0_addRoll : GoodIn wsX5_tell (wsV RX5 116 RX0 yX0_addRoll wsX0_addRoll) := goodIn_app (goodIn_of _ (by decide +kernel)) ggX5_tell_X0_addRoll
set_option maxRecDepth 20000 in
theorem ggX5_tell_X0_addBlock : GoodIn wsX5_tell wsX0_addBlock := goodIn_r _ [19, 20, 21, 22, 33, 34, 35, 36, 37, 38, 39, 40, 41, 42, 43, 44, 45] (by decide +kernel) (by decide +kernel)
set_option maxRecDepth 20000 in
theorem gX5_tell_X0_addBlock : GoodIn wsX5_tell (wsV RX5 120 RX0 yX0_addBlock wsX0_addBlock) := goodIn_app (goodIn_of _ (by decide +kernel)) ggX5_tell_X0_addBlock
theorem dX5_tell_0 : decode cX5_tell 0 = .ok (.aload_n 0, 1) := by decide +kernel
theorem dX5_tell_1 : decode cX5_tell 1 = .ok (.dup, 1) := by decide +kernel
theorem dX5_tell_2 : decode cX5_tell 2 = .ok (.getfield 44, 3) := by decide +kernel
theorem dX5_tell_5 : decode cX5_tell 5 = .ok (.iconst 1, 1) := by decide +kernel
theorem dX5_tell_6 : decode cX5_tell 6 = .ok (.iload_n 1, 1) := by decide +kernel
theorem dX5_tell_7 : decode cX5_tell 7 = .ok (.ishl, 1) := by decide +kernel
theorem dX5_tell_8 : decode cX5_tell 8 = .ok (.ior, 1) := by decide +kernel
theorem dX5_tell_9 : decode cX5_tell 9 = .ok (.putfield 44, 3) := by decide +kernel
theorem dX5_tell_12 : decode cX5_tell 12 = .ok (.iload_n 1, 1) := by decide +kernel
theorem dX5_tell_13 : decode cX5_tell 13 = .ok (.tableswitch 93 4 7 #[31, 50, 69, 80], 31) := by decide +kernel
theorem dX5_tell_44 : decode cX5_tell 44 = .ok (.aload_n 0, 1) := by decide +kernel
theorem dX5_tell_45 : decode cX5_tell 45 = .ok (.getfield 12, 3) := by decide +kernel
theorem dX5_tell_48 : decode cX5_tell 48 = .ok (.iload_n 2, 1) := by decide +kernel
theorem dX5_tell_49 : decode cX5_tell 49 = .ok (.putfield 101, 3) := by decide +kernel
theorem dX5_tell_52 : decode cX5_tell 52 = .ok (.aload_n 0, 1) := by decide +kernel
theorem dX5_tell_53 : decode cX5_tell 53 = .ok (.getfield 12, 3) := by decide +kernel
theorem dX5_tell_56 : decode cX5_tell 56 = .ok (.iload_n 3, 1) := by decide +kernel
theorem dX5_tell_57 : decode cX5_tell 57 = .ok (.putfield 104, 3) := by decide +kernel
theorem dX5_tell_60 : decode cX5_tell 60 = .ok (.goto 56, 3) := by decide +kernel
theorem dX5_tell_63 : decode cX5_tell 63 = .ok (.aload_n 0, 1) := by decide +kernel
theorem dX5_tell_64 : decode cX5_tell 64 = .ok (.getfield 12, 3) := by decide +kernel
theorem dX5_tell_67 : decode cX5_tell 67 = .ok (.iload_n 2, 1) := by decide +kernel
theorem dX5_tell_68 : decode cX5_tell 68 = .ok (.putfield 107, 3) := by decide +kernel
theorem dX5_tell_71 : decode cX5_tell 71 = .ok (.aload_n 0, 1) := by decide +kernel
theorem dX5_tell_72 : decode cX5_tell 72 = .ok (.getfield 12, 3) := by decide +kernel
theorem dX5_tell_75 : decode cX5_tell 75 = .ok (.iload_n 3, 1) := by decide +kernel
theorem dX5_tell_76 : decode cX5_tell 76 = .ok (.putfield 110, 3) := by decide +kernel
theorem dX5_tell_79 : decode cX5_tell 79 = .ok (.goto 37, 3) := by decide +kernel
theorem dX5_tell_82 : decode cX5_tell 82 = .ok (.aload_n 0, 1) := by decide +kernel
theorem dX5_tell_83 : decode cX5_tell 83 = .ok (.getfield 12, 3) := by decide +kernel
theorem dX5_tell_86 : decode cX5_tell 86 = .ok (.iload_n 2, 1) := by decide +kernel
theorem dX5_tell_87 : decode cX5_tell 87 = .ok (.putfield 113, 3) := by decide +kernel
theorem dX5_tell_90 : decode cX5_tell 90 = .ok (.goto 26, 3) := by decide +kernel
theorem dX5_tell_93 : decode cX5_tell 93 = .ok (.aload_n 0, 1) := by decide +kernel
theorem dX5_tell_94 : decode cX5_tell 94 = .ok (.getfield 12, 3) := by decide +kernel
theorem dX5_tell_97 : decode cX5_tell 97 = .ok (.iload_n 2, 1) := by decide +kernel
theorem dX5_tell_98 : decode cX5_tell 98 = .ok (.iload_n 3, 1) := by decide +kernel
theorem dX5_tell_99 : decode cX5_tell 99 = .ok (.invokevirtual 116, 3) := by decide +kernel
theorem dX5_tell_102 : decode cX5_tell 102 = .ok (.pop, 1) := by decide +kernel
theorem dX5_tell_103 : decode cX5_tell 103 = .ok (.goto 13, 3) := by decide +kernel
theorem dX5_tell_106 : decode cX5_tell 106 = .ok (.aload_n 0, 1) := by decide +kernel
theorem dX5_tell_107 : decode cX5_tell 107 = .ok (.getfield 12, 3) := by decide +kernel
theorem dX5_tell_110 : decode cX5_tell 110 = .ok (.iload_n 1, 1) := by decide +kernel
theorem dX5_tell_111 : decode cX5_tell 111 = .ok (.iload_n 2, 1) := by decide +kernel
theorem dX5_tell_112 : decode cX5_tell 112 = .ok (.invokevirtual 120, 3) := by decide +kernel
theorem dX5_tell_115 : decode cX5_tell 115 = .ok (.pop, 1) := by decide +kernel
theorem dX5_tell_116 : decode cX5_tell 116 = .ok (.return_, 1) := by decide +kernel
set_option maxRecDepth 20000 in
theorem ggX5_lineNamed_X5_isWord : GoodIn wsX5_lineNamed wsX5_isWord := goodIn_r _ [5, 6, 7, 8, 9, 10, 11, 12, 13, 14, 15, 16, 17, 18, 19, 20, 21, 22, 4, 23, 24, 25, 26, 27, 28, 29, 30, 31, 32, 33, 34, 35, 36, 37, 38, 39, 40, 41, 42, 43, 44, 45, 46, 47, 48, 49, 50, 51, 52, 53, 54, 55, 56, 57, 58, 59, 60, 61, 62, 63, 64, 65, 66, 67, 68, 69, 70, 71, 72] (by decide +kernel) (by decide +kernel)
set_option maxRecDepth 20000 in
theorem gX5_lineNamed_X5_isWord : GoodIn wsX5_lineNamed (wsV RX5 125 RX5 yX5_isWord wsX5_isWord) := goodIn_app (goodIn_of _ (by decide +kernel)) ggX5_lineNamed_X5_isWord
theorem dX5_lineNamed_0 : decode cX5_lineNamed 0 = .ok (.aload_n 0, 1) := by decide +kernel
theorem dX5_lineNamed_1 : decode cX5_lineNamed 1 = .ok (.ldc 123, 2) := by decide +kernel
theorem dX5_lineNamed_3 : decode cX5_lineNamed 3 = .ok (.invokevirtual 125, 3) := by decide +kernel
theorem dX5_lineNamed_6 : decode cX5_lineNamed 6 = .ok (.ifCond .eq 5, 3) := by decide +kernel
theorem dX5_lineNamed_9 : decode cX5_lineNamed 9 = .ok (.iconst 0, 1) := by decide +kernel
theorem dX5_lineNamed_10 : decode cX5_lineNamed 10 = .ok (.ireturn, 1) := by decide +kernel
theorem dX5_lineNamed_11 : decode cX5_lineNamed 11 = .ok (.aload_n 0, 1) := by decide +kernel
theorem dX5_lineNamed_12 : decode cX5_lineNamed 12 = .ok (.ldc 129, 2) := by decide +kernel
theorem dX5_lineNamed_14 : decode cX5_lineNamed 14 = .ok (.invokevirtual 125, 3) := by decide +kernel
theorem dX5_lineNamed_17 : decode cX5_lineNamed 17 = .ok (.ifCond .eq 5, 3) := by decide +kernel
theorem dX5_lineNamed_20 : decode cX5_lineNamed 20 = .ok (.iconst 1, 1) := by decide +kernel
theorem dX5_lineNamed_21 : decode cX5_lineNamed 21 = .ok (.ireturn, 1) := by decide +kernel
theorem dX5_lineNamed_22 : decode cX5_lineNamed 22 = .ok (.aload_n 0, 1) := by decide +kernel
theorem dX5_lineNamed_23 : decode cX5_lineNamed 23 = .ok (.ldc 131, 2) := by decide +kernel
theorem dX5_lineNamed_25 : decode cX5_lineNamed 25 = .ok (.invokevirtual 125, 3) := by decide +kernel
theorem dX5_lineNamed_28 : decode cX5_lineNamed 28 = .ok (.ifCond .eq 5, 3) := by decide +kernel
theorem dX5_lineNamed_31 : decode cX5_lineNamed 31 = .ok (.iconst 2, 1) := by decide +kernel
theorem dX5_lineNamed_32 : decode cX5_lineNamed 32 = .ok (.ireturn, 1) := by decide +kernel
theorem dX5_lineNamed_33 : decode cX5_lineNamed 33 = .ok (.aload_n 0, 1) := by decide +kernel
theorem dX5_lineNamed_34 : decode cX5_lineNamed 34 = .ok (.ldc 133, 2) := by decide +kernel
theorem dX5_lineNamed_36 : decode cX5_lineNamed 36 = .ok (.invokevirtual 125, 3) := by decide +kernel
theorem dX5_lineNamed_39 : decode cX5_lineNamed 39 = .ok (.ifCond .eq 5, 3) := by decide +kernel
theorem dX5_lineNamed_42 : decode cX5_lineNamed 42 = .ok (.iconst 3, 1) := by decide +kernel
theorem dX5_lineNamed_43 : decode cX5_lineNamed 43 = .ok (.ireturn, 1) := by decide +kernel
theorem dX5_lineNamed_44 : decode cX5_lineNamed 44 = .ok (.aload_n 0, 1) := by decide +kernel
theorem dX5_lineNamed_45 : decode cX5_lineNamed 45 = .ok (.ldc 135, 2) := by decide +kernel
theorem dX5_lineNamed_47 : decode cX5_lineNamed 47 = .ok (.invokevirtual 125, 3) := by decide +kernel
theorem dX5_lineNamed_50 : decode cX5_lineNamed 50 = .ok (.ifCond .eq 5, 3) := by decide +kernel
theorem dX5_lineNamed_53 : decode cX5_lineNamed 53 = .ok (.iconst 4, 1) := by decide +kernel
theorem dX5_lineNamed_54 : decode cX5_lineNamed 54 = .ok (.ireturn, 1) := by decide +kernel
theorem dX5_lineNamed_55 : decode cX5_lineNamed 55 = .ok (.aload_n 0, 1) := by decide +kernel
theorem dX5_lineNamed_56 : decode cX5_lineNamed 56 = .ok (.ldc 137, 2) := by decide +kernel
theorem dX5_lineNamed_58 : decode cX5_lineNamed 58 = .ok (.invokevirtual 125, 3) := by decide +kernel
theorem dX5_lineNamed_61 : decode cX5_lineNamed 61 = .ok (.ifCond .eq 5, 3) := by decide +kernel
theorem dX5_lineNamed_64 : decode cX5_lineNamed 64 = .ok (.iconst 5, 1) := by decide +kernel
theorem dX5_lineNamed_65 : decode cX5_lineNamed 65 = .ok (.ireturn, 1) := by decide +kernel
theorem dX5_lineNamed_66 : decode cX5_lineNamed 66 = .ok (.aload_n 0, 1) := by decide +kernel
theorem dX5_lineNamed_67 : decode cX5_lineNamed 67 = .ok (.ldc 138, 2) := by decide +kernel
theorem dX5_lineNamed_69 : decode cX5_lineNamed 69 = .ok (.invokevirtual 125, 3) := by decide +kernel
theorem dX5_lineNamed_72 : decode cX5_lineNamed 72 = .ok (.ifCond .eq 6, 3) := by decide +kernel
theorem dX5_lineNamed_75 : decode cX5_lineNamed 75 = .ok (.bipush 6, 2) := by decide +kernel
theorem dX5_lineNamed_77 : decode cX5_lineNamed 77 = .ok (.ireturn, 1) := by decide +kernel
theorem dX5_lineNamed_78 : decode cX5_lineNamed 78 = .ok (.aload_n 0, 1) := by decide +kernel
theorem dX5_lineNamed_79 : decode cX5_lineNamed 79 = .ok (.ldc 139, 2) := by decide +kernel
theorem dX5_lineNamed_81 : decode cX5_lineNamed 81 = .ok (.invokevirtual 125, 3) := by decide +kernel
theorem dX5_lineNamed_84 : decode cX5_lineNamed 84 = .ok (.ifCond .eq 8, 3) := by decide +kernel
theorem dX5_lineNamed_87 : decode cX5_lineNamed 87 = .ok (.bipush 7, 2) := by decide +kernel
theorem dX5_lineNamed_89 : decode cX5_lineNamed 89 = .ok (.goto 5, 3) := by decide +kernel
theorem dX5_lineNamed_92 : decode cX5_lineNamed 92 = .ok (.bipush (-4), 2) := by decide +kernel
theorem dX5_lineNamed_94 : decode cX5_lineNamed 94 = .ok (.ireturn, 1) := by decide +kernel
set_option maxRecDepth 20000 in
theorem ggX5_isWord_J0_length_8abf5 : GoodIn wsX5_isWord wsJ0_length_8abf5 := goodIn_r _ [7, 8, 9, 10, 11, 6, 12, 13, 14] (by decide +kernel) (by decide +kernel)
set_option maxRecDepth 20000 in
theorem gX5_isWord_J0_length_8abf5 : GoodIn wsX5_isWord (wsV RX5 141 RJ0 yJ0_length_8abf5 wsJ0_length_8abf5) := goodIn_app (goodIn_of _ (by decide +kernel)) ggX5_isWord_J0_length_8abf5
set_option maxRecDepth 20000 in
theorem ggX5_isWord_X5_byteAt : GoodIn wsX5_isWord wsX5_byteAt := goodIn_r _ [19, 20, 21, 59, 60, 61, 62, 63, 64, 65, 66, 67, 68] (by decide +kernel) (by decide +kernel)
set_option maxRecDepth 20000 in
theorem gX5_isWord_X5_byteAt : GoodIn wsX5_isWord (wsV RX5 146 RX5 yX5_byteAt wsX5_byteAt) := goodIn_app (goodIn_of _ (by decide +kernel)) ggX5_isWord_X5_byteAt
set_option maxRecDepth 20000 in
theorem ggX5_isWord_J0_charAt_5068e : GoodIn wsX5_isWord wsJ0_charAt_5068e := goodIn_r _ [25, 8, 26, 27, 28, 6, 29, 13, 14, 30, 31, 32, 33, 34, 35, 36, 37, 38, 39, 40, 41, 42, 43, 44, 45, 46, 47, 48, 49, 50, 51, 52, 53, 54, 55, 56, 57, 58] (by decide +kernel) (by decide +kernel)
set_option maxRecDepth 20000 in
theorem gX5_isWord_J0_charAt_5068e : GoodIn wsX5_isWord (wsV RX5 150 RJ0 yJ0_charAt_5068e wsJ0_charAt_5068e) := goodIn_app (goodIn_of _ (by decide +kernel)) ggX5_isWord_J0_charAt_5068e
theorem dX5_isWord_0 : decode cX5_isWord 0 = .ok (.aload_n 1, 1) := by decide +kernel
theorem dX5_isWord_1 : decode cX5_isWord 1 = .ok (.ifnull 19, 3) := by decide +kernel
theorem dX5_isWord_4 : decode cX5_isWord 4 = .ok (.aload_n 0, 1) := by decide +kernel
theorem dX5_isWord_5 : decode cX5_isWord 5 = .ok (.getfield 38, 3) := by decide +kernel
theorem dX5_isWord_8 : decode cX5_isWord 8 = .ok (.aload_n 0, 1) := by decide +kernel
theorem dX5_isWord_9 : decode cX5_isWord 9 = .ok (.getfield 35, 3) := by decide +kernel
theorem dX5_isWord_12 : decode cX5_isWord 12 = .ok (.isub, 1) := by decide +kernel
theorem dX5_isWord_13 : decode cX5_isWord 13 = .ok (.aload_n 1, 1) := by decide +kernel
theorem dX5_isWord_14 : decode cX5_isWord 14 = .ok (.invokevirtual 141, 3) := by decide +kernel
theorem dX5_isWord_17 : decode cX5_isWord 17 = .ok (.if_icmp .eq 5, 3) := by decide +kernel
theorem dX5_isWord_20 : decode cX5_isWord 20 = .ok (.iconst 0, 1) := by decide +kernel
theorem dX5_isWord_21 : decode cX5_isWord 21 = .ok (.ireturn, 1) := by decide +kernel
theorem dX5_isWord_22 : decode cX5_isWord 22 = .ok (.iconst 0, 1) := by decide +kernel
theorem dX5_isWord_23 : decode cX5_isWord 23 = .ok (.istore_n 2, 1) := by decide +kernel
theorem dX5_isWord_24 : decode cX5_isWord 24 = .ok (.iload_n 2, 1) := by decide +kernel
theorem dX5_isWord_25 : decode cX5_isWord 25 = .ok (.aload_n 1, 1) := by decide +kernel
theorem dX5_isWord_26 : decode cX5_isWord 26 = .ok (.invokevirtual 141, 3) := by decide +kernel
theorem dX5_isWord_29 : decode cX5_isWord 29 = .ok (.if_icmp .ge 29, 3) := by decide +kernel
theorem dX5_isWord_32 : decode cX5_isWord 32 = .ok (.aload_n 0, 1) := by decide +kernel
theorem dX5_isWord_33 : decode cX5_isWord 33 = .ok (.aload_n 0, 1) := by decide +kernel
theorem dX5_isWord_34 : decode cX5_isWord 34 = .ok (.getfield 35, 3) := by decide +kernel
theorem dX5_isWord_37 : decode cX5_isWord 37 = .ok (.iload_n 2, 1) := by decide +kernel
theorem dX5_isWord_38 : decode cX5_isWord 38 = .ok (.iadd, 1) := by decide +kernel
theorem dX5_isWord_39 : decode cX5_isWord 39 = .ok (.invokevirtual 146, 3) := by decide +kernel
theorem dX5_isWord_42 : decode cX5_isWord 42 = .ok (.aload_n 1, 1) := by decide +kernel
theorem dX5_isWord_43 : decode cX5_isWord 43 = .ok (.iload_n 2, 1) := by decide +kernel
theorem dX5_isWord_44 : decode cX5_isWord 44 = .ok (.invokevirtual 150, 3) := by decide +kernel
theorem dX5_isWord_47 : decode cX5_isWord 47 = .ok (.if_icmp .eq 5, 3) := by decide +kernel
theorem dX5_isWord_50 : decode cX5_isWord 50 = .ok (.iconst 0, 1) := by decide +kernel
theorem dX5_isWord_51 : decode cX5_isWord 51 = .ok (.ireturn, 1) := by decide +kernel
theorem dX5_isWord_52 : decode cX5_isWord 52 = .ok (.iinc 2 1, 3) := by decide +kernel
theorem dX5_isWord_55 : decode cX5_isWord 55 = .ok (.goto (-31), 3) := by decide +kernel
theorem dX5_isWord_58 : decode cX5_isWord 58 = .ok (.iconst 1, 1) := by decide +kernel
theorem dX5_isWord_59 : decode cX5_isWord 59 = .ok (.ireturn, 1) := by decide +kernel
set_option maxRecDepth 20000 in
theorem ggX5_nextToken_X5_byteAt : GoodIn wsX5_nextToken wsX5_byteAt := goodIn_r _ [9, 3, 10, 26, 27, 28, 29, 30, 31, 32, 33, 34, 35] (by decide +kernel) (by decide +kernel)
set_option maxRecDepth 20000 in
theorem gX5_nextToken_X5_byteAt : GoodIn wsX5_nextToken (wsV RX5 146 RX5 yX5_byteAt wsX5_byteAt) := goodIn_app (goodIn_of _ (by decide +kernel)) ggX5_nextToken_X5_byteAt
set_option maxRecDepth 20000 in
theorem ggX5_nextToken_X5_isLetter : GoodIn wsX5_nextToken wsX5_isLetter := goodIn_r _ [13] (by decide +kernel) (by decide +kernel)
set_option maxRecDepth 20000 in
theorem gX5_nextToken_X5_isLetter : GoodIn wsX5_nextToken (va_wsS RX5 154 yX5_isLetter wsX5_isLetter) := goodIn_app (goodIn_of _ (by decide +kernel)) ggX5_nextToken_X5_isLetter
set_option maxRecDepth 20000 in
theorem ggX5_nextToken_X5_takeLetters : GoodIn wsX5_nextToken wsX5_takeLetters := goodIn_r _ [17, 1, 3, 4, 5, 6, 7, 8, 9, 10, 11, 12, 13, 26, 27, 28, 29, 30, 31, 32, 33, 34, 35] (by decide +kernel) (by decide +kernel)
set_option maxRecDepth 20000 in
theorem gX5_nextToken_X5_takeLetters : GoodIn wsX5_nextToken (wsV RX5 157 RX5 yX5_takeLetters wsX5_takeLetters) := goodIn_app (goodIn_of _ (by decide +kernel)) ggX5_nextToken_X5_takeLetters
set_option maxRecDepth 20000 in
theorem ggX5_nextToken_X5_isFigure : GoodIn wsX5_nextToken wsX5_isFigure := goodIn_r _ [20] (by decide +kernel) (by decide +kernel)
set_option maxRecDepth 20000 in
theorem gX5_nextToken_X5_isFigure : GoodIn wsX5_nextToken (va_wsS RX5 160 yX5_isFigure wsX5_isFigure) := goodIn_app (goodIn_of _ (by decide +kernel)) ggX5_nextToken_X5_isFigure
set_option maxRecDepth 20000 in
theorem ggX5_nextToken_X5_takeFigures : GoodIn wsX5_nextToken wsX5_takeFigures := goodIn_r _ [24, 25, 1, 3, 2, 4, 5, 6, 7, 8, 9, 10, 18, 19, 20, 26, 27, 28, 29, 30, 31, 32, 33, 34, 35] (by decide +kernel) (by decide +kernel)
set_option maxRecDepth 20000 in
theorem gX5_nextToken_X5_takeFigures : GoodIn wsX5_nextToken (wsV RX5 163 RX5 yX5_takeFigures wsX5_takeFigures) := goodIn_app (goodIn_of _ (by decide +kernel)) ggX5_nextToken_X5_takeFigures
theorem dX5_nextToken_0 : decode cX5_nextToken 0 = .ok (.aload_n 0, 1) := by decide +kernel
theorem dX5_nextToken_1 : decode cX5_nextToken 1 = .ok (.aload_n 0, 1) := by decide +kernel
theorem dX5_nextToken_2 : decode cX5_nextToken 2 = .ok (.getfield 38, 3) := by decide +kernel
theorem dX5_nextToken_5 : decode cX5_nextToken 5 = .ok (.putfield 35, 3) := by decide +kernel
theorem dX5_nextToken_8 : decode cX5_nextToken 8 = .ok (.aload_n 0, 1) := by decide +kernel
theorem dX5_nextToken_9 : decode cX5_nextToken 9 = .ok (.getfield 35, 3) := by decide +kernel
theorem dX5_nextToken_12 : decode cX5_nextToken 12 = .ok (.aload_n 0, 1) := by decide +kernel
theorem dX5_nextToken_13 : decode cX5_nextToken 13 = .ok (.getfield 22, 3) := by decide +kernel
theorem dX5_nextToken_16 : decode cX5_nextToken 16 = .ok (.if_icmp .ge 29, 3) := by decide +kernel
theorem dX5_nextToken_19 : decode cX5_nextToken 19 = .ok (.aload_n 0, 1) := by decide +kernel
theorem dX5_nextToken_20 : decode cX5_nextToken 20 = .ok (.aload_n 0, 1) := by decide +kernel
theorem dX5_nextToken_21 : decode cX5_nextToken 21 = .ok (.getfield 35, 3) := by decide +kernel
theorem dX5_nextToken_24 : decode cX5_nextToken 24 = .ok (.invokevirtual 146, 3) := by decide +kernel
theorem dX5_nextToken_27 : decode cX5_nextToken 27 = .ok (.bipush 32, 2) := by decide +kernel
theorem dX5_nextToken_29 : decode cX5_nextToken 29 = .ok (.if_icmp .ne 16, 3) := by decide +kernel
theorem dX5_nextToken_32 : decode cX5_nextToken 32 = .ok (.aload_n 0, 1) := by decide +kernel
theorem dX5_nextToken_33 : decode cX5_nextToken 33 = .ok (.dup, 1) := by decide +kernel
theorem dX5_nextToken_34 : decode cX5_nextToken 34 = .ok (.getfield 35, 3) := by decide +kernel
theorem dX5_nextToken_37 : decode cX5_nextToken 37 = .ok (.iconst 1, 1) := by decide +kernel
theorem dX5_nextToken_38 : decode cX5_nextToken 38 = .ok (.iadd, 1) := by decide +kernel
theorem dX5_nextToken_39 : decode cX5_nextToken 39 = .ok (.putfield 35, 3) := by decide +kernel
theorem dX5_nextToken_42 : decode cX5_nextToken 42 = .ok (.goto (-34), 3) := by decide +kernel
theorem dX5_nextToken_45 : decode cX5_nextToken 45 = .ok (.aload_n 0, 1) := by decide +kernel
theorem dX5_nextToken_46 : decode cX5_nextToken 46 = .ok (.aload_n 0, 1) := by decide +kernel
theorem dX5_nextToken_47 : decode cX5_nextToken 47 = .ok (.getfield 35, 3) := by decide +kernel
theorem dX5_nextToken_50 : decode cX5_nextToken 50 = .ok (.putfield 38, 3) := by decide +kernel
theorem dX5_nextToken_53 : decode cX5_nextToken 53 = .ok (.aload_n 0, 1) := by decide +kernel
theorem dX5_nextToken_54 : decode cX5_nextToken 54 = .ok (.getfield 35, 3) := by decide +kernel
theorem dX5_nextToken_57 : decode cX5_nextToken 57 = .ok (.aload_n 0, 1) := by decide +kernel
theorem dX5_nextToken_58 : decode cX5_nextToken 58 = .ok (.getfield 22, 3) := by decide +kernel
theorem dX5_nextToken_61 : decode cX5_nextToken 61 = .ok (.if_icmp .lt 11, 3) := by decide +kernel
theorem dX5_nextToken_64 : decode cX5_nextToken 64 = .ok (.aload_n 0, 1) := by decide +kernel
theorem dX5_nextToken_65 : decode cX5_nextToken 65 = .ok (.iconst 0, 1) := by decide +kernel
theorem dX5_nextToken_66 : decode cX5_nextToken 66 = .ok (.putfield 32, 3) := by decide +kernel
theorem dX5_nextToken_69 : decode cX5_nextToken 69 = .ok (.goto 77, 3) := by decide +kernel
theorem dX5_nextToken_72 : decode cX5_nextToken 72 = .ok (.aload_n 0, 1) := by decide +kernel
theorem dX5_nextToken_73 : decode cX5_nextToken 73 = .ok (.aload_n 0, 1) := by decide +kernel
theorem dX5_nextToken_74 : decode cX5_nextToken 74 = .ok (.getfield 35, 3) := by decide +kernel
theorem dX5_nextToken_77 : decode cX5_nextToken 77 = .ok (.invokevirtual 146, 3) := by decide +kernel
theorem dX5_nextToken_80 : decode cX5_nextToken 80 = .ok (.invokestatic 154, 3) := by decide +kernel
theorem dX5_nextToken_83 : decode cX5_nextToken 83 = .ok (.ifCond .eq 10, 3) := by decide +kernel
theorem dX5_nextToken_86 : decode cX5_nextToken 86 = .ok (.aload_n 0, 1) := by decide +kernel
theorem dX5_nextToken_87 : decode cX5_nextToken 87 = .ok (.invokevirtual 157, 3) := by decide +kernel
theorem dX5_nextToken_90 : decode cX5_nextToken 90 = .ok (.goto 56, 3) := by decide +kernel
theorem dX5_nextToken_93 : decode cX5_nextToken 93 = .ok (.aload_n 0, 1) := by decide +kernel
theorem dX5_nextToken_94 : decode cX5_nextToken 94 = .ok (.aload_n 0, 1) := by decide +kernel
theorem dX5_nextToken_95 : decode cX5_nextToken 95 = .ok (.getfield 35, 3) := by decide +kernel
theorem dX5_nextToken_98 : decode cX5_nextToken 98 = .ok (.invokevirtual 146, 3) := by decide +kernel
theorem dX5_nextToken_101 : decode cX5_nextToken 101 = .ok (.invokestatic 160, 3) := by decide +kernel
theorem dX5_nextToken_104 : decode cX5_nextToken 104 = .ok (.ifCond .eq 10, 3) := by decide +kernel
theorem dX5_nextToken_107 : decode cX5_nextToken 107 = .ok (.aload_n 0, 1) := by decide +kernel
theorem dX5_nextToken_108 : decode cX5_nextToken 108 = .ok (.invokevirtual 163, 3) := by decide +kernel
theorem dX5_nextToken_111 : decode cX5_nextToken 111 = .ok (.goto 35, 3) := by decide +kernel
theorem dX5_nextToken_114 : decode cX5_nextToken 114 = .ok (.aload_n 0, 1) := by decide +kernel
theorem dX5_nextToken_115 : decode cX5_nextToken 115 = .ok (.aload_n 0, 1) := by decide +kernel
theorem dX5_nextToken_116 : decode cX5_nextToken 116 = .ok (.aload_n 0, 1) := by decide +kernel
theorem dX5_nextToken_117 : decode cX5_nextToken 117 = .ok (.getfield 35, 3) := by decide +kernel
theorem dX5_nextToken_120 : decode cX5_nextToken 120 = .ok (.invokevirtual 146, 3) := by decide +kernel
theorem dX5_nextToken_123 : decode cX5_nextToken 123 = .ok (.bipush 59, 2) := by decide +kernel
theorem dX5_nextToken_125 : decode cX5_nextToken 125 = .ok (.if_icmp .ne 7, 3) := by decide +kernel
theorem dX5_nextToken_128 : decode cX5_nextToken 128 = .ok (.iconst 3, 1) := by decide +kernel
theorem dX5_nextToken_129 : decode cX5_nextToken 129 = .ok (.goto 4, 3) := by decide +kernel
theorem dX5_nextToken_132 : decode cX5_nextToken 132 = .ok (.iconst 4, 1) := by decide +kernel
theorem dX5_nextToken_133 : decode cX5_nextToken 133 = .ok (.putfield 32, 3) := by decide +kernel
theorem dX5_nextToken_136 : decode cX5_nextToken 136 = .ok (.aload_n 0, 1) := by decide +kernel
theorem dX5_nextToken_137 : decode cX5_nextToken 137 = .ok (.aload_n 0, 1) := by decide +kernel
theorem dX5_nextToken_138 : decode cX5_nextToken 138 = .ok (.getfield 35, 3) := by decide +kernel
theorem dX5_nextToken_141 : decode cX5_nextToken 141 = .ok (.iconst 1, 1) := by decide +kernel
theorem dX5_nextToken_142 : decode cX5_nextToken 142 = .ok (.iadd, 1) := by decide +kernel
theorem dX5_nextToken_143 : decode cX5_nextToken 143 = .ok (.putfield 38, 3) := by decide +kernel
theorem dX5_nextToken_146 : decode cX5_nextToken 146 = .ok (.return_, 1) := by decide +kernel
set_option maxRecDepth 20000 in
theorem ggX5_takeLetters_X5_byteAt : GoodIn wsX5_takeLetters wsX5_byteAt := goodIn_r _ [8, 2, 9, 13, 14, 15, 16, 17, 18, 19, 20, 21, 22] (by decide +kernel) (by decide +kernel)
set_option maxRecDepth 20000 in
theorem gX5_takeLetters_X5_byteAt : GoodIn wsX5_takeLetters (wsV RX5 146 RX5 yX5_byteAt wsX5_byteAt) := goodIn_app (goodIn_of _ (by decide +kernel)) ggX5_takeLetters_X5_byteAt
set_option maxRecDepth 20000 in
theorem ggX5_takeLetters_X5_isLetter : GoodIn wsX5_takeLetters wsX5_isLetter := goodIn_r _ [12] (by decide +kernel) (by decide +kernel)
set_option maxRecDepth 20000 in
theorem gX5_takeLetters_X5_isLetter : GoodIn wsX5_takeLetters (va_wsS RX5 154 yX5_isLetter wsX5_isLetter) := goodIn_app (goodIn_of _ (by decide +kernel)) ggX5_takeLetters_X5_isLetter
theorem dX5_takeLetters_0 : decode cX5_takeLetters 0 = .ok (.aload_n 0, 1) := by decide +kernel
theorem dX5_takeLetters_1 : decode cX5_takeLetters 1 = .ok (.getfield 38, 3) := by decide +kernel
theorem dX5_takeLetters_4 : decode cX5_takeLetters 4 = .ok (.aload_n 0, 1) := by decide +kernel
theorem dX5_takeLetters_5 : decode cX5_takeLetters 5 = .ok (.getfield 22, 3) := by decide +kernel
theorem dX5_takeLetters_8 : decode cX5_takeLetters 8 = .ok (.if_icmp .ge 30, 3) := by decide +kernel
theorem dX5_takeLetters_11 : decode cX5_takeLetters 11 = .ok (.aload_n 0, 1) := by decide +kernel
theorem dX5_takeLetters_12 : decode cX5_takeLetters 12 = .ok (.aload_n 0, 1) := by decide +kernel
theorem dX5_takeLetters_13 : decode cX5_takeLetters 13 = .ok (.getfield 38, 3) := by decide +kernel
theorem dX5_takeLetters_16 : decode cX5_takeLetters 16 = .ok (.invokevirtual 146, 3) := by decide +kernel
theorem dX5_takeLetters_19 : decode cX5_takeLetters 19 = .ok (.invokestatic 154, 3) := by decide +kernel
theorem dX5_takeLetters_22 : decode cX5_takeLetters 22 = .ok (.ifCond .eq 16, 3) := by decide +kernel
theorem dX5_takeLetters_25 : decode cX5_takeLetters 25 = .ok (.aload_n 0, 1) := by decide +kernel
theorem dX5_takeLetters_26 : decode cX5_takeLetters 26 = .ok (.dup, 1) := by decide +kernel
theorem dX5_takeLetters_27 : decode cX5_takeLetters 27 = .ok (.getfield 38, 3) := by decide +kernel
theorem dX5_takeLetters_30 : decode cX5_takeLetters 30 = .ok (.iconst 1, 1) := by decide +kernel
theorem dX5_takeLetters_31 : decode cX5_takeLetters 31 = .ok (.iadd, 1) := by decide +kernel
theorem dX5_takeLetters_32 : decode cX5_takeLetters 32 = .ok (.putfield 38, 3) := by decide +kernel
theorem dX5_takeLetters_35 : decode cX5_takeLetters 35 = .ok (.goto (-35), 3) := by decide +kernel
theorem dX5_takeLetters_38 : decode cX5_takeLetters 38 = .ok (.aload_n 0, 1) := by decide +kernel
theorem dX5_takeLetters_39 : decode cX5_takeLetters 39 = .ok (.iconst 1, 1) := by decide +kernel
theorem dX5_takeLetters_40 : decode cX5_takeLetters 40 = .ok (.putfield 32, 3) := by decide +kernel
theorem dX5_takeLetters_43 : decode cX5_takeLetters 43 = .ok (.return_, 1) := by decide +kernel
set_option maxRecDepth 20000 in
theorem ggX5_takeFigures_X5_byteAt : GoodIn wsX5_takeFigures wsX5_byteAt := goodIn_r _ [10, 3, 11, 15, 16, 17, 18, 19, 20, 21, 22, 23, 24] (by decide +kernel) (by decide +kernel)
set_option maxRecDepth 20000 in
theorem gX5_takeFigures_X5_byteAt : GoodIn wsX5_takeFigures (wsV RX5 146 RX5 yX5_byteAt wsX5_byteAt) := goodIn_app (goodIn_of _ (by decide +kernel)) ggX5_takeFigures_X5_byteAt
set_option maxRecDepth 20000 in
theorem ggX5_takeFigures_X5_isFigure : GoodIn wsX5_takeFigures wsX5_isFigure := goodIn_r _ [14] (by decide +kernel) (by decide +kernel)
set_option maxRecDepth 20000 in
theorem gX5_takeFigures_X5_isFigure : GoodIn wsX5_takeFigures (va_wsS RX5 160 yX5_isFigure wsX5_isFigure) := goodIn_app (goodIn_of _ (by decide +kernel)) ggX5_takeFigures_X5_isFigure
theorem dX5_takeFigures_0 : decode cX5_takeFigures 0 = .ok (.aload_n 0, 1) := by decide +kernel
theorem dX5_takeFigures_1 : decode cX5_takeFigures 1 = .ok (.iconst 0, 1) := by decide +kernel
theorem dX5_takeFigures_2 : decode cX5_takeFigures 2 = .ok (.putfield 41, 3) := by decide +kernel
theorem dX5_takeFigures_5 : decode cX5_takeFigures 5 = .ok (.aload_n 0, 1) := by decide +kernel
theorem dX5_takeFigures_6 : decode cX5_takeFigures 6 = .ok (.getfield 38, 3) := by decide +kernel
theorem dX5_takeFigures_9 : decode cX5_takeFigures 9 = .ok (.aload_n 0, 1) := by decide +kernel
theorem dX5_takeFigures_10 : decode cX5_takeFigures 10 = .ok (.getfield 22, 3) := by decide +kernel
theorem dX5_takeFigures_13 : decode cX5_takeFigures 13 = .ok (.if_icmp .ge 53, 3) := by decide +kernel
theorem dX5_takeFigures_16 : decode cX5_takeFigures 16 = .ok (.aload_n 0, 1) := by decide +kernel
theorem dX5_takeFigures_17 : decode cX5_takeFigures 17 = .ok (.aload_n 0, 1) := by decide +kernel
theorem dX5_takeFigures_18 : decode cX5_takeFigures 18 = .ok (.getfield 38, 3) := by decide +kernel
theorem dX5_takeFigures_21 : decode cX5_takeFigures 21 = .ok (.invokevirtual 146, 3) := by decide +kernel
theorem dX5_takeFigures_24 : decode cX5_takeFigures 24 = .ok (.invokestatic 160, 3) := by decide +kernel
theorem dX5_takeFigures_27 : decode cX5_takeFigures 27 = .ok (.ifCond .eq 39, 3) := by decide +kernel
theorem dX5_takeFigures_30 : decode cX5_takeFigures 30 = .ok (.aload_n 0, 1) := by decide +kernel
theorem dX5_takeFigures_31 : decode cX5_takeFigures 31 = .ok (.aload_n 0, 1) := by decide +kernel
theorem dX5_takeFigures_32 : decode cX5_takeFigures 32 = .ok (.getfield 41, 3) := by decide +kernel
theorem dX5_takeFigures_35 : decode cX5_takeFigures 35 = .ok (.bipush 10, 2) := by decide +kernel
theorem dX5_takeFigures_37 : decode cX5_takeFigures 37 = .ok (.imul, 1) := by decide +kernel
theorem dX5_takeFigures_38 : decode cX5_takeFigures 38 = .ok (.aload_n 0, 1) := by decide +kernel
theorem dX5_takeFigures_39 : decode cX5_takeFigures 39 = .ok (.aload_n 0, 1) := by decide +kernel
theorem dX5_takeFigures_40 : decode cX5_takeFigures 40 = .ok (.getfield 38, 3) := by decide +kernel
theorem dX5_takeFigures_43 : decode cX5_takeFigures 43 = .ok (.invokevirtual 146, 3) := by decide +kernel
theorem dX5_takeFigures_46 : decode cX5_takeFigures 46 = .ok (.iadd, 1) := by decide +kernel
theorem dX5_takeFigures_47 : decode cX5_takeFigures 47 = .ok (.bipush 48, 2) := by decide +kernel
theorem dX5_takeFigures_49 : decode cX5_takeFigures 49 = .ok (.isub, 1) := by decide +kernel
theorem dX5_takeFigures_50 : decode cX5_takeFigures 50 = .ok (.putfield 41, 3) := by decide +kernel
theorem dX5_takeFigures_53 : decode cX5_takeFigures 53 = .ok (.aload_n 0, 1) := by decide +kernel
theorem dX5_takeFigures_54 : decode cX5_takeFigures 54 = .ok (.dup, 1) := by decide +kernel
theorem dX5_takeFigures_55 : decode cX5_takeFigures 55 = .ok (.getfield 38, 3) := by decide +kernel
theorem dX5_takeFigures_58 : decode cX5_takeFigures 58 = .ok (.iconst 1, 1) := by decide +kernel
theorem dX5_takeFigures_59 : decode cX5_takeFigures 59 = .ok (.iadd, 1) := by decide +kernel
theorem dX5_takeFigures_60 : decode cX5_takeFigures 60 = .ok (.putfield 38, 3) := by decide +kernel
theorem dX5_takeFigures_63 : decode cX5_takeFigures 63 = .ok (.goto (-58), 3) := by decide +kernel
theorem dX5_takeFigures_66 : decode cX5_takeFigures 66 = .ok (.aload_n 0, 1) := by decide +kernel
theorem dX5_takeFigures_67 : decode cX5_takeFigures 67 = .ok (.aload_n 0, 1) := by decide +kernel
theorem dX5_takeFigures_68 : decode cX5_takeFigures 68 = .ok (.getfield 38, 3) := by decide +kernel
theorem dX5_takeFigures_71 : decode cX5_takeFigures 71 = .ok (.aload_n 0, 1) := by decide +kernel
theorem dX5_takeFigures_72 : decode cX5_takeFigures 72 = .ok (.getfield 35, 3) := by decide +kernel
theorem dX5_takeFigures_75 : decode cX5_takeFigures 75 = .ok (.isub, 1) := by decide +kernel
theorem dX5_takeFigures_76 : decode cX5_takeFigures 76 = .ok (.iconst 2, 1) := by decide +kernel
theorem dX5_takeFigures_77 : decode cX5_takeFigures 77 = .ok (.if_icmp .gt 7, 3) := by decide +kernel
theorem dX5_takeFigures_80 : decode cX5_takeFigures 80 = .ok (.iconst 2, 1) := by decide +kernel
theorem dX5_takeFigures_81 : decode cX5_takeFigures 81 = .ok (.goto 4, 3) := by decide +kernel
theorem dX5_takeFigures_84 : decode cX5_takeFigures 84 = .ok (.iconst 4, 1) := by decide +kernel
theorem dX5_takeFigures_85 : decode cX5_takeFigures 85 = .ok (.putfield 32, 3) := by decide +kernel
theorem dX5_takeFigures_88 : decode cX5_takeFigures 88 = .ok (.return_, 1) := by decide +kernel
theorem dX5_isLetter_0 : decode cX5_isLetter 0 = .ok (.iload_n 0, 1) := by decide +kernel
theorem dX5_isLetter_1 : decode cX5_isLetter 1 = .ok (.bipush 97, 2) := by decide +kernel
theorem dX5_isLetter_3 : decode cX5_isLetter 3 = .ok (.if_icmp .lt 13, 3) := by decide +kernel
theorem dX5_isLetter_6 : decode cX5_isLetter 6 = .ok (.iload_n 0, 1) := by decide +kernel
theorem dX5_isLetter_7 : decode cX5_isLetter 7 = .ok (.bipush 122, 2) := by decide +kernel
theorem dX5_isLetter_9 : decode cX5_isLetter 9 = .ok (.if_icmp .gt 7, 3) := by decide +kernel
theorem dX5_isLetter_12 : decode cX5_isLetter 12 = .ok (.iconst 1, 1) := by decide +kernel
theorem dX5_isLetter_13 : decode cX5_isLetter 13 = .ok (.goto 4, 3) := by decide +kernel
theorem dX5_isLetter_16 : decode cX5_isLetter 16 = .ok (.iconst 0, 1) := by decide +kernel
theorem dX5_isLetter_17 : decode cX5_isLetter 17 = .ok (.ireturn, 1) := by decide +kernel
theorem dX5_isFigure_0 : decode cX5_isFigure 0 = .ok (.iload_n 0, 1) := by decide +kernel
theorem dX5_isFigure_1 : decode cX5_isFigure 1 = .ok (.bipush 48, 2) := by decide +kernel
theorem dX5_isFigure_3 : decode cX5_isFigure 3 = .ok (.if_icmp .lt 13, 3) := by decide +kernel
theorem dX5_isFigure_6 : decode cX5_isFigure 6 = .ok (.iload_n 0, 1) := by decide +kernel
theorem dX5_isFigure_7 : decode cX5_isFigure 7 = .ok (.bipush 57, 2) := by decide +kernel
theorem dX5_isFigure_9 : decode cX5_isFigure 9 = .ok (.if_icmp .gt 7, 3) := by decide +kernel
theorem dX5_isFigure_12 : decode cX5_isFigure 12 = .ok (.iconst 1, 1) := by decide +kernel
theorem dX5_isFigure_13 : decode cX5_isFigure 13 = .ok (.goto 4, 3) := by decide +kernel
theorem dX5_isFigure_16 : decode cX5_isFigure 16 = .ok (.iconst 0, 1) := by decide +kernel
theorem dX5_isFigure_17 : decode cX5_isFigure 17 = .ok (.ireturn, 1) := by decide +kernel
theorem dX5_byteAt_0 : decode cX5_byteAt 0 = .ok (.iload_n 1, 1) := by decide +kernel
theorem dX5_byteAt_1 : decode cX5_byteAt 1 = .ok (.ifCond .lt 27, 3) := by decide +kernel
theorem dX5_byteAt_4 : decode cX5_byteAt 4 = .ok (.iload_n 1, 1) := by decide +kernel
theorem dX5_byteAt_5 : decode cX5_byteAt 5 = .ok (.aload_n 0, 1) := by decide +kernel
theorem dX5_byteAt_6 : decode cX5_byteAt 6 = .ok (.getfield 22, 3) := by decide +kernel
theorem dX5_byteAt_9 : decode cX5_byteAt 9 = .ok (.if_icmp .ge 19, 3) := by decide +kernel
theorem dX5_byteAt_12 : decode cX5_byteAt 12 = .ok (.iload_n 1, 1) := by decide +kernel
theorem dX5_byteAt_13 : decode cX5_byteAt 13 = .ok (.sipush 160, 3) := by decide +kernel
theorem dX5_byteAt_16 : decode cX5_byteAt 16 = .ok (.if_icmp .ge 12, 3) := by decide +kernel
theorem dX5_byteAt_19 : decode cX5_byteAt 19 = .ok (.aload_n 0, 1) := by decide +kernel
theorem dX5_byteAt_20 : decode cX5_byteAt 20 = .ok (.getfield 18, 3) := by decide +kernel
theorem dX5_byteAt_23 : decode cX5_byteAt 23 = .ok (.iload_n 1, 1) := by decide +kernel
theorem dX5_byteAt_24 : decode cX5_byteAt 24 = .ok (.baload, 1) := by decide +kernel
theorem dX5_byteAt_25 : decode cX5_byteAt 25 = .ok (.goto 5, 3) := by decide +kernel
theorem dX5_byteAt_28 : decode cX5_byteAt 28 = .ok (.bipush (-4), 2) := by decide +kernel
theorem dX5_byteAt_30 : decode cX5_byteAt 30 = .ok (.ireturn, 1) := by decide +kernel
theorem dX6_init_0 : decode cX6_init 0 = .ok (.aload_n 0, 1) := by decide +kernel
theorem dX6_init_1 : decode cX6_init 1 = .ok (.invokespecial 3, 3) := by decide +kernel
theorem dX6_init_4 : decode cX6_init 4 = .ok (.aload_n 0, 1) := by decide +kernel
theorem dX6_init_5 : decode cX6_init 5 = .ok (.bipush 40, 2) := by decide +kernel
theorem dX6_init_7 : decode cX6_init 7 = .ok (.newarray .int, 2) := by decide +kernel
theorem dX6_init_9 : decode cX6_init 9 = .ok (.putfield 9, 3) := by decide +kernel
theorem dX6_init_12 : decode cX6_init 12 = .ok (.aload_n 0, 1) := by decide +kernel
theorem dX6_init_13 : decode cX6_init 13 = .ok (.bipush (-4), 2) := by decide +kernel
theorem dX6_init_15 : decode cX6_init 15 = .ok (.putfield 15, 3) := by decide +kernel
theorem dX6_init_18 : decode cX6_init 18 = .ok (.aload_n 0, 1) := by decide +kernel
theorem dX6_init_19 : decode cX6_init 19 = .ok (.iconst 0, 1) := by decide +kernel
theorem dX6_init_20 : decode cX6_init 20 = .ok (.putfield 19, 3) := by decide +kernel
theorem dX6_init_23 : decode cX6_init 23 = .ok (.return_, 1) := by decide +kernel
set_option maxRecDepth 20000 in
theorem ggX6_renew_J7_fill_53178 : GoodIn wsX6_renew wsJ7_fill_53178 := goodIn_r _ [7] (by decide +kernel) (by decide +kernel)
set_option maxRecDepth 20000 in
theorem gX6_renew_J7_fill_53178 : GoodIn wsX6_renew (va_wsS RX6 22 yJ7_fill_53178 wsJ7_fill_53178) := goodIn_app (goodIn_of _ (by decide +kernel)) ggX6_renew_J7_fill_53178
theorem dX6_renew_0 : decode cX6_renew 0 = .ok (.aload_n 0, 1) := by decide +kernel
theorem dX6_renew_1 : decode cX6_renew 1 = .ok (.getfield 9, 3) := by decide +kernel
theorem dX6_renew_4 : decode cX6_renew 4 = .ok (.iconst 0, 1) := by decide +kernel
theorem dX6_renew_5 : decode cX6_renew 5 = .ok (.invokestatic 22, 3) := by decide +kernel
theorem dX6_renew_8 : decode cX6_renew 8 = .ok (.aload_n 0, 1) := by decide +kernel
theorem dX6_renew_9 : decode cX6_renew 9 = .ok (.iload_n 1, 1) := by decide +kernel
theorem dX6_renew_10 : decode cX6_renew 10 = .ok (.putfield 15, 3) := by decide +kernel
theorem dX6_renew_13 : decode cX6_renew 13 = .ok (.aload_n 0, 1) := by decide +kernel
theorem dX6_renew_14 : decode cX6_renew 14 = .ok (.iload_n 2, 1) := by decide +kernel
theorem dX6_renew_15 : decode cX6_renew 15 = .ok (.putfield 19, 3) := by decide +kernel
theorem dX6_renew_18 : decode cX6_renew 18 = .ok (.return_, 1) := by decide +kernel
theorem dX6_faultAt_0 : decode cX6_faultAt 0 = .ok (.aload_n 0, 1) := by decide +kernel
theorem dX6_faultAt_1 : decode cX6_faultAt 1 = .ok (.getfield 15, 3) := by decide +kernel
theorem dX6_faultAt_4 : decode cX6_faultAt 4 = .ok (.bipush (-4), 2) := by decide +kernel
theorem dX6_faultAt_6 : decode cX6_faultAt 6 = .ok (.if_icmp .ne 5, 3) := by decide +kernel
theorem dX6_faultAt_9 : decode cX6_faultAt 9 = .ok (.iconst 1, 1) := by decide +kernel
theorem dX6_faultAt_10 : decode cX6_faultAt 10 = .ok (.ireturn, 1) := by decide +kernel
theorem dX6_faultAt_11 : decode cX6_faultAt 11 = .ok (.aload_n 0, 1) := by decide +kernel
theorem dX6_faultAt_12 : decode cX6_faultAt 12 = .ok (.getfield 15, 3) := by decide +kernel
theorem dX6_faultAt_15 : decode cX6_faultAt 15 = .ok (.iload_n 1, 1) := by decide +kernel
theorem dX6_faultAt_16 : decode cX6_faultAt 16 = .ok (.if_icmp .eq 5, 3) := by decide +kernel
theorem dX6_faultAt_19 : decode cX6_faultAt 19 = .ok (.iconst 3, 1) := by decide +kernel
theorem dX6_faultAt_20 : decode cX6_faultAt 20 = .ok (.ireturn, 1) := by decide +kernel
theorem dX6_faultAt_21 : decode cX6_faultAt 21 = .ok (.iload_n 2, 1) := by decide +kernel
theorem dX6_faultAt_22 : decode cX6_faultAt 22 = .ok (.ifCond .lt 11, 3) := by decide +kernel
theorem dX6_faultAt_25 : decode cX6_faultAt 25 = .ok (.iload_n 2, 1) := by decide +kernel
theorem dX6_faultAt_26 : decode cX6_faultAt 26 = .ok (.aload_n 0, 1) := by decide +kernel
theorem dX6_faultAt_27 : decode cX6_faultAt 27 = .ok (.getfield 19, 3) := by decide +kernel
theorem dX6_faultAt_30 : decode cX6_faultAt 30 = .ok (.if_icmp .lt 7, 3) := by decide +kernel
theorem dX6_faultAt_33 : decode cX6_faultAt 33 = .ok (.iconst 2, 1) := by decide +kernel
theorem dX6_faultAt_34 : decode cX6_faultAt 34 = .ok (.goto 4, 3) := by decide +kernel
theorem dX6_faultAt_37 : decode cX6_faultAt 37 = .ok (.iconst 0, 1) := by decide +kernel
theorem dX6_faultAt_38 : decode cX6_faultAt 38 = .ok (.ireturn, 1) := by decide +kernel
set_option maxRecDepth 20000 in
theorem ggX6_faultOfPair_X6_faultAt : GoodIn wsX6_faultOfPair wsX6_faultAt := goodIn_r _ [5, 6, 7, 8, 9, 10] (by decide +kernel) (by decide +kernel)
set_option maxRecDepth 20000 in
theorem gX6_faultOfPair_X6_faultAt : GoodIn wsX6_faultOfPair (wsV RX6 28 RX6 yX6_faultAt wsX6_faultAt) := goodIn_app (goodIn_of _ (by decide +kernel)) ggX6_faultOfPair_X6_faultAt
theorem dX6_faultOfPair_0 : decode cX6_faultOfPair 0 = .ok (.aload_n 0, 1) := by decide +kernel
theorem dX6_faultOfPair_1 : decode cX6_faultOfPair 1 = .ok (.iload_n 1, 1) := by decide +kernel
theorem dX6_faultOfPair_2 : decode cX6_faultOfPair 2 = .ok (.iload_n 2, 1) := by decide +kernel
theorem dX6_faultOfPair_3 : decode cX6_faultOfPair 3 = .ok (.invokevirtual 28, 3) := by decide +kernel
theorem dX6_faultOfPair_6 : decode cX6_faultOfPair 6 = .ok (.istore_n 3, 1) := by decide +kernel
theorem dX6_faultOfPair_7 : decode cX6_faultOfPair 7 = .ok (.iload_n 3, 1) := by decide +kernel
theorem dX6_faultOfPair_8 : decode cX6_faultOfPair 8 = .ok (.ifCond .eq 7, 3) := by decide +kernel
theorem dX6_faultOfPair_11 : decode cX6_faultOfPair 11 = .ok (.iload_n 3, 1) := by decide +kernel
theorem dX6_faultOfPair_12 : decode cX6_faultOfPair 12 = .ok (.goto 11, 3) := by decide +kernel
theorem dX6_faultOfPair_15 : decode cX6_faultOfPair 15 = .ok (.aload_n 0, 1) := by decide +kernel
theorem dX6_faultOfPair_16 : decode cX6_faultOfPair 16 = .ok (.iload_n 1, 1) := by decide +kernel
theorem dX6_faultOfPair_17 : decode cX6_faultOfPair 17 = .ok (.iload_n 2, 1) := by decide +kernel
theorem dX6_faultOfPair_18 : decode cX6_faultOfPair 18 = .ok (.iconst 1, 1) := by decide +kernel
theorem dX6_faultOfPair_19 : decode cX6_faultOfPair 19 = .ok (.iadd, 1) := by decide +kernel
theorem dX6_faultOfPair_20 : decode cX6_faultOfPair 20 = .ok (.invokevirtual 28, 3) := by decide +kernel
theorem dX6_faultOfPair_23 : decode cX6_faultOfPair 23 = .ok (.ireturn, 1) := by decide +kernel
theorem dX6_cellAt_0 : decode cX6_cellAt 0 = .ok (.iload_n 1, 1) := by decide +kernel
theorem dX6_cellAt_1 : decode cX6_cellAt 1 = .ok (.ifCond .lt 26, 3) := by decide +kernel
theorem dX6_cellAt_4 : decode cX6_cellAt 4 = .ok (.iload_n 1, 1) := by decide +kernel
theorem dX6_cellAt_5 : decode cX6_cellAt 5 = .ok (.aload_n 0, 1) := by decide +kernel
theorem dX6_cellAt_6 : decode cX6_cellAt 6 = .ok (.getfield 19, 3) := by decide +kernel
theorem dX6_cellAt_9 : decode cX6_cellAt 9 = .ok (.if_icmp .ge 18, 3) := by decide +kernel
theorem dX6_cellAt_12 : decode cX6_cellAt 12 = .ok (.iload_n 1, 1) := by decide +kernel
theorem dX6_cellAt_13 : decode cX6_cellAt 13 = .ok (.bipush 40, 2) := by decide +kernel
theorem dX6_cellAt_15 : decode cX6_cellAt 15 = .ok (.if_icmp .ge 12, 3) := by decide +kernel
theorem dX6_cellAt_18 : decode cX6_cellAt 18 = .ok (.aload_n 0, 1) := by decide +kernel
theorem dX6_cellAt_19 : decode cX6_cellAt 19 = .ok (.getfield 9, 3) := by decide +kernel
theorem dX6_cellAt_22 : decode cX6_cellAt 22 = .ok (.iload_n 1, 1) := by decide +kernel
theorem dX6_cellAt_23 : decode cX6_cellAt 23 = .ok (.iaload, 1) := by decide +kernel
theorem dX6_cellAt_24 : decode cX6_cellAt 24 = .ok (.goto 4, 3) := by decide +kernel
theorem dX6_cellAt_27 : decode cX6_cellAt 27 = .ok (.iconst 0, 1) := by decide +kernel
theorem dX6_cellAt_28 : decode cX6_cellAt 28 = .ok (.ireturn, 1) := by decide +kernel
theorem dX6_write_0 : decode cX6_write 0 = .ok (.iload_n 1, 1) := by decide +kernel
theorem dX6_write_1 : decode cX6_write 1 = .ok (.ifCond .lt 9, 3) := by decide +kernel
theorem dX6_write_4 : decode cX6_write 4 = .ok (.iload_n 1, 1) := by decide +kernel
theorem dX6_write_5 : decode cX6_write 5 = .ok (.bipush 40, 2) := by decide +kernel
theorem dX6_write_7 : decode cX6_write 7 = .ok (.if_icmp .lt 4, 3) := by decide +kernel
theorem dX6_write_10 : decode cX6_write 10 = .ok (.return_, 1) := by decide +kernel
theorem dX6_write_11 : decode cX6_write 11 = .ok (.aload_n 0, 1) := by decide +kernel
theorem dX6_write_12 : decode cX6_write 12 = .ok (.getfield 15, 3) := by decide +kernel
theorem dX6_write_15 : decode cX6_write 15 = .ok (.lookupswitch 47 #[(0, 25), (1, 36)], 25) := by decide +kernel
theorem dX6_write_40 : decode cX6_write 40 = .ok (.aload_n 0, 1) := by decide +kernel
theorem dX6_write_41 : decode cX6_write 41 = .ok (.getfield 9, 3) := by decide +kernel
theorem dX6_write_44 : decode cX6_write 44 = .ok (.iload_n 1, 1) := by decide +kernel
theorem dX6_write_45 : decode cX6_write 45 = .ok (.iload_n 2, 1) := by decide +kernel
theorem dX6_write_46 : decode cX6_write 46 = .ok (.i2b, 1) := by decide +kernel
theorem dX6_write_47 : decode cX6_write 47 = .ok (.iastore, 1) := by decide +kernel
theorem dX6_write_48 : decode cX6_write 48 = .ok (.goto 21, 3) := by decide +kernel
theorem dX6_write_51 : decode cX6_write 51 = .ok (.aload_n 0, 1) := by decide +kernel
theorem dX6_write_52 : decode cX6_write 52 = .ok (.getfield 9, 3) := by decide +kernel
theorem dX6_write_55 : decode cX6_write 55 = .ok (.iload_n 1, 1) := by decide +kernel
theorem dX6_write_56 : decode cX6_write 56 = .ok (.iload_n 2, 1) := by decide +kernel
theorem dX6_write_57 : decode cX6_write 57 = .ok (.i2s, 1) := by decide +kernel
theorem dX6_write_58 : decode cX6_write 58 = .ok (.iastore, 1) := by decide +kernel
theorem dX6_write_59 : decode cX6_write 59 = .ok (.goto 10, 3) := by decide +kernel
theorem dX6_write_62 : decode cX6_write 62 = .ok (.aload_n 0, 1) := by decide +kernel
theorem dX6_write_63 : decode cX6_write 63 = .ok (.getfield 9, 3) := by decide +kernel
theorem dX6_write_66 : decode cX6_write 66 = .ok (.iload_n 1, 1) := by decide +kernel
theorem dX6_write_67 : decode cX6_write 67 = .ok (.iload_n 2, 1) := by decide +kernel
theorem dX6_write_68 : decode cX6_write 68 = .ok (.iastore, 1) := by decide +kernel
theorem dX6_write_69 : decode cX6_write 69 = .ok (.return_, 1) := by decide +kernel

set_option maxRecDepth 20000 in
theorem ggX8_ahead_X8_frankOn : GoodIn wsX8_ahead wsX8_frankOn := goodIn_r _ [30, 11, 31, 32, 33, 5, 34, 35, 36, 37, 38, 39, 40, 41, 42, 43, 44, 45, 46, 47, 48, 49, 50, 51, 52, 53, 54, 55, 56, 57, 58] (by decide +kernel) (by decide +kernel)
set_option maxRecDepth 20000 in
theorem gX8_ahead_X8_frankOn : GoodIn wsX8_ahead (wsV RX8 128 RX8 yX8_frankOn wsX8_frankOn) := goodIn_app (goodIn_of _ (by decide +kernel)) ggX8_ahead_X8_frankOn
theorem dX8_ahead_0 : decode cX8_ahead 0 = .ok (.aload_n 0, 1) := by decide +kernel
theorem dX8_ahead_1 : decode cX8_ahead 1 = .ok (.iload_n 1, 1) := by decide +kernel
theorem dX8_ahead_2 : decode cX8_ahead 2 = .ok (.invokevirtual 140, 3) := by decide +kernel
theorem dX8_ahead_5 : decode cX8_ahead 5 = .ok (.ifCond .eq 15, 3) := by decide +kernel
theorem dX8_ahead_8 : decode cX8_ahead 8 = .ok (.iload_n 2, 1) := by decide +kernel
theorem dX8_ahead_9 : decode cX8_ahead 9 = .ok (.i2l, 1) := by decide +kernel
theorem dX8_ahead_10 : decode cX8_ahead 10 = .ok (.lconst 0, 1) := by decide +kernel
theorem dX8_ahead_11 : decode cX8_ahead 11 = .ok (.ldc2_w 174, 3) := by decide +kernel
theorem dX8_ahead_14 : decode cX8_ahead 14 = .ok (.invokestatic 52, 3) := by decide +kernel
theorem dX8_ahead_17 : decode cX8_ahead 17 = .ok (.ifCond .ne 5, 3) := by decide +kernel
theorem dX8_ahead_20 : decode cX8_ahead 20 = .ok (.iconst (-1), 1) := by decide +kernel
theorem dX8_ahead_21 : decode cX8_ahead 21 = .ok (.ireturn, 1) := by decide +kernel
theorem dX8_ahead_22 : decode cX8_ahead 22 = .ok (.aload_n 0, 1) := by decide +kernel
theorem dX8_ahead_23 : decode cX8_ahead 23 = .ok (.iconst 0, 1) := by decide +kernel
theorem dX8_ahead_24 : decode cX8_ahead 24 = .ok (.iload_n 2, 1) := by decide +kernel
theorem dX8_ahead_25 : decode cX8_ahead 25 = .ok (.invokevirtual 176, 3) := by decide +kernel
theorem dX8_ahead_28 : decode cX8_ahead 28 = .ok (.aload_n 0, 1) := by decide +kernel
theorem dX8_ahead_29 : decode cX8_ahead 29 = .ok (.sipush 160, 3) := by decide +kernel
theorem dX8_ahead_32 : decode cX8_ahead 32 = .ok (.iload_n 1, 1) := by decide +kernel
theorem dX8_ahead_33 : decode cX8_ahead 33 = .ok (.invokevirtual 128, 3) := by decide +kernel
theorem dX8_ahead_36 : decode cX8_ahead 36 = .ok (.ireturn, 1) := by decide +kernel
set_option maxRecDepth 20000 in
theorem ggX8_fades_X8_isPlace : GoodIn wsX8_fades wsX8_isPlace := goodIn_r _ [5, 6, 7, 8, 4, 9, 10, 11, 12, 13, 30, 31, 32, 33, 34, 35, 36, 37, 38, 39, 40, 41, 42, 43, 44, 45, 46, 47, 48, 49, 50, 51, 52, 53] (by decide +kernel) (by decide +kernel)
set_option maxRecDepth 20000 in
theorem gX8_fades_X8_isPlace : GoodIn wsX8_fades (wsV RX8 140 RX8 yX8_isPlace wsX8_isPlace) := goodIn_app (goodIn_of _ (by decide +kernel)) ggX8_fades_X8_isPlace
set_option maxRecDepth 20000 in
theorem ggX8_fades_X8_copies : GoodIn wsX8_fades wsX8_copies := goodIn_r _ [17, 10, 30, 31, 32, 33, 34, 35, 36, 37, 38, 39, 40, 41, 42, 43, 44, 45, 46, 47, 48, 49, 50, 51, 52, 53] (by decide +kernel) (by decide +kernel)
set_option maxRecDepth 20000 in
theorem gX8_fades_X8_copies : GoodIn wsX8_fades (wsV RX8 170 RX8 yX8_copies wsX8_copies) := goodIn_app (goodIn_of _ (by decide +kernel)) ggX8_fades_X8_copies
set_option maxRecDepth 20000 in
theorem ggX8_fades_X8_frankOn : GoodIn wsX8_fades wsX8_frankOn := goodIn_r _ [21, 10, 22, 23, 24, 4, 25, 30, 31, 32, 33, 34, 35, 36, 37, 38, 39, 40, 41, 42, 43, 44, 45, 46, 47, 48, 49, 50, 51, 52, 53] (by decide +kernel) (by decide +kernel)
set_option maxRecDepth 20000 in
theorem gX8_fades_X8_frankOn : GoodIn wsX8_fades (wsV RX8 128 RX8 yX8_frankOn wsX8_frankOn) := goodIn_app (goodIn_of _ (by decide +kernel)) ggX8_fades_X8_frankOn
set_option maxRecDepth 20000 in
theorem ggX8_fades_X8_yearOn : GoodIn wsX8_fades wsX8_yearOn := goodIn_r _ [29, 10, 6, 7, 8, 4, 9, 30, 31, 32, 33, 34, 35, 36, 37, 38, 39, 40, 41, 42, 43, 44, 45, 46, 47, 48, 49, 50, 51, 52, 53] (by decide +kernel) (by decide +kernel)
set_option maxRecDepth 20000 in
theorem gX8_fades_X8_yearOn : GoodIn wsX8_fades (wsV RX8 167 RX8 yX8_yearOn wsX8_yearOn) := goodIn_app (goodIn_of _ (by decide +kernel)) ggX8_fades_X8_yearOn
theorem dX8_fades_0 : decode cX8_fades 0 = .ok (.aload_n 0, 1) := by decide +kernel
theorem dX8_fades_1 : decode cX8_fades 1 = .ok (.iload_n 1, 1) := by decide +kernel
theorem dX8_fades_2 : decode cX8_fades 2 = .ok (.invokevirtual 140, 3) := by decide +kernel
theorem dX8_fades_5 : decode cX8_fades 5 = .ok (.ifCond .ne 5, 3) := by decide +kernel
theorem dX8_fades_8 : decode cX8_fades 8 = .ok (.iconst (-1), 1) := by decide +kernel
theorem dX8_fades_9 : decode cX8_fades 9 = .ok (.ireturn, 1) := by decide +kernel
theorem dX8_fades_10 : decode cX8_fades 10 = .ok (.aload_n 0, 1) := by decide +kernel
theorem dX8_fades_11 : decode cX8_fades 11 = .ok (.iconst 0, 1) := by decide +kernel
theorem dX8_fades_12 : decode cX8_fades 12 = .ok (.sipush 160, 3) := by decide +kernel
theorem dX8_fades_15 : decode cX8_fades 15 = .ok (.invokevirtual 170, 3) := by decide +kernel
theorem dX8_fades_18 : decode cX8_fades 18 = .ok (.iconst 0, 1) := by decide +kernel
theorem dX8_fades_19 : decode cX8_fades 19 = .ok (.istore_n 2, 1) := by decide +kernel
theorem dX8_fades_20 : decode cX8_fades 20 = .ok (.iload_n 2, 1) := by decide +kernel
theorem dX8_fades_21 : decode cX8_fades 21 = .ok (.bipush 60, 2) := by decide +kernel
theorem dX8_fades_23 : decode cX8_fades 23 = .ok (.if_icmp .gt 29, 3) := by decide +kernel
theorem dX8_fades_26 : decode cX8_fades 26 = .ok (.aload_n 0, 1) := by decide +kernel
theorem dX8_fades_27 : decode cX8_fades 27 = .ok (.sipush 160, 3) := by decide +kernel
theorem dX8_fades_30 : decode cX8_fades 30 = .ok (.iload_n 1, 1) := by decide +kernel
theorem dX8_fades_31 : decode cX8_fades 31 = .ok (.invokevirtual 128, 3) := by decide +kernel
theorem dX8_fades_34 : decode cX8_fades 34 = .ok (.ifCond .ne 5, 3) := by decide +kernel
theorem dX8_fades_37 : decode cX8_fades 37 = .ok (.iload_n 2, 1) := by decide +kernel
theorem dX8_fades_38 : decode cX8_fades 38 = .ok (.ireturn, 1) := by decide +kernel
theorem dX8_fades_39 : decode cX8_fades 39 = .ok (.aload_n 0, 1) := by decide +kernel
theorem dX8_fades_40 : decode cX8_fades 40 = .ok (.sipush 160, 3) := by decide +kernel
theorem dX8_fades_43 : decode cX8_fades 43 = .ok (.invokevirtual 167, 3) := by decide +kernel
theorem dX8_fades_46 : decode cX8_fades 46 = .ok (.iinc 2 1, 3) := by decide +kernel
theorem dX8_fades_49 : decode cX8_fades 49 = .ok (.goto (-29), 3) := by decide +kernel
theorem dX8_fades_52 : decode cX8_fades 52 = .ok (.bipush (-4), 2) := by decide +kernel
theorem dX8_fades_54 : decode cX8_fades 54 = .ok (.ireturn, 1) := by decide +kernel
set_option maxRecDepth 20000 in
theorem ggX8_stretch_X8_longOn : GoodIn wsX8_stretch wsX8_longOn := goodIn_r _ [5, 6, 18, 19, 20, 21, 22, 23, 24, 25, 26, 27, 28, 29, 30, 31, 32, 33, 34, 35, 36, 37, 38, 39, 40, 41] (by decide +kernel) (by decide +kernel)
set_option maxRecDepth 20000 in
theorem gX8_stretch_X8_longOn : GoodIn wsX8_stretch (wsV RX8 122 RX8 yX8_longOn wsX8_longOn) := goodIn_app (goodIn_of _ (by decide +kernel)) ggX8_stretch_X8_longOn
set_option maxRecDepth 20000 in
theorem ggX8_stretch_X8_in : GoodIn wsX8_stretch wsX8_in := goodIn_r _ [9] (by decide +kernel) (by decide +kernel)
set_option maxRecDepth 20000 in
theorem gX8_stretch_X8_in : GoodIn wsX8_stretch (va_wsS RX8 52 yX8_in wsX8_in) := goodIn_app (goodIn_of _ (by decide +kernel)) ggX8_stretch_X8_in
set_option maxRecDepth 20000 in
theorem ggX8_stretch_X8_frankOn : GoodIn wsX8_stretch wsX8_frankOn := goodIn_r _ [13, 6, 14, 15, 16, 4, 17, 18, 19, 20, 21, 22, 23, 24, 25, 26, 27, 28, 29, 30, 31, 32, 33, 34, 35, 36, 37, 38, 39, 40, 41] (by decide +kernel) (by decide +kernel)
set_option maxRecDepth 20000 in
theorem gX8_stretch_X8_frankOn : GoodIn wsX8_stretch (wsV RX8 128 RX8 yX8_frankOn wsX8_frankOn) := goodIn_app (goodIn_of _ (by decide +kernel)) ggX8_stretch_X8_frankOn
theorem dX8_stretch_0 : decode cX8_stretch 0 = .ok (.aload_n 0, 1) := by decide +kernel
theorem dX8_stretch_1 : decode cX8_stretch 1 = .ok (.iconst 0, 1) := by decide +kernel
theorem dX8_stretch_2 : decode cX8_stretch 2 = .ok (.invokevirtual 122, 3) := by decide +kernel
theorem dX8_stretch_5 : decode cX8_stretch 5 = .ok (.istore_n 3, 1) := by decide +kernel
theorem dX8_stretch_6 : decode cX8_stretch 6 = .ok (.iload_n 1, 1) := by decide +kernel
theorem dX8_stretch_7 : decode cX8_stretch 7 = .ok (.i2l, 1) := by decide +kernel
theorem dX8_stretch_8 : decode cX8_stretch 8 = .ok (.lconst 1, 1) := by decide +kernel
theorem dX8_stretch_9 : decode cX8_stretch 9 = .ok (.iload_n 3, 1) := by decide +kernel
theorem dX8_stretch_10 : decode cX8_stretch 10 = .ok (.i2l, 1) := by decide +kernel
theorem dX8_stretch_11 : decode cX8_stretch 11 = .ok (.invokestatic 52, 3) := by decide +kernel
theorem dX8_stretch_14 : decode cX8_stretch 14 = .ok (.ifCond .eq 13, 3) := by decide +kernel
theorem dX8_stretch_17 : decode cX8_stretch 17 = .ok (.iload_n 2, 1) := by decide +kernel
theorem dX8_stretch_18 : decode cX8_stretch 18 = .ok (.i2l, 1) := by decide +kernel
theorem dX8_stretch_19 : decode cX8_stretch 19 = .ok (.lconst 0, 1) := by decide +kernel
theorem dX8_stretch_20 : decode cX8_stretch 20 = .ok (.lconst 1, 1) := by decide +kernel
theorem dX8_stretch_21 : decode cX8_stretch 21 = .ok (.invokestatic 52, 3) := by decide +kernel
theorem dX8_stretch_24 : decode cX8_stretch 24 = .ok (.ifCond .ne 5, 3) := by decide +kernel
theorem dX8_stretch_27 : decode cX8_stretch 27 = .ok (.iconst (-1), 1) := by decide +kernel
theorem dX8_stretch_28 : decode cX8_stretch 28 = .ok (.ireturn, 1) := by decide +kernel
theorem dX8_stretch_29 : decode cX8_stretch 29 = .ok (.iconst (-1), 1) := by decide +kernel
theorem dX8_stretch_30 : decode cX8_stretch 30 = .ok (.istore 4, 2) := by decide +kernel
theorem dX8_stretch_32 : decode cX8_stretch 32 = .ok (.iconst 0, 1) := by decide +kernel
theorem dX8_stretch_33 : decode cX8_stretch 33 = .ok (.istore 5, 2) := by decide +kernel
theorem dX8_stretch_35 : decode cX8_stretch 35 = .ok (.iconst 0, 1) := by decide +kernel
theorem dX8_stretch_36 : decode cX8_stretch 36 = .ok (.istore 6, 2) := by decide +kernel
theorem dX8_stretch_38 : decode cX8_stretch 38 = .ok (.iload 6, 2) := by decide +kernel
theorem dX8_stretch_40 : decode cX8_stretch 40 = .ok (.iload_n 1, 1) := by decide +kernel
theorem dX8_stretch_41 : decode cX8_stretch 41 = .ok (.iadd, 1) := by decide +kernel
theorem dX8_stretch_42 : decode cX8_stretch 42 = .ok (.iload_n 3, 1) := by decide +kernel
theorem dX8_stretch_43 : decode cX8_stretch 43 = .ok (.if_icmp .gt 74, 3) := by decide +kernel
theorem dX8_stretch_46 : decode cX8_stretch 46 = .ok (.iconst 0, 1) := by decide +kernel
theorem dX8_stretch_47 : decode cX8_stretch 47 = .ok (.istore 7, 2) := by decide +kernel
theorem dX8_stretch_49 : decode cX8_stretch 49 = .ok (.iconst 0, 1) := by decide +kernel
theorem dX8_stretch_50 : decode cX8_stretch 50 = .ok (.istore 8, 2) := by decide +kernel
theorem dX8_stretch_52 : decode cX8_stretch 52 = .ok (.iload 8, 2) := by decide +kernel
theorem dX8_stretch_54 : decode cX8_stretch 54 = .ok (.iload_n 1, 1) := by decide +kernel
theorem dX8_stretch_55 : decode cX8_stretch 55 = .ok (.if_icmp .ge 24, 3) := by decide +kernel
theorem dX8_stretch_58 : decode cX8_stretch 58 = .ok (.iload 7, 2) := by decide +kernel
theorem dX8_stretch_60 : decode cX8_stretch 60 = .ok (.aload_n 0, 1) := by decide +kernel
theorem dX8_stretch_61 : decode cX8_stretch 61 = .ok (.iconst 0, 1) := by decide +kernel
theorem dX8_stretch_62 : decode cX8_stretch 62 = .ok (.iload 6, 2) := by decide +kernel
theorem dX8_stretch_64 : decode cX8_stretch 64 = .ok (.iload 8, 2) := by decide +kernel
theorem dX8_stretch_66 : decode cX8_stretch 66 = .ok (.iadd, 1) := by decide +kernel
theorem dX8_stretch_67 : decode cX8_stretch 67 = .ok (.invokevirtual 128, 3) := by decide +kernel
theorem dX8_stretch_70 : decode cX8_stretch 70 = .ok (.iadd, 1) := by decide +kernel
theorem dX8_stretch_71 : decode cX8_stretch 71 = .ok (.istore 7, 2) := by decide +kernel
theorem dX8_stretch_73 : decode cX8_stretch 73 = .ok (.iinc 8 1, 3) := by decide +kernel
theorem dX8_stretch_76 : decode cX8_stretch 76 = .ok (.goto (-24), 3) := by decide +kernel
theorem dX8_stretch_79 : decode cX8_stretch 79 = .ok (.iload 7, 2) := by decide +kernel
theorem dX8_stretch_81 : decode cX8_stretch 81 = .ok (.iload 4, 2) := by decide +kernel
theorem dX8_stretch_83 : decode cX8_stretch 83 = .ok (.if_icmp .le 8, 3) := by decide +kernel
theorem dX8_stretch_86 : decode cX8_stretch 86 = .ok (.iload 6, 2) := by decide +kernel
theorem dX8_stretch_88 : decode cX8_stretch 88 = .ok (.goto 5, 3) := by decide +kernel
theorem dX8_stretch_91 : decode cX8_stretch 91 = .ok (.iload 5, 2) := by decide +kernel
theorem dX8_stretch_93 : decode cX8_stretch 93 = .ok (.istore 5, 2) := by decide +kernel
theorem dX8_stretch_95 : decode cX8_stretch 95 = .ok (.iload 7, 2) := by decide +kernel
theorem dX8_stretch_97 : decode cX8_stretch 97 = .ok (.iload 4, 2) := by decide +kernel
theorem dX8_stretch_99 : decode cX8_stretch 99 = .ok (.if_icmp .le 8, 3) := by decide +kernel
theorem dX8_stretch_102 : decode cX8_stretch 102 = .ok (.iload 7, 2) := by decide +kernel
theorem dX8_stretch_104 : decode cX8_stretch 104 = .ok (.goto 5, 3) := by decide +kernel
theorem dX8_stretch_107 : decode cX8_stretch 107 = .ok (.iload 4, 2) := by decide +kernel
theorem dX8_stretch_109 : decode cX8_stretch 109 = .ok (.istore 4, 2) := by decide +kernel
theorem dX8_stretch_111 : decode cX8_stretch 111 = .ok (.iinc 6 1, 3) := by decide +kernel
theorem dX8_stretch_114 : decode cX8_stretch 114 = .ok (.goto (-76), 3) := by decide +kernel
theorem dX8_stretch_117 : decode cX8_stretch 117 = .ok (.iload_n 2, 1) := by decide +kernel
theorem dX8_stretch_118 : decode cX8_stretch 118 = .ok (.ifCond .ne 8, 3) := by decide +kernel
theorem dX8_stretch_121 : decode cX8_stretch 121 = .ok (.iload 5, 2) := by decide +kernel
theorem dX8_stretch_123 : decode cX8_stretch 123 = .ok (.goto 5, 3) := by decide +kernel
theorem dX8_stretch_126 : decode cX8_stretch 126 = .ok (.iload 4, 2) := by decide +kernel
theorem dX8_stretch_128 : decode cX8_stretch 128 = .ok (.ireturn, 1) := by decide +kernel
set_option maxRecDepth 20000 in
theorem ggX8_hang_X8_in : GoodIn wsX8_hang wsX8_in := goodIn_r _ [5] (by decide +kernel) (by decide +kernel)
set_option maxRecDepth 20000 in
theorem gX8_hang_X8_in : GoodIn wsX8_hang (va_wsS RX8 52 yX8_in wsX8_in) := goodIn_app (goodIn_of _ (by decide +kernel)) ggX8_hang_X8_in
set_option maxRecDepth 20000 in
theorem ggX8_hang_X8_copies : GoodIn wsX8_hang wsX8_copies := goodIn_r _ [9, 1, 26, 27, 28, 29, 30, 31, 32, 33, 34, 35, 36, 37, 38, 39, 40, 41, 42, 43, 44, 45, 46, 47, 48, 49] (by decide +kernel) (by decide +kernel)
set_option maxRecDepth 20000 in
theorem gX8_hang_X8_copies : GoodIn wsX8_hang (wsV RX8 170 RX8 yX8_copies wsX8_copies) := goodIn_app (goodIn_of _ (by decide +kernel)) ggX8_hang_X8_copies
set_option maxRecDepth 20000 in
theorem ggX8_hang_X8_frankOfAll : GoodIn wsX8_hang wsX8_frankOfAll := goodIn_r _ [13, 14, 15, 16, 4, 17, 1, 18, 19, 20, 21, 22, 23, 24, 25, 26, 27, 28, 29, 30, 31, 32, 33, 34, 35, 36, 37, 38, 39, 40, 41, 42, 43, 44, 45, 46, 47, 48, 49] (by decide +kernel) (by decide +kernel)
set_option maxRecDepth 20000 in
theorem gX8_hang_X8_frankOfAll : GoodIn wsX8_hang (wsV RX8 131 RX8 yX8_frankOfAll wsX8_frankOfAll) := goodIn_app (goodIn_of _ (by decide +kernel)) ggX8_hang_X8_frankOfAll
theorem dX8_hang_0 : decode cX8_hang 0 = .ok (.iload_n 1, 1) := by decide +kernel
theorem dX8_hang_1 : decode cX8_hang 1 = .ok (.i2l, 1) := by decide +kernel
theorem dX8_hang_2 : decode cX8_hang 2 = .ok (.lconst 0, 1) := by decide +kernel
theorem dX8_hang_3 : decode cX8_hang 3 = .ok (.lconst 1, 1) := by decide +kernel
theorem dX8_hang_4 : decode cX8_hang 4 = .ok (.invokestatic 52, 3) := by decide +kernel
theorem dX8_hang_7 : decode cX8_hang 7 = .ok (.ifCond .ne 5, 3) := by decide +kernel
theorem dX8_hang_10 : decode cX8_hang 10 = .ok (.iconst (-1), 1) := by decide +kernel
theorem dX8_hang_11 : decode cX8_hang 11 = .ok (.ireturn, 1) := by decide +kernel
theorem dX8_hang_12 : decode cX8_hang 12 = .ok (.iconst (-1), 1) := by decide +kernel
theorem dX8_hang_13 : decode cX8_hang 13 = .ok (.istore_n 2, 1) := by decide +kernel
theorem dX8_hang_14 : decode cX8_hang 14 = .ok (.iconst 0, 1) := by decide +kernel
theorem dX8_hang_15 : decode cX8_hang 15 = .ok (.istore_n 3, 1) := by decide +kernel
theorem dX8_hang_16 : decode cX8_hang 16 = .ok (.aload_n 0, 1) := by decide +kernel
theorem dX8_hang_17 : decode cX8_hang 17 = .ok (.iconst 0, 1) := by decide +kernel
theorem dX8_hang_18 : decode cX8_hang 18 = .ok (.sipush 200, 3) := by decide +kernel
theorem dX8_hang_21 : decode cX8_hang 21 = .ok (.invokevirtual 170, 3) := by decide +kernel
theorem dX8_hang_24 : decode cX8_hang 24 = .ok (.iconst 0, 1) := by decide +kernel
theorem dX8_hang_25 : decode cX8_hang 25 = .ok (.istore 4, 2) := by decide +kernel
theorem dX8_hang_27 : decode cX8_hang 27 = .ok (.iload 4, 2) := by decide +kernel
theorem dX8_hang_29 : decode cX8_hang 29 = .ok (.bipush 6, 2) := by decide +kernel
theorem dX8_hang_31 : decode cX8_hang 31 = .ok (.if_icmp .ge 54, 3) := by decide +kernel
theorem dX8_hang_34 : decode cX8_hang 34 = .ok (.aload_n 0, 1) := by decide +kernel
theorem dX8_hang_35 : decode cX8_hang 35 = .ok (.getfield 7, 3) := by decide +kernel
theorem dX8_hang_38 : decode cX8_hang 38 = .ok (.sipush 214, 3) := by decide +kernel
theorem dX8_hang_41 : decode cX8_hang 41 = .ok (.iload 4, 2) := by decide +kernel
theorem dX8_hang_43 : decode cX8_hang 43 = .ok (.iastore, 1) := by decide +kernel
theorem dX8_hang_44 : decode cX8_hang 44 = .ok (.aload_n 0, 1) := by decide +kernel
theorem dX8_hang_45 : decode cX8_hang 45 = .ok (.sipush 200, 3) := by decide +kernel
theorem dX8_hang_48 : decode cX8_hang 48 = .ok (.invokevirtual 131, 3) := by decide +kernel
theorem dX8_hang_51 : decode cX8_hang 51 = .ok (.istore 5, 2) := by decide +kernel
theorem dX8_hang_53 : decode cX8_hang 53 = .ok (.iload 5, 2) := by decide +kernel
theorem dX8_hang_55 : decode cX8_hang 55 = .ok (.iload_n 2, 1) := by decide +kernel
theorem dX8_hang_56 : decode cX8_hang 56 = .ok (.if_icmp .le 8, 3) := by decide +kernel
theorem dX8_hang_59 : decode cX8_hang 59 = .ok (.iload 4, 2) := by decide +kernel
theorem dX8_hang_61 : decode cX8_hang 61 = .ok (.goto 4, 3) := by decide +kernel
theorem dX8_hang_64 : decode cX8_hang 64 = .ok (.iload_n 3, 1) := by decide +kernel
theorem dX8_hang_65 : decode cX8_hang 65 = .ok (.istore_n 3, 1) := by decide +kernel
theorem dX8_hang_66 : decode cX8_hang 66 = .ok (.iload 5, 2) := by decide +kernel
theorem dX8_hang_68 : decode cX8_hang 68 = .ok (.iload_n 2, 1) := by decide +kernel
theorem dX8_hang_69 : decode cX8_hang 69 = .ok (.if_icmp .le 8, 3) := by decide +kernel
theorem dX8_hang_72 : decode cX8_hang 72 = .ok (.iload 5, 2) := by decide +kernel
theorem dX8_hang_74 : decode cX8_hang 74 = .ok (.goto 4, 3) := by decide +kernel
theorem dX8_hang_77 : decode cX8_hang 77 = .ok (.iload_n 2, 1) := by decide +kernel
theorem dX8_hang_78 : decode cX8_hang 78 = .ok (.istore_n 2, 1) := by decide +kernel
theorem dX8_hang_79 : decode cX8_hang 79 = .ok (.iinc 4 1, 3) := by decide +kernel
theorem dX8_hang_82 : decode cX8_hang 82 = .ok (.goto (-55), 3) := by decide +kernel
theorem dX8_hang_85 : decode cX8_hang 85 = .ok (.iload_n 1, 1) := by decide +kernel
theorem dX8_hang_86 : decode cX8_hang 86 = .ok (.ifCond .ne 7, 3) := by decide +kernel
theorem dX8_hang_89 : decode cX8_hang 89 = .ok (.iload_n 3, 1) := by decide +kernel
theorem dX8_hang_90 : decode cX8_hang 90 = .ok (.goto 4, 3) := by decide +kernel
theorem dX8_hang_93 : decode cX8_hang 93 = .ok (.iload_n 2, 1) := by decide +kernel
theorem dX8_hang_94 : decode cX8_hang 94 = .ok (.ireturn, 1) := by decide +kernel
set_option maxRecDepth 20000 in
theorem ggX8_shade_X8_in : GoodIn wsX8_shade wsX8_in := goodIn_r _ [6] (by decide +kernel) (by decide +kernel)
set_option maxRecDepth 20000 in
theorem gX8_shade_X8_in : GoodIn wsX8_shade (va_wsS RX8 52 yX8_in wsX8_in) := goodIn_app (goodIn_of _ (by decide +kernel)) ggX8_shade_X8_in
set_option maxRecDepth 20000 in
theorem ggX8_shade_X8_copies : GoodIn wsX8_shade wsX8_copies := goodIn_r _ [10, 2, 35, 36, 37, 38, 39, 40, 41, 42, 43, 44, 45, 46, 47, 48, 49, 50, 51, 52, 53, 54, 55, 56, 57, 58] (by decide +kernel) (by decide +kernel)
set_option maxRecDepth 20000 in
theorem gX8_shade_X8_copies : GoodIn wsX8_shade (wsV RX8 170 RX8 yX8_copies wsX8_copies) := goodIn_app (goodIn_of _ (by decide +kernel)) ggX8_shade_X8_copies
set_option maxRecDepth 20000 in
theorem ggX8_shade_X8_yearsGo : GoodIn wsX8_shade wsX8_yearsGo := goodIn_r _ [14, 7, 8, 9, 5, 10, 2, 15, 16, 17, 18, 19, 20, 21, 22, 35, 36, 37, 38, 39, 40, 41, 42, 43, 44, 45, 46, 47, 48, 49, 50, 51, 52, 53, 54, 55, 56, 57, 58] (by decide +kernel) (by decide +kernel)
set_option maxRecDepth 20000 in
theorem gX8_shade_X8_yearsGo : GoodIn wsX8_shade (wsV RX8 176 RX8 yX8_yearsGo wsX8_yearsGo) := goodIn_app (goodIn_of _ (by decide +kernel)) ggX8_shade_X8_yearsGo
set_option maxRecDepth 20000 in
theorem ggX8_shade_X8_frankOfAll : GoodIn wsX8_shade wsX8_frankOfAll := goodIn_r _ [26, 19, 20, 21, 5, 22, 2, 27, 28, 29, 30, 31, 32, 33, 34, 35, 36, 37, 38, 39, 40, 41, 42, 43, 44, 45, 46, 47, 48, 49, 50, 51, 52, 53, 54, 55, 56, 57, 58] (by decide +kernel) (by decide +kernel)
set_option maxRecDepth 20000 in
theorem gX8_shade_X8_frankOfAll : GoodIn wsX8_shade (wsV RX8 131 RX8 yX8_frankOfAll wsX8_frankOfAll) := goodIn_app (goodIn_of _ (by decide +kernel)) ggX8_shade_X8_frankOfAll
theorem dX8_shade_0 : decode cX8_shade 0 = .ok (.iload_n 1, 1) := by decide +kernel
theorem dX8_shade_1 : decode cX8_shade 1 = .ok (.i2l, 1) := by decide +kernel
theorem dX8_shade_2 : decode cX8_shade 2 = .ok (.lconst 0, 1) := by decide +kernel
theorem dX8_shade_3 : decode cX8_shade 3 = .ok (.ldc2_w 174, 3) := by decide +kernel
theorem dX8_shade_6 : decode cX8_shade 6 = .ok (.invokestatic 52, 3) := by decide +kernel
theorem dX8_shade_9 : decode cX8_shade 9 = .ok (.ifCond .eq 13, 3) := by decide +kernel
theorem dX8_shade_12 : decode cX8_shade 12 = .ok (.iload_n 2, 1) := by decide +kernel
theorem dX8_shade_13 : decode cX8_shade 13 = .ok (.i2l, 1) := by decide +kernel
theorem dX8_shade_14 : decode cX8_shade 14 = .ok (.lconst 0, 1) := by decide +kernel
theorem dX8_shade_15 : decode cX8_shade 15 = .ok (.lconst 1, 1) := by decide +kernel
theorem dX8_shade_16 : decode cX8_shade 16 = .ok (.invokestatic 52, 3) := by decide +kernel
theorem dX8_shade_19 : decode cX8_shade 19 = .ok (.ifCond .ne 5, 3) := by decide +kernel
theorem dX8_shade_22 : decode cX8_shade 22 = .ok (.iconst (-1), 1) := by decide +kernel
theorem dX8_shade_23 : decode cX8_shade 23 = .ok (.ireturn, 1) := by decide +kernel
theorem dX8_shade_24 : decode cX8_shade 24 = .ok (.iconst (-1), 1) := by decide +kernel
theorem dX8_shade_25 : decode cX8_shade 25 = .ok (.istore_n 3, 1) := by decide +kernel
theorem dX8_shade_26 : decode cX8_shade 26 = .ok (.iconst 0, 1) := by decide +kernel
theorem dX8_shade_27 : decode cX8_shade 27 = .ok (.istore 4, 2) := by decide +kernel
theorem dX8_shade_29 : decode cX8_shade 29 = .ok (.aload_n 0, 1) := by decide +kernel
theorem dX8_shade_30 : decode cX8_shade 30 = .ok (.iconst 0, 1) := by decide +kernel
theorem dX8_shade_31 : decode cX8_shade 31 = .ok (.sipush 200, 3) := by decide +kernel
theorem dX8_shade_34 : decode cX8_shade 34 = .ok (.invokevirtual 170, 3) := by decide +kernel
theorem dX8_shade_37 : decode cX8_shade 37 = .ok (.iconst 0, 1) := by decide +kernel
theorem dX8_shade_38 : decode cX8_shade 38 = .ok (.istore 5, 2) := by decide +kernel
theorem dX8_shade_40 : decode cX8_shade 40 = .ok (.iload 5, 2) := by decide +kernel
theorem dX8_shade_42 : decode cX8_shade 42 = .ok (.bipush 12, 2) := by decide +kernel
theorem dX8_shade_44 : decode cX8_shade 44 = .ok (.if_icmp .ge 64, 3) := by decide +kernel
theorem dX8_shade_47 : decode cX8_shade 47 = .ok (.aload_n 0, 1) := by decide +kernel
theorem dX8_shade_48 : decode cX8_shade 48 = .ok (.getfield 7, 3) := by decide +kernel
theorem dX8_shade_51 : decode cX8_shade 51 = .ok (.sipush 215, 3) := by decide +kernel
theorem dX8_shade_54 : decode cX8_shade 54 = .ok (.iload 5, 2) := by decide +kernel
theorem dX8_shade_56 : decode cX8_shade 56 = .ok (.iastore, 1) := by decide +kernel
theorem dX8_shade_57 : decode cX8_shade 57 = .ok (.aload_n 0, 1) := by decide +kernel
theorem dX8_shade_58 : decode cX8_shade 58 = .ok (.sipush 200, 3) := by decide +kernel
theorem dX8_shade_61 : decode cX8_shade 61 = .ok (.iload_n 1, 1) := by decide +kernel
theorem dX8_shade_62 : decode cX8_shade 62 = .ok (.invokevirtual 176, 3) := by decide +kernel
theorem dX8_shade_65 : decode cX8_shade 65 = .ok (.aload_n 0, 1) := by decide +kernel
theorem dX8_shade_66 : decode cX8_shade 66 = .ok (.sipush 160, 3) := by decide +kernel
theorem dX8_shade_69 : decode cX8_shade 69 = .ok (.invokevirtual 131, 3) := by decide +kernel
theorem dX8_shade_72 : decode cX8_shade 72 = .ok (.istore 6, 2) := by decide +kernel
theorem dX8_shade_74 : decode cX8_shade 74 = .ok (.iload 6, 2) := by decide +kernel
theorem dX8_shade_76 : decode cX8_shade 76 = .ok (.iload_n 3, 1) := by decide +kernel
theorem dX8_shade_77 : decode cX8_shade 77 = .ok (.if_icmp .le 8, 3) := by decide +kernel
theorem dX8_shade_80 : decode cX8_shade 80 = .ok (.iload 5, 2) := by decide +kernel
theorem dX8_shade_82 : decode cX8_shade 82 = .ok (.goto 5, 3) := by decide +kernel
theorem dX8_shade_85 : decode cX8_shade 85 = .ok (.iload 4, 2) := by decide +kernel
theorem dX8_shade_87 : decode cX8_shade 87 = .ok (.istore 4, 2) := by decide +kernel
theorem dX8_shade_89 : decode cX8_shade 89 = .ok (.iload 6, 2) := by decide +kernel
theorem dX8_shade_91 : decode cX8_shade 91 = .ok (.iload_n 3, 1) := by decide +kernel
theorem dX8_shade_92 : decode cX8_shade 92 = .ok (.if_icmp .le 8, 3) := by decide +kernel
theorem dX8_shade_95 : decode cX8_shade 95 = .ok (.iload 6, 2) := by decide +kernel
theorem dX8_shade_97 : decode cX8_shade 97 = .ok (.goto 4, 3) := by decide +kernel
theorem dX8_shade_100 : decode cX8_shade 100 = .ok (.iload_n 3, 1) := by decide +kernel
theorem dX8_shade_101 : decode cX8_shade 101 = .ok (.istore_n 3, 1) := by decide +kernel
theorem dX8_shade_102 : decode cX8_shade 102 = .ok (.iinc 5 1, 3) := by decide +kernel
theorem dX8_shade_105 : decode cX8_shade 105 = .ok (.goto (-65), 3) := by decide +kernel
theorem dX8_shade_108 : decode cX8_shade 108 = .ok (.iload_n 2, 1) := by decide +kernel
theorem dX8_shade_109 : decode cX8_shade 109 = .ok (.ifCond .ne 8, 3) := by decide +kernel
theorem dX8_shade_112 : decode cX8_shade 112 = .ok (.iload 4, 2) := by decide +kernel
theorem dX8_shade_114 : decode cX8_shade 114 = .ok (.goto 4, 3) := by decide +kernel
theorem dX8_shade_117 : decode cX8_shade 117 = .ok (.iload_n 3, 1) := by decide +kernel
theorem dX8_shade_118 : decode cX8_shade 118 = .ok (.ireturn, 1) := by decide +kernel
set_option maxRecDepth 20000 in
theorem ggX8_swap_X8_in : GoodIn wsX8_swap wsX8_in := goodIn_r _ [5] (by decide +kernel) (by decide +kernel)
set_option maxRecDepth 20000 in
theorem gX8_swap_X8_in : GoodIn wsX8_swap (va_wsS RX8 52 yX8_in wsX8_in) := goodIn_app (goodIn_of _ (by decide +kernel)) ggX8_swap_X8_in
set_option maxRecDepth 20000 in
theorem ggX8_swap_X8_frankOfAll : GoodIn wsX8_swap wsX8_frankOfAll := goodIn_r _ [9, 10, 11, 12, 4, 13, 1, 14, 15, 16, 17, 18, 19, 20, 21, 26, 27, 28, 29, 30, 31, 32, 33, 34, 35, 36, 37, 38, 39, 40, 41, 42, 43, 44, 45, 46, 47, 48, 49] (by decide +kernel) (by decide +kernel)
set_option maxRecDepth 20000 in
theorem gX8_swap_X8_frankOfAll : GoodIn wsX8_swap (wsV RX8 131 RX8 yX8_frankOfAll wsX8_frankOfAll) := goodIn_app (goodIn_of _ (by decide +kernel)) ggX8_swap_X8_frankOfAll
set_option maxRecDepth 20000 in
theorem ggX8_swap_X8_copies : GoodIn wsX8_swap wsX8_copies := goodIn_r _ [25, 1, 26, 27, 28, 29, 30, 31, 32, 33, 34, 35, 36, 37, 38, 39, 40, 41, 42, 43, 44, 45, 46, 47, 48, 49] (by decide +kernel) (by decide +kernel)
set_option maxRecDepth 20000 in
theorem gX8_swap_X8_copies : GoodIn wsX8_swap (wsV RX8 170 RX8 yX8_copies wsX8_copies) := goodIn_app (goodIn_of _ (by decide +kernel)) ggX8_swap_X8_copies
theorem dX8_swap_0 : decode cX8_swap 0 = .ok (.iload_n 1, 1) := by decide +kernel
theorem dX8_swap_1 : decode cX8_swap 1 = .ok (.i2l, 1) := by decide +kernel
theorem dX8_swap_2 : decode cX8_swap 2 = .ok (.lconst 0, 1) := by decide +kernel
theorem dX8_swap_3 : decode cX8_swap 3 = .ok (.lconst 1, 1) := by decide +kernel
theorem dX8_swap_4 : decode cX8_swap 4 = .ok (.invokestatic 52, 3) := by decide +kernel
theorem dX8_swap_7 : decode cX8_swap 7 = .ok (.ifCond .ne 5, 3) := by decide +kernel
theorem dX8_swap_10 : decode cX8_swap 10 = .ok (.iconst (-1), 1) := by decide +kernel
theorem dX8_swap_11 : decode cX8_swap 11 = .ok (.ireturn, 1) := by decide +kernel
theorem dX8_swap_12 : decode cX8_swap 12 = .ok (.aload_n 0, 1) := by decide +kernel
theorem dX8_swap_13 : decode cX8_swap 13 = .ok (.iconst 0, 1) := by decide +kernel
theorem dX8_swap_14 : decode cX8_swap 14 = .ok (.invokevirtual 131, 3) := by decide +kernel
theorem dX8_swap_17 : decode cX8_swap 17 = .ok (.istore_n 2, 1) := by decide +kernel
theorem dX8_swap_18 : decode cX8_swap 18 = .ok (.bipush (-4), 2) := by decide +kernel
theorem dX8_swap_20 : decode cX8_swap 20 = .ok (.istore_n 3, 1) := by decide +kernel
theorem dX8_swap_21 : decode cX8_swap 21 = .ok (.iconst 0, 1) := by decide +kernel
theorem dX8_swap_22 : decode cX8_swap 22 = .ok (.istore 4, 2) := by decide +kernel
theorem dX8_swap_24 : decode cX8_swap 24 = .ok (.iload 4, 2) := by decide +kernel
theorem dX8_swap_26 : decode cX8_swap 26 = .ok (.aload_n 0, 1) := by decide +kernel
theorem dX8_swap_27 : decode cX8_swap 27 = .ok (.getfield 7, 3) := by decide +kernel
theorem dX8_swap_30 : decode cX8_swap 30 = .ok (.bipush 12, 2) := by decide +kernel
theorem dX8_swap_32 : decode cX8_swap 32 = .ok (.iaload, 1) := by decide +kernel
theorem dX8_swap_33 : decode cX8_swap 33 = .ok (.if_icmp .ge 146, 3) := by decide +kernel
theorem dX8_swap_36 : decode cX8_swap 36 = .ok (.iload 4, 2) := by decide +kernel
theorem dX8_swap_38 : decode cX8_swap 38 = .ok (.iconst 1, 1) := by decide +kernel
theorem dX8_swap_39 : decode cX8_swap 39 = .ok (.iadd, 1) := by decide +kernel
theorem dX8_swap_40 : decode cX8_swap 40 = .ok (.istore 5, 2) := by decide +kernel
theorem dX8_swap_42 : decode cX8_swap 42 = .ok (.iload 5, 2) := by decide +kernel
theorem dX8_swap_44 : decode cX8_swap 44 = .ok (.aload_n 0, 1) := by decide +kernel
theorem dX8_swap_45 : decode cX8_swap 45 = .ok (.getfield 7, 3) := by decide +kernel
theorem dX8_swap_48 : decode cX8_swap 48 = .ok (.bipush 12, 2) := by decide +kernel
theorem dX8_swap_50 : decode cX8_swap 50 = .ok (.iaload, 1) := by decide +kernel
theorem dX8_swap_51 : decode cX8_swap 51 = .ok (.if_icmp .ge 122, 3) := by decide +kernel
theorem dX8_swap_54 : decode cX8_swap 54 = .ok (.aload_n 0, 1) := by decide +kernel
theorem dX8_swap_55 : decode cX8_swap 55 = .ok (.iconst 0, 1) := by decide +kernel
theorem dX8_swap_56 : decode cX8_swap 56 = .ok (.sipush 200, 3) := by decide +kernel
theorem dX8_swap_59 : decode cX8_swap 59 = .ok (.invokevirtual 170, 3) := by decide +kernel
theorem dX8_swap_62 : decode cX8_swap 62 = .ok (.iconst 0, 1) := by decide +kernel
theorem dX8_swap_63 : decode cX8_swap 63 = .ok (.istore 6, 2) := by decide +kernel
theorem dX8_swap_65 : decode cX8_swap 65 = .ok (.iload 6, 2) := by decide +kernel
theorem dX8_swap_67 : decode cX8_swap 67 = .ok (.bipush 12, 2) := by decide +kernel
theorem dX8_swap_69 : decode cX8_swap 69 = .ok (.if_icmp .ge 57, 3) := by decide +kernel
theorem dX8_swap_72 : decode cX8_swap 72 = .ok (.aload_n 0, 1) := by decide +kernel
theorem dX8_swap_73 : decode cX8_swap 73 = .ok (.getfield 7, 3) := by decide +kernel
theorem dX8_swap_76 : decode cX8_swap 76 = .ok (.sipush 200, 3) := by decide +kernel
theorem dX8_swap_79 : decode cX8_swap 79 = .ok (.iload 6, 2) := by decide +kernel
theorem dX8_swap_81 : decode cX8_swap 81 = .ok (.iadd, 1) := by decide +kernel
theorem dX8_swap_82 : decode cX8_swap 82 = .ok (.iload 4, 2) := by decide +kernel
theorem dX8_swap_84 : decode cX8_swap 84 = .ok (.iadd, 1) := by decide +kernel
theorem dX8_swap_85 : decode cX8_swap 85 = .ok (.aload_n 0, 1) := by decide +kernel
theorem dX8_swap_86 : decode cX8_swap 86 = .ok (.getfield 7, 3) := by decide +kernel
theorem dX8_swap_89 : decode cX8_swap 89 = .ok (.iload 6, 2) := by decide +kernel
theorem dX8_swap_91 : decode cX8_swap 91 = .ok (.iload 5, 2) := by decide +kernel
theorem dX8_swap_93 : decode cX8_swap 93 = .ok (.iadd, 1) := by decide +kernel
theorem dX8_swap_94 : decode cX8_swap 94 = .ok (.iaload, 1) := by decide +kernel
theorem dX8_swap_95 : decode cX8_swap 95 = .ok (.iastore, 1) := by decide +kernel
theorem dX8_swap_96 : decode cX8_swap 96 = .ok (.aload_n 0, 1) := by decide +kernel
theorem dX8_swap_97 : decode cX8_swap 97 = .ok (.getfield 7, 3) := by decide +kernel
theorem dX8_swap_100 : decode cX8_swap 100 = .ok (.sipush 200, 3) := by decide +kernel
theorem dX8_swap_103 : decode cX8_swap 103 = .ok (.iload 6, 2) := by decide +kernel
theorem dX8_swap_105 : decode cX8_swap 105 = .ok (.iadd, 1) := by decide +kernel
theorem dX8_swap_106 : decode cX8_swap 106 = .ok (.iload 5, 2) := by decide +kernel
theorem dX8_swap_108 : decode cX8_swap 108 = .ok (.iadd, 1) := by decide +kernel
theorem dX8_swap_109 : decode cX8_swap 109 = .ok (.aload_n 0, 1) := by decide +kernel
theorem dX8_swap_110 : decode cX8_swap 110 = .ok (.getfield 7, 3) := by decide +kernel
theorem dX8_swap_113 : decode cX8_swap 113 = .ok (.iload 6, 2) := by decide +kernel
theorem dX8_swap_115 : decode cX8_swap 115 = .ok (.iload 4, 2) := by decide +kernel
theorem dX8_swap_117 : decode cX8_swap 117 = .ok (.iadd, 1) := by decide +kernel
theorem dX8_swap_118 : decode cX8_swap 118 = .ok (.iaload, 1) := by decide +kernel
theorem dX8_swap_119 : decode cX8_swap 119 = .ok (.iastore, 1) := by decide +kernel
theorem dX8_swap_120 : decode cX8_swap 120 = .ok (.iinc 6 6, 3) := by decide +kernel
theorem dX8_swap_123 : decode cX8_swap 123 = .ok (.goto (-58), 3) := by decide +kernel
theorem dX8_swap_126 : decode cX8_swap 126 = .ok (.aload_n 0, 1) := by decide +kernel
theorem dX8_swap_127 : decode cX8_swap 127 = .ok (.sipush 200, 3) := by decide +kernel
theorem dX8_swap_130 : decode cX8_swap 130 = .ok (.invokevirtual 131, 3) := by decide +kernel
theorem dX8_swap_133 : decode cX8_swap 133 = .ok (.istore 6, 2) := by decide +kernel
theorem dX8_swap_135 : decode cX8_swap 135 = .ok (.iload 6, 2) := by decide +kernel
theorem dX8_swap_137 : decode cX8_swap 137 = .ok (.iload_n 2, 1) := by decide +kernel
theorem dX8_swap_138 : decode cX8_swap 138 = .ok (.if_icmp .le 14, 3) := by decide +kernel
theorem dX8_swap_141 : decode cX8_swap 141 = .ok (.bipush 10, 2) := by decide +kernel
theorem dX8_swap_143 : decode cX8_swap 143 = .ok (.iload 4, 2) := by decide +kernel
theorem dX8_swap_145 : decode cX8_swap 145 = .ok (.imul, 1) := by decide +kernel
theorem dX8_swap_146 : decode cX8_swap 146 = .ok (.iload 5, 2) := by decide +kernel
theorem dX8_swap_148 : decode cX8_swap 148 = .ok (.iadd, 1) := by decide +kernel
theorem dX8_swap_149 : decode cX8_swap 149 = .ok (.goto 4, 3) := by decide +kernel
theorem dX8_swap_152 : decode cX8_swap 152 = .ok (.iload_n 3, 1) := by decide +kernel
theorem dX8_swap_153 : decode cX8_swap 153 = .ok (.istore_n 3, 1) := by decide +kernel
theorem dX8_swap_154 : decode cX8_swap 154 = .ok (.iload 6, 2) := by decide +kernel
theorem dX8_swap_156 : decode cX8_swap 156 = .ok (.iload_n 2, 1) := by decide +kernel
theorem dX8_swap_157 : decode cX8_swap 157 = .ok (.if_icmp .le 8, 3) := by decide +kernel
theorem dX8_swap_160 : decode cX8_swap 160 = .ok (.iload 6, 2) := by decide +kernel
theorem dX8_swap_162 : decode cX8_swap 162 = .ok (.goto 4, 3) := by decide +kernel
theorem dX8_swap_165 : decode cX8_swap 165 = .ok (.iload_n 2, 1) := by decide +kernel
theorem dX8_swap_166 : decode cX8_swap 166 = .ok (.istore_n 2, 1) := by decide +kernel
theorem dX8_swap_167 : decode cX8_swap 167 = .ok (.iinc 5 1, 3) := by decide +kernel
theorem dX8_swap_170 : decode cX8_swap 170 = .ok (.goto (-128), 3) := by decide +kernel
theorem dX8_swap_173 : decode cX8_swap 173 = .ok (.iinc 4 1, 3) := by decide +kernel
theorem dX8_swap_176 : decode cX8_swap 176 = .ok (.goto (-152), 3) := by decide +kernel
theorem dX8_swap_179 : decode cX8_swap 179 = .ok (.iload_n 3, 1) := by decide +kernel
theorem dX8_swap_180 : decode cX8_swap 180 = .ok (.bipush (-4), 2) := by decide +kernel
theorem dX8_swap_182 : decode cX8_swap 182 = .ok (.if_icmp .eq 7, 3) := by decide +kernel
theorem dX8_swap_185 : decode cX8_swap 185 = .ok (.iload_n 1, 1) := by decide +kernel
theorem dX8_swap_186 : decode cX8_swap 186 = .ok (.ifCond .ne 7, 3) := by decide +kernel
theorem dX8_swap_189 : decode cX8_swap 189 = .ok (.iload_n 3, 1) := by decide +kernel
theorem dX8_swap_190 : decode cX8_swap 190 = .ok (.goto 4, 3) := by decide +kernel
theorem dX8_swap_193 : decode cX8_swap 193 = .ok (.iload_n 2, 1) := by decide +kernel
theorem dX8_swap_194 : decode cX8_swap 194 = .ok (.ireturn, 1) := by decide +kernel
set_option maxRecDepth 20000 in
theorem ggX8_isSame_X8_whoOn : GoodIn wsX8_isSame wsX8_whoOn := goodIn_r _ [6, 1, 7, 8, 9, 10, 11, 12, 13, 14, 15, 16, 17, 18, 19, 20, 21, 22, 23, 24, 25, 26, 27, 28, 29, 30] (by decide +kernel) (by decide +kernel)
set_option maxRecDepth 20000 in
theorem gX8_isSame_X8_whoOn : GoodIn wsX8_isSame (wsV RX8 125 RX8 yX8_whoOn wsX8_whoOn) := goodIn_app (goodIn_of _ (by decide +kernel)) ggX8_isSame_X8_whoOn
theorem dX8_isSame_0 : decode cX8_isSame 0 = .ok (.aload_n 0, 1) := by decide +kernel
theorem dX8_isSame_1 : decode cX8_isSame 1 = .ok (.iload_n 1, 1) := by decide +kernel
theorem dX8_isSame_2 : decode cX8_isSame 2 = .ok (.iload_n 2, 1) := by decide +kernel
theorem dX8_isSame_3 : decode cX8_isSame 3 = .ok (.invokevirtual 125, 3) := by decide +kernel
theorem dX8_isSame_6 : decode cX8_isSame 6 = .ok (.istore 5, 2) := by decide +kernel
theorem dX8_isSame_8 : decode cX8_isSame 8 = .ok (.aload_n 0, 1) := by decide +kernel
theorem dX8_isSame_9 : decode cX8_isSame 9 = .ok (.iload_n 3, 1) := by decide +kernel
theorem dX8_isSame_10 : decode cX8_isSame 10 = .ok (.iload 4, 2) := by decide +kernel
theorem dX8_isSame_12 : decode cX8_isSame 12 = .ok (.invokevirtual 125, 3) := by decide +kernel
theorem dX8_isSame_15 : decode cX8_isSame 15 = .ok (.istore 6, 2) := by decide +kernel
theorem dX8_isSame_17 : decode cX8_isSame 17 = .ok (.aload_n 0, 1) := by decide +kernel
theorem dX8_isSame_18 : decode cX8_isSame 18 = .ok (.getfield 7, 3) := by decide +kernel
theorem dX8_isSame_21 : decode cX8_isSame 21 = .ok (.iload_n 1, 1) := by decide +kernel
theorem dX8_isSame_22 : decode cX8_isSame 22 = .ok (.iload 5, 2) := by decide +kernel
theorem dX8_isSame_24 : decode cX8_isSame 24 = .ok (.iadd, 1) := by decide +kernel
theorem dX8_isSame_25 : decode cX8_isSame 25 = .ok (.iaload, 1) := by decide +kernel
theorem dX8_isSame_26 : decode cX8_isSame 26 = .ok (.aload_n 0, 1) := by decide +kernel
theorem dX8_isSame_27 : decode cX8_isSame 27 = .ok (.getfield 7, 3) := by decide +kernel
theorem dX8_isSame_30 : decode cX8_isSame 30 = .ok (.iload_n 3, 1) := by decide +kernel
theorem dX8_isSame_31 : decode cX8_isSame 31 = .ok (.iload 6, 2) := by decide +kernel
theorem dX8_isSame_33 : decode cX8_isSame 33 = .ok (.iadd, 1) := by decide +kernel
theorem dX8_isSame_34 : decode cX8_isSame 34 = .ok (.iaload, 1) := by decide +kernel
theorem dX8_isSame_35 : decode cX8_isSame 35 = .ok (.if_icmp .ne 34, 3) := by decide +kernel
theorem dX8_isSame_38 : decode cX8_isSame 38 = .ok (.aload_n 0, 1) := by decide +kernel
theorem dX8_isSame_39 : decode cX8_isSame 39 = .ok (.getfield 7, 3) := by decide +kernel
theorem dX8_isSame_42 : decode cX8_isSame 42 = .ok (.iload_n 1, 1) := by decide +kernel
theorem dX8_isSame_43 : decode cX8_isSame 43 = .ok (.bipush 6, 2) := by decide +kernel
theorem dX8_isSame_45 : decode cX8_isSame 45 = .ok (.iadd, 1) := by decide +kernel
theorem dX8_isSame_46 : decode cX8_isSame 46 = .ok (.iload 5, 2) := by decide +kernel
theorem dX8_isSame_48 : decode cX8_isSame 48 = .ok (.iadd, 1) := by decide +kernel
theorem dX8_isSame_49 : decode cX8_isSame 49 = .ok (.iaload, 1) := by decide +kernel
theorem dX8_isSame_50 : decode cX8_isSame 50 = .ok (.aload_n 0, 1) := by decide +kernel
theorem dX8_isSame_51 : decode cX8_isSame 51 = .ok (.getfield 7, 3) := by decide +kernel
theorem dX8_isSame_54 : decode cX8_isSame 54 = .ok (.iload_n 3, 1) := by decide +kernel
theorem dX8_isSame_55 : decode cX8_isSame 55 = .ok (.bipush 6, 2) := by decide +kernel
theorem dX8_isSame_57 : decode cX8_isSame 57 = .ok (.iadd, 1) := by decide +kernel
theorem dX8_isSame_58 : decode cX8_isSame 58 = .ok (.iload 6, 2) := by decide +kernel
theorem dX8_isSame_60 : decode cX8_isSame 60 = .ok (.iadd, 1) := by decide +kernel
theorem dX8_isSame_61 : decode cX8_isSame 61 = .ok (.iaload, 1) := by decide +kernel
theorem dX8_isSame_62 : decode cX8_isSame 62 = .ok (.if_icmp .ne 7, 3) := by decide +kernel
theorem dX8_isSame_65 : decode cX8_isSame 65 = .ok (.iconst 1, 1) := by decide +kernel
theorem dX8_isSame_66 : decode cX8_isSame 66 = .ok (.goto 4, 3) := by decide +kernel
theorem dX8_isSame_69 : decode cX8_isSame 69 = .ok (.iconst 0, 1) := by decide +kernel
theorem dX8_isSame_70 : decode cX8_isSame 70 = .ok (.ireturn, 1) := by decide +kernel
set_option maxRecDepth 20000 in
theorem ggX8_period_X8_longOn : GoodIn wsX8_period wsX8_longOn := goodIn_r _ [6, 1, 15, 16, 17, 18, 19, 20, 21, 22, 23, 24, 25, 26, 27, 28, 29, 30, 31, 32, 33, 34, 35, 36, 37, 38] (by decide +kernel) (by decide +kernel)
set_option maxRecDepth 20000 in
theorem gX8_period_X8_longOn : GoodIn wsX8_period (wsV RX8 122 RX8 yX8_longOn wsX8_longOn) := goodIn_app (goodIn_of _ (by decide +kernel)) ggX8_period_X8_longOn
set_option maxRecDepth 20000 in
theorem ggX8_period_X8_isSame : GoodIn wsX8_period wsX8_isSame := goodIn_r _ [10, 1, 11, 12, 13, 5, 14, 15, 16, 17, 18, 19, 20, 21, 22, 23, 24, 25, 26, 27, 28, 29, 30, 31, 32, 33, 34, 35, 36, 37, 38] (by decide +kernel) (by decide +kernel)
set_option maxRecDepth 20000 in
theorem gX8_period_X8_isSame : GoodIn wsX8_period (wsV RX8 179 RX8 yX8_isSame wsX8_isSame) := goodIn_app (goodIn_of _ (by decide +kernel)) ggX8_period_X8_isSame
theorem dX8_period_0 : decode cX8_period 0 = .ok (.aload_n 0, 1) := by decide +kernel
theorem dX8_period_1 : decode cX8_period 1 = .ok (.getfield 7, 3) := by decide +kernel
theorem dX8_period_4 : decode cX8_period 4 = .ok (.bipush 12, 2) := by decide +kernel
theorem dX8_period_6 : decode cX8_period 6 = .ok (.iaload, 1) := by decide +kernel
theorem dX8_period_7 : decode cX8_period 7 = .ok (.ifCond .ne 6, 3) := by decide +kernel
theorem dX8_period_10 : decode cX8_period 10 = .ok (.bipush (-2), 2) := by decide +kernel
theorem dX8_period_12 : decode cX8_period 12 = .ok (.ireturn, 1) := by decide +kernel
theorem dX8_period_13 : decode cX8_period 13 = .ok (.aload_n 0, 1) := by decide +kernel
theorem dX8_period_14 : decode cX8_period 14 = .ok (.iconst 0, 1) := by decide +kernel
theorem dX8_period_15 : decode cX8_period 15 = .ok (.invokevirtual 122, 3) := by decide +kernel
theorem dX8_period_18 : decode cX8_period 18 = .ok (.istore_n 1, 1) := by decide +kernel
theorem dX8_period_19 : decode cX8_period 19 = .ok (.iconst 1, 1) := by decide +kernel
theorem dX8_period_20 : decode cX8_period 20 = .ok (.istore_n 2, 1) := by decide +kernel
theorem dX8_period_21 : decode cX8_period 21 = .ok (.iload_n 2, 1) := by decide +kernel
theorem dX8_period_22 : decode cX8_period 22 = .ok (.iload_n 1, 1) := by decide +kernel
theorem dX8_period_23 : decode cX8_period 23 = .ok (.if_icmp .ge 59, 3) := by decide +kernel
theorem dX8_period_26 : decode cX8_period 26 = .ok (.iconst 1, 1) := by decide +kernel
theorem dX8_period_27 : decode cX8_period 27 = .ok (.istore_n 3, 1) := by decide +kernel
theorem dX8_period_28 : decode cX8_period 28 = .ok (.iconst 0, 1) := by decide +kernel
theorem dX8_period_29 : decode cX8_period 29 = .ok (.istore 4, 2) := by decide +kernel
theorem dX8_period_31 : decode cX8_period 31 = .ok (.iload 4, 2) := by decide +kernel
theorem dX8_period_33 : decode cX8_period 33 = .ok (.iload_n 2, 1) := by decide +kernel
theorem dX8_period_34 : decode cX8_period 34 = .ok (.iadd, 1) := by decide +kernel
theorem dX8_period_35 : decode cX8_period 35 = .ok (.iload_n 1, 1) := by decide +kernel
theorem dX8_period_36 : decode cX8_period 36 = .ok (.if_icmp .ge 34, 3) := by decide +kernel
theorem dX8_period_39 : decode cX8_period 39 = .ok (.iload_n 3, 1) := by decide +kernel
theorem dX8_period_40 : decode cX8_period 40 = .ok (.ifCond .eq 22, 3) := by decide +kernel
theorem dX8_period_43 : decode cX8_period 43 = .ok (.aload_n 0, 1) := by decide +kernel
theorem dX8_period_44 : decode cX8_period 44 = .ok (.iconst 0, 1) := by decide +kernel
theorem dX8_period_45 : decode cX8_period 45 = .ok (.iload 4, 2) := by decide +kernel
theorem dX8_period_47 : decode cX8_period 47 = .ok (.iconst 0, 1) := by decide +kernel
theorem dX8_period_48 : decode cX8_period 48 = .ok (.iload 4, 2) := by decide +kernel
theorem dX8_period_50 : decode cX8_period 50 = .ok (.iload_n 2, 1) := by decide +kernel
theorem dX8_period_51 : decode cX8_period 51 = .ok (.iadd, 1) := by decide +kernel
theorem dX8_period_52 : decode cX8_period 52 = .ok (.invokevirtual 179, 3) := by decide +kernel
theorem dX8_period_55 : decode cX8_period 55 = .ok (.ifCond .eq 7, 3) := by decide +kernel
theorem dX8_period_58 : decode cX8_period 58 = .ok (.iconst 1, 1) := by decide +kernel
theorem dX8_period_59 : decode cX8_period 59 = .ok (.goto 4, 3) := by decide +kernel
theorem dX8_period_62 : decode cX8_period 62 = .ok (.iconst 0, 1) := by decide +kernel
theorem dX8_period_63 : decode cX8_period 63 = .ok (.istore_n 3, 1) := by decide +kernel
theorem dX8_period_64 : decode cX8_period 64 = .ok (.iinc 4 1, 3) := by decide +kernel
theorem dX8_period_67 : decode cX8_period 67 = .ok (.goto (-36), 3) := by decide +kernel
theorem dX8_period_70 : decode cX8_period 70 = .ok (.iload_n 3, 1) := by decide +kernel
theorem dX8_period_71 : decode cX8_period 71 = .ok (.ifCond .eq 5, 3) := by decide +kernel
theorem dX8_period_74 : decode cX8_period 74 = .ok (.iload_n 2, 1) := by decide +kernel
theorem dX8_period_75 : decode cX8_period 75 = .ok (.ireturn, 1) := by decide +kernel
theorem dX8_period_76 : decode cX8_period 76 = .ok (.iinc 2 1, 3) := by decide +kernel
theorem dX8_period_79 : decode cX8_period 79 = .ok (.goto (-58), 3) := by decide +kernel
theorem dX8_period_82 : decode cX8_period 82 = .ok (.iload_n 1, 1) := by decide +kernel
theorem dX8_period_83 : decode cX8_period 83 = .ok (.ireturn, 1) := by decide +kernel
set_option maxRecDepth 20000 in
theorem ggX8_alike_X8_copies : GoodIn wsX8_alike wsX8_copies := goodIn_r _ [6, 1, 19, 20, 21, 22, 23, 24, 25, 26, 27, 28, 29, 30, 31, 32, 33, 34, 35, 36, 37, 38, 39, 40, 41, 42] (by decide +kernel) (by decide +kernel)
set_option maxRecDepth 20000 in
theorem gX8_alike_X8_copies : GoodIn wsX8_alike (wsV RX8 170 RX8 yX8_copies wsX8_copies) := goodIn_app (goodIn_of _ (by decide +kernel)) ggX8_alike_X8_copies
set_option maxRecDepth 20000 in
theorem ggX8_alike_X8_longOn : GoodIn wsX8_alike wsX8_longOn := goodIn_r _ [10, 1, 19, 20, 21, 22, 23, 24, 25, 26, 27, 28, 29, 30, 31, 32, 33, 34, 35, 36, 37, 38, 39, 40, 41, 42] (by decide +kernel) (by decide +kernel)
set_option maxRecDepth 20000 in
theorem gX8_alike_X8_longOn : GoodIn wsX8_alike (wsV RX8 122 RX8 yX8_longOn wsX8_longOn) := goodIn_app (goodIn_of _ (by decide +kernel)) ggX8_alike_X8_longOn
set_option maxRecDepth 20000 in
theorem ggX8_alike_X8_isSame : GoodIn wsX8_alike wsX8_isSame := goodIn_r _ [14, 1, 15, 16, 17, 5, 18, 19, 20, 21, 22, 23, 24, 25, 26, 27, 28, 29, 30, 31, 32, 33, 34, 35, 36, 37, 38, 39, 40, 41, 42] (by decide +kernel) (by decide +kernel)
set_option maxRecDepth 20000 in
theorem gX8_alike_X8_isSame : GoodIn wsX8_alike (wsV RX8 179 RX8 yX8_isSame wsX8_isSame) := goodIn_app (goodIn_of _ (by decide +kernel)) ggX8_alike_X8_isSame
theorem dX8_alike_0 : decode cX8_alike 0 = .ok (.aload_n 0, 1) := by decide +kernel
theorem dX8_alike_1 : decode cX8_alike 1 = .ok (.getfield 7, 3) := by decide +kernel
theorem dX8_alike_4 : decode cX8_alike 4 = .ok (.bipush 12, 2) := by decide +kernel
theorem dX8_alike_6 : decode cX8_alike 6 = .ok (.iaload, 1) := by decide +kernel
theorem dX8_alike_7 : decode cX8_alike 7 = .ok (.ifCond .ne 6, 3) := by decide +kernel
theorem dX8_alike_10 : decode cX8_alike 10 = .ok (.bipush (-2), 2) := by decide +kernel
theorem dX8_alike_12 : decode cX8_alike 12 = .ok (.ireturn, 1) := by decide +kernel
theorem dX8_alike_13 : decode cX8_alike 13 = .ok (.iconst 0, 1) := by decide +kernel
theorem dX8_alike_14 : decode cX8_alike 14 = .ok (.istore_n 1, 1) := by decide +kernel
theorem dX8_alike_15 : decode cX8_alike 15 = .ok (.aload_n 0, 1) := by decide +kernel
theorem dX8_alike_16 : decode cX8_alike 16 = .ok (.iconst 0, 1) := by decide +kernel
theorem dX8_alike_17 : decode cX8_alike 17 = .ok (.sipush 200, 3) := by decide +kernel
theorem dX8_alike_20 : decode cX8_alike 20 = .ok (.invokevirtual 170, 3) := by decide +kernel
theorem dX8_alike_23 : decode cX8_alike 23 = .ok (.iconst 0, 1) := by decide +kernel
theorem dX8_alike_24 : decode cX8_alike 24 = .ok (.istore_n 2, 1) := by decide +kernel
theorem dX8_alike_25 : decode cX8_alike 25 = .ok (.iload_n 2, 1) := by decide +kernel
theorem dX8_alike_26 : decode cX8_alike 26 = .ok (.bipush 6, 2) := by decide +kernel
theorem dX8_alike_28 : decode cX8_alike 28 = .ok (.if_icmp .ge 76, 3) := by decide +kernel
theorem dX8_alike_31 : decode cX8_alike 31 = .ok (.aload_n 0, 1) := by decide +kernel
theorem dX8_alike_32 : decode cX8_alike 32 = .ok (.getfield 7, 3) := by decide +kernel
theorem dX8_alike_35 : decode cX8_alike 35 = .ok (.sipush 214, 3) := by decide +kernel
theorem dX8_alike_38 : decode cX8_alike 38 = .ok (.iload_n 2, 1) := by decide +kernel
theorem dX8_alike_39 : decode cX8_alike 39 = .ok (.iastore, 1) := by decide +kernel
theorem dX8_alike_40 : decode cX8_alike 40 = .ok (.iconst 1, 1) := by decide +kernel
theorem dX8_alike_41 : decode cX8_alike 41 = .ok (.istore_n 3, 1) := by decide +kernel
theorem dX8_alike_42 : decode cX8_alike 42 = .ok (.iconst 0, 1) := by decide +kernel
theorem dX8_alike_43 : decode cX8_alike 43 = .ok (.istore 4, 2) := by decide +kernel
theorem dX8_alike_45 : decode cX8_alike 45 = .ok (.iload 4, 2) := by decide +kernel
theorem dX8_alike_47 : decode cX8_alike 47 = .ok (.aload_n 0, 1) := by decide +kernel
theorem dX8_alike_48 : decode cX8_alike 48 = .ok (.iconst 0, 1) := by decide +kernel
theorem dX8_alike_49 : decode cX8_alike 49 = .ok (.invokevirtual 122, 3) := by decide +kernel
theorem dX8_alike_52 : decode cX8_alike 52 = .ok (.if_icmp .ge 34, 3) := by decide +kernel
theorem dX8_alike_55 : decode cX8_alike 55 = .ok (.iload_n 3, 1) := by decide +kernel
theorem dX8_alike_56 : decode cX8_alike 56 = .ok (.ifCond .eq 22, 3) := by decide +kernel
theorem dX8_alike_59 : decode cX8_alike 59 = .ok (.aload_n 0, 1) := by decide +kernel
theorem dX8_alike_60 : decode cX8_alike 60 = .ok (.iconst 0, 1) := by decide +kernel
theorem dX8_alike_61 : decode cX8_alike 61 = .ok (.iload 4, 2) := by decide +kernel
theorem dX8_alike_63 : decode cX8_alike 63 = .ok (.sipush 200, 3) := by decide +kernel
theorem dX8_alike_66 : decode cX8_alike 66 = .ok (.iload 4, 2) := by decide +kernel
theorem dX8_alike_68 : decode cX8_alike 68 = .ok (.invokevirtual 179, 3) := by decide +kernel
theorem dX8_alike_71 : decode cX8_alike 71 = .ok (.ifCond .eq 7, 3) := by decide +kernel
theorem dX8_alike_74 : decode cX8_alike 74 = .ok (.iconst 1, 1) := by decide +kernel
theorem dX8_alike_75 : decode cX8_alike 75 = .ok (.goto 4, 3) := by decide +kernel
theorem dX8_alike_78 : decode cX8_alike 78 = .ok (.iconst 0, 1) := by decide +kernel
theorem dX8_alike_79 : decode cX8_alike 79 = .ok (.istore_n 3, 1) := by decide +kernel
theorem dX8_alike_80 : decode cX8_alike 80 = .ok (.iinc 4 1, 3) := by decide +kernel
theorem dX8_alike_83 : decode cX8_alike 83 = .ok (.goto (-38), 3) := by decide +kernel
theorem dX8_alike_86 : decode cX8_alike 86 = .ok (.iload_n 1, 1) := by decide +kernel
theorem dX8_alike_87 : decode cX8_alike 87 = .ok (.iload_n 3, 1) := by decide +kernel
theorem dX8_alike_88 : decode cX8_alike 88 = .ok (.ifCond .eq 7, 3) := by decide +kernel
theorem dX8_alike_91 : decode cX8_alike 91 = .ok (.iconst 1, 1) := by decide +kernel
theorem dX8_alike_92 : decode cX8_alike 92 = .ok (.goto 4, 3) := by decide +kernel
theorem dX8_alike_95 : decode cX8_alike 95 = .ok (.iconst 0, 1) := by decide +kernel
theorem dX8_alike_96 : decode cX8_alike 96 = .ok (.iadd, 1) := by decide +kernel
theorem dX8_alike_97 : decode cX8_alike 97 = .ok (.istore_n 1, 1) := by decide +kernel
theorem dX8_alike_98 : decode cX8_alike 98 = .ok (.iinc 2 1, 3) := by decide +kernel
theorem dX8_alike_101 : decode cX8_alike 101 = .ok (.goto (-76), 3) := by decide +kernel
theorem dX8_alike_104 : decode cX8_alike 104 = .ok (.iload_n 1, 1) := by decide +kernel
theorem dX8_alike_105 : decode cX8_alike 105 = .ok (.ireturn, 1) := by decide +kernel
theorem dX8_covers_0 : decode cX8_covers 0 = .ok (.ldc 183, 2) := by decide +kernel
theorem dX8_covers_2 : decode cX8_covers 2 = .ok (.istore_n 3, 1) := by decide +kernel
theorem dX8_covers_3 : decode cX8_covers 3 = .ok (.iconst 0, 1) := by decide +kernel
theorem dX8_covers_4 : decode cX8_covers 4 = .ok (.istore 4, 2) := by decide +kernel
theorem dX8_covers_6 : decode cX8_covers 6 = .ok (.iload 4, 2) := by decide +kernel
theorem dX8_covers_8 : decode cX8_covers 8 = .ok (.iload_n 1, 1) := by decide +kernel
theorem dX8_covers_9 : decode cX8_covers 9 = .ok (.bipush 10, 2) := by decide +kernel
theorem dX8_covers_11 : decode cX8_covers 11 = .ok (.iadd, 1) := by decide +kernel
theorem dX8_covers_12 : decode cX8_covers 12 = .ok (.if_icmp .ge 244, 3) := by decide +kernel
theorem dX8_covers_15 : decode cX8_covers 15 = .ok (.aload_n 0, 1) := by decide +kernel
theorem dX8_covers_16 : decode cX8_covers 16 = .ok (.getfield 25, 3) := by decide +kernel
theorem dX8_covers_19 : decode cX8_covers 19 = .ok (.iload 4, 2) := by decide +kernel
theorem dX8_covers_21 : decode cX8_covers 21 = .ok (.iload 4, 2) := by decide +kernel
theorem dX8_covers_23 : decode cX8_covers 23 = .ok (.ifCond .ne 7, 3) := by decide +kernel
theorem dX8_covers_26 : decode cX8_covers 26 = .ok (.iconst 0, 1) := by decide +kernel
theorem dX8_covers_27 : decode cX8_covers 27 = .ok (.goto 5, 3) := by decide +kernel
theorem dX8_covers_30 : decode cX8_covers 30 = .ok (.ldc 183, 2) := by decide +kernel
theorem dX8_covers_32 : decode cX8_covers 32 = .ok (.iastore, 1) := by decide +kernel
theorem dX8_covers_33 : decode cX8_covers 33 = .ok (.aload_n 0, 1) := by decide +kernel
theorem dX8_covers_34 : decode cX8_covers 34 = .ok (.getfield 28, 3) := by decide +kernel
theorem dX8_covers_37 : decode cX8_covers 37 = .ok (.iload 4, 2) := by decide +kernel
theorem dX8_covers_39 : decode cX8_covers 39 = .ok (.iconst 0, 1) := by decide +kernel
theorem dX8_covers_40 : decode cX8_covers 40 = .ok (.iastore, 1) := by decide +kernel
theorem dX8_covers_41 : decode cX8_covers 41 = .ok (.iconst 0, 1) := by decide +kernel
theorem dX8_covers_42 : decode cX8_covers 42 = .ok (.istore 5, 2) := by decide +kernel
theorem dX8_covers_44 : decode cX8_covers 44 = .ok (.iload 5, 2) := by decide +kernel
theorem dX8_covers_46 : decode cX8_covers 46 = .ok (.aload_n 0, 1) := by decide +kernel
theorem dX8_covers_47 : decode cX8_covers 47 = .ok (.getfield 7, 3) := by decide +kernel
theorem dX8_covers_50 : decode cX8_covers 50 = .ok (.bipush 39, 2) := by decide +kernel
theorem dX8_covers_52 : decode cX8_covers 52 = .ok (.iaload, 1) := by decide +kernel
theorem dX8_covers_53 : decode cX8_covers 53 = .ok (.if_icmp .ge 168, 3) := by decide +kernel
theorem dX8_covers_56 : decode cX8_covers 56 = .ok (.iload 4, 2) := by decide +kernel
theorem dX8_covers_58 : decode cX8_covers 58 = .ok (.aload_n 0, 1) := by decide +kernel
theorem dX8_covers_59 : decode cX8_covers 59 = .ok (.getfield 7, 3) := by decide +kernel
theorem dX8_covers_62 : decode cX8_covers 62 = .ok (.bipush 31, 2) := by decide +kernel
theorem dX8_covers_64 : decode cX8_covers 64 = .ok (.iload 5, 2) := by decide +kernel
theorem dX8_covers_66 : decode cX8_covers 66 = .ok (.iadd, 1) := by decide +kernel
theorem dX8_covers_67 : decode cX8_covers 67 = .ok (.iaload, 1) := by decide +kernel
theorem dX8_covers_68 : decode cX8_covers 68 = .ok (.isub, 1) := by decide +kernel
theorem dX8_covers_69 : decode cX8_covers 69 = .ok (.istore 6, 2) := by decide +kernel
theorem dX8_covers_71 : decode cX8_covers 71 = .ok (.iload 6, 2) := by decide +kernel
theorem dX8_covers_73 : decode cX8_covers 73 = .ok (.ifCond .lt 142, 3) := by decide +kernel
theorem dX8_covers_76 : decode cX8_covers 76 = .ok (.aload_n 0, 1) := by decide +kernel
theorem dX8_covers_77 : decode cX8_covers 77 = .ok (.getfield 25, 3) := by decide +kernel
theorem dX8_covers_80 : decode cX8_covers 80 = .ok (.iload 6, 2) := by decide +kernel
theorem dX8_covers_82 : decode cX8_covers 82 = .ok (.iaload, 1) := by decide +kernel
theorem dX8_covers_83 : decode cX8_covers 83 = .ok (.ldc 183, 2) := by decide +kernel
theorem dX8_covers_85 : decode cX8_covers 85 = .ok (.if_icmp .ge 130, 3) := by decide +kernel
theorem dX8_covers_88 : decode cX8_covers 88 = .ok (.aload_n 0, 1) := by decide +kernel
theorem dX8_covers_89 : decode cX8_covers 89 = .ok (.getfield 25, 3) := by decide +kernel
theorem dX8_covers_92 : decode cX8_covers 92 = .ok (.iload 6, 2) := by decide +kernel
theorem dX8_covers_94 : decode cX8_covers 94 = .ok (.iaload, 1) := by decide +kernel
theorem dX8_covers_95 : decode cX8_covers 95 = .ok (.aload_n 0, 1) := by decide +kernel
theorem dX8_covers_96 : decode cX8_covers 96 = .ok (.getfield 7, 3) := by decide +kernel
theorem dX8_covers_99 : decode cX8_covers 99 = .ok (.bipush 35, 2) := by decide +kernel
theorem dX8_covers_101 : decode cX8_covers 101 = .ok (.iload 5, 2) := by decide +kernel
theorem dX8_covers_103 : decode cX8_covers 103 = .ok (.iadd, 1) := by decide +kernel
theorem dX8_covers_104 : decode cX8_covers 104 = .ok (.iaload, 1) := by decide +kernel
theorem dX8_covers_105 : decode cX8_covers 105 = .ok (.iadd, 1) := by decide +kernel
theorem dX8_covers_106 : decode cX8_covers 106 = .ok (.istore 7, 2) := by decide +kernel
theorem dX8_covers_108 : decode cX8_covers 108 = .ok (.aload_n 0, 1) := by decide +kernel
theorem dX8_covers_109 : decode cX8_covers 109 = .ok (.getfield 28, 3) := by decide +kernel
theorem dX8_covers_112 : decode cX8_covers 112 = .ok (.iload 6, 2) := by decide +kernel
theorem dX8_covers_114 : decode cX8_covers 114 = .ok (.iaload, 1) := by decide +kernel
theorem dX8_covers_115 : decode cX8_covers 115 = .ok (.iload 5, 2) := by decide +kernel
theorem dX8_covers_117 : decode cX8_covers 117 = .ok (.iload_n 2, 1) := by decide +kernel
theorem dX8_covers_118 : decode cX8_covers 118 = .ok (.if_icmp .ne 7, 3) := by decide +kernel
theorem dX8_covers_121 : decode cX8_covers 121 = .ok (.iconst 1, 1) := by decide +kernel
theorem dX8_covers_122 : decode cX8_covers 122 = .ok (.goto 4, 3) := by decide +kernel
theorem dX8_covers_125 : decode cX8_covers 125 = .ok (.iconst 0, 1) := by decide +kernel
theorem dX8_covers_126 : decode cX8_covers 126 = .ok (.iadd, 1) := by decide +kernel
theorem dX8_covers_127 : decode cX8_covers 127 = .ok (.istore 8, 2) := by decide +kernel
theorem dX8_covers_129 : decode cX8_covers 129 = .ok (.aload_n 0, 1) := by decide +kernel
theorem dX8_covers_130 : decode cX8_covers 130 = .ok (.getfield 28, 3) := by decide +kernel
theorem dX8_covers_133 : decode cX8_covers 133 = .ok (.iload 4, 2) := by decide +kernel
theorem dX8_covers_135 : decode cX8_covers 135 = .ok (.iload 7, 2) := by decide +kernel
theorem dX8_covers_137 : decode cX8_covers 137 = .ok (.aload_n 0, 1) := by decide +kernel
theorem dX8_covers_138 : decode cX8_covers 138 = .ok (.getfield 25, 3) := by decide +kernel
theorem dX8_covers_141 : decode cX8_covers 141 = .ok (.iload 4, 2) := by decide +kernel
theorem dX8_covers_143 : decode cX8_covers 143 = .ok (.iaload, 1) := by decide +kernel
theorem dX8_covers_144 : decode cX8_covers 144 = .ok (.if_icmp .lt 27, 3) := by decide +kernel
theorem dX8_covers_147 : decode cX8_covers 147 = .ok (.iload 7, 2) := by decide +kernel
theorem dX8_covers_149 : decode cX8_covers 149 = .ok (.aload_n 0, 1) := by decide +kernel
theorem dX8_covers_150 : decode cX8_covers 150 = .ok (.getfield 25, 3) := by decide +kernel
theorem dX8_covers_153 : decode cX8_covers 153 = .ok (.iload 4, 2) := by decide +kernel
theorem dX8_covers_155 : decode cX8_covers 155 = .ok (.iaload, 1) := by decide +kernel
theorem dX8_covers_156 : decode cX8_covers 156 = .ok (.if_icmp .ne 20, 3) := by decide +kernel
theorem dX8_covers_159 : decode cX8_covers 159 = .ok (.iload 8, 2) := by decide +kernel
theorem dX8_covers_161 : decode cX8_covers 161 = .ok (.aload_n 0, 1) := by decide +kernel
theorem dX8_covers_162 : decode cX8_covers 162 = .ok (.getfield 28, 3) := by decide +kernel
theorem dX8_covers_165 : decode cX8_covers 165 = .ok (.iload 4, 2) := by decide +kernel
theorem dX8_covers_167 : decode cX8_covers 167 = .ok (.iaload, 1) := by decide +kernel
theorem dX8_covers_168 : decode cX8_covers 168 = .ok (.if_icmp .le 8, 3) := by decide +kernel
theorem dX8_covers_171 : decode cX8_covers 171 = .ok (.iload 8, 2) := by decide +kernel
theorem dX8_covers_173 : decode cX8_covers 173 = .ok (.goto 10, 3) := by decide +kernel
theorem dX8_covers_176 : decode cX8_covers 176 = .ok (.aload_n 0, 1) := by decide +kernel
theorem dX8_covers_177 : decode cX8_covers 177 = .ok (.getfield 28, 3) := by decide +kernel
theorem dX8_covers_180 : decode cX8_covers 180 = .ok (.iload 4, 2) := by decide +kernel
theorem dX8_covers_182 : decode cX8_covers 182 = .ok (.iaload, 1) := by decide +kernel
theorem dX8_covers_183 : decode cX8_covers 183 = .ok (.iastore, 1) := by decide +kernel
theorem dX8_covers_184 : decode cX8_covers 184 = .ok (.aload_n 0, 1) := by decide +kernel
theorem dX8_covers_185 : decode cX8_covers 185 = .ok (.getfield 25, 3) := by decide +kernel
theorem dX8_covers_188 : decode cX8_covers 188 = .ok (.iload 4, 2) := by decide +kernel
theorem dX8_covers_190 : decode cX8_covers 190 = .ok (.iload 7, 2) := by decide +kernel
theorem dX8_covers_192 : decode cX8_covers 192 = .ok (.aload_n 0, 1) := by decide +kernel
theorem dX8_covers_193 : decode cX8_covers 193 = .ok (.getfield 25, 3) := by decide +kernel
theorem dX8_covers_196 : decode cX8_covers 196 = .ok (.iload 4, 2) := by decide +kernel
theorem dX8_covers_198 : decode cX8_covers 198 = .ok (.iaload, 1) := by decide +kernel
theorem dX8_covers_199 : decode cX8_covers 199 = .ok (.if_icmp .ge 8, 3) := by decide +kernel
theorem dX8_covers_202 : decode cX8_covers 202 = .ok (.iload 7, 2) := by decide +kernel
theorem dX8_covers_204 : decode cX8_covers 204 = .ok (.goto 10, 3) := by decide +kernel
theorem dX8_covers_207 : decode cX8_covers 207 = .ok (.aload_n 0, 1) := by decide +kernel
theorem dX8_covers_208 : decode cX8_covers 208 = .ok (.getfield 25, 3) := by decide +kernel
theorem dX8_covers_211 : decode cX8_covers 211 = .ok (.iload 4, 2) := by decide +kernel
theorem dX8_covers_213 : decode cX8_covers 213 = .ok (.iaload, 1) := by decide +kernel
theorem dX8_covers_214 : decode cX8_covers 214 = .ok (.iastore, 1) := by decide +kernel
theorem dX8_covers_215 : decode cX8_covers 215 = .ok (.iinc 5 1, 3) := by decide +kernel
theorem dX8_covers_218 : decode cX8_covers 218 = .ok (.goto (-174), 3) := by decide +kernel
theorem dX8_covers_221 : decode cX8_covers 221 = .ok (.iload 4, 2) := by decide +kernel
theorem dX8_covers_223 : decode cX8_covers 223 = .ok (.iload_n 1, 1) := by decide +kernel
theorem dX8_covers_224 : decode cX8_covers 224 = .ok (.if_icmp .lt 24, 3) := by decide +kernel
theorem dX8_covers_227 : decode cX8_covers 227 = .ok (.aload_n 0, 1) := by decide +kernel
theorem dX8_covers_228 : decode cX8_covers 228 = .ok (.getfield 25, 3) := by decide +kernel
theorem dX8_covers_231 : decode cX8_covers 231 = .ok (.iload 4, 2) := by decide +kernel
theorem dX8_covers_233 : decode cX8_covers 233 = .ok (.iaload, 1) := by decide +kernel
theorem dX8_covers_234 : decode cX8_covers 234 = .ok (.iload_n 3, 1) := by decide +kernel
theorem dX8_covers_235 : decode cX8_covers 235 = .ok (.if_icmp .ge 13, 3) := by decide +kernel
theorem dX8_covers_238 : decode cX8_covers 238 = .ok (.aload_n 0, 1) := by decide +kernel
theorem dX8_covers_239 : decode cX8_covers 239 = .ok (.getfield 25, 3) := by decide +kernel
theorem dX8_covers_242 : decode cX8_covers 242 = .ok (.iload 4, 2) := by decide +kernel
theorem dX8_covers_244 : decode cX8_covers 244 = .ok (.iaload, 1) := by decide +kernel
theorem dX8_covers_245 : decode cX8_covers 245 = .ok (.goto 4, 3) := by decide +kernel
theorem dX8_covers_248 : decode cX8_covers 248 = .ok (.iload_n 3, 1) := by decide +kernel
theorem dX8_covers_249 : decode cX8_covers 249 = .ok (.istore_n 3, 1) := by decide +kernel
theorem dX8_covers_250 : decode cX8_covers 250 = .ok (.iinc 4 1, 3) := by decide +kernel
theorem dX8_covers_253 : decode cX8_covers 253 = .ok (.goto (-247), 3) := by decide +kernel
theorem dX8_covers_256 : decode cX8_covers 256 = .ok (.iload_n 3, 1) := by decide +kernel
theorem dX8_covers_257 : decode cX8_covers 257 = .ok (.ireturn, 1) := by decide +kernel
set_option maxRecDepth 20000 in
theorem ggX8_cover_X8_in : GoodIn wsX8_cover wsX8_in := goodIn_r _ [7] (by decide +kernel) (by decide +kernel)
set_option maxRecDepth 20000 in
theorem gX8_cover_X8_in : GoodIn wsX8_cover (va_wsS RX8 52 yX8_in wsX8_in) := goodIn_app (goodIn_of _ (by decide +kernel)) ggX8_cover_X8_in
set_option maxRecDepth 20000 in
theorem ggX8_cover_X8_covers : GoodIn wsX8_cover wsX8_covers := goodIn_r _ [11, 2, 3, 12, 13, 14, 15, 16, 17, 18, 19, 20, 21, 22, 23, 24, 25, 26, 27, 28, 29, 30, 31, 32, 33, 34, 35, 36, 37] (by decide +kernel) (by decide +kernel)
set_option maxRecDepth 20000 in
theorem gX8_cover_X8_covers : GoodIn wsX8_cover (wsV RX8 184 RX8 yX8_covers wsX8_covers) := goodIn_app (goodIn_of _ (by decide +kernel)) ggX8_cover_X8_covers
theorem dX8_cover_0 : decode cX8_cover 0 = .ok (.iload_n 1, 1) := by decide +kernel
theorem dX8_cover_1 : decode cX8_cover 1 = .ok (.i2l, 1) := by decide +kernel
theorem dX8_cover_2 : decode cX8_cover 2 = .ok (.lconst 0, 1) := by decide +kernel
theorem dX8_cover_3 : decode cX8_cover 3 = .ok (.ldc2_w 174, 3) := by decide +kernel
theorem dX8_cover_6 : decode cX8_cover 6 = .ok (.invokestatic 52, 3) := by decide +kernel
theorem dX8_cover_9 : decode cX8_cover 9 = .ok (.ifCond .eq 13, 3) := by decide +kernel
theorem dX8_cover_12 : decode cX8_cover 12 = .ok (.iload_n 2, 1) := by decide +kernel
theorem dX8_cover_13 : decode cX8_cover 13 = .ok (.i2l, 1) := by decide +kernel
theorem dX8_cover_14 : decode cX8_cover 14 = .ok (.lconst 0, 1) := by decide +kernel
theorem dX8_cover_15 : decode cX8_cover 15 = .ok (.lconst 1, 1) := by decide +kernel
theorem dX8_cover_16 : decode cX8_cover 16 = .ok (.invokestatic 52, 3) := by decide +kernel
theorem dX8_cover_19 : decode cX8_cover 19 = .ok (.ifCond .ne 5, 3) := by decide +kernel
theorem dX8_cover_22 : decode cX8_cover 22 = .ok (.iconst (-1), 1) := by decide +kernel
theorem dX8_cover_23 : decode cX8_cover 23 = .ok (.ireturn, 1) := by decide +kernel
theorem dX8_cover_24 : decode cX8_cover 24 = .ok (.aload_n 0, 1) := by decide +kernel
theorem dX8_cover_25 : decode cX8_cover 25 = .ok (.iload_n 1, 1) := by decide +kernel
theorem dX8_cover_26 : decode cX8_cover 26 = .ok (.bipush (-4), 2) := by decide +kernel
theorem dX8_cover_28 : decode cX8_cover 28 = .ok (.invokevirtual 184, 3) := by decide +kernel
theorem dX8_cover_31 : decode cX8_cover 31 = .ok (.istore_n 3, 1) := by decide +kernel
theorem dX8_cover_32 : decode cX8_cover 32 = .ok (.iload_n 3, 1) := by decide +kernel
theorem dX8_cover_33 : decode cX8_cover 33 = .ok (.ldc 183, 2) := by decide +kernel
theorem dX8_cover_35 : decode cX8_cover 35 = .ok (.if_icmp .ne 6, 3) := by decide +kernel
theorem dX8_cover_38 : decode cX8_cover 38 = .ok (.bipush (-4), 2) := by decide +kernel
theorem dX8_cover_40 : decode cX8_cover 40 = .ok (.ireturn, 1) := by decide +kernel
theorem dX8_cover_41 : decode cX8_cover 41 = .ok (.iconst 0, 1) := by decide +kernel
theorem dX8_cover_42 : decode cX8_cover 42 = .ok (.istore 4, 2) := by decide +kernel
theorem dX8_cover_44 : decode cX8_cover 44 = .ok (.aload_n 0, 1) := by decide +kernel
theorem dX8_cover_45 : decode cX8_cover 45 = .ok (.getfield 25, 3) := by decide +kernel
theorem dX8_cover_48 : decode cX8_cover 48 = .ok (.iload_n 1, 1) := by decide +kernel
theorem dX8_cover_49 : decode cX8_cover 49 = .ok (.iload 4, 2) := by decide +kernel
theorem dX8_cover_51 : decode cX8_cover 51 = .ok (.iadd, 1) := by decide +kernel
theorem dX8_cover_52 : decode cX8_cover 52 = .ok (.iaload, 1) := by decide +kernel
theorem dX8_cover_53 : decode cX8_cover 53 = .ok (.iload_n 3, 1) := by decide +kernel
theorem dX8_cover_54 : decode cX8_cover 54 = .ok (.if_icmp .eq 9, 3) := by decide +kernel
theorem dX8_cover_57 : decode cX8_cover 57 = .ok (.iinc 4 1, 3) := by decide +kernel
theorem dX8_cover_60 : decode cX8_cover 60 = .ok (.goto (-16), 3) := by decide +kernel
theorem dX8_cover_63 : decode cX8_cover 63 = .ok (.iload_n 2, 1) := by decide +kernel
theorem dX8_cover_64 : decode cX8_cover 64 = .ok (.ifCond .ne 7, 3) := by decide +kernel
theorem dX8_cover_67 : decode cX8_cover 67 = .ok (.iload_n 3, 1) := by decide +kernel
theorem dX8_cover_68 : decode cX8_cover 68 = .ok (.goto 5, 3) := by decide +kernel
theorem dX8_cover_71 : decode cX8_cover 71 = .ok (.iload 4, 2) := by decide +kernel
theorem dX8_cover_73 : decode cX8_cover 73 = .ok (.ireturn, 1) := by decide +kernel
set_option maxRecDepth 20000 in
theorem ggX8_most_X8_isRoll : GoodIn wsX8_most wsX8_isRoll := goodIn_r _ [8, 9, 10, 11, 7, 12, 18, 19, 20, 21, 22, 23, 24, 25, 26, 27, 28, 29, 30, 31, 32, 33, 34, 35, 36, 37, 38, 39, 40, 41] (by decide +kernel) (by decide +kernel)
set_option maxRecDepth 20000 in
theorem gX8_most_X8_isRoll : GoodIn wsX8_most (wsV RX8 145 RX8 yX8_isRoll wsX8_isRoll) := goodIn_app (goodIn_of _ (by decide +kernel)) ggX8_most_X8_isRoll
set_option maxRecDepth 20000 in
theorem ggX8_most_X8_in : GoodIn wsX8_most wsX8_in := goodIn_r _ [12] (by decide +kernel) (by decide +kernel)
set_option maxRecDepth 20000 in
theorem gX8_most_X8_in : GoodIn wsX8_most (va_wsS RX8 52 yX8_in wsX8_in) := goodIn_app (goodIn_of _ (by decide +kernel)) ggX8_most_X8_in
set_option maxRecDepth 20000 in
theorem ggX8_most_X8_covers : GoodIn wsX8_most wsX8_covers := goodIn_r _ [16, 17, 2, 3, 9, 18, 19, 20, 21, 22, 23, 24, 25, 26, 27, 28, 29, 30, 31, 32, 33, 34, 35, 36, 37, 38, 39, 40, 41] (by decide +kernel) (by decide +kernel)
set_option maxRecDepth 20000 in
theorem gX8_most_X8_covers : GoodIn wsX8_most (wsV RX8 184 RX8 yX8_covers wsX8_covers) := goodIn_app (goodIn_of _ (by decide +kernel)) ggX8_most_X8_covers
theorem dX8_most_0 : decode cX8_most 0 = .ok (.aload_n 0, 1) := by decide +kernel
theorem dX8_most_1 : decode cX8_most 1 = .ok (.iload_n 1, 1) := by decide +kernel
theorem dX8_most_2 : decode cX8_most 2 = .ok (.invokevirtual 145, 3) := by decide +kernel
theorem dX8_most_5 : decode cX8_most 5 = .ok (.ifCond .eq 15, 3) := by decide +kernel
theorem dX8_most_8 : decode cX8_most 8 = .ok (.iload_n 2, 1) := by decide +kernel
theorem dX8_most_9 : decode cX8_most 9 = .ok (.i2l, 1) := by decide +kernel
theorem dX8_most_10 : decode cX8_most 10 = .ok (.lconst 0, 1) := by decide +kernel
theorem dX8_most_11 : decode cX8_most 11 = .ok (.ldc2_w 174, 3) := by decide +kernel
theorem dX8_most_14 : decode cX8_most 14 = .ok (.invokestatic 52, 3) := by decide +kernel
theorem dX8_most_17 : decode cX8_most 17 = .ok (.ifCond .ne 5, 3) := by decide +kernel
theorem dX8_most_20 : decode cX8_most 20 = .ok (.iconst (-1), 1) := by decide +kernel
theorem dX8_most_21 : decode cX8_most 21 = .ok (.ireturn, 1) := by decide +kernel
theorem dX8_most_22 : decode cX8_most 22 = .ok (.aload_n 0, 1) := by decide +kernel
theorem dX8_most_23 : decode cX8_most 23 = .ok (.iload_n 2, 1) := by decide +kernel
theorem dX8_most_24 : decode cX8_most 24 = .ok (.iload_n 1, 1) := by decide +kernel
theorem dX8_most_25 : decode cX8_most 25 = .ok (.invokevirtual 184, 3) := by decide +kernel
theorem dX8_most_28 : decode cX8_most 28 = .ok (.istore_n 3, 1) := by decide +kernel
theorem dX8_most_29 : decode cX8_most 29 = .ok (.iconst 0, 1) := by decide +kernel
theorem dX8_most_30 : decode cX8_most 30 = .ok (.istore 4, 2) := by decide +kernel
theorem dX8_most_32 : decode cX8_most 32 = .ok (.iload_n 2, 1) := by decide +kernel
theorem dX8_most_33 : decode cX8_most 33 = .ok (.istore 5, 2) := by decide +kernel
theorem dX8_most_35 : decode cX8_most 35 = .ok (.iload 5, 2) := by decide +kernel
theorem dX8_most_37 : decode cX8_most 37 = .ok (.iload_n 2, 1) := by decide +kernel
theorem dX8_most_38 : decode cX8_most 38 = .ok (.bipush 10, 2) := by decide +kernel
theorem dX8_most_40 : decode cX8_most 40 = .ok (.iadd, 1) := by decide +kernel
theorem dX8_most_41 : decode cX8_most 41 = .ok (.if_icmp .ge 46, 3) := by decide +kernel
theorem dX8_most_44 : decode cX8_most 44 = .ok (.aload_n 0, 1) := by decide +kernel
theorem dX8_most_45 : decode cX8_most 45 = .ok (.getfield 25, 3) := by decide +kernel
theorem dX8_most_48 : decode cX8_most 48 = .ok (.iload 5, 2) := by decide +kernel
theorem dX8_most_50 : decode cX8_most 50 = .ok (.iaload, 1) := by decide +kernel
theorem dX8_most_51 : decode cX8_most 51 = .ok (.iload_n 3, 1) := by decide +kernel
theorem dX8_most_52 : decode cX8_most 52 = .ok (.if_icmp .ne 25, 3) := by decide +kernel
theorem dX8_most_55 : decode cX8_most 55 = .ok (.aload_n 0, 1) := by decide +kernel
theorem dX8_most_56 : decode cX8_most 56 = .ok (.getfield 28, 3) := by decide +kernel
theorem dX8_most_59 : decode cX8_most 59 = .ok (.iload 5, 2) := by decide +kernel
theorem dX8_most_61 : decode cX8_most 61 = .ok (.iaload, 1) := by decide +kernel
theorem dX8_most_62 : decode cX8_most 62 = .ok (.iload 4, 2) := by decide +kernel
theorem dX8_most_64 : decode cX8_most 64 = .ok (.if_icmp .le 13, 3) := by decide +kernel
theorem dX8_most_67 : decode cX8_most 67 = .ok (.aload_n 0, 1) := by decide +kernel
theorem dX8_most_68 : decode cX8_most 68 = .ok (.getfield 28, 3) := by decide +kernel
theorem dX8_most_71 : decode cX8_most 71 = .ok (.iload 5, 2) := by decide +kernel
theorem dX8_most_73 : decode cX8_most 73 = .ok (.iaload, 1) := by decide +kernel
theorem dX8_most_74 : decode cX8_most 74 = .ok (.goto 5, 3) := by decide +kernel
theorem dX8_most_77 : decode cX8_most 77 = .ok (.iload 4, 2) := by decide +kernel
theorem dX8_most_79 : decode cX8_most 79 = .ok (.istore 4, 2) := by decide +kernel
theorem dX8_most_81 : decode cX8_most 81 = .ok (.iinc 5 1, 3) := by decide +kernel
theorem dX8_most_84 : decode cX8_most 84 = .ok (.goto (-49), 3) := by decide +kernel
theorem dX8_most_87 : decode cX8_most 87 = .ok (.iload 4, 2) := by decide +kernel
theorem dX8_most_89 : decode cX8_most 89 = .ok (.ireturn, 1) := by decide +kernel
theorem dX8_lowest_0 : decode cX8_lowest 0 = .ok (.lload_n 0, 1) := by decide +kernel
theorem dX8_lowest_1 : decode cX8_lowest 1 = .ok (.lstore 5, 2) := by decide +kernel
theorem dX8_lowest_3 : decode cX8_lowest 3 = .ok (.lload_n 2, 1) := by decide +kernel
theorem dX8_lowest_4 : decode cX8_lowest 4 = .ok (.lstore 7, 2) := by decide +kernel
theorem dX8_lowest_6 : decode cX8_lowest 6 = .ok (.lload 7, 2) := by decide +kernel
theorem dX8_lowest_8 : decode cX8_lowest 8 = .ok (.lconst 0, 1) := by decide +kernel
theorem dX8_lowest_9 : decode cX8_lowest 9 = .ok (.lcmp, 1) := by decide +kernel
theorem dX8_lowest_10 : decode cX8_lowest 10 = .ok (.ifCond .eq 21, 3) := by decide +kernel
theorem dX8_lowest_13 : decode cX8_lowest 13 = .ok (.lload 5, 2) := by decide +kernel
theorem dX8_lowest_15 : decode cX8_lowest 15 = .ok (.lload 7, 2) := by decide +kernel
theorem dX8_lowest_17 : decode cX8_lowest 17 = .ok (.lrem, 1) := by decide +kernel
theorem dX8_lowest_18 : decode cX8_lowest 18 = .ok (.lstore 9, 2) := by decide +kernel
theorem dX8_lowest_20 : decode cX8_lowest 20 = .ok (.lload 7, 2) := by decide +kernel
theorem dX8_lowest_22 : decode cX8_lowest 22 = .ok (.lstore 5, 2) := by decide +kernel
theorem dX8_lowest_24 : decode cX8_lowest 24 = .ok (.lload 9, 2) := by decide +kernel
theorem dX8_lowest_26 : decode cX8_lowest 26 = .ok (.lstore 7, 2) := by decide +kernel
theorem dX8_lowest_28 : decode cX8_lowest 28 = .ok (.goto (-22), 3) := by decide +kernel
theorem dX8_lowest_31 : decode cX8_lowest 31 = .ok (.iload 4, 2) := by decide +kernel
theorem dX8_lowest_33 : decode cX8_lowest 33 = .ok (.ifCond .ne 7, 3) := by decide +kernel
theorem dX8_lowest_36 : decode cX8_lowest 36 = .ok (.lload_n 0, 1) := by decide +kernel
theorem dX8_lowest_37 : decode cX8_lowest 37 = .ok (.goto 4, 3) := by decide +kernel
theorem dX8_lowest_40 : decode cX8_lowest 40 = .ok (.lload_n 2, 1) := by decide +kernel
theorem dX8_lowest_41 : decode cX8_lowest 41 = .ok (.lload 5, 2) := by decide +kernel
theorem dX8_lowest_43 : decode cX8_lowest 43 = .ok (.ldiv, 1) := by decide +kernel
theorem dX8_lowest_44 : decode cX8_lowest 44 = .ok (.lreturn, 1) := by decide +kernel
set_option maxRecDepth 20000 in
theorem ggX8_isStretch_X8_in : GoodIn wsX8_isStretch wsX8_in := goodIn_r _ [5] (by decide +kernel) (by decide +kernel)
set_option maxRecDepth 20000 in
theorem gX8_isStretch_X8_in : GoodIn wsX8_isStretch (va_wsS RX8 52 yX8_in wsX8_in) := goodIn_app (goodIn_of _ (by decide +kernel)) ggX8_isStretch_X8_in
set_option maxRecDepth 20000 in
theorem ggX8_isStretch_X8_isPlace : GoodIn wsX8_isStretch wsX8_isPlace := goodIn_r _ [9, 10, 11, 12, 4, 13, 14, 2, 3, 5, 15, 16, 17, 18, 19, 20, 21, 22, 23, 24, 25, 26, 27, 28, 29, 30, 31, 32, 33, 34, 35, 36, 37, 38] (by decide +kernel) (by decide +kernel)
set_option maxRecDepth 20000 in
theorem gX8_isStretch_X8_isPlace : GoodIn wsX8_isStretch (wsV RX8 140 RX8 yX8_isPlace wsX8_isPlace) := goodIn_app (goodIn_of _ (by decide +kernel)) ggX8_isStretch_X8_isPlace
theorem dX8_isStretch_0 : decode cX8_isStretch 0 = .ok (.iload_n 1, 1) := by decide +kernel
theorem dX8_isStretch_1 : decode cX8_isStretch 1 = .ok (.i2l, 1) := by decide +kernel
theorem dX8_isStretch_2 : decode cX8_isStretch 2 = .ok (.lconst 0, 1) := by decide +kernel
theorem dX8_isStretch_3 : decode cX8_isStretch 3 = .ok (.ldc2_w 187, 3) := by decide +kernel
theorem dX8_isStretch_6 : decode cX8_isStretch 6 = .ok (.invokestatic 52, 3) := by decide +kernel
theorem dX8_isStretch_9 : decode cX8_isStretch 9 = .ok (.ifCond .eq 39, 3) := by decide +kernel
theorem dX8_isStretch_12 : decode cX8_isStretch 12 = .ok (.aload_n 0, 1) := by decide +kernel
theorem dX8_isStretch_13 : decode cX8_isStretch 13 = .ok (.iload_n 2, 1) := by decide +kernel
theorem dX8_isStretch_14 : decode cX8_isStretch 14 = .ok (.invokevirtual 140, 3) := by decide +kernel
theorem dX8_isStretch_17 : decode cX8_isStretch 17 = .ok (.ifCond .eq 31, 3) := by decide +kernel
theorem dX8_isStretch_20 : decode cX8_isStretch 20 = .ok (.aload_n 0, 1) := by decide +kernel
theorem dX8_isStretch_21 : decode cX8_isStretch 21 = .ok (.iload_n 3, 1) := by decide +kernel
theorem dX8_isStretch_22 : decode cX8_isStretch 22 = .ok (.invokevirtual 140, 3) := by decide +kernel
theorem dX8_isStretch_25 : decode cX8_isStretch 25 = .ok (.ifCond .eq 23, 3) := by decide +kernel
theorem dX8_isStretch_28 : decode cX8_isStretch 28 = .ok (.iload_n 2, 1) := by decide +kernel
theorem dX8_isStretch_29 : decode cX8_isStretch 29 = .ok (.iload_n 3, 1) := by decide +kernel
theorem dX8_isStretch_30 : decode cX8_isStretch 30 = .ok (.if_icmp .gt 18, 3) := by decide +kernel
theorem dX8_isStretch_33 : decode cX8_isStretch 33 = .ok (.iload 4, 2) := by decide +kernel
theorem dX8_isStretch_35 : decode cX8_isStretch 35 = .ok (.i2l, 1) := by decide +kernel
theorem dX8_isStretch_36 : decode cX8_isStretch 36 = .ok (.lconst 0, 1) := by decide +kernel
theorem dX8_isStretch_37 : decode cX8_isStretch 37 = .ok (.lconst 1, 1) := by decide +kernel
theorem dX8_isStretch_38 : decode cX8_isStretch 38 = .ok (.invokestatic 52, 3) := by decide +kernel
theorem dX8_isStretch_41 : decode cX8_isStretch 41 = .ok (.ifCond .eq 7, 3) := by decide +kernel
theorem dX8_isStretch_44 : decode cX8_isStretch 44 = .ok (.iconst 1, 1) := by decide +kernel
theorem dX8_isStretch_45 : decode cX8_isStretch 45 = .ok (.goto 4, 3) := by decide +kernel
theorem dX8_isStretch_48 : decode cX8_isStretch 48 = .ok (.iconst 0, 1) := by decide +kernel
theorem dX8_isStretch_49 : decode cX8_isStretch 49 = .ok (.ireturn, 1) := by decide +kernel
set_option maxRecDepth 20000 in
theorem ggX8_luck_X8_isStretch : GoodIn wsX8_luck wsX8_isStretch := goodIn_r _ [8, 3, 9, 10, 7, 11, 12, 13, 14, 15, 16, 17, 18, 19, 20, 32, 33, 34, 35, 36, 37, 38, 39, 40, 41, 42, 43, 44, 45, 46, 47, 48, 49, 50, 51, 52, 53, 54, 55] (by decide +kernel) (by decide +kernel)
set_option maxRecDepth 20000 in
theorem gX8_luck_X8_isStretch : GoodIn wsX8_luck (wsV RX8 189 RX8 yX8_isStretch wsX8_isStretch) := goodIn_app (goodIn_of _ (by decide +kernel)) ggX8_luck_X8_isStretch
set_option maxRecDepth 20000 in
theorem ggX8_luck_X8_in : GoodIn wsX8_luck wsX8_in := goodIn_r _ [11] (by decide +kernel) (by decide +kernel)
set_option maxRecDepth 20000 in
theorem gX8_luck_X8_in : GoodIn wsX8_luck (va_wsS RX8 52 yX8_in wsX8_in) := goodIn_app (goodIn_of _ (by decide +kernel)) ggX8_luck_X8_in
set_option maxRecDepth 20000 in
theorem ggX8_luck_X8_frankOn : GoodIn wsX8_luck wsX8_frankOn := goodIn_r _ [24, 20, 25, 26, 27, 7, 28, 32, 33, 34, 35, 36, 37, 38, 39, 40, 41, 42, 43, 44, 45, 46, 47, 48, 49, 50, 51, 52, 53, 54, 55] (by decide +kernel) (by decide +kernel)
set_option maxRecDepth 20000 in
theorem gX8_luck_X8_frankOn : GoodIn wsX8_luck (wsV RX8 128 RX8 yX8_frankOn wsX8_frankOn) := goodIn_app (goodIn_of _ (by decide +kernel)) ggX8_luck_X8_frankOn
set_option maxRecDepth 20000 in
theorem ggX8_luck_X8_lowest : GoodIn wsX8_luck wsX8_lowest := goodIn_r _ [31] (by decide +kernel) (by decide +kernel)
set_option maxRecDepth 20000 in
theorem gX8_luck_X8_lowest : GoodIn wsX8_luck (va_wsS RX8 196 yX8_lowest wsX8_lowest) := goodIn_app (goodIn_of _ (by decide +kernel)) ggX8_luck_X8_lowest
theorem dX8_luck_0 : decode cX8_luck 0 = .ok (.aload_n 0, 1) := by decide +kernel
theorem dX8_luck_1 : decode cX8_luck 1 = .ok (.iload_n 1, 1) := by decide +kernel
theorem dX8_luck_2 : decode cX8_luck 2 = .ok (.iload_n 2, 1) := by decide +kernel
theorem dX8_luck_3 : decode cX8_luck 3 = .ok (.iload_n 3, 1) := by decide +kernel
theorem dX8_luck_4 : decode cX8_luck 4 = .ok (.iload 5, 2) := by decide +kernel
theorem dX8_luck_6 : decode cX8_luck 6 = .ok (.invokevirtual 189, 3) := by decide +kernel
theorem dX8_luck_9 : decode cX8_luck 9 = .ok (.ifCond .eq 16, 3) := by decide +kernel
theorem dX8_luck_12 : decode cX8_luck 12 = .ok (.iload 4, 2) := by decide +kernel
theorem dX8_luck_14 : decode cX8_luck 14 = .ok (.i2l, 1) := by decide +kernel
theorem dX8_luck_15 : decode cX8_luck 15 = .ok (.lconst 0, 1) := by decide +kernel
theorem dX8_luck_16 : decode cX8_luck 16 = .ok (.ldc2_w 192, 3) := by decide +kernel
theorem dX8_luck_19 : decode cX8_luck 19 = .ok (.invokestatic 52, 3) := by decide +kernel
theorem dX8_luck_22 : decode cX8_luck 22 = .ok (.ifCond .ne 7, 3) := by decide +kernel
theorem dX8_luck_25 : decode cX8_luck 25 = .ok (.ldc2_w 194, 3) := by decide +kernel
theorem dX8_luck_28 : decode cX8_luck 28 = .ok (.lreturn, 1) := by decide +kernel
theorem dX8_luck_29 : decode cX8_luck 29 = .ok (.iload_n 3, 1) := by decide +kernel
theorem dX8_luck_30 : decode cX8_luck 30 = .ok (.iload_n 2, 1) := by decide +kernel
theorem dX8_luck_31 : decode cX8_luck 31 = .ok (.isub, 1) := by decide +kernel
theorem dX8_luck_32 : decode cX8_luck 32 = .ok (.iconst 1, 1) := by decide +kernel
theorem dX8_luck_33 : decode cX8_luck 33 = .ok (.iadd, 1) := by decide +kernel
theorem dX8_luck_34 : decode cX8_luck 34 = .ok (.istore 6, 2) := by decide +kernel
theorem dX8_luck_36 : decode cX8_luck 36 = .ok (.lconst 0, 1) := by decide +kernel
theorem dX8_luck_37 : decode cX8_luck 37 = .ok (.lstore 7, 2) := by decide +kernel
theorem dX8_luck_39 : decode cX8_luck 39 = .ok (.lconst 1, 1) := by decide +kernel
theorem dX8_luck_40 : decode cX8_luck 40 = .ok (.lstore 9, 2) := by decide +kernel
theorem dX8_luck_42 : decode cX8_luck 42 = .ok (.iconst 0, 1) := by decide +kernel
theorem dX8_luck_43 : decode cX8_luck 43 = .ok (.istore 11, 2) := by decide +kernel
theorem dX8_luck_45 : decode cX8_luck 45 = .ok (.iload 11, 2) := by decide +kernel
theorem dX8_luck_47 : decode cX8_luck 47 = .ok (.iload 6, 2) := by decide +kernel
theorem dX8_luck_49 : decode cX8_luck 49 = .ok (.if_icmp .ge 17, 3) := by decide +kernel
theorem dX8_luck_52 : decode cX8_luck 52 = .ok (.lload 9, 2) := by decide +kernel
theorem dX8_luck_54 : decode cX8_luck 54 = .ok (.ldc2_w 187, 3) := by decide +kernel
theorem dX8_luck_57 : decode cX8_luck 57 = .ok (.lmul, 1) := by decide +kernel
theorem dX8_luck_58 : decode cX8_luck 58 = .ok (.lstore 9, 2) := by decide +kernel
theorem dX8_luck_60 : decode cX8_luck 60 = .ok (.iinc 11 1, 3) := by decide +kernel
theorem dX8_luck_63 : decode cX8_luck 63 = .ok (.goto (-18), 3) := by decide +kernel
theorem dX8_luck_66 : decode cX8_luck 66 = .ok (.iconst 0, 1) := by decide +kernel
theorem dX8_luck_67 : decode cX8_luck 67 = .ok (.istore 11, 2) := by decide +kernel
theorem dX8_luck_69 : decode cX8_luck 69 = .ok (.iload 11, 2) := by decide +kernel
theorem dX8_luck_71 : decode cX8_luck 71 = .ok (.iconst 1, 1) := by decide +kernel
theorem dX8_luck_72 : decode cX8_luck 72 = .ok (.iload 6, 2) := by decide +kernel
theorem dX8_luck_74 : decode cX8_luck 74 = .ok (.ishl, 1) := by decide +kernel
theorem dX8_luck_75 : decode cX8_luck 75 = .ok (.if_icmp .ge 110, 3) := by decide +kernel
theorem dX8_luck_78 : decode cX8_luck 78 = .ok (.lconst 1, 1) := by decide +kernel
theorem dX8_luck_79 : decode cX8_luck 79 = .ok (.lstore 12, 2) := by decide +kernel
theorem dX8_luck_81 : decode cX8_luck 81 = .ok (.iconst 0, 1) := by decide +kernel
theorem dX8_luck_82 : decode cX8_luck 82 = .ok (.istore 14, 2) := by decide +kernel
theorem dX8_luck_84 : decode cX8_luck 84 = .ok (.iconst 0, 1) := by decide +kernel
theorem dX8_luck_85 : decode cX8_luck 85 = .ok (.istore 15, 2) := by decide +kernel
theorem dX8_luck_87 : decode cX8_luck 87 = .ok (.iload 15, 2) := by decide +kernel
theorem dX8_luck_89 : decode cX8_luck 89 = .ok (.iload 6, 2) := by decide +kernel
theorem dX8_luck_91 : decode cX8_luck 91 = .ok (.if_icmp .ge 70, 3) := by decide +kernel
theorem dX8_luck_94 : decode cX8_luck 94 = .ok (.iload 11, 2) := by decide +kernel
theorem dX8_luck_96 : decode cX8_luck 96 = .ok (.iload 15, 2) := by decide +kernel
theorem dX8_luck_98 : decode cX8_luck 98 = .ok (.ishr, 1) := by decide +kernel
theorem dX8_luck_99 : decode cX8_luck 99 = .ok (.iconst 1, 1) := by decide +kernel
theorem dX8_luck_100 : decode cX8_luck 100 = .ok (.iand, 1) := by decide +kernel
theorem dX8_luck_101 : decode cX8_luck 101 = .ok (.iconst 1, 1) := by decide +kernel
theorem dX8_luck_102 : decode cX8_luck 102 = .ok (.if_icmp .ne 7, 3) := by decide +kernel
theorem dX8_luck_105 : decode cX8_luck 105 = .ok (.iconst 1, 1) := by decide +kernel
theorem dX8_luck_106 : decode cX8_luck 106 = .ok (.goto 4, 3) := by decide +kernel
theorem dX8_luck_109 : decode cX8_luck 109 = .ok (.iconst 0, 1) := by decide +kernel
theorem dX8_luck_110 : decode cX8_luck 110 = .ok (.istore 16, 2) := by decide +kernel
theorem dX8_luck_112 : decode cX8_luck 112 = .ok (.lload 12, 2) := by decide +kernel
theorem dX8_luck_114 : decode cX8_luck 114 = .ok (.iload 16, 2) := by decide +kernel
theorem dX8_luck_116 : decode cX8_luck 116 = .ok (.ifCond .eq 8, 3) := by decide +kernel
theorem dX8_luck_119 : decode cX8_luck 119 = .ok (.iload_n 1, 1) := by decide +kernel
theorem dX8_luck_120 : decode cX8_luck 120 = .ok (.i2l, 1) := by decide +kernel
theorem dX8_luck_121 : decode cX8_luck 121 = .ok (.goto 8, 3) := by decide +kernel
theorem dX8_luck_124 : decode cX8_luck 124 = .ok (.bipush 10, 2) := by decide +kernel
theorem dX8_luck_126 : decode cX8_luck 126 = .ok (.iload_n 1, 1) := by decide +kernel
theorem dX8_luck_127 : decode cX8_luck 127 = .ok (.isub, 1) := by decide +kernel
theorem dX8_luck_128 : decode cX8_luck 128 = .ok (.i2l, 1) := by decide +kernel
theorem dX8_luck_129 : decode cX8_luck 129 = .ok (.lmul, 1) := by decide +kernel
theorem dX8_luck_130 : decode cX8_luck 130 = .ok (.lstore 12, 2) := by decide +kernel
theorem dX8_luck_132 : decode cX8_luck 132 = .ok (.iload 14, 2) := by decide +kernel
theorem dX8_luck_134 : decode cX8_luck 134 = .ok (.iload 16, 2) := by decide +kernel
theorem dX8_luck_136 : decode cX8_luck 136 = .ok (.ifCond .eq 7, 3) := by decide +kernel
theorem dX8_luck_139 : decode cX8_luck 139 = .ok (.iconst 0, 1) := by decide +kernel
theorem dX8_luck_140 : decode cX8_luck 140 = .ok (.goto 12, 3) := by decide +kernel
theorem dX8_luck_143 : decode cX8_luck 143 = .ok (.aload_n 0, 1) := by decide +kernel
theorem dX8_luck_144 : decode cX8_luck 144 = .ok (.iconst 0, 1) := by decide +kernel
theorem dX8_luck_145 : decode cX8_luck 145 = .ok (.iload_n 2, 1) := by decide +kernel
theorem dX8_luck_146 : decode cX8_luck 146 = .ok (.iload 15, 2) := by decide +kernel
theorem dX8_luck_148 : decode cX8_luck 148 = .ok (.iadd, 1) := by decide +kernel
theorem dX8_luck_149 : decode cX8_luck 149 = .ok (.invokevirtual 128, 3) := by decide +kernel
theorem dX8_luck_152 : decode cX8_luck 152 = .ok (.iadd, 1) := by decide +kernel
theorem dX8_luck_153 : decode cX8_luck 153 = .ok (.istore 14, 2) := by decide +kernel
theorem dX8_luck_155 : decode cX8_luck 155 = .ok (.iinc 15 1, 3) := by decide +kernel
theorem dX8_luck_158 : decode cX8_luck 158 = .ok (.goto (-71), 3) := by decide +kernel
theorem dX8_luck_161 : decode cX8_luck 161 = .ok (.lload 7, 2) := by decide +kernel
theorem dX8_luck_163 : decode cX8_luck 163 = .ok (.iload 14, 2) := by decide +kernel
theorem dX8_luck_165 : decode cX8_luck 165 = .ok (.iload 4, 2) := by decide +kernel
theorem dX8_luck_167 : decode cX8_luck 167 = .ok (.if_icmp .lt 8, 3) := by decide +kernel
theorem dX8_luck_170 : decode cX8_luck 170 = .ok (.lload 12, 2) := by decide +kernel
theorem dX8_luck_172 : decode cX8_luck 172 = .ok (.goto 4, 3) := by decide +kernel
theorem dX8_luck_175 : decode cX8_luck 175 = .ok (.lconst 0, 1) := by decide +kernel
theorem dX8_luck_176 : decode cX8_luck 176 = .ok (.ladd, 1) := by decide +kernel
theorem dX8_luck_177 : decode cX8_luck 177 = .ok (.lstore 7, 2) := by decide +kernel
theorem dX8_luck_179 : decode cX8_luck 179 = .ok (.iinc 11 1, 3) := by decide +kernel
theorem dX8_luck_182 : decode cX8_luck 182 = .ok (.goto (-113), 3) := by decide +kernel
theorem dX8_luck_185 : decode cX8_luck 185 = .ok (.lload 7, 2) := by decide +kernel
theorem dX8_luck_187 : decode cX8_luck 187 = .ok (.lload 9, 2) := by decide +kernel
theorem dX8_luck_189 : decode cX8_luck 189 = .ok (.iload 5, 2) := by decide +kernel
theorem dX8_luck_191 : decode cX8_luck 191 = .ok (.invokestatic 196, 3) := by decide +kernel
theorem dX8_luck_194 : decode cX8_luck 194 = .ok (.lreturn, 1) := by decide +kernel
set_option maxRecDepth 20000 in
theorem ggX8_mean_X8_isStretch : GoodIn wsX8_mean wsX8_isStretch := goodIn_r _ [7, 2, 8, 9, 6, 10, 11, 12, 13, 14, 15, 16, 17, 18, 19, 31, 32, 33, 34, 35, 36, 37, 38, 39, 40, 41, 42, 43, 44, 45, 46, 47, 48, 49, 50, 51, 52, 53, 54] (by decide +kernel) (by decide +kernel)
set_option maxRecDepth 20000 in
theorem gX8_mean_X8_isStretch : GoodIn wsX8_mean (wsV RX8 189 RX8 yX8_isStretch wsX8_isStretch) := goodIn_app (goodIn_of _ (by decide +kernel)) ggX8_mean_X8_isStretch
set_option maxRecDepth 20000 in
theorem ggX8_mean_X8_frankOn : GoodIn wsX8_mean wsX8_frankOn := goodIn_r _ [23, 19, 24, 25, 26, 6, 27, 31, 32, 33, 34, 35, 36, 37, 38, 39, 40, 41, 42, 43, 44, 45, 46, 47, 48, 49, 50, 51, 52, 53, 54] (by decide +kernel) (by decide +kernel)
set_option maxRecDepth 20000 in
theorem gX8_mean_X8_frankOn : GoodIn wsX8_mean (wsV RX8 128 RX8 yX8_frankOn wsX8_frankOn) := goodIn_app (goodIn_of _ (by decide +kernel)) ggX8_mean_X8_frankOn
set_option maxRecDepth 20000 in
theorem ggX8_mean_X8_lowest : GoodIn wsX8_mean wsX8_lowest := goodIn_r _ [30] (by decide +kernel) (by decide +kernel)
set_option maxRecDepth 20000 in
theorem gX8_mean_X8_lowest : GoodIn wsX8_mean (va_wsS RX8 196 yX8_lowest wsX8_lowest) := goodIn_app (goodIn_of _ (by decide +kernel)) ggX8_mean_X8_lowest
theorem dX8_mean_0 : decode cX8_mean 0 = .ok (.aload_n 0, 1) := by decide +kernel
theorem dX8_mean_1 : decode cX8_mean 1 = .ok (.iload_n 1, 1) := by decide +kernel
theorem dX8_mean_2 : decode cX8_mean 2 = .ok (.iload_n 2, 1) := by decide +kernel
theorem dX8_mean_3 : decode cX8_mean 3 = .ok (.iload_n 3, 1) := by decide +kernel
theorem dX8_mean_4 : decode cX8_mean 4 = .ok (.iload 4, 2) := by decide +kernel
theorem dX8_mean_6 : decode cX8_mean 6 = .ok (.invokevirtual 189, 3) := by decide +kernel
theorem dX8_mean_9 : decode cX8_mean 9 = .ok (.ifCond .ne 7, 3) := by decide +kernel
theorem dX8_mean_12 : decode cX8_mean 12 = .ok (.ldc2_w 194, 3) := by decide +kernel
theorem dX8_mean_15 : decode cX8_mean 15 = .ok (.lreturn, 1) := by decide +kernel
theorem dX8_mean_16 : decode cX8_mean 16 = .ok (.lconst 0, 1) := by decide +kernel
theorem dX8_mean_17 : decode cX8_mean 17 = .ok (.lstore 5, 2) := by decide +kernel
theorem dX8_mean_19 : decode cX8_mean 19 = .ok (.iload_n 2, 1) := by decide +kernel
theorem dX8_mean_20 : decode cX8_mean 20 = .ok (.istore 7, 2) := by decide +kernel
theorem dX8_mean_22 : decode cX8_mean 22 = .ok (.iload 7, 2) := by decide +kernel
theorem dX8_mean_24 : decode cX8_mean 24 = .ok (.iload_n 3, 1) := by decide +kernel
theorem dX8_mean_25 : decode cX8_mean 25 = .ok (.if_icmp .gt 22, 3) := by decide +kernel
theorem dX8_mean_28 : decode cX8_mean 28 = .ok (.lload 5, 2) := by decide +kernel
theorem dX8_mean_30 : decode cX8_mean 30 = .ok (.aload_n 0, 1) := by decide +kernel
theorem dX8_mean_31 : decode cX8_mean 31 = .ok (.iconst 0, 1) := by decide +kernel
theorem dX8_mean_32 : decode cX8_mean 32 = .ok (.iload 7, 2) := by decide +kernel
theorem dX8_mean_34 : decode cX8_mean 34 = .ok (.invokevirtual 128, 3) := by decide +kernel
theorem dX8_mean_37 : decode cX8_mean 37 = .ok (.i2l, 1) := by decide +kernel
theorem dX8_mean_38 : decode cX8_mean 38 = .ok (.ladd, 1) := by decide +kernel
theorem dX8_mean_39 : decode cX8_mean 39 = .ok (.lstore 5, 2) := by decide +kernel
theorem dX8_mean_41 : decode cX8_mean 41 = .ok (.iinc 7 1, 3) := by decide +kernel
theorem dX8_mean_44 : decode cX8_mean 44 = .ok (.goto (-22), 3) := by decide +kernel
theorem dX8_mean_47 : decode cX8_mean 47 = .ok (.lload 5, 2) := by decide +kernel
theorem dX8_mean_49 : decode cX8_mean 49 = .ok (.bipush 10, 2) := by decide +kernel
theorem dX8_mean_51 : decode cX8_mean 51 = .ok (.iload_n 1, 1) := by decide +kernel
theorem dX8_mean_52 : decode cX8_mean 52 = .ok (.isub, 1) := by decide +kernel
theorem dX8_mean_53 : decode cX8_mean 53 = .ok (.i2l, 1) := by decide +kernel
theorem dX8_mean_54 : decode cX8_mean 54 = .ok (.lmul, 1) := by decide +kernel
theorem dX8_mean_55 : decode cX8_mean 55 = .ok (.ldc2_w 187, 3) := by decide +kernel
theorem dX8_mean_58 : decode cX8_mean 58 = .ok (.iload 4, 2) := by decide +kernel
theorem dX8_mean_60 : decode cX8_mean 60 = .ok (.invokestatic 196, 3) := by decide +kernel
theorem dX8_mean_63 : decode cX8_mean 63 = .ok (.lreturn, 1) := by decide +kernel
set_option maxRecDepth 20000 in
theorem ggX8_see_X8_in : GoodIn wsX8_see wsX8_in := goodIn_r _ [8] (by decide +kernel) (by decide +kernel)
set_option maxRecDepth 20000 in
theorem gX8_see_X8_in : GoodIn wsX8_see (va_wsS RX8 52 yX8_in wsX8_in) := goodIn_app (goodIn_of _ (by decide +kernel)) ggX8_see_X8_in
theorem dX8_see_0 : decode cX8_see 0 = .ok (.iload_n 1, 1) := by decide +kernel
theorem dX8_see_1 : decode cX8_see 1 = .ok (.i2l, 1) := by decide +kernel
theorem dX8_see_2 : decode cX8_see 2 = .ok (.lconst 0, 1) := by decide +kernel
theorem dX8_see_3 : decode cX8_see 3 = .ok (.ldc2_w 158, 3) := by decide +kernel
theorem dX8_see_6 : decode cX8_see 6 = .ok (.invokestatic 52, 3) := by decide +kernel
theorem dX8_see_9 : decode cX8_see 9 = .ok (.ifCond .eq 15, 3) := by decide +kernel
theorem dX8_see_12 : decode cX8_see 12 = .ok (.iload_n 2, 1) := by decide +kernel
theorem dX8_see_13 : decode cX8_see 13 = .ok (.i2l, 1) := by decide +kernel
theorem dX8_see_14 : decode cX8_see 14 = .ok (.lconst 0, 1) := by decide +kernel
theorem dX8_see_15 : decode cX8_see 15 = .ok (.ldc2_w 160, 3) := by decide +kernel
theorem dX8_see_18 : decode cX8_see 18 = .ok (.invokestatic 52, 3) := by decide +kernel
theorem dX8_see_21 : decode cX8_see 21 = .ok (.ifCond .ne 5, 3) := by decide +kernel
theorem dX8_see_24 : decode cX8_see 24 = .ok (.iconst (-1), 1) := by decide +kernel
theorem dX8_see_25 : decode cX8_see 25 = .ok (.ireturn, 1) := by decide +kernel
theorem dX8_see_26 : decode cX8_see 26 = .ok (.aload_n 0, 1) := by decide +kernel
theorem dX8_see_27 : decode cX8_see 27 = .ok (.getfield 119, 3) := by decide +kernel
theorem dX8_see_30 : decode cX8_see 30 = .ok (.bipush 6, 2) := by decide +kernel
theorem dX8_see_32 : decode cX8_see 32 = .ok (.if_icmp .ne 6, 3) := by decide +kernel
theorem dX8_see_35 : decode cX8_see 35 = .ok (.bipush (-3), 2) := by decide +kernel
theorem dX8_see_37 : decode cX8_see 37 = .ok (.ireturn, 1) := by decide +kernel
theorem dX8_see_38 : decode cX8_see 38 = .ok (.aload_n 0, 1) := by decide +kernel
theorem dX8_see_39 : decode cX8_see 39 = .ok (.getfield 31, 3) := by decide +kernel
theorem dX8_see_42 : decode cX8_see 42 = .ok (.iconst 2, 1) := by decide +kernel
theorem dX8_see_43 : decode cX8_see 43 = .ok (.aload_n 0, 1) := by decide +kernel
theorem dX8_see_44 : decode cX8_see 44 = .ok (.getfield 119, 3) := by decide +kernel
theorem dX8_see_47 : decode cX8_see 47 = .ok (.imul, 1) := by decide +kernel
theorem dX8_see_48 : decode cX8_see 48 = .ok (.iload_n 1, 1) := by decide +kernel
theorem dX8_see_49 : decode cX8_see 49 = .ok (.iastore, 1) := by decide +kernel
theorem dX8_see_50 : decode cX8_see 50 = .ok (.aload_n 0, 1) := by decide +kernel
theorem dX8_see_51 : decode cX8_see 51 = .ok (.getfield 31, 3) := by decide +kernel
theorem dX8_see_54 : decode cX8_see 54 = .ok (.iconst 2, 1) := by decide +kernel
theorem dX8_see_55 : decode cX8_see 55 = .ok (.aload_n 0, 1) := by decide +kernel
theorem dX8_see_56 : decode cX8_see 56 = .ok (.getfield 119, 3) := by decide +kernel
theorem dX8_see_59 : decode cX8_see 59 = .ok (.imul, 1) := by decide +kernel
theorem dX8_see_60 : decode cX8_see 60 = .ok (.iconst 1, 1) := by decide +kernel
theorem dX8_see_61 : decode cX8_see 61 = .ok (.iadd, 1) := by decide +kernel
theorem dX8_see_62 : decode cX8_see 62 = .ok (.iload_n 2, 1) := by decide +kernel
theorem dX8_see_63 : decode cX8_see 63 = .ok (.iastore, 1) := by decide +kernel
theorem dX8_see_64 : decode cX8_see 64 = .ok (.aload_n 0, 1) := by decide +kernel
theorem dX8_see_65 : decode cX8_see 65 = .ok (.dup, 1) := by decide +kernel
theorem dX8_see_66 : decode cX8_see 66 = .ok (.getfield 119, 3) := by decide +kernel
theorem dX8_see_69 : decode cX8_see 69 = .ok (.iconst 1, 1) := by decide +kernel
theorem dX8_see_70 : decode cX8_see 70 = .ok (.iadd, 1) := by decide +kernel
theorem dX8_see_71 : decode cX8_see 71 = .ok (.putfield 119, 3) := by decide +kernel
theorem dX8_see_74 : decode cX8_see 74 = .ok (.aload_n 0, 1) := by decide +kernel
theorem dX8_see_75 : decode cX8_see 75 = .ok (.getfield 119, 3) := by decide +kernel
theorem dX8_see_78 : decode cX8_see 78 = .ok (.ireturn, 1) := by decide +kernel
set_option maxRecDepth 20000 in
theorem ggX8_forget_X8_in : GoodIn wsX8_forget wsX8_in := goodIn_r _ [5] (by decide +kernel) (by decide +kernel)
set_option maxRecDepth 20000 in
theorem gX8_forget_X8_in : GoodIn wsX8_forget (va_wsS RX8 52 yX8_in wsX8_in) := goodIn_app (goodIn_of _ (by decide +kernel)) ggX8_forget_X8_in
theorem dX8_forget_0 : decode cX8_forget 0 = .ok (.iload_n 1, 1) := by decide +kernel
theorem dX8_forget_1 : decode cX8_forget 1 = .ok (.i2l, 1) := by decide +kernel
theorem dX8_forget_2 : decode cX8_forget 2 = .ok (.lconst 0, 1) := by decide +kernel
theorem dX8_forget_3 : decode cX8_forget 3 = .ok (.aload_n 0, 1) := by decide +kernel
theorem dX8_forget_4 : decode cX8_forget 4 = .ok (.getfield 119, 3) := by decide +kernel
theorem dX8_forget_7 : decode cX8_forget 7 = .ok (.i2l, 1) := by decide +kernel
theorem dX8_forget_8 : decode cX8_forget 8 = .ok (.invokestatic 52, 3) := by decide +kernel
theorem dX8_forget_11 : decode cX8_forget 11 = .ok (.ifCond .ne 5, 3) := by decide +kernel
theorem dX8_forget_14 : decode cX8_forget 14 = .ok (.iconst (-1), 1) := by decide +kernel
theorem dX8_forget_15 : decode cX8_forget 15 = .ok (.ireturn, 1) := by decide +kernel
theorem dX8_forget_16 : decode cX8_forget 16 = .ok (.aload_n 0, 1) := by decide +kernel
theorem dX8_forget_17 : decode cX8_forget 17 = .ok (.getfield 119, 3) := by decide +kernel
theorem dX8_forget_20 : decode cX8_forget 20 = .ok (.istore_n 2, 1) := by decide +kernel
theorem dX8_forget_21 : decode cX8_forget 21 = .ok (.aload_n 0, 1) := by decide +kernel
theorem dX8_forget_22 : decode cX8_forget 22 = .ok (.iload_n 1, 1) := by decide +kernel
theorem dX8_forget_23 : decode cX8_forget 23 = .ok (.putfield 119, 3) := by decide +kernel
theorem dX8_forget_26 : decode cX8_forget 26 = .ok (.iload_n 2, 1) := by decide +kernel
theorem dX8_forget_27 : decode cX8_forget 27 = .ok (.ireturn, 1) := by decide +kernel
set_option maxRecDepth 20000 in
theorem ggX8_isAsSeen_X8_longOn : GoodIn wsX8_isAsSeen wsX8_longOn := goodIn_r _ [7, 8, 17, 18, 19, 20, 21, 22, 23, 24, 25, 26, 27, 28, 29, 30, 31, 32, 33, 34, 35, 36, 37, 38, 39, 40] (by decide +kernel) (by decide +kernel)
set_option maxRecDepth 20000 in
theorem gX8_isAsSeen_X8_longOn : GoodIn wsX8_isAsSeen (wsV RX8 122 RX8 yX8_longOn wsX8_longOn) := goodIn_app (goodIn_of _ (by decide +kernel)) ggX8_isAsSeen_X8_longOn
set_option maxRecDepth 20000 in
theorem ggX8_isAsSeen_X8_frankOn : GoodIn wsX8_isAsSeen wsX8_frankOn := goodIn_r _ [12, 8, 13, 14, 15, 6, 16, 17, 18, 19, 20, 21, 22, 23, 24, 25, 26, 27, 28, 29, 30, 31, 32, 33, 34, 35, 36, 37, 38, 39, 40] (by decide +kernel) (by decide +kernel)
set_option maxRecDepth 20000 in
theorem gX8_isAsSeen_X8_frankOn : GoodIn wsX8_isAsSeen (wsV RX8 128 RX8 yX8_frankOn wsX8_frankOn) := goodIn_app (goodIn_of _ (by decide +kernel)) ggX8_isAsSeen_X8_frankOn
theorem dX8_isAsSeen_0 : decode cX8_isAsSeen 0 = .ok (.iconst 1, 1) := by decide +kernel
theorem dX8_isAsSeen_1 : decode cX8_isAsSeen 1 = .ok (.istore_n 2, 1) := by decide +kernel
theorem dX8_isAsSeen_2 : decode cX8_isAsSeen 2 = .ok (.iconst 0, 1) := by decide +kernel
theorem dX8_isAsSeen_3 : decode cX8_isAsSeen 3 = .ok (.istore_n 3, 1) := by decide +kernel
theorem dX8_isAsSeen_4 : decode cX8_isAsSeen 4 = .ok (.iload_n 3, 1) := by decide +kernel
theorem dX8_isAsSeen_5 : decode cX8_isAsSeen 5 = .ok (.aload_n 0, 1) := by decide +kernel
theorem dX8_isAsSeen_6 : decode cX8_isAsSeen 6 = .ok (.getfield 119, 3) := by decide +kernel
theorem dX8_isAsSeen_9 : decode cX8_isAsSeen 9 = .ok (.if_icmp .ge 61, 3) := by decide +kernel
theorem dX8_isAsSeen_12 : decode cX8_isAsSeen 12 = .ok (.iload_n 2, 1) := by decide +kernel
theorem dX8_isAsSeen_13 : decode cX8_isAsSeen 13 = .ok (.ifCond .eq 49, 3) := by decide +kernel
theorem dX8_isAsSeen_16 : decode cX8_isAsSeen 16 = .ok (.aload_n 0, 1) := by decide +kernel
theorem dX8_isAsSeen_17 : decode cX8_isAsSeen 17 = .ok (.getfield 31, 3) := by decide +kernel
theorem dX8_isAsSeen_20 : decode cX8_isAsSeen 20 = .ok (.iconst 2, 1) := by decide +kernel
theorem dX8_isAsSeen_21 : decode cX8_isAsSeen 21 = .ok (.iload_n 3, 1) := by decide +kernel
theorem dX8_isAsSeen_22 : decode cX8_isAsSeen 22 = .ok (.imul, 1) := by decide +kernel
theorem dX8_isAsSeen_23 : decode cX8_isAsSeen 23 = .ok (.iaload, 1) := by decide +kernel
theorem dX8_isAsSeen_24 : decode cX8_isAsSeen 24 = .ok (.aload_n 0, 1) := by decide +kernel
theorem dX8_isAsSeen_25 : decode cX8_isAsSeen 25 = .ok (.iload_n 1, 1) := by decide +kernel
theorem dX8_isAsSeen_26 : decode cX8_isAsSeen 26 = .ok (.invokevirtual 122, 3) := by decide +kernel
theorem dX8_isAsSeen_29 : decode cX8_isAsSeen 29 = .ok (.if_icmp .ge 33, 3) := by decide +kernel
theorem dX8_isAsSeen_32 : decode cX8_isAsSeen 32 = .ok (.aload_n 0, 1) := by decide +kernel
theorem dX8_isAsSeen_33 : decode cX8_isAsSeen 33 = .ok (.iload_n 1, 1) := by decide +kernel
theorem dX8_isAsSeen_34 : decode cX8_isAsSeen 34 = .ok (.aload_n 0, 1) := by decide +kernel
theorem dX8_isAsSeen_35 : decode cX8_isAsSeen 35 = .ok (.getfield 31, 3) := by decide +kernel
theorem dX8_isAsSeen_38 : decode cX8_isAsSeen 38 = .ok (.iconst 2, 1) := by decide +kernel
theorem dX8_isAsSeen_39 : decode cX8_isAsSeen 39 = .ok (.iload_n 3, 1) := by decide +kernel
theorem dX8_isAsSeen_40 : decode cX8_isAsSeen 40 = .ok (.imul, 1) := by decide +kernel
theorem dX8_isAsSeen_41 : decode cX8_isAsSeen 41 = .ok (.iaload, 1) := by decide +kernel
theorem dX8_isAsSeen_42 : decode cX8_isAsSeen 42 = .ok (.invokevirtual 128, 3) := by decide +kernel
theorem dX8_isAsSeen_45 : decode cX8_isAsSeen 45 = .ok (.aload_n 0, 1) := by decide +kernel
theorem dX8_isAsSeen_46 : decode cX8_isAsSeen 46 = .ok (.getfield 31, 3) := by decide +kernel
theorem dX8_isAsSeen_49 : decode cX8_isAsSeen 49 = .ok (.iconst 2, 1) := by decide +kernel
theorem dX8_isAsSeen_50 : decode cX8_isAsSeen 50 = .ok (.iload_n 3, 1) := by decide +kernel
theorem dX8_isAsSeen_51 : decode cX8_isAsSeen 51 = .ok (.imul, 1) := by decide +kernel
theorem dX8_isAsSeen_52 : decode cX8_isAsSeen 52 = .ok (.iconst 1, 1) := by decide +kernel
theorem dX8_isAsSeen_53 : decode cX8_isAsSeen 53 = .ok (.iadd, 1) := by decide +kernel
theorem dX8_isAsSeen_54 : decode cX8_isAsSeen 54 = .ok (.iaload, 1) := by decide +kernel
theorem dX8_isAsSeen_55 : decode cX8_isAsSeen 55 = .ok (.if_icmp .ne 7, 3) := by decide +kernel
theorem dX8_isAsSeen_58 : decode cX8_isAsSeen 58 = .ok (.iconst 1, 1) := by decide +kernel
theorem dX8_isAsSeen_59 : decode cX8_isAsSeen 59 = .ok (.goto 4, 3) := by decide +kernel
theorem dX8_isAsSeen_62 : decode cX8_isAsSeen 62 = .ok (.iconst 0, 1) := by decide +kernel
theorem dX8_isAsSeen_63 : decode cX8_isAsSeen 63 = .ok (.istore_n 2, 1) := by decide +kernel
theorem dX8_isAsSeen_64 : decode cX8_isAsSeen 64 = .ok (.iinc 3 1, 3) := by decide +kernel
theorem dX8_isAsSeen_67 : decode cX8_isAsSeen 67 = .ok (.goto (-63), 3) := by decide +kernel
theorem dX8_isAsSeen_70 : decode cX8_isAsSeen 70 = .ok (.iload_n 2, 1) := by decide +kernel
theorem dX8_isAsSeen_71 : decode cX8_isAsSeen 71 = .ok (.ireturn, 1) := by decide +kernel
set_option maxRecDepth 20000 in
theorem ggX8_kinds_X8_isBlock : GoodIn wsX8_kinds wsX8_isBlock := goodIn_r _ [6, 1, 7, 8, 5, 9, 32, 33, 34, 35, 36, 37, 38, 39, 40, 41, 42, 43, 44, 45, 46, 47, 48, 49, 50, 51, 52, 53, 54, 55] (by decide +kernel) (by decide +kernel)
set_option maxRecDepth 20000 in
theorem gX8_kinds_X8_isBlock : GoodIn wsX8_kinds (wsV RX8 134 RX8 yX8_isBlock wsX8_isBlock) := goodIn_app (goodIn_of _ (by decide +kernel)) ggX8_kinds_X8_isBlock
set_option maxRecDepth 20000 in
theorem ggX8_kinds_X8_copies : GoodIn wsX8_kinds wsX8_copies := goodIn_r _ [13, 1, 32, 33, 34, 35, 36, 37, 38, 39, 40, 41, 42, 43, 44, 45, 46, 47, 48, 49, 50, 51, 52, 53, 54, 55] (by decide +kernel) (by decide +kernel)
set_option maxRecDepth 20000 in
theorem gX8_kinds_X8_copies : GoodIn wsX8_kinds (wsV RX8 170 RX8 yX8_copies wsX8_copies) := goodIn_app (goodIn_of _ (by decide +kernel)) ggX8_kinds_X8_copies
set_option maxRecDepth 20000 in
theorem ggX8_kinds_X8_isAsSeen : GoodIn wsX8_kinds wsX8_isAsSeen := goodIn_r _ [17, 18, 19, 20, 21, 22, 5, 23, 1, 24, 25, 26, 27, 28, 29, 30, 31, 32, 33, 34, 35, 36, 37, 38, 39, 40, 41, 42, 43, 44, 45, 46, 47, 48, 49, 50, 51, 52, 53, 54, 55] (by decide +kernel) (by decide +kernel)
set_option maxRecDepth 20000 in
theorem gX8_kinds_X8_isAsSeen : GoodIn wsX8_kinds (wsV RX8 200 RX8 yX8_isAsSeen wsX8_isAsSeen) := goodIn_app (goodIn_of _ (by decide +kernel)) ggX8_kinds_X8_isAsSeen
theorem dX8_kinds_0 : decode cX8_kinds 0 = .ok (.aload_n 0, 1) := by decide +kernel
theorem dX8_kinds_1 : decode cX8_kinds 1 = .ok (.iload_n 1, 1) := by decide +kernel
theorem dX8_kinds_2 : decode cX8_kinds 2 = .ok (.invokevirtual 134, 3) := by decide +kernel
theorem dX8_kinds_5 : decode cX8_kinds 5 = .ok (.ifCond .ne 5, 3) := by decide +kernel
theorem dX8_kinds_8 : decode cX8_kinds 8 = .ok (.iconst (-1), 1) := by decide +kernel
theorem dX8_kinds_9 : decode cX8_kinds 9 = .ok (.ireturn, 1) := by decide +kernel
theorem dX8_kinds_10 : decode cX8_kinds 10 = .ok (.iconst 0, 1) := by decide +kernel
theorem dX8_kinds_11 : decode cX8_kinds 11 = .ok (.istore_n 2, 1) := by decide +kernel
theorem dX8_kinds_12 : decode cX8_kinds 12 = .ok (.aload_n 0, 1) := by decide +kernel
theorem dX8_kinds_13 : decode cX8_kinds 13 = .ok (.iconst 0, 1) := by decide +kernel
theorem dX8_kinds_14 : decode cX8_kinds 14 = .ok (.sipush 200, 3) := by decide +kernel
theorem dX8_kinds_17 : decode cX8_kinds 17 = .ok (.invokevirtual 170, 3) := by decide +kernel
theorem dX8_kinds_20 : decode cX8_kinds 20 = .ok (.iconst 0, 1) := by decide +kernel
theorem dX8_kinds_21 : decode cX8_kinds 21 = .ok (.istore_n 3, 1) := by decide +kernel
theorem dX8_kinds_22 : decode cX8_kinds 22 = .ok (.iload_n 3, 1) := by decide +kernel
theorem dX8_kinds_23 : decode cX8_kinds 23 = .ok (.iconst 4, 1) := by decide +kernel
theorem dX8_kinds_24 : decode cX8_kinds 24 = .ok (.if_icmp .ge 40, 3) := by decide +kernel
theorem dX8_kinds_27 : decode cX8_kinds 27 = .ok (.aload_n 0, 1) := by decide +kernel
theorem dX8_kinds_28 : decode cX8_kinds 28 = .ok (.getfield 7, 3) := by decide +kernel
theorem dX8_kinds_31 : decode cX8_kinds 31 = .ok (.sipush 200, 3) := by decide +kernel
theorem dX8_kinds_34 : decode cX8_kinds 34 = .ok (.iload_n 1, 1) := by decide +kernel
theorem dX8_kinds_35 : decode cX8_kinds 35 = .ok (.iadd, 1) := by decide +kernel
theorem dX8_kinds_36 : decode cX8_kinds 36 = .ok (.iload_n 3, 1) := by decide +kernel
theorem dX8_kinds_37 : decode cX8_kinds 37 = .ok (.iastore, 1) := by decide +kernel
theorem dX8_kinds_38 : decode cX8_kinds 38 = .ok (.iload_n 2, 1) := by decide +kernel
theorem dX8_kinds_39 : decode cX8_kinds 39 = .ok (.aload_n 0, 1) := by decide +kernel
theorem dX8_kinds_40 : decode cX8_kinds 40 = .ok (.sipush 200, 3) := by decide +kernel
theorem dX8_kinds_43 : decode cX8_kinds 43 = .ok (.invokevirtual 200, 3) := by decide +kernel
theorem dX8_kinds_46 : decode cX8_kinds 46 = .ok (.ifCond .eq 9, 3) := by decide +kernel
theorem dX8_kinds_49 : decode cX8_kinds 49 = .ok (.iconst 1, 1) := by decide +kernel
theorem dX8_kinds_50 : decode cX8_kinds 50 = .ok (.iload_n 3, 1) := by decide +kernel
theorem dX8_kinds_51 : decode cX8_kinds 51 = .ok (.ishl, 1) := by decide +kernel
theorem dX8_kinds_52 : decode cX8_kinds 52 = .ok (.goto 4, 3) := by decide +kernel
theorem dX8_kinds_55 : decode cX8_kinds 55 = .ok (.iconst 0, 1) := by decide +kernel
theorem dX8_kinds_56 : decode cX8_kinds 56 = .ok (.ior, 1) := by decide +kernel
theorem dX8_kinds_57 : decode cX8_kinds 57 = .ok (.istore_n 2, 1) := by decide +kernel
theorem dX8_kinds_58 : decode cX8_kinds 58 = .ok (.iinc 3 1, 3) := by decide +kernel
theorem dX8_kinds_61 : decode cX8_kinds 61 = .ok (.goto (-39), 3) := by decide +kernel
theorem dX8_kinds_64 : decode cX8_kinds 64 = .ok (.iload_n 2, 1) := by decide +kernel
theorem dX8_kinds_65 : decode cX8_kinds 65 = .ok (.ireturn, 1) := by decide +kernel
set_option maxRecDepth 20000 in
theorem ggX8_warmths_X8_isBlock : GoodIn wsX8_warmths wsX8_isBlock := goodIn_r _ [6, 1, 7, 8, 5, 9, 32, 33, 34, 35, 36, 37, 38, 39, 40, 41, 42, 43, 44, 45, 46, 47, 48, 49, 50, 51, 52, 53, 54, 55] (by decide +kernel) (by decide +kernel)
set_option maxRecDepth 20000 in
theorem gX8_warmths_X8_isBlock : GoodIn wsX8_warmths (wsV RX8 134 RX8 yX8_isBlock wsX8_isBlock) := goodIn_app (goodIn_of _ (by decide +kernel)) ggX8_warmths_X8_isBlock
set_option maxRecDepth 20000 in
theorem ggX8_warmths_X8_copies : GoodIn wsX8_warmths wsX8_copies := goodIn_r _ [13, 1, 32, 33, 34, 35, 36, 37, 38, 39, 40, 41, 42, 43, 44, 45, 46, 47, 48, 49, 50, 51, 52, 53, 54, 55] (by decide +kernel) (by decide +kernel)
set_option maxRecDepth 20000 in
theorem gX8_warmths_X8_copies : GoodIn wsX8_warmths (wsV RX8 170 RX8 yX8_copies wsX8_copies) := goodIn_app (goodIn_of _ (by decide +kernel)) ggX8_warmths_X8_copies
set_option maxRecDepth 20000 in
theorem ggX8_warmths_X8_isAsSeen : GoodIn wsX8_warmths wsX8_isAsSeen := goodIn_r _ [17, 18, 19, 20, 21, 22, 5, 23, 1, 24, 25, 26, 27, 28, 29, 30, 31, 32, 33, 34, 35, 36, 37, 38, 39, 40, 41, 42, 43, 44, 45, 46, 47, 48, 49, 50, 51, 52, 53, 54, 55] (by decide +kernel) (by decide +kernel)
set_option maxRecDepth 20000 in
theorem gX8_warmths_X8_isAsSeen : GoodIn wsX8_warmths (wsV RX8 200 RX8 yX8_isAsSeen wsX8_isAsSeen) := goodIn_app (goodIn_of _ (by decide +kernel)) ggX8_warmths_X8_isAsSeen
theorem dX8_warmths_0 : decode cX8_warmths 0 = .ok (.aload_n 0, 1) := by decide +kernel
theorem dX8_warmths_1 : decode cX8_warmths 1 = .ok (.iload_n 1, 1) := by decide +kernel
theorem dX8_warmths_2 : decode cX8_warmths 2 = .ok (.invokevirtual 134, 3) := by decide +kernel
theorem dX8_warmths_5 : decode cX8_warmths 5 = .ok (.ifCond .ne 5, 3) := by decide +kernel
theorem dX8_warmths_8 : decode cX8_warmths 8 = .ok (.iconst (-1), 1) := by decide +kernel
theorem dX8_warmths_9 : decode cX8_warmths 9 = .ok (.ireturn, 1) := by decide +kernel
theorem dX8_warmths_10 : decode cX8_warmths 10 = .ok (.iconst 0, 1) := by decide +kernel
theorem dX8_warmths_11 : decode cX8_warmths 11 = .ok (.istore_n 2, 1) := by decide +kernel
theorem dX8_warmths_12 : decode cX8_warmths 12 = .ok (.aload_n 0, 1) := by decide +kernel
theorem dX8_warmths_13 : decode cX8_warmths 13 = .ok (.iconst 0, 1) := by decide +kernel
theorem dX8_warmths_14 : decode cX8_warmths 14 = .ok (.sipush 200, 3) := by decide +kernel
theorem dX8_warmths_17 : decode cX8_warmths 17 = .ok (.invokevirtual 170, 3) := by decide +kernel
theorem dX8_warmths_20 : decode cX8_warmths 20 = .ok (.iconst 0, 1) := by decide +kernel
theorem dX8_warmths_21 : decode cX8_warmths 21 = .ok (.istore_n 3, 1) := by decide +kernel
theorem dX8_warmths_22 : decode cX8_warmths 22 = .ok (.iload_n 3, 1) := by decide +kernel
theorem dX8_warmths_23 : decode cX8_warmths 23 = .ok (.bipush 9, 2) := by decide +kernel
theorem dX8_warmths_25 : decode cX8_warmths 25 = .ok (.if_icmp .gt 40, 3) := by decide +kernel
theorem dX8_warmths_28 : decode cX8_warmths 28 = .ok (.aload_n 0, 1) := by decide +kernel
theorem dX8_warmths_29 : decode cX8_warmths 29 = .ok (.getfield 7, 3) := by decide +kernel
theorem dX8_warmths_32 : decode cX8_warmths 32 = .ok (.sipush 206, 3) := by decide +kernel
theorem dX8_warmths_35 : decode cX8_warmths 35 = .ok (.iload_n 1, 1) := by decide +kernel
theorem dX8_warmths_36 : decode cX8_warmths 36 = .ok (.iadd, 1) := by decide +kernel
theorem dX8_warmths_37 : decode cX8_warmths 37 = .ok (.iload_n 3, 1) := by decide +kernel
theorem dX8_warmths_38 : decode cX8_warmths 38 = .ok (.iastore, 1) := by decide +kernel
theorem dX8_warmths_39 : decode cX8_warmths 39 = .ok (.iload_n 2, 1) := by decide +kernel
theorem dX8_warmths_40 : decode cX8_warmths 40 = .ok (.aload_n 0, 1) := by decide +kernel
theorem dX8_warmths_41 : decode cX8_warmths 41 = .ok (.sipush 200, 3) := by decide +kernel
theorem dX8_warmths_44 : decode cX8_warmths 44 = .ok (.invokevirtual 200, 3) := by decide +kernel
theorem dX8_warmths_47 : decode cX8_warmths 47 = .ok (.ifCond .eq 9, 3) := by decide +kernel
theorem dX8_warmths_50 : decode cX8_warmths 50 = .ok (.iconst 1, 1) := by decide +kernel
theorem dX8_warmths_51 : decode cX8_warmths 51 = .ok (.iload_n 3, 1) := by decide +kernel
theorem dX8_warmths_52 : decode cX8_warmths 52 = .ok (.ishl, 1) := by decide +kernel
theorem dX8_warmths_53 : decode cX8_warmths 53 = .ok (.goto 4, 3) := by decide +kernel
theorem dX8_warmths_56 : decode cX8_warmths 56 = .ok (.iconst 0, 1) := by decide +kernel
theorem dX8_warmths_57 : decode cX8_warmths 57 = .ok (.ior, 1) := by decide +kernel
theorem dX8_warmths_58 : decode cX8_warmths 58 = .ok (.istore_n 2, 1) := by decide +kernel
theorem dX8_warmths_59 : decode cX8_warmths 59 = .ok (.iinc 3 1, 3) := by decide +kernel
theorem dX8_warmths_62 : decode cX8_warmths 62 = .ok (.goto (-40), 3) := by decide +kernel
theorem dX8_warmths_65 : decode cX8_warmths 65 = .ok (.iload_n 2, 1) := by decide +kernel
theorem dX8_warmths_66 : decode cX8_warmths 66 = .ok (.ireturn, 1) := by decide +kernel
set_option maxRecDepth 20000 in
theorem ggX8_shiftsNow_X8_copies : GoodIn wsX8_shiftsNow wsX8_copies := goodIn_r _ [7, 1, 26, 27, 28, 29, 30, 31, 32, 33, 34, 35, 36, 37, 38, 39, 40, 41, 42, 43, 44, 45, 46, 47, 48, 49] (by decide +kernel) (by decide +kernel)
set_option maxRecDepth 20000 in
theorem gX8_shiftsNow_X8_copies : GoodIn wsX8_shiftsNow (wsV RX8 170 RX8 yX8_copies wsX8_copies) := goodIn_app (goodIn_of _ (by decide +kernel)) ggX8_shiftsNow_X8_copies
set_option maxRecDepth 20000 in
theorem ggX8_shiftsNow_X8_isAsSeen : GoodIn wsX8_shiftsNow wsX8_isAsSeen := goodIn_r _ [11, 12, 13, 14, 15, 16, 6, 17, 1, 18, 19, 20, 21, 22, 23, 24, 25, 26, 27, 28, 29, 30, 31, 32, 33, 34, 35, 36, 37, 38, 39, 40, 41, 42, 43, 44, 45, 46, 47, 48, 49] (by decide +kernel) (by decide +kernel)
set_option maxRecDepth 20000 in
theorem gX8_shiftsNow_X8_isAsSeen : GoodIn wsX8_shiftsNow (wsV RX8 200 RX8 yX8_isAsSeen wsX8_isAsSeen) := goodIn_app (goodIn_of _ (by decide +kernel)) ggX8_shiftsNow_X8_isAsSeen
set_option maxRecDepth 20000 in
theorem ggX8_shiftsNow_X8_longOn : GoodIn wsX8_shiftsNow wsX8_longOn := goodIn_r _ [17, 1, 26, 27, 28, 29, 30, 31, 32, 33, 34, 35, 36, 37, 38, 39, 40, 41, 42, 43, 44, 45, 46, 47, 48, 49] (by decide +kernel) (by decide +kernel)
set_option maxRecDepth 20000 in
theorem gX8_shiftsNow_X8_longOn : GoodIn wsX8_shiftsNow (wsV RX8 122 RX8 yX8_longOn wsX8_longOn) := goodIn_app (goodIn_of _ (by decide +kernel)) ggX8_shiftsNow_X8_longOn
set_option maxRecDepth 20000 in
theorem ggX8_shiftsNow_X8_frankOn : GoodIn wsX8_shiftsNow wsX8_frankOn := goodIn_r _ [21, 1, 22, 23, 24, 6, 25, 26, 27, 28, 29, 30, 31, 32, 33, 34, 35, 36, 37, 38, 39, 40, 41, 42, 43, 44, 45, 46, 47, 48, 49] (by decide +kernel) (by decide +kernel)
set_option maxRecDepth 20000 in
theorem gX8_shiftsNow_X8_frankOn : GoodIn wsX8_shiftsNow (wsV RX8 128 RX8 yX8_frankOn wsX8_frankOn) := goodIn_app (goodIn_of _ (by decide +kernel)) ggX8_shiftsNow_X8_frankOn
theorem dX8_shiftsNow_0 : decode cX8_shiftsNow 0 = .ok (.iconst 0, 1) := by decide +kernel
theorem dX8_shiftsNow_1 : decode cX8_shiftsNow 1 = .ok (.istore_n 1, 1) := by decide +kernel
theorem dX8_shiftsNow_2 : decode cX8_shiftsNow 2 = .ok (.aload_n 0, 1) := by decide +kernel
theorem dX8_shiftsNow_3 : decode cX8_shiftsNow 3 = .ok (.iconst 0, 1) := by decide +kernel
theorem dX8_shiftsNow_4 : decode cX8_shiftsNow 4 = .ok (.sipush 200, 3) := by decide +kernel
theorem dX8_shiftsNow_7 : decode cX8_shiftsNow 7 = .ok (.invokevirtual 170, 3) := by decide +kernel
theorem dX8_shiftsNow_10 : decode cX8_shiftsNow 10 = .ok (.iconst 0, 1) := by decide +kernel
theorem dX8_shiftsNow_11 : decode cX8_shiftsNow 11 = .ok (.istore_n 2, 1) := by decide +kernel
theorem dX8_shiftsNow_12 : decode cX8_shiftsNow 12 = .ok (.iload_n 2, 1) := by decide +kernel
theorem dX8_shiftsNow_13 : decode cX8_shiftsNow 13 = .ok (.bipush 6, 2) := by decide +kernel
theorem dX8_shiftsNow_15 : decode cX8_shiftsNow 15 = .ok (.if_icmp .ge 74, 3) := by decide +kernel
theorem dX8_shiftsNow_18 : decode cX8_shiftsNow 18 = .ok (.aload_n 0, 1) := by decide +kernel
theorem dX8_shiftsNow_19 : decode cX8_shiftsNow 19 = .ok (.getfield 7, 3) := by decide +kernel
theorem dX8_shiftsNow_22 : decode cX8_shiftsNow 22 = .ok (.sipush 214, 3) := by decide +kernel
theorem dX8_shiftsNow_25 : decode cX8_shiftsNow 25 = .ok (.iload_n 2, 1) := by decide +kernel
theorem dX8_shiftsNow_26 : decode cX8_shiftsNow 26 = .ok (.iastore, 1) := by decide +kernel
theorem dX8_shiftsNow_27 : decode cX8_shiftsNow 27 = .ok (.iload_n 1, 1) := by decide +kernel
theorem dX8_shiftsNow_28 : decode cX8_shiftsNow 28 = .ok (.aload_n 0, 1) := by decide +kernel
theorem dX8_shiftsNow_29 : decode cX8_shiftsNow 29 = .ok (.sipush 200, 3) := by decide +kernel
theorem dX8_shiftsNow_32 : decode cX8_shiftsNow 32 = .ok (.invokevirtual 200, 3) := by decide +kernel
theorem dX8_shiftsNow_35 : decode cX8_shiftsNow 35 = .ok (.ifCond .eq 9, 3) := by decide +kernel
theorem dX8_shiftsNow_38 : decode cX8_shiftsNow 38 = .ok (.iconst 1, 1) := by decide +kernel
theorem dX8_shiftsNow_39 : decode cX8_shiftsNow 39 = .ok (.iload_n 2, 1) := by decide +kernel
theorem dX8_shiftsNow_40 : decode cX8_shiftsNow 40 = .ok (.ishl, 1) := by decide +kernel
theorem dX8_shiftsNow_41 : decode cX8_shiftsNow 41 = .ok (.goto 4, 3) := by decide +kernel
theorem dX8_shiftsNow_44 : decode cX8_shiftsNow 44 = .ok (.iconst 0, 1) := by decide +kernel
theorem dX8_shiftsNow_45 : decode cX8_shiftsNow 45 = .ok (.ior, 1) := by decide +kernel
theorem dX8_shiftsNow_46 : decode cX8_shiftsNow 46 = .ok (.istore_n 1, 1) := by decide +kernel
theorem dX8_shiftsNow_47 : decode cX8_shiftsNow 47 = .ok (.iconst 0, 1) := by decide +kernel
theorem dX8_shiftsNow_48 : decode cX8_shiftsNow 48 = .ok (.istore_n 3, 1) := by decide +kernel
theorem dX8_shiftsNow_49 : decode cX8_shiftsNow 49 = .ok (.iload_n 3, 1) := by decide +kernel
theorem dX8_shiftsNow_50 : decode cX8_shiftsNow 50 = .ok (.aload_n 0, 1) := by decide +kernel
theorem dX8_shiftsNow_51 : decode cX8_shiftsNow 51 = .ok (.iconst 0, 1) := by decide +kernel
theorem dX8_shiftsNow_52 : decode cX8_shiftsNow 52 = .ok (.invokevirtual 122, 3) := by decide +kernel
theorem dX8_shiftsNow_55 : decode cX8_shiftsNow 55 = .ok (.if_icmp .ge 28, 3) := by decide +kernel
theorem dX8_shiftsNow_58 : decode cX8_shiftsNow 58 = .ok (.aload_n 0, 1) := by decide +kernel
theorem dX8_shiftsNow_59 : decode cX8_shiftsNow 59 = .ok (.getfield 34, 3) := by decide +kernel
theorem dX8_shiftsNow_62 : decode cX8_shiftsNow 62 = .ok (.bipush 12, 2) := by decide +kernel
theorem dX8_shiftsNow_64 : decode cX8_shiftsNow 64 = .ok (.iload_n 2, 1) := by decide +kernel
theorem dX8_shiftsNow_65 : decode cX8_shiftsNow 65 = .ok (.imul, 1) := by decide +kernel
theorem dX8_shiftsNow_66 : decode cX8_shiftsNow 66 = .ok (.iload_n 3, 1) := by decide +kernel
theorem dX8_shiftsNow_67 : decode cX8_shiftsNow 67 = .ok (.iadd, 1) := by decide +kernel
theorem dX8_shiftsNow_68 : decode cX8_shiftsNow 68 = .ok (.aload_n 0, 1) := by decide +kernel
theorem dX8_shiftsNow_69 : decode cX8_shiftsNow 69 = .ok (.sipush 200, 3) := by decide +kernel
theorem dX8_shiftsNow_72 : decode cX8_shiftsNow 72 = .ok (.iload_n 3, 1) := by decide +kernel
theorem dX8_shiftsNow_73 : decode cX8_shiftsNow 73 = .ok (.invokevirtual 128, 3) := by decide +kernel
theorem dX8_shiftsNow_76 : decode cX8_shiftsNow 76 = .ok (.iastore, 1) := by decide +kernel
theorem dX8_shiftsNow_77 : decode cX8_shiftsNow 77 = .ok (.iinc 3 1, 3) := by decide +kernel
theorem dX8_shiftsNow_80 : decode cX8_shiftsNow 80 = .ok (.goto (-31), 3) := by decide +kernel
theorem dX8_shiftsNow_83 : decode cX8_shiftsNow 83 = .ok (.iinc 2 1, 3) := by decide +kernel
theorem dX8_shiftsNow_86 : decode cX8_shiftsNow 86 = .ok (.goto (-74), 3) := by decide +kernel
theorem dX8_shiftsNow_89 : decode cX8_shiftsNow 89 = .ok (.iload_n 1, 1) := by decide +kernel
theorem dX8_shiftsNow_90 : decode cX8_shiftsNow 90 = .ok (.ireturn, 1) := by decide +kernel
set_option maxRecDepth 20000 in
theorem ggX8_shifts_X8_shiftsNow : GoodIn wsX8_shifts wsX8_shiftsNow := goodIn_r _ [5, 6, 7, 8, 9, 10, 4, 11, 12, 13, 14, 15, 16, 17, 18, 19, 20, 21, 22, 23, 24, 25, 26, 27, 28, 29, 30, 31, 32, 33, 34, 35, 36, 37, 38, 39, 40, 41, 42, 43, 44, 45, 46, 47, 48, 49, 50, 51, 52, 53] (by decide +kernel) (by decide +kernel)
set_option maxRecDepth 20000 in
theorem gX8_shifts_X8_shiftsNow : GoodIn wsX8_shifts (wsV RX8 203 RX8 yX8_shiftsNow wsX8_shiftsNow) := goodIn_app (goodIn_of _ (by decide +kernel)) ggX8_shifts_X8_shiftsNow
theorem dX8_shifts_0 : decode cX8_shifts 0 = .ok (.aload_n 0, 1) := by decide +kernel
theorem dX8_shifts_1 : decode cX8_shifts 1 = .ok (.invokevirtual 203, 3) := by decide +kernel
theorem dX8_shifts_4 : decode cX8_shifts 4 = .ok (.ireturn, 1) := by decide +kernel
set_option maxRecDepth 20000 in
theorem ggX8_ask_X8_in : GoodIn wsX8_ask wsX8_in := goodIn_r _ [5] (by decide +kernel) (by decide +kernel)
set_option maxRecDepth 20000 in
theorem gX8_ask_X8_in : GoodIn wsX8_ask (va_wsS RX8 52 yX8_in wsX8_in) := goodIn_app (goodIn_of _ (by decide +kernel)) ggX8_ask_X8_in
set_option maxRecDepth 20000 in
theorem ggX8_ask_X8_shiftsNow : GoodIn wsX8_ask wsX8_shiftsNow := goodIn_r _ [9, 10, 1, 11, 12, 13, 4, 14, 15, 16, 17, 18, 19, 20, 21, 22, 23, 24, 25, 26, 27, 28, 29, 30, 31, 32, 33, 34, 35, 36, 37, 38, 39, 40, 41, 42, 43, 44, 45, 46, 47, 48, 49, 50, 51, 52, 53, 54, 55, 56] (by decide +kernel) (by decide +kernel)
set_option maxRecDepth 20000 in
theorem gX8_ask_X8_shiftsNow : GoodIn wsX8_ask (wsV RX8 203 RX8 yX8_shiftsNow wsX8_shiftsNow) := goodIn_app (goodIn_of _ (by decide +kernel)) ggX8_ask_X8_shiftsNow
set_option maxRecDepth 20000 in
theorem ggX8_ask_X8_longOn : GoodIn wsX8_ask wsX8_longOn := goodIn_r _ [24, 10, 33, 34, 35, 36, 37, 38, 39, 40, 41, 42, 43, 44, 45, 46, 47, 48, 49, 50, 51, 52, 53, 54, 55, 56] (by decide +kernel) (by decide +kernel)
set_option maxRecDepth 20000 in
theorem gX8_ask_X8_longOn : GoodIn wsX8_ask (wsV RX8 122 RX8 yX8_longOn wsX8_longOn) := goodIn_app (goodIn_of _ (by decide +kernel)) ggX8_ask_X8_longOn
theorem dX8_ask_0 : decode cX8_ask 0 = .ok (.iload_n 1, 1) := by decide +kernel
theorem dX8_ask_1 : decode cX8_ask 1 = .ok (.i2l, 1) := by decide +kernel
theorem dX8_ask_2 : decode cX8_ask 2 = .ok (.lconst 0, 1) := by decide +kernel
theorem dX8_ask_3 : decode cX8_ask 3 = .ok (.lconst 1, 1) := by decide +kernel
theorem dX8_ask_4 : decode cX8_ask 4 = .ok (.invokestatic 52, 3) := by decide +kernel
theorem dX8_ask_7 : decode cX8_ask 7 = .ok (.ifCond .ne 5, 3) := by decide +kernel
theorem dX8_ask_10 : decode cX8_ask 10 = .ok (.iconst (-1), 1) := by decide +kernel
theorem dX8_ask_11 : decode cX8_ask 11 = .ok (.ireturn, 1) := by decide +kernel
theorem dX8_ask_12 : decode cX8_ask 12 = .ok (.aload_n 0, 1) := by decide +kernel
theorem dX8_ask_13 : decode cX8_ask 13 = .ok (.invokevirtual 203, 3) := by decide +kernel
theorem dX8_ask_16 : decode cX8_ask 16 = .ok (.istore_n 2, 1) := by decide +kernel
theorem dX8_ask_17 : decode cX8_ask 17 = .ok (.iconst 0, 1) := by decide +kernel
theorem dX8_ask_18 : decode cX8_ask 18 = .ok (.istore_n 3, 1) := by decide +kernel
theorem dX8_ask_19 : decode cX8_ask 19 = .ok (.iconst 0, 1) := by decide +kernel
theorem dX8_ask_20 : decode cX8_ask 20 = .ok (.istore 4, 2) := by decide +kernel
theorem dX8_ask_22 : decode cX8_ask 22 = .ok (.iload 4, 2) := by decide +kernel
theorem dX8_ask_24 : decode cX8_ask 24 = .ok (.bipush 6, 2) := by decide +kernel
theorem dX8_ask_26 : decode cX8_ask 26 = .ok (.if_icmp .ge 18, 3) := by decide +kernel
theorem dX8_ask_29 : decode cX8_ask 29 = .ok (.iload_n 3, 1) := by decide +kernel
theorem dX8_ask_30 : decode cX8_ask 30 = .ok (.iload_n 2, 1) := by decide +kernel
theorem dX8_ask_31 : decode cX8_ask 31 = .ok (.iload 4, 2) := by decide +kernel
theorem dX8_ask_33 : decode cX8_ask 33 = .ok (.ishr, 1) := by decide +kernel
theorem dX8_ask_34 : decode cX8_ask 34 = .ok (.iconst 1, 1) := by decide +kernel
theorem dX8_ask_35 : decode cX8_ask 35 = .ok (.iand, 1) := by decide +kernel
theorem dX8_ask_36 : decode cX8_ask 36 = .ok (.iadd, 1) := by decide +kernel
theorem dX8_ask_37 : decode cX8_ask 37 = .ok (.istore_n 3, 1) := by decide +kernel
theorem dX8_ask_38 : decode cX8_ask 38 = .ok (.iinc 4 1, 3) := by decide +kernel
theorem dX8_ask_41 : decode cX8_ask 41 = .ok (.goto (-19), 3) := by decide +kernel
theorem dX8_ask_44 : decode cX8_ask 44 = .ok (.bipush (-4), 2) := by decide +kernel
theorem dX8_ask_46 : decode cX8_ask 46 = .ok (.istore 4, 2) := by decide +kernel
theorem dX8_ask_48 : decode cX8_ask 48 = .ok (.iconst 0, 1) := by decide +kernel
theorem dX8_ask_49 : decode cX8_ask 49 = .ok (.istore 5, 2) := by decide +kernel
theorem dX8_ask_51 : decode cX8_ask 51 = .ok (.iload 5, 2) := by decide +kernel
theorem dX8_ask_53 : decode cX8_ask 53 = .ok (.aload_n 0, 1) := by decide +kernel
theorem dX8_ask_54 : decode cX8_ask 54 = .ok (.iconst 0, 1) := by decide +kernel
theorem dX8_ask_55 : decode cX8_ask 55 = .ok (.invokevirtual 122, 3) := by decide +kernel
theorem dX8_ask_58 : decode cX8_ask 58 = .ok (.if_icmp .ge 150, 3) := by decide +kernel
theorem dX8_ask_61 : decode cX8_ask 61 = .ok (.iconst 0, 1) := by decide +kernel
theorem dX8_ask_62 : decode cX8_ask 62 = .ok (.istore 6, 2) := by decide +kernel
theorem dX8_ask_64 : decode cX8_ask 64 = .ok (.iconst 0, 1) := by decide +kernel
theorem dX8_ask_65 : decode cX8_ask 65 = .ok (.istore 7, 2) := by decide +kernel
theorem dX8_ask_67 : decode cX8_ask 67 = .ok (.iload 7, 2) := by decide +kernel
theorem dX8_ask_69 : decode cX8_ask 69 = .ok (.bipush 6, 2) := by decide +kernel
theorem dX8_ask_71 : decode cX8_ask 71 = .ok (.if_icmp .ge 103, 3) := by decide +kernel
theorem dX8_ask_74 : decode cX8_ask 74 = .ok (.iconst 0, 1) := by decide +kernel
theorem dX8_ask_75 : decode cX8_ask 75 = .ok (.istore 8, 2) := by decide +kernel
theorem dX8_ask_77 : decode cX8_ask 77 = .ok (.iconst 0, 1) := by decide +kernel
theorem dX8_ask_78 : decode cX8_ask 78 = .ok (.istore 9, 2) := by decide +kernel
theorem dX8_ask_80 : decode cX8_ask 80 = .ok (.iload 9, 2) := by decide +kernel
theorem dX8_ask_82 : decode cX8_ask 82 = .ok (.bipush 6, 2) := by decide +kernel
theorem dX8_ask_84 : decode cX8_ask 84 = .ok (.if_icmp .ge 68, 3) := by decide +kernel
theorem dX8_ask_87 : decode cX8_ask 87 = .ok (.iload_n 2, 1) := by decide +kernel
theorem dX8_ask_88 : decode cX8_ask 88 = .ok (.iload 7, 2) := by decide +kernel
theorem dX8_ask_90 : decode cX8_ask 90 = .ok (.ishr, 1) := by decide +kernel
theorem dX8_ask_91 : decode cX8_ask 91 = .ok (.iconst 1, 1) := by decide +kernel
theorem dX8_ask_92 : decode cX8_ask 92 = .ok (.iand, 1) := by decide +kernel
theorem dX8_ask_93 : decode cX8_ask 93 = .ok (.iconst 1, 1) := by decide +kernel
theorem dX8_ask_94 : decode cX8_ask 94 = .ok (.if_icmp .ne 58, 3) := by decide +kernel
theorem dX8_ask_97 : decode cX8_ask 97 = .ok (.iload 8, 2) := by decide +kernel
theorem dX8_ask_99 : decode cX8_ask 99 = .ok (.iload_n 2, 1) := by decide +kernel
theorem dX8_ask_100 : decode cX8_ask 100 = .ok (.iload 9, 2) := by decide +kernel
theorem dX8_ask_102 : decode cX8_ask 102 = .ok (.ishr, 1) := by decide +kernel
theorem dX8_ask_103 : decode cX8_ask 103 = .ok (.iconst 1, 1) := by decide +kernel
theorem dX8_ask_104 : decode cX8_ask 104 = .ok (.iand, 1) := by decide +kernel
theorem dX8_ask_105 : decode cX8_ask 105 = .ok (.iconst 1, 1) := by decide +kernel
theorem dX8_ask_106 : decode cX8_ask 106 = .ok (.if_icmp .ne 36, 3) := by decide +kernel
theorem dX8_ask_109 : decode cX8_ask 109 = .ok (.aload_n 0, 1) := by decide +kernel
theorem dX8_ask_110 : decode cX8_ask 110 = .ok (.getfield 34, 3) := by decide +kernel
theorem dX8_ask_113 : decode cX8_ask 113 = .ok (.bipush 12, 2) := by decide +kernel
theorem dX8_ask_115 : decode cX8_ask 115 = .ok (.iload 7, 2) := by decide +kernel
theorem dX8_ask_117 : decode cX8_ask 117 = .ok (.imul, 1) := by decide +kernel
theorem dX8_ask_118 : decode cX8_ask 118 = .ok (.iload 5, 2) := by decide +kernel
theorem dX8_ask_120 : decode cX8_ask 120 = .ok (.iadd, 1) := by decide +kernel
theorem dX8_ask_121 : decode cX8_ask 121 = .ok (.iaload, 1) := by decide +kernel
theorem dX8_ask_122 : decode cX8_ask 122 = .ok (.aload_n 0, 1) := by decide +kernel
theorem dX8_ask_123 : decode cX8_ask 123 = .ok (.getfield 34, 3) := by decide +kernel
theorem dX8_ask_126 : decode cX8_ask 126 = .ok (.bipush 12, 2) := by decide +kernel
theorem dX8_ask_128 : decode cX8_ask 128 = .ok (.iload 9, 2) := by decide +kernel
theorem dX8_ask_130 : decode cX8_ask 130 = .ok (.imul, 1) := by decide +kernel
theorem dX8_ask_131 : decode cX8_ask 131 = .ok (.iload 5, 2) := by decide +kernel
theorem dX8_ask_133 : decode cX8_ask 133 = .ok (.iadd, 1) := by decide +kernel
theorem dX8_ask_134 : decode cX8_ask 134 = .ok (.iaload, 1) := by decide +kernel
theorem dX8_ask_135 : decode cX8_ask 135 = .ok (.if_icmp .ne 7, 3) := by decide +kernel
theorem dX8_ask_138 : decode cX8_ask 138 = .ok (.iconst 1, 1) := by decide +kernel
theorem dX8_ask_139 : decode cX8_ask 139 = .ok (.goto 4, 3) := by decide +kernel
theorem dX8_ask_142 : decode cX8_ask 142 = .ok (.iconst 0, 1) := by decide +kernel
theorem dX8_ask_143 : decode cX8_ask 143 = .ok (.iadd, 1) := by decide +kernel
theorem dX8_ask_144 : decode cX8_ask 144 = .ok (.istore 8, 2) := by decide +kernel
theorem dX8_ask_146 : decode cX8_ask 146 = .ok (.iinc 9 1, 3) := by decide +kernel
theorem dX8_ask_149 : decode cX8_ask 149 = .ok (.goto (-69), 3) := by decide +kernel
theorem dX8_ask_152 : decode cX8_ask 152 = .ok (.iload 8, 2) := by decide +kernel
theorem dX8_ask_154 : decode cX8_ask 154 = .ok (.iload 6, 2) := by decide +kernel
theorem dX8_ask_156 : decode cX8_ask 156 = .ok (.if_icmp .le 8, 3) := by decide +kernel
theorem dX8_ask_159 : decode cX8_ask 159 = .ok (.iload 8, 2) := by decide +kernel
theorem dX8_ask_161 : decode cX8_ask 161 = .ok (.goto 5, 3) := by decide +kernel
theorem dX8_ask_164 : decode cX8_ask 164 = .ok (.iload 6, 2) := by decide +kernel
theorem dX8_ask_166 : decode cX8_ask 166 = .ok (.istore 6, 2) := by decide +kernel
theorem dX8_ask_168 : decode cX8_ask 168 = .ok (.iinc 7 1, 3) := by decide +kernel
theorem dX8_ask_171 : decode cX8_ask 171 = .ok (.goto (-104), 3) := by decide +kernel
theorem dX8_ask_174 : decode cX8_ask 174 = .ok (.iload 6, 2) := by decide +kernel
theorem dX8_ask_176 : decode cX8_ask 176 = .ok (.iload_n 3, 1) := by decide +kernel
theorem dX8_ask_177 : decode cX8_ask 177 = .ok (.if_icmp .ge 8, 3) := by decide +kernel
theorem dX8_ask_180 : decode cX8_ask 180 = .ok (.iload 5, 2) := by decide +kernel
theorem dX8_ask_182 : decode cX8_ask 182 = .ok (.goto 5, 3) := by decide +kernel
theorem dX8_ask_185 : decode cX8_ask 185 = .ok (.iload 4, 2) := by decide +kernel
theorem dX8_ask_187 : decode cX8_ask 187 = .ok (.istore 4, 2) := by decide +kernel
theorem dX8_ask_189 : decode cX8_ask 189 = .ok (.iload 6, 2) := by decide +kernel
theorem dX8_ask_191 : decode cX8_ask 191 = .ok (.iload_n 3, 1) := by decide +kernel
theorem dX8_ask_192 : decode cX8_ask 192 = .ok (.if_icmp .ge 8, 3) := by decide +kernel
theorem dX8_ask_195 : decode cX8_ask 195 = .ok (.iload 6, 2) := by decide +kernel
theorem dX8_ask_197 : decode cX8_ask 197 = .ok (.goto 4, 3) := by decide +kernel
theorem dX8_ask_200 : decode cX8_ask 200 = .ok (.iload_n 3, 1) := by decide +kernel
theorem dX8_ask_201 : decode cX8_ask 201 = .ok (.istore_n 3, 1) := by decide +kernel
theorem dX8_ask_202 : decode cX8_ask 202 = .ok (.iinc 5 1, 3) := by decide +kernel
theorem dX8_ask_205 : decode cX8_ask 205 = .ok (.goto (-154), 3) := by decide +kernel
theorem dX8_ask_208 : decode cX8_ask 208 = .ok (.iload 4, 2) := by decide +kernel
theorem dX8_ask_210 : decode cX8_ask 210 = .ok (.bipush (-4), 2) := by decide +kernel
theorem dX8_ask_212 : decode cX8_ask 212 = .ok (.if_icmp .eq 7, 3) := by decide +kernel
theorem dX8_ask_215 : decode cX8_ask 215 = .ok (.iload_n 1, 1) := by decide +kernel
theorem dX8_ask_216 : decode cX8_ask 216 = .ok (.ifCond .ne 8, 3) := by decide +kernel
theorem dX8_ask_219 : decode cX8_ask 219 = .ok (.iload 4, 2) := by decide +kernel
theorem dX8_ask_221 : decode cX8_ask 221 = .ok (.goto 4, 3) := by decide +kernel
theorem dX8_ask_224 : decode cX8_ask 224 = .ok (.iload_n 3, 1) := by decide +kernel
theorem dX8_ask_225 : decode cX8_ask 225 = .ok (.ireturn, 1) := by decide +kernel
set_option maxRecDepth 20000 in
theorem ggX8_drift_X8_in : GoodIn wsX8_drift wsX8_in := goodIn_r _ [7] (by decide +kernel) (by decide +kernel)
set_option maxRecDepth 20000 in
theorem gX8_drift_X8_in : GoodIn wsX8_drift (va_wsS RX8 52 yX8_in wsX8_in) := goodIn_app (goodIn_of _ (by decide +kernel)) ggX8_drift_X8_in
set_option maxRecDepth 20000 in
theorem ggX8_drift_X8_copies : GoodIn wsX8_drift wsX8_copies := goodIn_r _ [11, 3, 32, 33, 34, 35, 36, 37, 38, 39, 40, 41, 42, 43, 44, 45, 46, 47, 48, 49, 50, 51, 52, 53, 54, 55] (by decide +kernel) (by decide +kernel)
set_option maxRecDepth 20000 in
theorem gX8_drift_X8_copies : GoodIn wsX8_drift (wsV RX8 170 RX8 yX8_copies wsX8_copies) := goodIn_app (goodIn_of _ (by decide +kernel)) ggX8_drift_X8_copies
set_option maxRecDepth 20000 in
theorem ggX8_drift_X8_yearOn : GoodIn wsX8_drift wsX8_yearOn := goodIn_r _ [15, 3, 16, 17, 18, 6, 19, 32, 33, 34, 35, 36, 37, 38, 39, 40, 41, 42, 43, 44, 45, 46, 47, 48, 49, 50, 51, 52, 53, 54, 55] (by decide +kernel) (by decide +kernel)
set_option maxRecDepth 20000 in
theorem gX8_drift_X8_yearOn : GoodIn wsX8_drift (wsV RX8 167 RX8 yX8_yearOn wsX8_yearOn) := goodIn_app (goodIn_of _ (by decide +kernel)) ggX8_drift_X8_yearOn
set_option maxRecDepth 20000 in
theorem ggX8_drift_X8_frankOfAll : GoodIn wsX8_drift wsX8_frankOfAll := goodIn_r _ [23, 16, 17, 18, 6, 19, 3, 24, 25, 26, 27, 28, 29, 30, 31, 32, 33, 34, 35, 36, 37, 38, 39, 40, 41, 42, 43, 44, 45, 46, 47, 48, 49, 50, 51, 52, 53, 54, 55] (by decide +kernel) (by decide +kernel)
set_option maxRecDepth 20000 in
theorem gX8_drift_X8_frankOfAll : GoodIn wsX8_drift (wsV RX8 131 RX8 yX8_frankOfAll wsX8_frankOfAll) := goodIn_app (goodIn_of _ (by decide +kernel)) ggX8_drift_X8_frankOfAll
theorem dX8_drift_0 : decode cX8_drift 0 = .ok (.iload_n 2, 1) := by decide +kernel
theorem dX8_drift_1 : decode cX8_drift 1 = .ok (.i2l, 1) := by decide +kernel
theorem dX8_drift_2 : decode cX8_drift 2 = .ok (.lconst 1, 1) := by decide +kernel
theorem dX8_drift_3 : decode cX8_drift 3 = .ok (.ldc2_w 174, 3) := by decide +kernel
theorem dX8_drift_6 : decode cX8_drift 6 = .ok (.invokestatic 52, 3) := by decide +kernel
theorem dX8_drift_9 : decode cX8_drift 9 = .ok (.ifCond .eq 13, 3) := by decide +kernel
theorem dX8_drift_12 : decode cX8_drift 12 = .ok (.iload_n 3, 1) := by decide +kernel
theorem dX8_drift_13 : decode cX8_drift 13 = .ok (.i2l, 1) := by decide +kernel
theorem dX8_drift_14 : decode cX8_drift 14 = .ok (.lconst 0, 1) := by decide +kernel
theorem dX8_drift_15 : decode cX8_drift 15 = .ok (.lconst 1, 1) := by decide +kernel
theorem dX8_drift_16 : decode cX8_drift 16 = .ok (.invokestatic 52, 3) := by decide +kernel
theorem dX8_drift_19 : decode cX8_drift 19 = .ok (.ifCond .ne 5, 3) := by decide +kernel
theorem dX8_drift_22 : decode cX8_drift 22 = .ok (.iconst (-1), 1) := by decide +kernel
theorem dX8_drift_23 : decode cX8_drift 23 = .ok (.ireturn, 1) := by decide +kernel
theorem dX8_drift_24 : decode cX8_drift 24 = .ok (.aload_n 0, 1) := by decide +kernel
theorem dX8_drift_25 : decode cX8_drift 25 = .ok (.iconst 0, 1) := by decide +kernel
theorem dX8_drift_26 : decode cX8_drift 26 = .ok (.sipush 160, 3) := by decide +kernel
theorem dX8_drift_29 : decode cX8_drift 29 = .ok (.invokevirtual 170, 3) := by decide +kernel
theorem dX8_drift_32 : decode cX8_drift 32 = .ok (.iload_n 1, 1) := by decide +kernel
theorem dX8_drift_33 : decode cX8_drift 33 = .ok (.istore 4, 2) := by decide +kernel
theorem dX8_drift_35 : decode cX8_drift 35 = .ok (.iconst 0, 1) := by decide +kernel
theorem dX8_drift_36 : decode cX8_drift 36 = .ok (.istore 5, 2) := by decide +kernel
theorem dX8_drift_38 : decode cX8_drift 38 = .ok (.iconst 0, 1) := by decide +kernel
theorem dX8_drift_39 : decode cX8_drift 39 = .ok (.istore 6, 2) := by decide +kernel
theorem dX8_drift_41 : decode cX8_drift 41 = .ok (.iconst 0, 1) := by decide +kernel
theorem dX8_drift_42 : decode cX8_drift 42 = .ok (.istore 7, 2) := by decide +kernel
theorem dX8_drift_44 : decode cX8_drift 44 = .ok (.iload 7, 2) := by decide +kernel
theorem dX8_drift_46 : decode cX8_drift 46 = .ok (.iload_n 2, 1) := by decide +kernel
theorem dX8_drift_47 : decode cX8_drift 47 = .ok (.if_icmp .ge 83, 3) := by decide +kernel
theorem dX8_drift_50 : decode cX8_drift 50 = .ok (.iload 4, 2) := by decide +kernel
theorem dX8_drift_52 : decode cX8_drift 52 = .ok (.ldc 206, 2) := by decide +kernel
theorem dX8_drift_54 : decode cX8_drift 54 = .ok (.imul, 1) := by decide +kernel
theorem dX8_drift_55 : decode cX8_drift 55 = .ok (.sipush 12345, 3) := by decide +kernel
theorem dX8_drift_58 : decode cX8_drift 58 = .ok (.iadd, 1) := by decide +kernel
theorem dX8_drift_59 : decode cX8_drift 59 = .ok (.istore 4, 2) := by decide +kernel
theorem dX8_drift_61 : decode cX8_drift 61 = .ok (.iload 4, 2) := by decide +kernel
theorem dX8_drift_63 : decode cX8_drift 63 = .ok (.bipush 16, 2) := by decide +kernel
theorem dX8_drift_65 : decode cX8_drift 65 = .ok (.ishr, 1) := by decide +kernel
theorem dX8_drift_66 : decode cX8_drift 66 = .ok (.sipush 32767, 3) := by decide +kernel
theorem dX8_drift_69 : decode cX8_drift 69 = .ok (.iand, 1) := by decide +kernel
theorem dX8_drift_70 : decode cX8_drift 70 = .ok (.istore 8, 2) := by decide +kernel
theorem dX8_drift_72 : decode cX8_drift 72 = .ok (.aload_n 0, 1) := by decide +kernel
theorem dX8_drift_73 : decode cX8_drift 73 = .ok (.getfield 7, 3) := by decide +kernel
theorem dX8_drift_76 : decode cX8_drift 76 = .ok (.sipush 174, 3) := by decide +kernel
theorem dX8_drift_79 : decode cX8_drift 79 = .ok (.iload 8, 2) := by decide +kernel
theorem dX8_drift_81 : decode cX8_drift 81 = .ok (.bipush 6, 2) := by decide +kernel
theorem dX8_drift_83 : decode cX8_drift 83 = .ok (.irem, 1) := by decide +kernel
theorem dX8_drift_84 : decode cX8_drift 84 = .ok (.iastore, 1) := by decide +kernel
theorem dX8_drift_85 : decode cX8_drift 85 = .ok (.aload_n 0, 1) := by decide +kernel
theorem dX8_drift_86 : decode cX8_drift 86 = .ok (.getfield 7, 3) := by decide +kernel
theorem dX8_drift_89 : decode cX8_drift 89 = .ok (.sipush 175, 3) := by decide +kernel
theorem dX8_drift_92 : decode cX8_drift 92 = .ok (.iload 8, 2) := by decide +kernel
theorem dX8_drift_94 : decode cX8_drift 94 = .ok (.bipush 8, 2) := by decide +kernel
theorem dX8_drift_96 : decode cX8_drift 96 = .ok (.idiv, 1) := by decide +kernel
theorem dX8_drift_97 : decode cX8_drift 97 = .ok (.bipush 12, 2) := by decide +kernel
theorem dX8_drift_99 : decode cX8_drift 99 = .ok (.irem, 1) := by decide +kernel
theorem dX8_drift_100 : decode cX8_drift 100 = .ok (.iastore, 1) := by decide +kernel
theorem dX8_drift_101 : decode cX8_drift 101 = .ok (.aload_n 0, 1) := by decide +kernel
theorem dX8_drift_102 : decode cX8_drift 102 = .ok (.sipush 160, 3) := by decide +kernel
theorem dX8_drift_105 : decode cX8_drift 105 = .ok (.invokevirtual 167, 3) := by decide +kernel
theorem dX8_drift_108 : decode cX8_drift 108 = .ok (.aload_n 0, 1) := by decide +kernel
theorem dX8_drift_109 : decode cX8_drift 109 = .ok (.sipush 160, 3) := by decide +kernel
theorem dX8_drift_112 : decode cX8_drift 112 = .ok (.invokevirtual 131, 3) := by decide +kernel
theorem dX8_drift_115 : decode cX8_drift 115 = .ok (.istore 6, 2) := by decide +kernel
theorem dX8_drift_117 : decode cX8_drift 117 = .ok (.iload 5, 2) := by decide +kernel
theorem dX8_drift_119 : decode cX8_drift 119 = .ok (.iload 6, 2) := by decide +kernel
theorem dX8_drift_121 : decode cX8_drift 121 = .ok (.iadd, 1) := by decide +kernel
theorem dX8_drift_122 : decode cX8_drift 122 = .ok (.istore 5, 2) := by decide +kernel
theorem dX8_drift_124 : decode cX8_drift 124 = .ok (.iinc 7 1, 3) := by decide +kernel
theorem dX8_drift_127 : decode cX8_drift 127 = .ok (.goto (-83), 3) := by decide +kernel
theorem dX8_drift_130 : decode cX8_drift 130 = .ok (.iload_n 3, 1) := by decide +kernel
theorem dX8_drift_131 : decode cX8_drift 131 = .ok (.ifCond .ne 8, 3) := by decide +kernel
theorem dX8_drift_134 : decode cX8_drift 134 = .ok (.iload 5, 2) := by decide +kernel
theorem dX8_drift_136 : decode cX8_drift 136 = .ok (.goto 5, 3) := by decide +kernel
theorem dX8_drift_139 : decode cX8_drift 139 = .ok (.iload 6, 2) := by decide +kernel
theorem dX8_drift_141 : decode cX8_drift 141 = .ok (.ireturn, 1) := by decide +kernel
set_option maxRecDepth 20000 in
theorem ggX8_keep_X8_in : GoodIn wsX8_keep wsX8_in := goodIn_r _ [5] (by decide +kernel) (by decide +kernel)
set_option maxRecDepth 20000 in
theorem gX8_keep_X8_in : GoodIn wsX8_keep (va_wsS RX8 52 yX8_in wsX8_in) := goodIn_app (goodIn_of _ (by decide +kernel)) ggX8_keep_X8_in
set_option maxRecDepth 20000 in
theorem ggX8_keep_X8_copies : GoodIn wsX8_keep wsX8_copies := goodIn_r _ [9, 10, 11, 12, 13, 14, 15, 16, 17, 18, 19, 20, 21, 22, 23, 24, 25, 26, 27, 28, 29, 30, 31, 32, 33, 34] (by decide +kernel) (by decide +kernel)
set_option maxRecDepth 20000 in
theorem gX8_keep_X8_copies : GoodIn wsX8_keep (wsV RX8 170 RX8 yX8_copies wsX8_copies) := goodIn_app (goodIn_of _ (by decide +kernel)) ggX8_keep_X8_copies
theorem dX8_keep_0 : decode cX8_keep 0 = .ok (.iload_n 1, 1) := by decide +kernel
theorem dX8_keep_1 : decode cX8_keep 1 = .ok (.i2l, 1) := by decide +kernel
theorem dX8_keep_2 : decode cX8_keep 2 = .ok (.lconst 0, 1) := by decide +kernel
theorem dX8_keep_3 : decode cX8_keep 3 = .ok (.lconst 1, 1) := by decide +kernel
theorem dX8_keep_4 : decode cX8_keep 4 = .ok (.invokestatic 52, 3) := by decide +kernel
theorem dX8_keep_7 : decode cX8_keep 7 = .ok (.ifCond .ne 5, 3) := by decide +kernel
theorem dX8_keep_10 : decode cX8_keep 10 = .ok (.iconst (-1), 1) := by decide +kernel
theorem dX8_keep_11 : decode cX8_keep 11 = .ok (.ireturn, 1) := by decide +kernel
theorem dX8_keep_12 : decode cX8_keep 12 = .ok (.aload_n 0, 1) := by decide +kernel
theorem dX8_keep_13 : decode cX8_keep 13 = .ok (.iconst 0, 1) := by decide +kernel
theorem dX8_keep_14 : decode cX8_keep 14 = .ok (.bipush 40, 2) := by decide +kernel
theorem dX8_keep_16 : decode cX8_keep 16 = .ok (.iload_n 1, 1) := by decide +kernel
theorem dX8_keep_17 : decode cX8_keep 17 = .ok (.iconst 1, 1) := by decide +kernel
theorem dX8_keep_18 : decode cX8_keep 18 = .ok (.iadd, 1) := by decide +kernel
theorem dX8_keep_19 : decode cX8_keep 19 = .ok (.imul, 1) := by decide +kernel
theorem dX8_keep_20 : decode cX8_keep 20 = .ok (.invokevirtual 170, 3) := by decide +kernel
theorem dX8_keep_23 : decode cX8_keep 23 = .ok (.aload_n 0, 1) := by decide +kernel
theorem dX8_keep_24 : decode cX8_keep 24 = .ok (.getfield 37, 3) := by decide +kernel
theorem dX8_keep_27 : decode cX8_keep 27 = .ok (.iload_n 1, 1) := by decide +kernel
theorem dX8_keep_28 : decode cX8_keep 28 = .ok (.baload, 1) := by decide +kernel
theorem dX8_keep_29 : decode cX8_keep 29 = .ok (.ifCond .eq 7, 3) := by decide +kernel
theorem dX8_keep_32 : decode cX8_keep 32 = .ok (.iconst 1, 1) := by decide +kernel
theorem dX8_keep_33 : decode cX8_keep 33 = .ok (.goto 4, 3) := by decide +kernel
theorem dX8_keep_36 : decode cX8_keep 36 = .ok (.iconst 0, 1) := by decide +kernel
theorem dX8_keep_37 : decode cX8_keep 37 = .ok (.istore_n 2, 1) := by decide +kernel
theorem dX8_keep_38 : decode cX8_keep 38 = .ok (.aload_n 0, 1) := by decide +kernel
theorem dX8_keep_39 : decode cX8_keep 39 = .ok (.getfield 37, 3) := by decide +kernel
theorem dX8_keep_42 : decode cX8_keep 42 = .ok (.iload_n 1, 1) := by decide +kernel
theorem dX8_keep_43 : decode cX8_keep 43 = .ok (.iconst 1, 1) := by decide +kernel
theorem dX8_keep_44 : decode cX8_keep 44 = .ok (.bastore, 1) := by decide +kernel
theorem dX8_keep_45 : decode cX8_keep 45 = .ok (.iload_n 2, 1) := by decide +kernel
theorem dX8_keep_46 : decode cX8_keep 46 = .ok (.ireturn, 1) := by decide +kernel
set_option maxRecDepth 20000 in
theorem ggX8_back_X8_in : GoodIn wsX8_back wsX8_in := goodIn_r _ [6] (by decide +kernel) (by decide +kernel)
set_option maxRecDepth 20000 in
theorem gX8_back_X8_in : GoodIn wsX8_back (va_wsS RX8 52 yX8_in wsX8_in) := goodIn_app (goodIn_of _ (by decide +kernel)) ggX8_back_X8_in
set_option maxRecDepth 20000 in
theorem ggX8_back_X8_copies : GoodIn wsX8_back wsX8_copies := goodIn_r _ [10, 2, 11, 12, 13, 14, 15, 16, 17, 18, 19, 20, 21, 22, 23, 24, 25, 26, 27, 28, 29, 30, 31, 32, 33, 34] (by decide +kernel) (by decide +kernel)
set_option maxRecDepth 20000 in
theorem gX8_back_X8_copies : GoodIn wsX8_back (wsV RX8 170 RX8 yX8_copies wsX8_copies) := goodIn_app (goodIn_of _ (by decide +kernel)) ggX8_back_X8_copies
theorem dX8_back_0 : decode cX8_back 0 = .ok (.iload_n 1, 1) := by decide +kernel
theorem dX8_back_1 : decode cX8_back 1 = .ok (.i2l, 1) := by decide +kernel
theorem dX8_back_2 : decode cX8_back 2 = .ok (.lconst 0, 1) := by decide +kernel
theorem dX8_back_3 : decode cX8_back 3 = .ok (.lconst 1, 1) := by decide +kernel
theorem dX8_back_4 : decode cX8_back 4 = .ok (.invokestatic 52, 3) := by decide +kernel
theorem dX8_back_7 : decode cX8_back 7 = .ok (.ifCond .ne 5, 3) := by decide +kernel
theorem dX8_back_10 : decode cX8_back 10 = .ok (.iconst (-1), 1) := by decide +kernel
theorem dX8_back_11 : decode cX8_back 11 = .ok (.ireturn, 1) := by decide +kernel
theorem dX8_back_12 : decode cX8_back 12 = .ok (.aload_n 0, 1) := by decide +kernel
theorem dX8_back_13 : decode cX8_back 13 = .ok (.getfield 37, 3) := by decide +kernel
theorem dX8_back_16 : decode cX8_back 16 = .ok (.iload_n 1, 1) := by decide +kernel
theorem dX8_back_17 : decode cX8_back 17 = .ok (.baload, 1) := by decide +kernel
theorem dX8_back_18 : decode cX8_back 18 = .ok (.ifCond .ne 6, 3) := by decide +kernel
theorem dX8_back_21 : decode cX8_back 21 = .ok (.bipush (-2), 2) := by decide +kernel
theorem dX8_back_23 : decode cX8_back 23 = .ok (.ireturn, 1) := by decide +kernel
theorem dX8_back_24 : decode cX8_back 24 = .ok (.aload_n 0, 1) := by decide +kernel
theorem dX8_back_25 : decode cX8_back 25 = .ok (.bipush 40, 2) := by decide +kernel
theorem dX8_back_27 : decode cX8_back 27 = .ok (.iload_n 1, 1) := by decide +kernel
theorem dX8_back_28 : decode cX8_back 28 = .ok (.iconst 1, 1) := by decide +kernel
theorem dX8_back_29 : decode cX8_back 29 = .ok (.iadd, 1) := by decide +kernel
theorem dX8_back_30 : decode cX8_back 30 = .ok (.imul, 1) := by decide +kernel
theorem dX8_back_31 : decode cX8_back 31 = .ok (.iconst 0, 1) := by decide +kernel
theorem dX8_back_32 : decode cX8_back 32 = .ok (.invokevirtual 170, 3) := by decide +kernel
theorem dX8_back_35 : decode cX8_back 35 = .ok (.aload_n 0, 1) := by decide +kernel
theorem dX8_back_36 : decode cX8_back 36 = .ok (.getfield 7, 3) := by decide +kernel
theorem dX8_back_39 : decode cX8_back 39 = .ok (.bipush 18, 2) := by decide +kernel
theorem dX8_back_41 : decode cX8_back 41 = .ok (.iaload, 1) := by decide +kernel
theorem dX8_back_42 : decode cX8_back 42 = .ok (.ireturn, 1) := by decide +kernel
set_option maxRecDepth 20000 in
theorem ggX8_sheet_X8_in : GoodIn wsX8_sheet wsX8_in := goodIn_r _ [9] (by decide +kernel) (by decide +kernel)
set_option maxRecDepth 20000 in
theorem gX8_sheet_X8_in : GoodIn wsX8_sheet (va_wsS RX8 52 yX8_in wsX8_in) := goodIn_app (goodIn_of _ (by decide +kernel)) ggX8_sheet_X8_in
theorem dX8_sheet_0 : decode cX8_sheet 0 = .ok (.iload_n 1, 1) := by decide +kernel
theorem dX8_sheet_1 : decode cX8_sheet 1 = .ok (.i2l, 1) := by decide +kernel
theorem dX8_sheet_2 : decode cX8_sheet 2 = .ok (.lconst 0, 1) := by decide +kernel
theorem dX8_sheet_3 : decode cX8_sheet 3 = .ok (.ldc2_w 138, 3) := by decide +kernel
theorem dX8_sheet_6 : decode cX8_sheet 6 = .ok (.invokestatic 52, 3) := by decide +kernel
theorem dX8_sheet_9 : decode cX8_sheet 9 = .ok (.ifCond .eq 21, 3) := by decide +kernel
theorem dX8_sheet_12 : decode cX8_sheet 12 = .ok (.iload_n 2, 1) := by decide +kernel
theorem dX8_sheet_13 : decode cX8_sheet 13 = .ok (.i2l, 1) := by decide +kernel
theorem dX8_sheet_14 : decode cX8_sheet 14 = .ok (.lconst 0, 1) := by decide +kernel
theorem dX8_sheet_15 : decode cX8_sheet 15 = .ok (.ldc2_w 143, 3) := by decide +kernel
theorem dX8_sheet_18 : decode cX8_sheet 18 = .ok (.invokestatic 52, 3) := by decide +kernel
theorem dX8_sheet_21 : decode cX8_sheet 21 = .ok (.ifCond .eq 9, 3) := by decide +kernel
theorem dX8_sheet_24 : decode cX8_sheet 24 = .ok (.iload_n 3, 1) := by decide +kernel
theorem dX8_sheet_25 : decode cX8_sheet 25 = .ok (.bipush 40, 2) := by decide +kernel
theorem dX8_sheet_27 : decode cX8_sheet 27 = .ok (.if_icmp .le 5, 3) := by decide +kernel
theorem dX8_sheet_30 : decode cX8_sheet 30 = .ok (.iconst (-1), 1) := by decide +kernel
theorem dX8_sheet_31 : decode cX8_sheet 31 = .ok (.ireturn, 1) := by decide +kernel
theorem dX8_sheet_32 : decode cX8_sheet 32 = .ok (.iload_n 3, 1) := by decide +kernel
theorem dX8_sheet_33 : decode cX8_sheet 33 = .ok (.ifCond .ge 6, 3) := by decide +kernel
theorem dX8_sheet_36 : decode cX8_sheet 36 = .ok (.bipush (-14), 2) := by decide +kernel
theorem dX8_sheet_38 : decode cX8_sheet 38 = .ok (.ireturn, 1) := by decide +kernel
theorem dX8_sheet_39 : decode cX8_sheet 39 = .ok (.aload_n 0, 1) := by decide +kernel
theorem dX8_sheet_40 : decode cX8_sheet 40 = .ok (.getfield 41, 3) := by decide +kernel
theorem dX8_sheet_43 : decode cX8_sheet 43 = .ok (.iload_n 1, 1) := by decide +kernel
theorem dX8_sheet_44 : decode cX8_sheet 44 = .ok (.iload_n 2, 1) := by decide +kernel
theorem dX8_sheet_45 : decode cX8_sheet 45 = .ok (.iastore, 1) := by decide +kernel
theorem dX8_sheet_46 : decode cX8_sheet 46 = .ok (.aload_n 0, 1) := by decide +kernel
theorem dX8_sheet_47 : decode cX8_sheet 47 = .ok (.getfield 44, 3) := by decide +kernel
theorem dX8_sheet_50 : decode cX8_sheet 50 = .ok (.iload_n 1, 1) := by decide +kernel
theorem dX8_sheet_51 : decode cX8_sheet 51 = .ok (.iload_n 3, 1) := by decide +kernel
theorem dX8_sheet_52 : decode cX8_sheet 52 = .ok (.iastore, 1) := by decide +kernel
theorem dX8_sheet_53 : decode cX8_sheet 53 = .ok (.iconst 0, 1) := by decide +kernel
theorem dX8_sheet_54 : decode cX8_sheet 54 = .ok (.istore 4, 2) := by decide +kernel
theorem dX8_sheet_56 : decode cX8_sheet 56 = .ok (.iload 4, 2) := by decide +kernel
theorem dX8_sheet_58 : decode cX8_sheet 58 = .ok (.bipush 40, 2) := by decide +kernel
theorem dX8_sheet_60 : decode cX8_sheet 60 = .ok (.if_icmp .ge 22, 3) := by decide +kernel
theorem dX8_sheet_63 : decode cX8_sheet 63 = .ok (.aload_n 0, 1) := by decide +kernel
theorem dX8_sheet_64 : decode cX8_sheet 64 = .ok (.getfield 47, 3) := by decide +kernel
theorem dX8_sheet_67 : decode cX8_sheet 67 = .ok (.bipush 40, 2) := by decide +kernel
theorem dX8_sheet_69 : decode cX8_sheet 69 = .ok (.iload_n 1, 1) := by decide +kernel
theorem dX8_sheet_70 : decode cX8_sheet 70 = .ok (.imul, 1) := by decide +kernel
theorem dX8_sheet_71 : decode cX8_sheet 71 = .ok (.iload 4, 2) := by decide +kernel
theorem dX8_sheet_73 : decode cX8_sheet 73 = .ok (.iadd, 1) := by decide +kernel
theorem dX8_sheet_74 : decode cX8_sheet 74 = .ok (.iconst 0, 1) := by decide +kernel
theorem dX8_sheet_75 : decode cX8_sheet 75 = .ok (.iastore, 1) := by decide +kernel
theorem dX8_sheet_76 : decode cX8_sheet 76 = .ok (.iinc 4 1, 3) := by decide +kernel
theorem dX8_sheet_79 : decode cX8_sheet 79 = .ok (.goto (-23), 3) := by decide +kernel
theorem dX8_sheet_82 : decode cX8_sheet 82 = .ok (.iconst 1, 1) := by decide +kernel
theorem dX8_sheet_83 : decode cX8_sheet 83 = .ok (.ireturn, 1) := by decide +kernel
set_option maxRecDepth 20000 in
theorem ggX8_lay_X8_in : GoodIn wsX8_lay wsX8_in := goodIn_r _ [8] (by decide +kernel) (by decide +kernel)
set_option maxRecDepth 20000 in
theorem gX8_lay_X8_in : GoodIn wsX8_lay (va_wsS RX8 52 yX8_in wsX8_in) := goodIn_app (goodIn_of _ (by decide +kernel)) ggX8_lay_X8_in
theorem dX8_lay_0 : decode cX8_lay 0 = .ok (.iload_n 1, 1) := by decide +kernel
theorem dX8_lay_1 : decode cX8_lay 1 = .ok (.i2l, 1) := by decide +kernel
theorem dX8_lay_2 : decode cX8_lay 2 = .ok (.lconst 0, 1) := by decide +kernel
theorem dX8_lay_3 : decode cX8_lay 3 = .ok (.ldc2_w 138, 3) := by decide +kernel
theorem dX8_lay_6 : decode cX8_lay 6 = .ok (.invokestatic 52, 3) := by decide +kernel
theorem dX8_lay_9 : decode cX8_lay 9 = .ok (.ifCond .ne 5, 3) := by decide +kernel
theorem dX8_lay_12 : decode cX8_lay 12 = .ok (.iconst (-1), 1) := by decide +kernel
theorem dX8_lay_13 : decode cX8_lay 13 = .ok (.ireturn, 1) := by decide +kernel
theorem dX8_lay_14 : decode cX8_lay 14 = .ok (.aload_n 0, 1) := by decide +kernel
theorem dX8_lay_15 : decode cX8_lay 15 = .ok (.getfield 41, 3) := by decide +kernel
theorem dX8_lay_18 : decode cX8_lay 18 = .ok (.iload_n 1, 1) := by decide +kernel
theorem dX8_lay_19 : decode cX8_lay 19 = .ok (.iaload, 1) := by decide +kernel
theorem dX8_lay_20 : decode cX8_lay 20 = .ok (.bipush (-4), 2) := by decide +kernel
theorem dX8_lay_22 : decode cX8_lay 22 = .ok (.if_icmp .ne 6, 3) := by decide +kernel
theorem dX8_lay_25 : decode cX8_lay 25 = .ok (.bipush (-11), 2) := by decide +kernel
theorem dX8_lay_27 : decode cX8_lay 27 = .ok (.ireturn, 1) := by decide +kernel
theorem dX8_lay_28 : decode cX8_lay 28 = .ok (.iload_n 2, 1) := by decide +kernel
theorem dX8_lay_29 : decode cX8_lay 29 = .ok (.i2l, 1) := by decide +kernel
theorem dX8_lay_30 : decode cX8_lay 30 = .ok (.lconst 0, 1) := by decide +kernel
theorem dX8_lay_31 : decode cX8_lay 31 = .ok (.aload_n 0, 1) := by decide +kernel
theorem dX8_lay_32 : decode cX8_lay 32 = .ok (.getfield 44, 3) := by decide +kernel
theorem dX8_lay_35 : decode cX8_lay 35 = .ok (.iload_n 1, 1) := by decide +kernel
theorem dX8_lay_36 : decode cX8_lay 36 = .ok (.iaload, 1) := by decide +kernel
theorem dX8_lay_37 : decode cX8_lay 37 = .ok (.iconst 1, 1) := by decide +kernel
theorem dX8_lay_38 : decode cX8_lay 38 = .ok (.isub, 1) := by decide +kernel
theorem dX8_lay_39 : decode cX8_lay 39 = .ok (.i2l, 1) := by decide +kernel
theorem dX8_lay_40 : decode cX8_lay 40 = .ok (.invokestatic 52, 3) := by decide +kernel
theorem dX8_lay_43 : decode cX8_lay 43 = .ok (.ifCond .ne 6, 3) := by decide +kernel
theorem dX8_lay_46 : decode cX8_lay 46 = .ok (.bipush (-12), 2) := by decide +kernel
theorem dX8_lay_48 : decode cX8_lay 48 = .ok (.ireturn, 1) := by decide +kernel
theorem dX8_lay_49 : decode cX8_lay 49 = .ok (.aload_n 0, 1) := by decide +kernel
theorem dX8_lay_50 : decode cX8_lay 50 = .ok (.getfield 47, 3) := by decide +kernel
theorem dX8_lay_53 : decode cX8_lay 53 = .ok (.bipush 40, 2) := by decide +kernel
theorem dX8_lay_55 : decode cX8_lay 55 = .ok (.iload_n 1, 1) := by decide +kernel
theorem dX8_lay_56 : decode cX8_lay 56 = .ok (.imul, 1) := by decide +kernel
theorem dX8_lay_57 : decode cX8_lay 57 = .ok (.iload_n 2, 1) := by decide +kernel
theorem dX8_lay_58 : decode cX8_lay 58 = .ok (.iadd, 1) := by decide +kernel
theorem dX8_lay_59 : decode cX8_lay 59 = .ok (.aload_n 0, 1) := by decide +kernel
theorem dX8_lay_60 : decode cX8_lay 60 = .ok (.getfield 41, 3) := by decide +kernel
theorem dX8_lay_63 : decode cX8_lay 63 = .ok (.iload_n 1, 1) := by decide +kernel
theorem dX8_lay_64 : decode cX8_lay 64 = .ok (.iaload, 1) := by decide +kernel
theorem dX8_lay_65 : decode cX8_lay 65 = .ok (.ifCond .ne 13, 3) := by decide +kernel
theorem dX8_lay_68 : decode cX8_lay 68 = .ok (.iload_n 3, 1) := by decide +kernel
theorem dX8_lay_69 : decode cX8_lay 69 = .ok (.bipush 24, 2) := by decide +kernel
theorem dX8_lay_71 : decode cX8_lay 71 = .ok (.ishl, 1) := by decide +kernel
theorem dX8_lay_72 : decode cX8_lay 72 = .ok (.bipush 24, 2) := by decide +kernel
theorem dX8_lay_74 : decode cX8_lay 74 = .ok (.ishr, 1) := by decide +kernel
theorem dX8_lay_75 : decode cX8_lay 75 = .ok (.goto 24, 3) := by decide +kernel
theorem dX8_lay_78 : decode cX8_lay 78 = .ok (.aload_n 0, 1) := by decide +kernel
theorem dX8_lay_79 : decode cX8_lay 79 = .ok (.getfield 41, 3) := by decide +kernel
theorem dX8_lay_82 : decode cX8_lay 82 = .ok (.iload_n 1, 1) := by decide +kernel
theorem dX8_lay_83 : decode cX8_lay 83 = .ok (.iaload, 1) := by decide +kernel
theorem dX8_lay_84 : decode cX8_lay 84 = .ok (.iconst 1, 1) := by decide +kernel
theorem dX8_lay_85 : decode cX8_lay 85 = .ok (.if_icmp .ne 13, 3) := by decide +kernel
theorem dX8_lay_88 : decode cX8_lay 88 = .ok (.iload_n 3, 1) := by decide +kernel
theorem dX8_lay_89 : decode cX8_lay 89 = .ok (.bipush 16, 2) := by decide +kernel
theorem dX8_lay_91 : decode cX8_lay 91 = .ok (.ishl, 1) := by decide +kernel
theorem dX8_lay_92 : decode cX8_lay 92 = .ok (.bipush 16, 2) := by decide +kernel
theorem dX8_lay_94 : decode cX8_lay 94 = .ok (.ishr, 1) := by decide +kernel
theorem dX8_lay_95 : decode cX8_lay 95 = .ok (.goto 4, 3) := by decide +kernel
theorem dX8_lay_98 : decode cX8_lay 98 = .ok (.iload_n 3, 1) := by decide +kernel
theorem dX8_lay_99 : decode cX8_lay 99 = .ok (.iastore, 1) := by decide +kernel
theorem dX8_lay_100 : decode cX8_lay 100 = .ok (.iconst 1, 1) := by decide +kernel
theorem dX8_lay_101 : decode cX8_lay 101 = .ok (.ireturn, 1) := by decide +kernel
set_option maxRecDepth 20000 in
theorem ggX8_read_X8_in : GoodIn wsX8_read wsX8_in := goodIn_r _ [11] (by decide +kernel) (by decide +kernel)
set_option maxRecDepth 20000 in
theorem gX8_read_X8_in : GoodIn wsX8_read (va_wsS RX8 52 yX8_in wsX8_in) := goodIn_app (goodIn_of _ (by decide +kernel)) ggX8_read_X8_in
set_option maxRecDepth 20000 in
theorem ggX8_read_X8_copies : GoodIn wsX8_read wsX8_copies := goodIn_r _ [15, 16, 22, 23, 24, 25, 26, 27, 28, 29, 30, 31, 32, 33, 34, 35, 36, 37, 38, 39, 40, 41, 42, 43, 44, 45] (by decide +kernel) (by decide +kernel)
set_option maxRecDepth 20000 in
theorem gX8_read_X8_copies : GoodIn wsX8_read (wsV RX8 170 RX8 yX8_copies wsX8_copies) := goodIn_app (goodIn_of _ (by decide +kernel)) ggX8_read_X8_copies
set_option maxRecDepth 20000 in
theorem ggX8_read_X8_prints : GoodIn wsX8_read wsX8_prints := goodIn_r _ [20, 1, 21, 16, 8, 9, 10, 11, 22, 23, 24, 25, 26, 27, 28, 29, 30, 31, 32, 33, 34, 35, 36, 37, 38, 39, 40, 41, 42, 43, 44, 45] (by decide +kernel) (by decide +kernel)
set_option maxRecDepth 20000 in
theorem gX8_read_X8_prints : GoodIn wsX8_read (wsV RX8 162 RX8 yX8_prints wsX8_prints) := goodIn_app (goodIn_of _ (by decide +kernel)) ggX8_read_X8_prints
theorem dX8_read_0 : decode cX8_read 0 = .ok (.iload_n 1, 1) := by decide +kernel
theorem dX8_read_1 : decode cX8_read 1 = .ok (.i2l, 1) := by decide +kernel
theorem dX8_read_2 : decode cX8_read 2 = .ok (.lconst 0, 1) := by decide +kernel
theorem dX8_read_3 : decode cX8_read 3 = .ok (.ldc2_w 138, 3) := by decide +kernel
theorem dX8_read_6 : decode cX8_read 6 = .ok (.invokestatic 52, 3) := by decide +kernel
theorem dX8_read_9 : decode cX8_read 9 = .ok (.ifCond .eq 28, 3) := by decide +kernel
theorem dX8_read_12 : decode cX8_read 12 = .ok (.iload_n 2, 1) := by decide +kernel
theorem dX8_read_13 : decode cX8_read 13 = .ok (.i2l, 1) := by decide +kernel
theorem dX8_read_14 : decode cX8_read 14 = .ok (.lconst 0, 1) := by decide +kernel
theorem dX8_read_15 : decode cX8_read 15 = .ok (.ldc2_w 143, 3) := by decide +kernel
theorem dX8_read_18 : decode cX8_read 18 = .ok (.invokestatic 52, 3) := by decide +kernel
theorem dX8_read_21 : decode cX8_read 21 = .ok (.ifCond .eq 16, 3) := by decide +kernel
theorem dX8_read_24 : decode cX8_read 24 = .ok (.iload 4, 2) := by decide +kernel
theorem dX8_read_26 : decode cX8_read 26 = .ok (.i2l, 1) := by decide +kernel
theorem dX8_read_27 : decode cX8_read 27 = .ok (.lconst 0, 1) := by decide +kernel
theorem dX8_read_28 : decode cX8_read 28 = .ok (.ldc2_w 207, 3) := by decide +kernel
theorem dX8_read_31 : decode cX8_read 31 = .ok (.invokestatic 52, 3) := by decide +kernel
theorem dX8_read_34 : decode cX8_read 34 = .ok (.ifCond .ne 5, 3) := by decide +kernel
theorem dX8_read_37 : decode cX8_read 37 = .ok (.iconst (-1), 1) := by decide +kernel
theorem dX8_read_38 : decode cX8_read 38 = .ok (.ireturn, 1) := by decide +kernel
theorem dX8_read_39 : decode cX8_read 39 = .ok (.aload_n 0, 1) := by decide +kernel
theorem dX8_read_40 : decode cX8_read 40 = .ok (.iconst 0, 1) := by decide +kernel
theorem dX8_read_41 : decode cX8_read 41 = .ok (.bipush 120, 2) := by decide +kernel
theorem dX8_read_43 : decode cX8_read 43 = .ok (.invokevirtual 170, 3) := by decide +kernel
theorem dX8_read_46 : decode cX8_read 46 = .ok (.iconst 0, 1) := by decide +kernel
theorem dX8_read_47 : decode cX8_read 47 = .ok (.istore 5, 2) := by decide +kernel
theorem dX8_read_49 : decode cX8_read 49 = .ok (.iconst 0, 1) := by decide +kernel
theorem dX8_read_50 : decode cX8_read 50 = .ok (.istore 6, 2) := by decide +kernel
theorem dX8_read_52 : decode cX8_read 52 = .ok (.iconst 0, 1) := by decide +kernel
theorem dX8_read_53 : decode cX8_read 53 = .ok (.istore 7, 2) := by decide +kernel
theorem dX8_read_55 : decode cX8_read 55 = .ok (.iload 7, 2) := by decide +kernel
theorem dX8_read_57 : decode cX8_read 57 = .ok (.iconst 2, 1) := by decide +kernel
theorem dX8_read_58 : decode cX8_read 58 = .ok (.iload 4, 2) := by decide +kernel
theorem dX8_read_60 : decode cX8_read 60 = .ok (.imul, 1) := by decide +kernel
theorem dX8_read_61 : decode cX8_read 61 = .ok (.if_icmp .ge 135, 3) := by decide +kernel
theorem dX8_read_64 : decode cX8_read 64 = .ok (.iload 5, 2) := by decide +kernel
theorem dX8_read_66 : decode cX8_read 66 = .ok (.ifCond .ne 130, 3) := by decide +kernel
theorem dX8_read_69 : decode cX8_read 69 = .ok (.aload_n 0, 1) := by decide +kernel
theorem dX8_read_70 : decode cX8_read 70 = .ok (.getfield 41, 3) := by decide +kernel
theorem dX8_read_73 : decode cX8_read 73 = .ok (.iload_n 1, 1) := by decide +kernel
theorem dX8_read_74 : decode cX8_read 74 = .ok (.iaload, 1) := by decide +kernel
theorem dX8_read_75 : decode cX8_read 75 = .ok (.bipush (-4), 2) := by decide +kernel
theorem dX8_read_77 : decode cX8_read 77 = .ok (.if_icmp .ne 7, 3) := by decide +kernel
theorem dX8_read_80 : decode cX8_read 80 = .ok (.iconst 1, 1) := by decide +kernel
theorem dX8_read_81 : decode cX8_read 81 = .ok (.goto 44, 3) := by decide +kernel
theorem dX8_read_84 : decode cX8_read 84 = .ok (.aload_n 0, 1) := by decide +kernel
theorem dX8_read_85 : decode cX8_read 85 = .ok (.getfield 41, 3) := by decide +kernel
theorem dX8_read_88 : decode cX8_read 88 = .ok (.iload_n 1, 1) := by decide +kernel
theorem dX8_read_89 : decode cX8_read 89 = .ok (.iaload, 1) := by decide +kernel
theorem dX8_read_90 : decode cX8_read 90 = .ok (.iload_n 2, 1) := by decide +kernel
theorem dX8_read_91 : decode cX8_read 91 = .ok (.if_icmp .eq 7, 3) := by decide +kernel
theorem dX8_read_94 : decode cX8_read 94 = .ok (.iconst 3, 1) := by decide +kernel
theorem dX8_read_95 : decode cX8_read 95 = .ok (.goto 30, 3) := by decide +kernel
theorem dX8_read_98 : decode cX8_read 98 = .ok (.iload_n 3, 1) := by decide +kernel
theorem dX8_read_99 : decode cX8_read 99 = .ok (.i2l, 1) := by decide +kernel
theorem dX8_read_100 : decode cX8_read 100 = .ok (.iload 7, 2) := by decide +kernel
theorem dX8_read_102 : decode cX8_read 102 = .ok (.i2l, 1) := by decide +kernel
theorem dX8_read_103 : decode cX8_read 103 = .ok (.ladd, 1) := by decide +kernel
theorem dX8_read_104 : decode cX8_read 104 = .ok (.lconst 0, 1) := by decide +kernel
theorem dX8_read_105 : decode cX8_read 105 = .ok (.aload_n 0, 1) := by decide +kernel
theorem dX8_read_106 : decode cX8_read 106 = .ok (.getfield 44, 3) := by decide +kernel
theorem dX8_read_109 : decode cX8_read 109 = .ok (.iload_n 1, 1) := by decide +kernel
theorem dX8_read_110 : decode cX8_read 110 = .ok (.iaload, 1) := by decide +kernel
theorem dX8_read_111 : decode cX8_read 111 = .ok (.iconst 1, 1) := by decide +kernel
theorem dX8_read_112 : decode cX8_read 112 = .ok (.isub, 1) := by decide +kernel
theorem dX8_read_113 : decode cX8_read 113 = .ok (.i2l, 1) := by decide +kernel
theorem dX8_read_114 : decode cX8_read 114 = .ok (.invokestatic 52, 3) := by decide +kernel
theorem dX8_read_117 : decode cX8_read 117 = .ok (.ifCond .ne 7, 3) := by decide +kernel
theorem dX8_read_120 : decode cX8_read 120 = .ok (.iconst 2, 1) := by decide +kernel
theorem dX8_read_121 : decode cX8_read 121 = .ok (.goto 4, 3) := by decide +kernel
theorem dX8_read_124 : decode cX8_read 124 = .ok (.iconst 0, 1) := by decide +kernel
theorem dX8_read_125 : decode cX8_read 125 = .ok (.istore 5, 2) := by decide +kernel
theorem dX8_read_127 : decode cX8_read 127 = .ok (.iload 5, 2) := by decide +kernel
theorem dX8_read_129 : decode cX8_read 129 = .ok (.ifCond .ne 61, 3) := by decide +kernel
theorem dX8_read_132 : decode cX8_read 132 = .ok (.iload 7, 2) := by decide +kernel
theorem dX8_read_134 : decode cX8_read 134 = .ok (.iconst 2, 1) := by decide +kernel
theorem dX8_read_135 : decode cX8_read 135 = .ok (.irem, 1) := by decide +kernel
theorem dX8_read_136 : decode cX8_read 136 = .ok (.iconst 1, 1) := by decide +kernel
theorem dX8_read_137 : decode cX8_read 137 = .ok (.if_icmp .ne 53, 3) := by decide +kernel
theorem dX8_read_140 : decode cX8_read 140 = .ok (.bipush 40, 2) := by decide +kernel
theorem dX8_read_142 : decode cX8_read 142 = .ok (.iload_n 1, 1) := by decide +kernel
theorem dX8_read_143 : decode cX8_read 143 = .ok (.imul, 1) := by decide +kernel
theorem dX8_read_144 : decode cX8_read 144 = .ok (.iload_n 3, 1) := by decide +kernel
theorem dX8_read_145 : decode cX8_read 145 = .ok (.iadd, 1) := by decide +kernel
theorem dX8_read_146 : decode cX8_read 146 = .ok (.iload 7, 2) := by decide +kernel
theorem dX8_read_148 : decode cX8_read 148 = .ok (.iadd, 1) := by decide +kernel
theorem dX8_read_149 : decode cX8_read 149 = .ok (.istore 8, 2) := by decide +kernel
theorem dX8_read_151 : decode cX8_read 151 = .ok (.aload_n 0, 1) := by decide +kernel
theorem dX8_read_152 : decode cX8_read 152 = .ok (.aload_n 0, 1) := by decide +kernel
theorem dX8_read_153 : decode cX8_read 153 = .ok (.getfield 47, 3) := by decide +kernel
theorem dX8_read_156 : decode cX8_read 156 = .ok (.iload 8, 2) := by decide +kernel
theorem dX8_read_158 : decode cX8_read 158 = .ok (.iconst 1, 1) := by decide +kernel
theorem dX8_read_159 : decode cX8_read 159 = .ok (.isub, 1) := by decide +kernel
theorem dX8_read_160 : decode cX8_read 160 = .ok (.iaload, 1) := by decide +kernel
theorem dX8_read_161 : decode cX8_read 161 = .ok (.aload_n 0, 1) := by decide +kernel
theorem dX8_read_162 : decode cX8_read 162 = .ok (.getfield 47, 3) := by decide +kernel
theorem dX8_read_165 : decode cX8_read 165 = .ok (.iload 8, 2) := by decide +kernel
theorem dX8_read_167 : decode cX8_read 167 = .ok (.iaload, 1) := by decide +kernel
theorem dX8_read_168 : decode cX8_read 168 = .ok (.invokevirtual 162, 3) := by decide +kernel
theorem dX8_read_171 : decode cX8_read 171 = .ok (.ifCond .ge 16, 3) := by decide +kernel
theorem dX8_read_174 : decode cX8_read 174 = .ok (.aload_n 0, 1) := by decide +kernel
theorem dX8_read_175 : decode cX8_read 175 = .ok (.bipush 120, 2) := by decide +kernel
theorem dX8_read_177 : decode cX8_read 177 = .ok (.iconst 0, 1) := by decide +kernel
theorem dX8_read_178 : decode cX8_read 178 = .ok (.invokevirtual 170, 3) := by decide +kernel
theorem dX8_read_181 : decode cX8_read 181 = .ok (.bipush (-20), 2) := by decide +kernel
theorem dX8_read_183 : decode cX8_read 183 = .ok (.iload 6, 2) := by decide +kernel
theorem dX8_read_185 : decode cX8_read 185 = .ok (.isub, 1) := by decide +kernel
theorem dX8_read_186 : decode cX8_read 186 = .ok (.ireturn, 1) := by decide +kernel
theorem dX8_read_187 : decode cX8_read 187 = .ok (.iinc 6 1, 3) := by decide +kernel
theorem dX8_read_190 : decode cX8_read 190 = .ok (.iinc 7 1, 3) := by decide +kernel
theorem dX8_read_193 : decode cX8_read 193 = .ok (.goto (-138), 3) := by decide +kernel
theorem dX8_read_196 : decode cX8_read 196 = .ok (.aload_n 0, 1) := by decide +kernel
theorem dX8_read_197 : decode cX8_read 197 = .ok (.iload 5, 2) := by decide +kernel
theorem dX8_read_199 : decode cX8_read 199 = .ok (.putfield 209, 3) := by decide +kernel
theorem dX8_read_202 : decode cX8_read 202 = .ok (.iload 6, 2) := by decide +kernel
theorem dX8_read_204 : decode cX8_read 204 = .ok (.ireturn, 1) := by decide +kernel
theorem dX8_torn_0 : decode cX8_torn 0 = .ok (.aload_n 0, 1) := by decide +kernel
theorem dX8_torn_1 : decode cX8_torn 1 = .ok (.getfield 209, 3) := by decide +kernel
theorem dX8_torn_4 : decode cX8_torn 4 = .ok (.ireturn, 1) := by decide +kernel
set_option maxRecDepth 20000 in
theorem ggX8_count_X8_longOn : GoodIn wsX8_count wsX8_longOn := goodIn_r _ [11, 1, 12, 13, 14, 15, 16, 17, 18, 19, 20, 21, 22, 23, 24, 25, 26, 27, 28, 29, 30, 31, 32, 33, 34, 35] (by decide +kernel) (by decide +kernel)
set_option maxRecDepth 20000 in
theorem gX8_count_X8_longOn : GoodIn wsX8_count (wsV RX8 122 RX8 yX8_longOn wsX8_longOn) := goodIn_app (goodIn_of _ (by decide +kernel)) ggX8_count_X8_longOn
theorem dX8_count_0 : decode cX8_count 0 = .ok (.iconst 0, 1) := by decide +kernel
theorem dX8_count_1 : decode cX8_count 1 = .ok (.istore_n 2, 1) := by decide +kernel
theorem dX8_count_2 : decode cX8_count 2 = .ok (.iconst 0, 1) := by decide +kernel
theorem dX8_count_3 : decode cX8_count 3 = .ok (.istore_n 3, 1) := by decide +kernel
theorem dX8_count_4 : decode cX8_count 4 = .ok (.iconst 0, 1) := by decide +kernel
theorem dX8_count_5 : decode cX8_count 5 = .ok (.istore 4, 2) := by decide +kernel
theorem dX8_count_7 : decode cX8_count 7 = .ok (.iload 4, 2) := by decide +kernel
theorem dX8_count_9 : decode cX8_count 9 = .ok (.aload_n 0, 1) := by decide +kernel
theorem dX8_count_10 : decode cX8_count 10 = .ok (.getfield 7, 3) := by decide +kernel
theorem dX8_count_13 : decode cX8_count 13 = .ok (.bipush 12, 2) := by decide +kernel
theorem dX8_count_15 : decode cX8_count 15 = .ok (.iaload, 1) := by decide +kernel
theorem dX8_count_16 : decode cX8_count 16 = .ok (.if_icmp .ge 22, 3) := by decide +kernel
theorem dX8_count_19 : decode cX8_count 19 = .ok (.iload_n 2, 1) := by decide +kernel
theorem dX8_count_20 : decode cX8_count 20 = .ok (.aload_n 0, 1) := by decide +kernel
theorem dX8_count_21 : decode cX8_count 21 = .ok (.getfield 7, 3) := by decide +kernel
theorem dX8_count_24 : decode cX8_count 24 = .ok (.bipush 6, 2) := by decide +kernel
theorem dX8_count_26 : decode cX8_count 26 = .ok (.iload 4, 2) := by decide +kernel
theorem dX8_count_28 : decode cX8_count 28 = .ok (.iadd, 1) := by decide +kernel
theorem dX8_count_29 : decode cX8_count 29 = .ok (.iaload, 1) := by decide +kernel
theorem dX8_count_30 : decode cX8_count 30 = .ok (.iadd, 1) := by decide +kernel
theorem dX8_count_31 : decode cX8_count 31 = .ok (.istore_n 2, 1) := by decide +kernel
theorem dX8_count_32 : decode cX8_count 32 = .ok (.iinc 4 1, 3) := by decide +kernel
theorem dX8_count_35 : decode cX8_count 35 = .ok (.goto (-28), 3) := by decide +kernel
theorem dX8_count_38 : decode cX8_count 38 = .ok (.iconst 0, 1) := by decide +kernel
theorem dX8_count_39 : decode cX8_count 39 = .ok (.istore 4, 2) := by decide +kernel
theorem dX8_count_41 : decode cX8_count 41 = .ok (.iload 4, 2) := by decide +kernel
theorem dX8_count_43 : decode cX8_count 43 = .ok (.aload_n 0, 1) := by decide +kernel
theorem dX8_count_44 : decode cX8_count 44 = .ok (.iconst 0, 1) := by decide +kernel
theorem dX8_count_45 : decode cX8_count 45 = .ok (.invokevirtual 122, 3) := by decide +kernel
theorem dX8_count_48 : decode cX8_count 48 = .ok (.if_icmp .ge 22, 3) := by decide +kernel
theorem dX8_count_51 : decode cX8_count 51 = .ok (.iload_n 3, 1) := by decide +kernel
theorem dX8_count_52 : decode cX8_count 52 = .ok (.aload_n 0, 1) := by decide +kernel
theorem dX8_count_53 : decode cX8_count 53 = .ok (.getfield 7, 3) := by decide +kernel
theorem dX8_count_56 : decode cX8_count 56 = .ok (.bipush 19, 2) := by decide +kernel
theorem dX8_count_58 : decode cX8_count 58 = .ok (.iload 4, 2) := by decide +kernel
theorem dX8_count_60 : decode cX8_count 60 = .ok (.iadd, 1) := by decide +kernel
theorem dX8_count_61 : decode cX8_count 61 = .ok (.iaload, 1) := by decide +kernel
theorem dX8_count_62 : decode cX8_count 62 = .ok (.iadd, 1) := by decide +kernel
theorem dX8_count_63 : decode cX8_count 63 = .ok (.istore_n 3, 1) := by decide +kernel
theorem dX8_count_64 : decode cX8_count 64 = .ok (.iinc 4 1, 3) := by decide +kernel
theorem dX8_count_67 : decode cX8_count 67 = .ok (.goto (-26), 3) := by decide +kernel
theorem dX8_count_70 : decode cX8_count 70 = .ok (.iload_n 1, 1) := by decide +kernel
theorem dX8_count_71 : decode cX8_count 71 = .ok (.tableswitch 104 0 5 #[37, 42, 72, 77, 100, 102], 37) := by decide +kernel
theorem dX8_count_108 : decode cX8_count 108 = .ok (.aload_n 0, 1) := by decide +kernel
theorem dX8_count_109 : decode cX8_count 109 = .ok (.getfield 119, 3) := by decide +kernel
theorem dX8_count_112 : decode cX8_count 112 = .ok (.ireturn, 1) := by decide +kernel
theorem dX8_count_113 : decode cX8_count 113 = .ok (.aload_n 0, 1) := by decide +kernel
theorem dX8_count_114 : decode cX8_count 114 = .ok (.getfield 37, 3) := by decide +kernel
theorem dX8_count_117 : decode cX8_count 117 = .ok (.iconst 0, 1) := by decide +kernel
theorem dX8_count_118 : decode cX8_count 118 = .ok (.baload, 1) := by decide +kernel
theorem dX8_count_119 : decode cX8_count 119 = .ok (.ifCond .eq 7, 3) := by decide +kernel
theorem dX8_count_122 : decode cX8_count 122 = .ok (.iconst 1, 1) := by decide +kernel
theorem dX8_count_123 : decode cX8_count 123 = .ok (.goto 4, 3) := by decide +kernel
theorem dX8_count_126 : decode cX8_count 126 = .ok (.iconst 0, 1) := by decide +kernel
theorem dX8_count_127 : decode cX8_count 127 = .ok (.aload_n 0, 1) := by decide +kernel
theorem dX8_count_128 : decode cX8_count 128 = .ok (.getfield 37, 3) := by decide +kernel
theorem dX8_count_131 : decode cX8_count 131 = .ok (.iconst 1, 1) := by decide +kernel
theorem dX8_count_132 : decode cX8_count 132 = .ok (.baload, 1) := by decide +kernel
theorem dX8_count_133 : decode cX8_count 133 = .ok (.ifCond .eq 7, 3) := by decide +kernel
theorem dX8_count_136 : decode cX8_count 136 = .ok (.iconst 1, 1) := by decide +kernel
theorem dX8_count_137 : decode cX8_count 137 = .ok (.goto 4, 3) := by decide +kernel
theorem dX8_count_140 : decode cX8_count 140 = .ok (.iconst 0, 1) := by decide +kernel
theorem dX8_count_141 : decode cX8_count 141 = .ok (.iadd, 1) := by decide +kernel
theorem dX8_count_142 : decode cX8_count 142 = .ok (.ireturn, 1) := by decide +kernel
theorem dX8_count_143 : decode cX8_count 143 = .ok (.aload_n 0, 1) := by decide +kernel
theorem dX8_count_144 : decode cX8_count 144 = .ok (.getfield 56, 3) := by decide +kernel
theorem dX8_count_147 : decode cX8_count 147 = .ok (.ireturn, 1) := by decide +kernel
theorem dX8_count_148 : decode cX8_count 148 = .ok (.aload_n 0, 1) := by decide +kernel
theorem dX8_count_149 : decode cX8_count 149 = .ok (.getfield 41, 3) := by decide +kernel
theorem dX8_count_152 : decode cX8_count 152 = .ok (.iconst 0, 1) := by decide +kernel
theorem dX8_count_153 : decode cX8_count 153 = .ok (.iaload, 1) := by decide +kernel
theorem dX8_count_154 : decode cX8_count 154 = .ok (.bipush (-4), 2) := by decide +kernel
theorem dX8_count_156 : decode cX8_count 156 = .ok (.if_icmp .ne 8, 3) := by decide +kernel
theorem dX8_count_159 : decode cX8_count 159 = .ok (.bipush (-4), 2) := by decide +kernel
theorem dX8_count_161 : decode cX8_count 161 = .ok (.goto 9, 3) := by decide +kernel
theorem dX8_count_164 : decode cX8_count 164 = .ok (.aload_n 0, 1) := by decide +kernel
theorem dX8_count_165 : decode cX8_count 165 = .ok (.getfield 44, 3) := by decide +kernel
theorem dX8_count_168 : decode cX8_count 168 = .ok (.iconst 0, 1) := by decide +kernel
theorem dX8_count_169 : decode cX8_count 169 = .ok (.iaload, 1) := by decide +kernel
theorem dX8_count_170 : decode cX8_count 170 = .ok (.ireturn, 1) := by decide +kernel
theorem dX8_count_171 : decode cX8_count 171 = .ok (.iload_n 2, 1) := by decide +kernel
theorem dX8_count_172 : decode cX8_count 172 = .ok (.ireturn, 1) := by decide +kernel
theorem dX8_count_173 : decode cX8_count 173 = .ok (.iload_n 3, 1) := by decide +kernel
theorem dX8_count_174 : decode cX8_count 174 = .ok (.ireturn, 1) := by decide +kernel
theorem dX8_count_175 : decode cX8_count 175 = .ok (.iconst (-1), 1) := by decide +kernel
theorem dX8_count_176 : decode cX8_count 176 = .ok (.ireturn, 1) := by decide +kernel

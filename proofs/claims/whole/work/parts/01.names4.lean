theorem dX10_isJoined_82 : decode cX10_isJoined 82 = .ok (.iload_n 1, 1) := by decide +kernel
theorem dX10_isJoined_83 : decode cX10_isJoined 83 = .ok (.imul, 1) := by decide +kernel
theorem dX10_isJoined_84 : decode cX10_isJoined 84 = .ok (.iload_n 2, 1) := by decide +kernel
theorem dX10_isJoined_85 : decode cX10_isJoined 85 = .ok (.iadd, 1) := by decide +kernel
theorem dX10_isJoined_86 : decode cX10_isJoined 86 = .ok (.iaload, 1) := by decide +kernel
theorem dX10_isJoined_87 : decode cX10_isJoined 87 = .ok (.iload_n 3, 1) := by decide +kernel
theorem dX10_isJoined_88 : decode cX10_isJoined 88 = .ok (.if_icmp .le 7, 3) := by decide +kernel
theorem dX10_isJoined_91 : decode cX10_isJoined 91 = .ok (.iconst 1, 1) := by decide +kernel
theorem dX10_isJoined_92 : decode cX10_isJoined 92 = .ok (.goto 4, 3) := by decide +kernel
theorem dX10_isJoined_95 : decode cX10_isJoined 95 = .ok (.iconst 0, 1) := by decide +kernel
theorem dX10_isJoined_96 : decode cX10_isJoined 96 = .ok (.ireturn, 1) := by decide +kernel
set_option maxRecDepth 20000 in
theorem ggX10_reaches_X10_isJoined : GoodIn wsX10_reaches wsX10_isJoined := goodIn_r _ [8, 9, 10, 11, 12, 13, 14, 15, 7, 16, 17, 18, 19, 20, 21, 22, 23, 24, 25, 26, 27, 28, 29, 30, 31, 32, 33, 34, 35, 36, 37, 38, 39, 40, 41, 42, 43, 44, 45, 46, 47, 48, 49, 50, 51, 52, 53, 54] (by decide +kernel) (by decide +kernel)
set_option maxRecDepth 20000 in
theorem gX10_reaches_X10_isJoined : GoodIn wsX10_reaches (wsV RX10 133 RX10 yX10_isJoined wsX10_isJoined) := goodIn_app (goodIn_of _ (by decide +kernel)) ggX10_reaches_X10_isJoined
theorem dX10_reaches_0 : decode cX10_reaches 0 = .ok (.iconst 0, 1) := by decide +kernel
theorem dX10_reaches_1 : decode cX10_reaches 1 = .ok (.istore_n 3, 1) := by decide +kernel
theorem dX10_reaches_2 : decode cX10_reaches 2 = .ok (.iload_n 3, 1) := by decide +kernel
theorem dX10_reaches_3 : decode cX10_reaches 3 = .ok (.aload_n 0, 1) := by decide +kernel
theorem dX10_reaches_4 : decode cX10_reaches 4 = .ok (.getfield 106, 3) := by decide +kernel
theorem dX10_reaches_7 : decode cX10_reaches 7 = .ok (.if_icmp .ge 25, 3) := by decide +kernel
theorem dX10_reaches_10 : decode cX10_reaches 10 = .ok (.aload_n 0, 1) := by decide +kernel
theorem dX10_reaches_11 : decode cX10_reaches 11 = .ok (.getfield 101, 3) := by decide +kernel
theorem dX10_reaches_14 : decode cX10_reaches 14 = .ok (.iload_n 3, 1) := by decide +kernel
theorem dX10_reaches_15 : decode cX10_reaches 15 = .ok (.iload_n 3, 1) := by decide +kernel
theorem dX10_reaches_16 : decode cX10_reaches 16 = .ok (.iload_n 1, 1) := by decide +kernel
theorem dX10_reaches_17 : decode cX10_reaches 17 = .ok (.if_icmp .ne 7, 3) := by decide +kernel
theorem dX10_reaches_20 : decode cX10_reaches 20 = .ok (.iconst 1, 1) := by decide +kernel
theorem dX10_reaches_21 : decode cX10_reaches 21 = .ok (.goto 4, 3) := by decide +kernel
theorem dX10_reaches_24 : decode cX10_reaches 24 = .ok (.iconst 0, 1) := by decide +kernel
theorem dX10_reaches_25 : decode cX10_reaches 25 = .ok (.bastore, 1) := by decide +kernel
theorem dX10_reaches_26 : decode cX10_reaches 26 = .ok (.iinc 3 1, 3) := by decide +kernel
theorem dX10_reaches_29 : decode cX10_reaches 29 = .ok (.goto (-27), 3) := by decide +kernel
theorem dX10_reaches_32 : decode cX10_reaches 32 = .ok (.iconst 1, 1) := by decide +kernel
theorem dX10_reaches_33 : decode cX10_reaches 33 = .ok (.istore_n 3, 1) := by decide +kernel
theorem dX10_reaches_34 : decode cX10_reaches 34 = .ok (.iconst 1, 1) := by decide +kernel
theorem dX10_reaches_35 : decode cX10_reaches 35 = .ok (.istore 4, 2) := by decide +kernel
theorem dX10_reaches_37 : decode cX10_reaches 37 = .ok (.iload 4, 2) := by decide +kernel
theorem dX10_reaches_39 : decode cX10_reaches 39 = .ok (.ifCond .eq 105, 3) := by decide +kernel
theorem dX10_reaches_42 : decode cX10_reaches 42 = .ok (.iconst 0, 1) := by decide +kernel
theorem dX10_reaches_43 : decode cX10_reaches 43 = .ok (.istore 4, 2) := by decide +kernel
theorem dX10_reaches_45 : decode cX10_reaches 45 = .ok (.iconst 0, 1) := by decide +kernel
theorem dX10_reaches_46 : decode cX10_reaches 46 = .ok (.istore 5, 2) := by decide +kernel
theorem dX10_reaches_48 : decode cX10_reaches 48 = .ok (.iload 5, 2) := by decide +kernel
theorem dX10_reaches_50 : decode cX10_reaches 50 = .ok (.aload_n 0, 1) := by decide +kernel
theorem dX10_reaches_51 : decode cX10_reaches 51 = .ok (.getfield 106, 3) := by decide +kernel
theorem dX10_reaches_54 : decode cX10_reaches 54 = .ok (.if_icmp .ge 87, 3) := by decide +kernel
theorem dX10_reaches_57 : decode cX10_reaches 57 = .ok (.iconst 0, 1) := by decide +kernel
theorem dX10_reaches_58 : decode cX10_reaches 58 = .ok (.istore 6, 2) := by decide +kernel
theorem dX10_reaches_60 : decode cX10_reaches 60 = .ok (.iload 6, 2) := by decide +kernel
theorem dX10_reaches_62 : decode cX10_reaches 62 = .ok (.aload_n 0, 1) := by decide +kernel
theorem dX10_reaches_63 : decode cX10_reaches 63 = .ok (.getfield 106, 3) := by decide +kernel
theorem dX10_reaches_66 : decode cX10_reaches 66 = .ok (.if_icmp .ge 69, 3) := by decide +kernel
theorem dX10_reaches_69 : decode cX10_reaches 69 = .ok (.aload_n 0, 1) := by decide +kernel
theorem dX10_reaches_70 : decode cX10_reaches 70 = .ok (.getfield 101, 3) := by decide +kernel
theorem dX10_reaches_73 : decode cX10_reaches 73 = .ok (.iload 5, 2) := by decide +kernel
theorem dX10_reaches_75 : decode cX10_reaches 75 = .ok (.baload, 1) := by decide +kernel
theorem dX10_reaches_76 : decode cX10_reaches 76 = .ok (.ifCond .eq 59, 3) := by decide +kernel
theorem dX10_reaches_79 : decode cX10_reaches 79 = .ok (.aload_n 0, 1) := by decide +kernel
theorem dX10_reaches_80 : decode cX10_reaches 80 = .ok (.getfield 101, 3) := by decide +kernel
theorem dX10_reaches_83 : decode cX10_reaches 83 = .ok (.iload 6, 2) := by decide +kernel
theorem dX10_reaches_85 : decode cX10_reaches 85 = .ok (.baload, 1) := by decide +kernel
theorem dX10_reaches_86 : decode cX10_reaches 86 = .ok (.ifCond .ne 43, 3) := by decide +kernel
theorem dX10_reaches_89 : decode cX10_reaches 89 = .ok (.aload_n 0, 1) := by decide +kernel
theorem dX10_reaches_90 : decode cX10_reaches 90 = .ok (.getfield 37, 3) := by decide +kernel
theorem dX10_reaches_93 : decode cX10_reaches 93 = .ok (.iload 6, 2) := by decide +kernel
theorem dX10_reaches_95 : decode cX10_reaches 95 = .ok (.iaload, 1) := by decide +kernel
theorem dX10_reaches_96 : decode cX10_reaches 96 = .ok (.iload_n 2, 1) := by decide +kernel
theorem dX10_reaches_97 : decode cX10_reaches 97 = .ok (.if_icmp .gt 32, 3) := by decide +kernel
theorem dX10_reaches_100 : decode cX10_reaches 100 = .ok (.aload_n 0, 1) := by decide +kernel
theorem dX10_reaches_101 : decode cX10_reaches 101 = .ok (.iload 5, 2) := by decide +kernel
theorem dX10_reaches_103 : decode cX10_reaches 103 = .ok (.iload 6, 2) := by decide +kernel
theorem dX10_reaches_105 : decode cX10_reaches 105 = .ok (.iload_n 2, 1) := by decide +kernel
theorem dX10_reaches_106 : decode cX10_reaches 106 = .ok (.invokevirtual 133, 3) := by decide +kernel
theorem dX10_reaches_109 : decode cX10_reaches 109 = .ok (.ifCond .ne 6, 3) := by decide +kernel
theorem dX10_reaches_112 : decode cX10_reaches 112 = .ok (.goto 17, 3) := by decide +kernel
theorem dX10_reaches_115 : decode cX10_reaches 115 = .ok (.aload_n 0, 1) := by decide +kernel
theorem dX10_reaches_116 : decode cX10_reaches 116 = .ok (.getfield 101, 3) := by decide +kernel
theorem dX10_reaches_119 : decode cX10_reaches 119 = .ok (.iload 6, 2) := by decide +kernel
theorem dX10_reaches_121 : decode cX10_reaches 121 = .ok (.iconst 1, 1) := by decide +kernel
theorem dX10_reaches_122 : decode cX10_reaches 122 = .ok (.bastore, 1) := by decide +kernel
theorem dX10_reaches_123 : decode cX10_reaches 123 = .ok (.iconst 1, 1) := by decide +kernel
theorem dX10_reaches_124 : decode cX10_reaches 124 = .ok (.istore 4, 2) := by decide +kernel
theorem dX10_reaches_126 : decode cX10_reaches 126 = .ok (.iinc 3 1, 3) := by decide +kernel
theorem dX10_reaches_129 : decode cX10_reaches 129 = .ok (.iinc 6 1, 3) := by decide +kernel
theorem dX10_reaches_132 : decode cX10_reaches 132 = .ok (.goto (-72), 3) := by decide +kernel
theorem dX10_reaches_135 : decode cX10_reaches 135 = .ok (.iinc 5 1, 3) := by decide +kernel
theorem dX10_reaches_138 : decode cX10_reaches 138 = .ok (.goto (-90), 3) := by decide +kernel
theorem dX10_reaches_141 : decode cX10_reaches 141 = .ok (.goto (-104), 3) := by decide +kernel
theorem dX10_reaches_144 : decode cX10_reaches 144 = .ok (.iload_n 3, 1) := by decide +kernel
theorem dX10_reaches_145 : decode cX10_reaches 145 = .ok (.ireturn, 1) := by decide +kernel
set_option maxRecDepth 20000 in
theorem ggX10_hoard_X10_isFind : GoodIn wsX10_hoard wsX10_isFind := goodIn_r _ [7, 8, 9, 10, 6, 11, 26, 27, 28, 29, 30, 31, 32, 33, 34, 35, 36, 37, 38, 39, 40, 41, 42, 43, 44, 45, 46, 47, 48, 49, 50, 51, 52, 53, 54, 55, 56, 57, 58, 59, 60, 61, 62, 63] (by decide +kernel) (by decide +kernel)
set_option maxRecDepth 20000 in
theorem gX10_hoard_X10_isFind : GoodIn wsX10_hoard (wsV RX10 127 RX10 yX10_isFind wsX10_isFind) := goodIn_app (goodIn_of _ (by decide +kernel)) ggX10_hoard_X10_isFind
set_option maxRecDepth 20000 in
theorem ggX10_hoard_X10_reaches : GoodIn wsX10_hoard wsX10_reaches := goodIn_r _ [15, 8, 2, 16, 17, 18, 19, 6, 20, 21, 22, 23, 24, 25, 9, 10, 11, 26, 27, 28, 29, 30, 31, 32, 33, 34, 35, 36, 37, 38, 39, 40, 41, 42, 43, 44, 45, 46, 47, 48, 49, 50, 51, 52, 53, 54, 55, 56, 57, 58, 59, 60, 61, 62, 63] (by decide +kernel) (by decide +kernel)
set_option maxRecDepth 20000 in
theorem gX10_hoard_X10_reaches : GoodIn wsX10_hoard (wsV RX10 136 RX10 yX10_reaches wsX10_reaches) := goodIn_app (goodIn_of _ (by decide +kernel)) ggX10_hoard_X10_reaches
theorem dX10_hoard_0 : decode cX10_hoard 0 = .ok (.aload_n 0, 1) := by decide +kernel
theorem dX10_hoard_1 : decode cX10_hoard 1 = .ok (.iload_n 1, 1) := by decide +kernel
theorem dX10_hoard_2 : decode cX10_hoard 2 = .ok (.invokevirtual 127, 3) := by decide +kernel
theorem dX10_hoard_5 : decode cX10_hoard 5 = .ok (.ifCond .ne 5, 3) := by decide +kernel
theorem dX10_hoard_8 : decode cX10_hoard 8 = .ok (.iconst (-1), 1) := by decide +kernel
theorem dX10_hoard_9 : decode cX10_hoard 9 = .ok (.ireturn, 1) := by decide +kernel
theorem dX10_hoard_10 : decode cX10_hoard 10 = .ok (.aload_n 0, 1) := by decide +kernel
theorem dX10_hoard_11 : decode cX10_hoard 11 = .ok (.iload_n 1, 1) := by decide +kernel
theorem dX10_hoard_12 : decode cX10_hoard 12 = .ok (.aload_n 0, 1) := by decide +kernel
theorem dX10_hoard_13 : decode cX10_hoard 13 = .ok (.getfield 113, 3) := by decide +kernel
theorem dX10_hoard_16 : decode cX10_hoard 16 = .ok (.invokevirtual 136, 3) := by decide +kernel
theorem dX10_hoard_19 : decode cX10_hoard 19 = .ok (.pop, 1) := by decide +kernel
theorem dX10_hoard_20 : decode cX10_hoard 20 = .ok (.iconst 0, 1) := by decide +kernel
theorem dX10_hoard_21 : decode cX10_hoard 21 = .ok (.istore_n 2, 1) := by decide +kernel
theorem dX10_hoard_22 : decode cX10_hoard 22 = .ok (.aload_n 0, 1) := by decide +kernel
theorem dX10_hoard_23 : decode cX10_hoard 23 = .ok (.getfield 101, 3) := by decide +kernel
theorem dX10_hoard_26 : decode cX10_hoard 26 = .ok (.iload_n 2, 1) := by decide +kernel
theorem dX10_hoard_27 : decode cX10_hoard 27 = .ok (.baload, 1) := by decide +kernel
theorem dX10_hoard_28 : decode cX10_hoard 28 = .ok (.ifCond .ne 9, 3) := by decide +kernel
theorem dX10_hoard_31 : decode cX10_hoard 31 = .ok (.iinc 2 1, 3) := by decide +kernel
theorem dX10_hoard_34 : decode cX10_hoard 34 = .ok (.goto (-12), 3) := by decide +kernel
theorem dX10_hoard_37 : decode cX10_hoard 37 = .ok (.iload_n 2, 1) := by decide +kernel
theorem dX10_hoard_38 : decode cX10_hoard 38 = .ok (.ireturn, 1) := by decide +kernel
set_option maxRecDepth 20000 in
theorem ggX10_isKnown_X10_isFind : GoodIn wsX10_isKnown wsX10_isFind := goodIn_r _ [7, 8, 9, 10, 6, 11, 12, 13, 14, 15, 16, 17, 18, 19, 20, 21, 22, 23, 24, 25, 26, 27, 28, 29, 30, 31, 32, 33, 34, 35, 36, 37, 38, 39, 40, 41, 42, 43, 44, 45, 46, 47, 48, 49] (by decide +kernel) (by decide +kernel)
set_option maxRecDepth 20000 in
theorem gX10_isKnown_X10_isFind : GoodIn wsX10_isKnown (wsV RX10 127 RX10 yX10_isFind wsX10_isFind) := goodIn_app (goodIn_of _ (by decide +kernel)) ggX10_isKnown_X10_isFind
set_option maxRecDepth 20000 in
theorem ggX10_isKnown_X10_in : GoodIn wsX10_isKnown wsX10_in := goodIn_r _ [11] (by decide +kernel) (by decide +kernel)
set_option maxRecDepth 20000 in
theorem gX10_isKnown_X10_in : GoodIn wsX10_isKnown (va_wsS RX10 109 yX10_in wsX10_in) := goodIn_app (goodIn_of _ (by decide +kernel)) ggX10_isKnown_X10_in
theorem dX10_isKnown_0 : decode cX10_isKnown 0 = .ok (.aload_n 0, 1) := by decide +kernel
theorem dX10_isKnown_1 : decode cX10_isKnown 1 = .ok (.iload_n 1, 1) := by decide +kernel
theorem dX10_isKnown_2 : decode cX10_isKnown 2 = .ok (.invokevirtual 127, 3) := by decide +kernel
theorem dX10_isKnown_5 : decode cX10_isKnown 5 = .ok (.ifCond .eq 29, 3) := by decide +kernel
theorem dX10_isKnown_8 : decode cX10_isKnown 8 = .ok (.iload_n 2, 1) := by decide +kernel
theorem dX10_isKnown_9 : decode cX10_isKnown 9 = .ok (.iconst 0, 1) := by decide +kernel
theorem dX10_isKnown_10 : decode cX10_isKnown 10 = .ok (.aload_n 0, 1) := by decide +kernel
theorem dX10_isKnown_11 : decode cX10_isKnown 11 = .ok (.getfield 113, 3) := by decide +kernel
theorem dX10_isKnown_14 : decode cX10_isKnown 14 = .ok (.invokestatic 109, 3) := by decide +kernel
theorem dX10_isKnown_17 : decode cX10_isKnown 17 = .ok (.ifCond .eq 17, 3) := by decide +kernel
theorem dX10_isKnown_20 : decode cX10_isKnown 20 = .ok (.aload_n 0, 1) := by decide +kernel
theorem dX10_isKnown_21 : decode cX10_isKnown 21 = .ok (.getfield 37, 3) := by decide +kernel
theorem dX10_isKnown_24 : decode cX10_isKnown 24 = .ok (.iload_n 1, 1) := by decide +kernel
theorem dX10_isKnown_25 : decode cX10_isKnown 25 = .ok (.iaload, 1) := by decide +kernel
theorem dX10_isKnown_26 : decode cX10_isKnown 26 = .ok (.iload_n 2, 1) := by decide +kernel
theorem dX10_isKnown_27 : decode cX10_isKnown 27 = .ok (.if_icmp .gt 7, 3) := by decide +kernel
theorem dX10_isKnown_30 : decode cX10_isKnown 30 = .ok (.iconst 1, 1) := by decide +kernel
theorem dX10_isKnown_31 : decode cX10_isKnown 31 = .ok (.goto 4, 3) := by decide +kernel
theorem dX10_isKnown_34 : decode cX10_isKnown 34 = .ok (.iconst 0, 1) := by decide +kernel
theorem dX10_isKnown_35 : decode cX10_isKnown 35 = .ok (.ireturn, 1) := by decide +kernel
set_option maxRecDepth 20000 in
theorem ggX10_size_X10_isKnown : GoodIn wsX10_size wsX10_isKnown := goodIn_r _ [5, 6, 7, 8, 9, 10, 4, 11, 12, 13, 14, 15, 30, 31, 32, 33, 34, 35, 36, 37, 38, 39, 40, 41, 42, 43, 44, 45, 46, 47, 48, 49, 50, 51, 52, 53, 54, 55, 56, 57, 58, 59, 60, 61, 62, 63, 64, 65, 66, 67] (by decide +kernel) (by decide +kernel)
set_option maxRecDepth 20000 in
theorem gX10_size_X10_isKnown : GoodIn wsX10_size (wsV RX10 140 RX10 yX10_isKnown wsX10_isKnown) := goodIn_app (goodIn_of _ (by decide +kernel)) ggX10_size_X10_isKnown
set_option maxRecDepth 20000 in
theorem ggX10_size_X10_reaches : GoodIn wsX10_size wsX10_reaches := goodIn_r _ [19, 12, 20, 7, 21, 22, 23, 4, 24, 25, 26, 27, 28, 29, 13, 14, 15, 30, 31, 32, 33, 34, 35, 36, 37, 38, 39, 40, 41, 42, 43, 44, 45, 46, 47, 48, 49, 50, 51, 52, 53, 54, 55, 56, 57, 58, 59, 60, 61, 62, 63, 64, 65, 66, 67] (by decide +kernel) (by decide +kernel)
set_option maxRecDepth 20000 in
theorem gX10_size_X10_reaches : GoodIn wsX10_size (wsV RX10 136 RX10 yX10_reaches wsX10_reaches) := goodIn_app (goodIn_of _ (by decide +kernel)) ggX10_size_X10_reaches
theorem dX10_size_0 : decode cX10_size 0 = .ok (.aload_n 0, 1) := by decide +kernel
theorem dX10_size_1 : decode cX10_size 1 = .ok (.iload_n 1, 1) := by decide +kernel
theorem dX10_size_2 : decode cX10_size 2 = .ok (.iload_n 2, 1) := by decide +kernel
theorem dX10_size_3 : decode cX10_size 3 = .ok (.invokevirtual 140, 3) := by decide +kernel
theorem dX10_size_6 : decode cX10_size 6 = .ok (.ifCond .eq 12, 3) := by decide +kernel
theorem dX10_size_9 : decode cX10_size 9 = .ok (.aload_n 0, 1) := by decide +kernel
theorem dX10_size_10 : decode cX10_size 10 = .ok (.iload_n 1, 1) := by decide +kernel
theorem dX10_size_11 : decode cX10_size 11 = .ok (.iload_n 2, 1) := by decide +kernel
theorem dX10_size_12 : decode cX10_size 12 = .ok (.invokevirtual 136, 3) := by decide +kernel
theorem dX10_size_15 : decode cX10_size 15 = .ok (.goto 4, 3) := by decide +kernel
theorem dX10_size_18 : decode cX10_size 18 = .ok (.iconst (-1), 1) := by decide +kernel
theorem dX10_size_19 : decode cX10_size 19 = .ok (.ireturn, 1) := by decide +kernel
theorem dX10_lawOf_0 : decode cX10_lawOf 0 = .ok (.iconst (-1), 1) := by decide +kernel
theorem dX10_lawOf_1 : decode cX10_lawOf 1 = .ok (.istore_n 2, 1) := by decide +kernel
theorem dX10_lawOf_2 : decode cX10_lawOf 2 = .ok (.iconst 0, 1) := by decide +kernel
theorem dX10_lawOf_3 : decode cX10_lawOf 3 = .ok (.istore_n 3, 1) := by decide +kernel
theorem dX10_lawOf_4 : decode cX10_lawOf 4 = .ok (.iload_n 3, 1) := by decide +kernel
theorem dX10_lawOf_5 : decode cX10_lawOf 5 = .ok (.aload_n 0, 1) := by decide +kernel
theorem dX10_lawOf_6 : decode cX10_lawOf 6 = .ok (.getfield 116, 3) := by decide +kernel
theorem dX10_lawOf_9 : decode cX10_lawOf 9 = .ok (.if_icmp .ge 41, 3) := by decide +kernel
theorem dX10_lawOf_12 : decode cX10_lawOf 12 = .ok (.aload_n 0, 1) := by decide +kernel
theorem dX10_lawOf_13 : decode cX10_lawOf 13 = .ok (.getfield 46, 3) := by decide +kernel
theorem dX10_lawOf_16 : decode cX10_lawOf 16 = .ok (.iload_n 3, 1) := by decide +kernel
theorem dX10_lawOf_17 : decode cX10_lawOf 17 = .ok (.iaload, 1) := by decide +kernel
theorem dX10_lawOf_18 : decode cX10_lawOf 18 = .ok (.iload_n 1, 1) := by decide +kernel
theorem dX10_lawOf_19 : decode cX10_lawOf 19 = .ok (.if_icmp .gt 25, 3) := by decide +kernel
theorem dX10_lawOf_22 : decode cX10_lawOf 22 = .ok (.iload_n 2, 1) := by decide +kernel
theorem dX10_lawOf_23 : decode cX10_lawOf 23 = .ok (.iconst (-1), 1) := by decide +kernel
theorem dX10_lawOf_24 : decode cX10_lawOf 24 = .ok (.if_icmp .eq 18, 3) := by decide +kernel
theorem dX10_lawOf_27 : decode cX10_lawOf 27 = .ok (.aload_n 0, 1) := by decide +kernel
theorem dX10_lawOf_28 : decode cX10_lawOf 28 = .ok (.getfield 46, 3) := by decide +kernel
theorem dX10_lawOf_31 : decode cX10_lawOf 31 = .ok (.iload_n 3, 1) := by decide +kernel
theorem dX10_lawOf_32 : decode cX10_lawOf 32 = .ok (.iaload, 1) := by decide +kernel
theorem dX10_lawOf_33 : decode cX10_lawOf 33 = .ok (.aload_n 0, 1) := by decide +kernel
theorem dX10_lawOf_34 : decode cX10_lawOf 34 = .ok (.getfield 46, 3) := by decide +kernel
theorem dX10_lawOf_37 : decode cX10_lawOf 37 = .ok (.iload_n 2, 1) := by decide +kernel
theorem dX10_lawOf_38 : decode cX10_lawOf 38 = .ok (.iaload, 1) := by decide +kernel
theorem dX10_lawOf_39 : decode cX10_lawOf 39 = .ok (.if_icmp .lt 5, 3) := by decide +kernel
theorem dX10_lawOf_42 : decode cX10_lawOf 42 = .ok (.iload_n 3, 1) := by decide +kernel
theorem dX10_lawOf_43 : decode cX10_lawOf 43 = .ok (.istore_n 2, 1) := by decide +kernel
theorem dX10_lawOf_44 : decode cX10_lawOf 44 = .ok (.iinc 3 1, 3) := by decide +kernel
theorem dX10_lawOf_47 : decode cX10_lawOf 47 = .ok (.goto (-43), 3) := by decide +kernel
theorem dX10_lawOf_50 : decode cX10_lawOf 50 = .ok (.iload_n 2, 1) := by decide +kernel
theorem dX10_lawOf_51 : decode cX10_lawOf 51 = .ok (.ireturn, 1) := by decide +kernel
set_option maxRecDepth 20000 in
theorem ggX10_counted_X10_isKnown : GoodIn wsX10_counted wsX10_isKnown := goodIn_r _ [12, 13, 14, 15, 16, 17, 11, 18, 19, 20, 21, 22, 45, 46, 47, 48, 49, 50, 51, 52, 53, 54, 55, 56, 57, 58, 59, 60, 61, 62, 63, 64, 65, 66, 67, 68, 69, 70, 71, 72, 73, 74, 75, 76, 77, 78, 79, 80, 81, 82] (by decide +kernel) (by decide +kernel)
set_option maxRecDepth 20000 in
theorem gX10_counted_X10_isKnown : GoodIn wsX10_counted (wsV RX10 140 RX10 yX10_isKnown wsX10_isKnown) := goodIn_app (goodIn_of _ (by decide +kernel)) ggX10_counted_X10_isKnown
set_option maxRecDepth 20000 in
theorem ggX10_counted_X10_lawOf : GoodIn wsX10_counted wsX10_lawOf := goodIn_r _ [26, 27, 28, 45, 46, 47, 48, 49, 50, 51, 52, 53, 54, 55, 56, 57, 58, 59, 60, 61, 62, 63, 64, 65, 66, 67, 68, 69, 70, 71, 72, 73, 74, 75, 76, 77, 78, 79, 80, 81, 82] (by decide +kernel) (by decide +kernel)
set_option maxRecDepth 20000 in
theorem gX10_counted_X10_lawOf : GoodIn wsX10_counted (wsV RX10 144 RX10 yX10_lawOf wsX10_lawOf) := goodIn_app (goodIn_of _ (by decide +kernel)) ggX10_counted_X10_lawOf
set_option maxRecDepth 20000 in
theorem ggX10_counted_X10_yearOf : GoodIn wsX10_counted wsX10_yearOf := goodIn_r _ [31] (by decide +kernel) (by decide +kernel)
set_option maxRecDepth 20000 in
theorem gX10_counted_X10_yearOf : GoodIn wsX10_counted (va_wsS RX10 148 yX10_yearOf wsX10_yearOf) := goodIn_app (goodIn_of _ (by decide +kernel)) ggX10_counted_X10_yearOf
set_option maxRecDepth 20000 in
theorem ggX10_counted_X10_reaches : GoodIn wsX10_counted wsX10_reaches := goodIn_r _ [35, 19, 36, 14, 37, 38, 39, 11, 40, 41, 42, 43, 2, 44, 20, 21, 22, 45, 46, 47, 48, 49, 50, 51, 52, 53, 54, 55, 56, 57, 58, 59, 60, 61, 62, 63, 64, 65, 66, 67, 68, 69, 70, 71, 72, 73, 74, 75, 76, 77, 78, 79, 80, 81, 82] (by decide +kernel) (by decide +kernel)
set_option maxRecDepth 20000 in
theorem gX10_counted_X10_reaches : GoodIn wsX10_counted (wsV RX10 136 RX10 yX10_reaches wsX10_reaches) := goodIn_app (goodIn_of _ (by decide +kernel)) ggX10_counted_X10_reaches
theorem dX10_counted_0 : decode cX10_counted 0 = .ok (.aload_n 0, 1) := by decide +kernel
theorem dX10_counted_1 : decode cX10_counted 1 = .ok (.iload_n 1, 1) := by decide +kernel
theorem dX10_counted_2 : decode cX10_counted 2 = .ok (.iload_n 2, 1) := by decide +kernel
theorem dX10_counted_3 : decode cX10_counted 3 = .ok (.invokevirtual 140, 3) := by decide +kernel
theorem dX10_counted_6 : decode cX10_counted 6 = .ok (.ifCond .ne 5, 3) := by decide +kernel
theorem dX10_counted_9 : decode cX10_counted 9 = .ok (.iconst 0, 1) := by decide +kernel
theorem dX10_counted_10 : decode cX10_counted 10 = .ok (.ireturn, 1) := by decide +kernel
theorem dX10_counted_11 : decode cX10_counted 11 = .ok (.aload_n 0, 1) := by decide +kernel
theorem dX10_counted_12 : decode cX10_counted 12 = .ok (.aload_n 0, 1) := by decide +kernel
theorem dX10_counted_13 : decode cX10_counted 13 = .ok (.getfield 34, 3) := by decide +kernel
theorem dX10_counted_16 : decode cX10_counted 16 = .ok (.iload_n 1, 1) := by decide +kernel
theorem dX10_counted_17 : decode cX10_counted 17 = .ok (.iaload, 1) := by decide +kernel
theorem dX10_counted_18 : decode cX10_counted 18 = .ok (.invokevirtual 144, 3) := by decide +kernel
theorem dX10_counted_21 : decode cX10_counted 21 = .ok (.istore_n 3, 1) := by decide +kernel
theorem dX10_counted_22 : decode cX10_counted 22 = .ok (.iload_n 3, 1) := by decide +kernel
theorem dX10_counted_23 : decode cX10_counted 23 = .ok (.iconst (-1), 1) := by decide +kernel
theorem dX10_counted_24 : decode cX10_counted 24 = .ok (.if_icmp .eq 28, 3) := by decide +kernel
theorem dX10_counted_27 : decode cX10_counted 27 = .ok (.aload_n 0, 1) := by decide +kernel
theorem dX10_counted_28 : decode cX10_counted 28 = .ok (.getfield 34, 3) := by decide +kernel
theorem dX10_counted_31 : decode cX10_counted 31 = .ok (.iload_n 1, 1) := by decide +kernel
theorem dX10_counted_32 : decode cX10_counted 32 = .ok (.iaload, 1) := by decide +kernel
theorem dX10_counted_33 : decode cX10_counted 33 = .ok (.invokestatic 148, 3) := by decide +kernel
theorem dX10_counted_36 : decode cX10_counted 36 = .ok (.aload_n 0, 1) := by decide +kernel
theorem dX10_counted_37 : decode cX10_counted 37 = .ok (.getfield 28, 3) := by decide +kernel
theorem dX10_counted_40 : decode cX10_counted 40 = .ok (.iload_n 1, 1) := by decide +kernel
theorem dX10_counted_41 : decode cX10_counted 41 = .ok (.iaload, 1) := by decide +kernel
theorem dX10_counted_42 : decode cX10_counted 42 = .ok (.isub, 1) := by decide +kernel
theorem dX10_counted_43 : decode cX10_counted 43 = .ok (.aload_n 0, 1) := by decide +kernel
theorem dX10_counted_44 : decode cX10_counted 44 = .ok (.getfield 49, 3) := by decide +kernel
theorem dX10_counted_47 : decode cX10_counted 47 = .ok (.iload_n 3, 1) := by decide +kernel
theorem dX10_counted_48 : decode cX10_counted 48 = .ok (.iaload, 1) := by decide +kernel
theorem dX10_counted_49 : decode cX10_counted 49 = .ok (.if_icmp .ge 5, 3) := by decide +kernel
theorem dX10_counted_52 : decode cX10_counted 52 = .ok (.iconst 0, 1) := by decide +kernel
theorem dX10_counted_53 : decode cX10_counted 53 = .ok (.ireturn, 1) := by decide +kernel
theorem dX10_counted_54 : decode cX10_counted 54 = .ok (.aload_n 0, 1) := by decide +kernel
theorem dX10_counted_55 : decode cX10_counted 55 = .ok (.getfield 16, 3) := by decide +kernel
theorem dX10_counted_58 : decode cX10_counted 58 = .ok (.iload_n 1, 1) := by decide +kernel
theorem dX10_counted_59 : decode cX10_counted 59 = .ok (.iaload, 1) := by decide +kernel
theorem dX10_counted_60 : decode cX10_counted 60 = .ok (.ifCond .eq 18, 3) := by decide +kernel
theorem dX10_counted_63 : decode cX10_counted 63 = .ok (.aload_n 0, 1) := by decide +kernel
theorem dX10_counted_64 : decode cX10_counted 64 = .ok (.getfield 19, 3) := by decide +kernel
theorem dX10_counted_67 : decode cX10_counted 67 = .ok (.iload_n 1, 1) := by decide +kernel
theorem dX10_counted_68 : decode cX10_counted 68 = .ok (.iaload, 1) := by decide +kernel
theorem dX10_counted_69 : decode cX10_counted 69 = .ok (.aload_n 0, 1) := by decide +kernel
theorem dX10_counted_70 : decode cX10_counted 70 = .ok (.getfield 52, 3) := by decide +kernel
theorem dX10_counted_73 : decode cX10_counted 73 = .ok (.iload_n 3, 1) := by decide +kernel
theorem dX10_counted_74 : decode cX10_counted 74 = .ok (.iaload, 1) := by decide +kernel
theorem dX10_counted_75 : decode cX10_counted 75 = .ok (.if_icmp .ge 18, 3) := by decide +kernel
theorem dX10_counted_78 : decode cX10_counted 78 = .ok (.aload_n 0, 1) := by decide +kernel
theorem dX10_counted_79 : decode cX10_counted 79 = .ok (.iload_n 1, 1) := by decide +kernel
theorem dX10_counted_80 : decode cX10_counted 80 = .ok (.iload_n 2, 1) := by decide +kernel
theorem dX10_counted_81 : decode cX10_counted 81 = .ok (.invokevirtual 136, 3) := by decide +kernel
theorem dX10_counted_84 : decode cX10_counted 84 = .ok (.aload_n 0, 1) := by decide +kernel
theorem dX10_counted_85 : decode cX10_counted 85 = .ok (.getfield 58, 3) := by decide +kernel
theorem dX10_counted_88 : decode cX10_counted 88 = .ok (.iload_n 3, 1) := by decide +kernel
theorem dX10_counted_89 : decode cX10_counted 89 = .ok (.iaload, 1) := by decide +kernel
theorem dX10_counted_90 : decode cX10_counted 90 = .ok (.if_icmp .lt 7, 3) := by decide +kernel
theorem dX10_counted_93 : decode cX10_counted 93 = .ok (.iconst 1, 1) := by decide +kernel
theorem dX10_counted_94 : decode cX10_counted 94 = .ok (.goto 4, 3) := by decide +kernel
theorem dX10_counted_97 : decode cX10_counted 97 = .ok (.iconst 0, 1) := by decide +kernel
theorem dX10_counted_98 : decode cX10_counted 98 = .ok (.ireturn, 1) := by decide +kernel
set_option maxRecDepth 20000 in
theorem ggX10_counts_X10_counted : GoodIn wsX10_counts wsX10_counted := goodIn_r _ [6, 7, 8, 9, 10, 11, 12, 13, 14, 15, 16, 5, 17, 1, 18, 19, 20, 21, 22, 23, 24, 25, 26, 27, 28, 29, 30, 31, 32, 33, 34, 35, 36, 37, 38, 39, 40, 41, 42, 43, 44, 45, 46, 47, 48, 49, 50, 51, 52, 53, 54, 55, 56, 57, 58, 59, 60, 61, 62, 63, 64, 65, 66, 67, 68, 69, 70, 71, 72, 73, 74, 75, 76, 77, 78, 79, 80, 81, 82, 83, 84, 85, 86] (by decide +kernel) (by decide +kernel)
set_option maxRecDepth 20000 in
theorem gX10_counts_X10_counted : GoodIn wsX10_counts (wsV RX10 151 RX10 yX10_counted wsX10_counted) := goodIn_app (goodIn_of _ (by decide +kernel)) ggX10_counts_X10_counted
theorem dX10_counts_0 : decode cX10_counts 0 = .ok (.aload_n 0, 1) := by decide +kernel
theorem dX10_counts_1 : decode cX10_counts 1 = .ok (.iload_n 1, 1) := by decide +kernel
theorem dX10_counts_2 : decode cX10_counts 2 = .ok (.aload_n 0, 1) := by decide +kernel
theorem dX10_counts_3 : decode cX10_counts 3 = .ok (.getfield 113, 3) := by decide +kernel
theorem dX10_counts_6 : decode cX10_counts 6 = .ok (.invokevirtual 151, 3) := by decide +kernel
theorem dX10_counts_9 : decode cX10_counts 9 = .ok (.ireturn, 1) := by decide +kernel
theorem dX10_ownerOn_0 : decode cX10_ownerOn 0 = .ok (.iconst (-1), 1) := by decide +kernel
theorem dX10_ownerOn_1 : decode cX10_ownerOn 1 = .ok (.istore_n 3, 1) := by decide +kernel
theorem dX10_ownerOn_2 : decode cX10_ownerOn 2 = .ok (.iconst 0, 1) := by decide +kernel
theorem dX10_ownerOn_3 : decode cX10_ownerOn 3 = .ok (.istore 4, 2) := by decide +kernel
theorem dX10_ownerOn_5 : decode cX10_ownerOn 5 = .ok (.iload 4, 2) := by decide +kernel
theorem dX10_ownerOn_7 : decode cX10_ownerOn 7 = .ok (.aload_n 0, 1) := by decide +kernel
theorem dX10_ownerOn_8 : decode cX10_ownerOn 8 = .ok (.getfield 123, 3) := by decide +kernel
theorem dX10_ownerOn_11 : decode cX10_ownerOn 11 = .ok (.if_icmp .ge 55, 3) := by decide +kernel
theorem dX10_ownerOn_14 : decode cX10_ownerOn 14 = .ok (.aload_n 0, 1) := by decide +kernel
theorem dX10_ownerOn_15 : decode cX10_ownerOn 15 = .ok (.getfield 61, 3) := by decide +kernel
theorem dX10_ownerOn_18 : decode cX10_ownerOn 18 = .ok (.iload 4, 2) := by decide +kernel
theorem dX10_ownerOn_20 : decode cX10_ownerOn 20 = .ok (.iaload, 1) := by decide +kernel
theorem dX10_ownerOn_21 : decode cX10_ownerOn 21 = .ok (.iload_n 1, 1) := by decide +kernel
theorem dX10_ownerOn_22 : decode cX10_ownerOn 22 = .ok (.if_icmp .ne 38, 3) := by decide +kernel
theorem dX10_ownerOn_25 : decode cX10_ownerOn 25 = .ok (.aload_n 0, 1) := by decide +kernel
theorem dX10_ownerOn_26 : decode cX10_ownerOn 26 = .ok (.getfield 64, 3) := by decide +kernel
theorem dX10_ownerOn_29 : decode cX10_ownerOn 29 = .ok (.iload 4, 2) := by decide +kernel
theorem dX10_ownerOn_31 : decode cX10_ownerOn 31 = .ok (.iaload, 1) := by decide +kernel
theorem dX10_ownerOn_32 : decode cX10_ownerOn 32 = .ok (.iload_n 2, 1) := by decide +kernel
theorem dX10_ownerOn_33 : decode cX10_ownerOn 33 = .ok (.if_icmp .gt 27, 3) := by decide +kernel
theorem dX10_ownerOn_36 : decode cX10_ownerOn 36 = .ok (.iload_n 3, 1) := by decide +kernel
theorem dX10_ownerOn_37 : decode cX10_ownerOn 37 = .ok (.iconst (-1), 1) := by decide +kernel
theorem dX10_ownerOn_38 : decode cX10_ownerOn 38 = .ok (.if_icmp .eq 19, 3) := by decide +kernel
theorem dX10_ownerOn_41 : decode cX10_ownerOn 41 = .ok (.aload_n 0, 1) := by decide +kernel
theorem dX10_ownerOn_42 : decode cX10_ownerOn 42 = .ok (.getfield 64, 3) := by decide +kernel
theorem dX10_ownerOn_45 : decode cX10_ownerOn 45 = .ok (.iload 4, 2) := by decide +kernel
theorem dX10_ownerOn_47 : decode cX10_ownerOn 47 = .ok (.iaload, 1) := by decide +kernel
theorem dX10_ownerOn_48 : decode cX10_ownerOn 48 = .ok (.aload_n 0, 1) := by decide +kernel
theorem dX10_ownerOn_49 : decode cX10_ownerOn 49 = .ok (.getfield 64, 3) := by decide +kernel
theorem dX10_ownerOn_52 : decode cX10_ownerOn 52 = .ok (.iload_n 3, 1) := by decide +kernel
theorem dX10_ownerOn_53 : decode cX10_ownerOn 53 = .ok (.iaload, 1) := by decide +kernel
theorem dX10_ownerOn_54 : decode cX10_ownerOn 54 = .ok (.if_icmp .lt 6, 3) := by decide +kernel
theorem dX10_ownerOn_57 : decode cX10_ownerOn 57 = .ok (.iload 4, 2) := by decide +kernel
theorem dX10_ownerOn_59 : decode cX10_ownerOn 59 = .ok (.istore_n 3, 1) := by decide +kernel
theorem dX10_ownerOn_60 : decode cX10_ownerOn 60 = .ok (.iinc 4 1, 3) := by decide +kernel
theorem dX10_ownerOn_63 : decode cX10_ownerOn 63 = .ok (.goto (-58), 3) := by decide +kernel
theorem dX10_ownerOn_66 : decode cX10_ownerOn 66 = .ok (.iload_n 3, 1) := by decide +kernel
theorem dX10_ownerOn_67 : decode cX10_ownerOn 67 = .ok (.iconst (-1), 1) := by decide +kernel
theorem dX10_ownerOn_68 : decode cX10_ownerOn 68 = .ok (.if_icmp .ne 7, 3) := by decide +kernel
theorem dX10_ownerOn_71 : decode cX10_ownerOn 71 = .ok (.iconst 0, 1) := by decide +kernel
theorem dX10_ownerOn_72 : decode cX10_ownerOn 72 = .ok (.goto 9, 3) := by decide +kernel
theorem dX10_ownerOn_75 : decode cX10_ownerOn 75 = .ok (.aload_n 0, 1) := by decide +kernel
theorem dX10_ownerOn_76 : decode cX10_ownerOn 76 = .ok (.getfield 67, 3) := by decide +kernel
theorem dX10_ownerOn_79 : decode cX10_ownerOn 79 = .ok (.iload_n 3, 1) := by decide +kernel
theorem dX10_ownerOn_80 : decode cX10_ownerOn 80 = .ok (.iaload, 1) := by decide +kernel
theorem dX10_ownerOn_81 : decode cX10_ownerOn 81 = .ok (.ireturn, 1) := by decide +kernel
set_option maxRecDepth 20000 in
theorem ggX10_ownerOf_X10_ownerOn : GoodIn wsX10_ownerOf wsX10_ownerOn := goodIn_r _ [8, 9, 10, 11, 12, 13, 14, 15, 16, 17, 18, 19, 20, 21, 22, 23, 24, 25, 26, 27, 28, 29, 30, 31, 32, 33, 34, 35, 36, 37, 38, 39, 40, 41, 42, 43, 44, 45, 46, 47, 48, 49, 50] (by decide +kernel) (by decide +kernel)
set_option maxRecDepth 20000 in
theorem gX10_ownerOf_X10_ownerOn : GoodIn wsX10_ownerOf (wsV RX10 154 RX10 yX10_ownerOn wsX10_ownerOn) := goodIn_app (goodIn_of _ (by decide +kernel)) ggX10_ownerOf_X10_ownerOn
theorem dX10_ownerOf_0 : decode cX10_ownerOf 0 = .ok (.aload_n 0, 1) := by decide +kernel
theorem dX10_ownerOf_1 : decode cX10_ownerOf 1 = .ok (.bipush 10, 2) := by decide +kernel
theorem dX10_ownerOf_3 : decode cX10_ownerOf 3 = .ok (.aload_n 0, 1) := by decide +kernel
theorem dX10_ownerOf_4 : decode cX10_ownerOf 4 = .ok (.getfield 9, 3) := by decide +kernel
theorem dX10_ownerOf_7 : decode cX10_ownerOf 7 = .ok (.iload_n 1, 1) := by decide +kernel
theorem dX10_ownerOf_8 : decode cX10_ownerOf 8 = .ok (.iaload, 1) := by decide +kernel
theorem dX10_ownerOf_9 : decode cX10_ownerOf 9 = .ok (.bipush 100, 2) := by decide +kernel
theorem dX10_ownerOf_11 : decode cX10_ownerOf 11 = .ok (.idiv, 1) := by decide +kernel
theorem dX10_ownerOf_12 : decode cX10_ownerOf 12 = .ok (.imul, 1) := by decide +kernel
theorem dX10_ownerOf_13 : decode cX10_ownerOf 13 = .ok (.aload_n 0, 1) := by decide +kernel
theorem dX10_ownerOf_14 : decode cX10_ownerOf 14 = .ok (.getfield 13, 3) := by decide +kernel
theorem dX10_ownerOf_17 : decode cX10_ownerOf 17 = .ok (.iload_n 1, 1) := by decide +kernel
theorem dX10_ownerOf_18 : decode cX10_ownerOf 18 = .ok (.iaload, 1) := by decide +kernel
theorem dX10_ownerOf_19 : decode cX10_ownerOf 19 = .ok (.bipush 100, 2) := by decide +kernel
theorem dX10_ownerOf_21 : decode cX10_ownerOf 21 = .ok (.idiv, 1) := by decide +kernel
theorem dX10_ownerOf_22 : decode cX10_ownerOf 22 = .ok (.iadd, 1) := by decide +kernel
theorem dX10_ownerOf_23 : decode cX10_ownerOf 23 = .ok (.aload_n 0, 1) := by decide +kernel
theorem dX10_ownerOf_24 : decode cX10_ownerOf 24 = .ok (.getfield 34, 3) := by decide +kernel
theorem dX10_ownerOf_27 : decode cX10_ownerOf 27 = .ok (.iload_n 1, 1) := by decide +kernel
theorem dX10_ownerOf_28 : decode cX10_ownerOf 28 = .ok (.iaload, 1) := by decide +kernel
theorem dX10_ownerOf_29 : decode cX10_ownerOf 29 = .ok (.invokevirtual 154, 3) := by decide +kernel
theorem dX10_ownerOf_32 : decode cX10_ownerOf 32 = .ok (.ireturn, 1) := by decide +kernel
set_option maxRecDepth 20000 in
theorem ggX10_told_X10_isFind : GoodIn wsX10_told wsX10_isFind := goodIn_r _ [15, 16, 17, 18, 14, 19, 34, 35, 36, 37, 38, 39, 40, 41, 42, 43, 44, 45, 46, 47, 48, 49, 50, 51, 52, 53, 54, 55, 56, 57, 58, 59, 60, 61, 62, 63, 64, 65, 66, 67, 68, 69, 70, 71] (by decide +kernel) (by decide +kernel)
set_option maxRecDepth 20000 in
theorem gX10_told_X10_isFind : GoodIn wsX10_told (wsV RX10 127 RX10 yX10_isFind wsX10_isFind) := goodIn_app (goodIn_of _ (by decide +kernel)) ggX10_told_X10_isFind
set_option maxRecDepth 20000 in
theorem ggX10_told_X10_ownerOf : GoodIn wsX10_told wsX10_ownerOf := goodIn_r _ [23, 24, 25, 2, 26, 27, 28, 14, 29, 30, 31, 32, 33, 34, 35, 36, 37, 38, 39, 40, 41, 42, 43, 44, 45, 46, 47, 48, 49, 50, 51, 52, 53, 54, 55, 56, 57, 58, 59, 60, 61, 62, 63, 64, 65, 66, 67, 68, 69, 70, 71] (by decide +kernel) (by decide +kernel)
set_option maxRecDepth 20000 in
theorem gX10_told_X10_ownerOf : GoodIn wsX10_told (wsV RX10 158 RX10 yX10_ownerOf wsX10_ownerOf) := goodIn_app (goodIn_of _ (by decide +kernel)) ggX10_told_X10_ownerOf
theorem dX10_told_0 : decode cX10_told 0 = .ok (.aload_n 0, 1) := by decide +kernel
theorem dX10_told_1 : decode cX10_told 1 = .ok (.iload_n 1, 1) := by decide +kernel
theorem dX10_told_2 : decode cX10_told 2 = .ok (.invokevirtual 127, 3) := by decide +kernel
theorem dX10_told_5 : decode cX10_told 5 = .ok (.ifCond .ne 6, 3) := by decide +kernel
theorem dX10_told_8 : decode cX10_told 8 = .ok (.ldc 157, 2) := by decide +kernel
theorem dX10_told_10 : decode cX10_told 10 = .ok (.ireturn, 1) := by decide +kernel
theorem dX10_told_11 : decode cX10_told 11 = .ok (.iload_n 2, 1) := by decide +kernel
theorem dX10_told_12 : decode cX10_told 12 = .ok (.tableswitch 125 0 9 #[56, 63, 70, 77, 84, 91, 98, 105, 112, 118], 56) := by decide +kernel
theorem dX10_told_68 : decode cX10_told 68 = .ok (.aload_n 0, 1) := by decide +kernel
theorem dX10_told_69 : decode cX10_told 69 = .ok (.getfield 34, 3) := by decide +kernel
theorem dX10_told_72 : decode cX10_told 72 = .ok (.iload_n 1, 1) := by decide +kernel
theorem dX10_told_73 : decode cX10_told 73 = .ok (.iaload, 1) := by decide +kernel
theorem dX10_told_74 : decode cX10_told 74 = .ok (.ireturn, 1) := by decide +kernel
theorem dX10_told_75 : decode cX10_told 75 = .ok (.aload_n 0, 1) := by decide +kernel
theorem dX10_told_76 : decode cX10_told 76 = .ok (.getfield 37, 3) := by decide +kernel
theorem dX10_told_79 : decode cX10_told 79 = .ok (.iload_n 1, 1) := by decide +kernel
theorem dX10_told_80 : decode cX10_told 80 = .ok (.iaload, 1) := by decide +kernel
theorem dX10_told_81 : decode cX10_told 81 = .ok (.ireturn, 1) := by decide +kernel
theorem dX10_told_82 : decode cX10_told 82 = .ok (.aload_n 0, 1) := by decide +kernel
theorem dX10_told_83 : decode cX10_told 83 = .ok (.getfield 16, 3) := by decide +kernel
theorem dX10_told_86 : decode cX10_told 86 = .ok (.iload_n 1, 1) := by decide +kernel
theorem dX10_told_87 : decode cX10_told 87 = .ok (.iaload, 1) := by decide +kernel
theorem dX10_told_88 : decode cX10_told 88 = .ok (.ireturn, 1) := by decide +kernel
theorem dX10_told_89 : decode cX10_told 89 = .ok (.aload_n 0, 1) := by decide +kernel
theorem dX10_told_90 : decode cX10_told 90 = .ok (.getfield 19, 3) := by decide +kernel
theorem dX10_told_93 : decode cX10_told 93 = .ok (.iload_n 1, 1) := by decide +kernel
theorem dX10_told_94 : decode cX10_told 94 = .ok (.iaload, 1) := by decide +kernel
theorem dX10_told_95 : decode cX10_told 95 = .ok (.ireturn, 1) := by decide +kernel
theorem dX10_told_96 : decode cX10_told 96 = .ok (.aload_n 0, 1) := by decide +kernel
theorem dX10_told_97 : decode cX10_told 97 = .ok (.getfield 22, 3) := by decide +kernel
theorem dX10_told_100 : decode cX10_told 100 = .ok (.iload_n 1, 1) := by decide +kernel
theorem dX10_told_101 : decode cX10_told 101 = .ok (.iaload, 1) := by decide +kernel
theorem dX10_told_102 : decode cX10_told 102 = .ok (.ireturn, 1) := by decide +kernel
theorem dX10_told_103 : decode cX10_told 103 = .ok (.aload_n 0, 1) := by decide +kernel
theorem dX10_told_104 : decode cX10_told 104 = .ok (.getfield 25, 3) := by decide +kernel
theorem dX10_told_107 : decode cX10_told 107 = .ok (.iload_n 1, 1) := by decide +kernel
theorem dX10_told_108 : decode cX10_told 108 = .ok (.iaload, 1) := by decide +kernel
theorem dX10_told_109 : decode cX10_told 109 = .ok (.ireturn, 1) := by decide +kernel
theorem dX10_told_110 : decode cX10_told 110 = .ok (.aload_n 0, 1) := by decide +kernel
theorem dX10_told_111 : decode cX10_told 111 = .ok (.getfield 28, 3) := by decide +kernel
theorem dX10_told_114 : decode cX10_told 114 = .ok (.iload_n 1, 1) := by decide +kernel
theorem dX10_told_115 : decode cX10_told 115 = .ok (.iaload, 1) := by decide +kernel
theorem dX10_told_116 : decode cX10_told 116 = .ok (.ireturn, 1) := by decide +kernel
theorem dX10_told_117 : decode cX10_told 117 = .ok (.aload_n 0, 1) := by decide +kernel
theorem dX10_told_118 : decode cX10_told 118 = .ok (.getfield 31, 3) := by decide +kernel
theorem dX10_told_121 : decode cX10_told 121 = .ok (.iload_n 1, 1) := by decide +kernel
theorem dX10_told_122 : decode cX10_told 122 = .ok (.iaload, 1) := by decide +kernel
theorem dX10_told_123 : decode cX10_told 123 = .ok (.ireturn, 1) := by decide +kernel
theorem dX10_told_124 : decode cX10_told 124 = .ok (.aload_n 0, 1) := by decide +kernel
theorem dX10_told_125 : decode cX10_told 125 = .ok (.iload_n 1, 1) := by decide +kernel
theorem dX10_told_126 : decode cX10_told 126 = .ok (.invokevirtual 158, 3) := by decide +kernel
theorem dX10_told_129 : decode cX10_told 129 = .ok (.ireturn, 1) := by decide +kernel
theorem dX10_told_130 : decode cX10_told 130 = .ok (.aload_n 0, 1) := by decide +kernel
theorem dX10_told_131 : decode cX10_told 131 = .ok (.getfield 40, 3) := by decide +kernel
theorem dX10_told_134 : decode cX10_told 134 = .ok (.iload_n 1, 1) := by decide +kernel
theorem dX10_told_135 : decode cX10_told 135 = .ok (.iaload, 1) := by decide +kernel
theorem dX10_told_136 : decode cX10_told 136 = .ok (.ireturn, 1) := by decide +kernel
theorem dX10_told_137 : decode cX10_told 137 = .ok (.ldc 157, 2) := by decide +kernel
theorem dX10_told_139 : decode cX10_told 139 = .ok (.ireturn, 1) := by decide +kernel
set_option maxRecDepth 20000 in
theorem ggX10_index_X10_in : GoodIn wsX10_index wsX10_in := goodIn_r _ [5] (by decide +kernel) (by decide +kernel)
set_option maxRecDepth 20000 in
theorem gX10_index_X10_in : GoodIn wsX10_index (va_wsS RX10 109 yX10_in wsX10_in) := goodIn_app (goodIn_of _ (by decide +kernel)) ggX10_index_X10_in
theorem dX10_index_0 : decode cX10_index 0 = .ok (.iload_n 1, 1) := by decide +kernel
theorem dX10_index_1 : decode cX10_index 1 = .ok (.sipush 1950, 3) := by decide +kernel
theorem dX10_index_4 : decode cX10_index 4 = .ok (.sipush 2004, 3) := by decide +kernel
theorem dX10_index_7 : decode cX10_index 7 = .ok (.invokestatic 109, 3) := by decide +kernel
theorem dX10_index_10 : decode cX10_index 10 = .ok (.ifCond .eq 14, 3) := by decide +kernel
theorem dX10_index_13 : decode cX10_index 13 = .ok (.iload_n 2, 1) := by decide +kernel
theorem dX10_index_14 : decode cX10_index 14 = .ok (.iconst 1, 1) := by decide +kernel
theorem dX10_index_15 : decode cX10_index 15 = .ok (.sipush 10000, 3) := by decide +kernel
theorem dX10_index_18 : decode cX10_index 18 = .ok (.invokestatic 109, 3) := by decide +kernel
theorem dX10_index_21 : decode cX10_index 21 = .ok (.ifCond .ne 5, 3) := by decide +kernel
theorem dX10_index_24 : decode cX10_index 24 = .ok (.iconst 0, 1) := by decide +kernel
theorem dX10_index_25 : decode cX10_index 25 = .ok (.ireturn, 1) := by decide +kernel
theorem dX10_index_26 : decode cX10_index 26 = .ok (.aload_n 0, 1) := by decide +kernel
theorem dX10_index_27 : decode cX10_index 27 = .ok (.getfield 70, 3) := by decide +kernel
theorem dX10_index_30 : decode cX10_index 30 = .ok (.iload_n 1, 1) := by decide +kernel
theorem dX10_index_31 : decode cX10_index 31 = .ok (.sipush 1950, 3) := by decide +kernel
theorem dX10_index_34 : decode cX10_index 34 = .ok (.isub, 1) := by decide +kernel
theorem dX10_index_35 : decode cX10_index 35 = .ok (.iload_n 2, 1) := by decide +kernel
theorem dX10_index_36 : decode cX10_index 36 = .ok (.iastore, 1) := by decide +kernel
theorem dX10_index_37 : decode cX10_index 37 = .ok (.iconst 1, 1) := by decide +kernel
theorem dX10_index_38 : decode cX10_index 38 = .ok (.ireturn, 1) := by decide +kernel
set_option maxRecDepth 20000 in
theorem ggX10_sale_X10_in : GoodIn wsX10_sale wsX10_in := goodIn_r _ [11] (by decide +kernel) (by decide +kernel)
set_option maxRecDepth 20000 in
theorem gX10_sale_X10_in : GoodIn wsX10_sale (va_wsS RX10 109 yX10_in wsX10_in) := goodIn_app (goodIn_of _ (by decide +kernel)) ggX10_sale_X10_in
theorem dX10_sale_0 : decode cX10_sale 0 = .ok (.iload_n 1, 1) := by decide +kernel
theorem dX10_sale_1 : decode cX10_sale 1 = .ok (.iconst 0, 1) := by decide +kernel
theorem dX10_sale_2 : decode cX10_sale 2 = .ok (.iconst 2, 1) := by decide +kernel
theorem dX10_sale_3 : decode cX10_sale 3 = .ok (.invokestatic 109, 3) := by decide +kernel
theorem dX10_sale_6 : decode cX10_sale 6 = .ok (.ifCond .eq 46, 3) := by decide +kernel
theorem dX10_sale_9 : decode cX10_sale 9 = .ok (.iload_n 2, 1) := by decide +kernel
theorem dX10_sale_10 : decode cX10_sale 10 = .ok (.iconst 0, 1) := by decide +kernel
theorem dX10_sale_11 : decode cX10_sale 11 = .ok (.aload_n 0, 1) := by decide +kernel
theorem dX10_sale_12 : decode cX10_sale 12 = .ok (.getfield 113, 3) := by decide +kernel
theorem dX10_sale_15 : decode cX10_sale 15 = .ok (.invokestatic 109, 3) := by decide +kernel
theorem dX10_sale_18 : decode cX10_sale 18 = .ok (.ifCond .eq 34, 3) := by decide +kernel
theorem dX10_sale_21 : decode cX10_sale 21 = .ok (.iload_n 3, 1) := by decide +kernel
theorem dX10_sale_22 : decode cX10_sale 22 = .ok (.iconst 1, 1) := by decide +kernel
theorem dX10_sale_23 : decode cX10_sale 23 = .ok (.sipush 10000, 3) := by decide +kernel
theorem dX10_sale_26 : decode cX10_sale 26 = .ok (.invokestatic 109, 3) := by decide +kernel
theorem dX10_sale_29 : decode cX10_sale 29 = .ok (.ifCond .eq 23, 3) := by decide +kernel
theorem dX10_sale_32 : decode cX10_sale 32 = .ok (.iload 4, 2) := by decide +kernel
theorem dX10_sale_34 : decode cX10_sale 34 = .ok (.iconst 0, 1) := by decide +kernel
theorem dX10_sale_35 : decode cX10_sale 35 = .ok (.ldc 105, 2) := by decide +kernel
theorem dX10_sale_37 : decode cX10_sale 37 = .ok (.invokestatic 109, 3) := by decide +kernel
theorem dX10_sale_40 : decode cX10_sale 40 = .ok (.ifCond .eq 12, 3) := by decide +kernel
theorem dX10_sale_43 : decode cX10_sale 43 = .ok (.aload_n 0, 1) := by decide +kernel
theorem dX10_sale_44 : decode cX10_sale 44 = .ok (.getfield 161, 3) := by decide +kernel
theorem dX10_sale_47 : decode cX10_sale 47 = .ok (.bipush 60, 2) := by decide +kernel
theorem dX10_sale_49 : decode cX10_sale 49 = .ok (.if_icmp .ne 5, 3) := by decide +kernel
theorem dX10_sale_52 : decode cX10_sale 52 = .ok (.iconst (-1), 1) := by decide +kernel
theorem dX10_sale_53 : decode cX10_sale 53 = .ok (.ireturn, 1) := by decide +kernel
theorem dX10_sale_54 : decode cX10_sale 54 = .ok (.aload_n 0, 1) := by decide +kernel
theorem dX10_sale_55 : decode cX10_sale 55 = .ok (.getfield 73, 3) := by decide +kernel
theorem dX10_sale_58 : decode cX10_sale 58 = .ok (.aload_n 0, 1) := by decide +kernel
theorem dX10_sale_59 : decode cX10_sale 59 = .ok (.getfield 161, 3) := by decide +kernel
theorem dX10_sale_62 : decode cX10_sale 62 = .ok (.iload_n 1, 1) := by decide +kernel
theorem dX10_sale_63 : decode cX10_sale 63 = .ok (.iastore, 1) := by decide +kernel
theorem dX10_sale_64 : decode cX10_sale 64 = .ok (.aload_n 0, 1) := by decide +kernel
theorem dX10_sale_65 : decode cX10_sale 65 = .ok (.getfield 76, 3) := by decide +kernel
theorem dX10_sale_68 : decode cX10_sale 68 = .ok (.aload_n 0, 1) := by decide +kernel
theorem dX10_sale_69 : decode cX10_sale 69 = .ok (.getfield 161, 3) := by decide +kernel
theorem dX10_sale_72 : decode cX10_sale 72 = .ok (.iload_n 2, 1) := by decide +kernel
theorem dX10_sale_73 : decode cX10_sale 73 = .ok (.iastore, 1) := by decide +kernel
theorem dX10_sale_74 : decode cX10_sale 74 = .ok (.aload_n 0, 1) := by decide +kernel
theorem dX10_sale_75 : decode cX10_sale 75 = .ok (.getfield 79, 3) := by decide +kernel
theorem dX10_sale_78 : decode cX10_sale 78 = .ok (.aload_n 0, 1) := by decide +kernel
theorem dX10_sale_79 : decode cX10_sale 79 = .ok (.getfield 161, 3) := by decide +kernel
theorem dX10_sale_82 : decode cX10_sale 82 = .ok (.iload_n 3, 1) := by decide +kernel
theorem dX10_sale_83 : decode cX10_sale 83 = .ok (.iastore, 1) := by decide +kernel
theorem dX10_sale_84 : decode cX10_sale 84 = .ok (.aload_n 0, 1) := by decide +kernel
theorem dX10_sale_85 : decode cX10_sale 85 = .ok (.getfield 82, 3) := by decide +kernel
theorem dX10_sale_88 : decode cX10_sale 88 = .ok (.aload_n 0, 1) := by decide +kernel
theorem dX10_sale_89 : decode cX10_sale 89 = .ok (.getfield 161, 3) := by decide +kernel
theorem dX10_sale_92 : decode cX10_sale 92 = .ok (.iload 4, 2) := by decide +kernel
theorem dX10_sale_94 : decode cX10_sale 94 = .ok (.iastore, 1) := by decide +kernel
theorem dX10_sale_95 : decode cX10_sale 95 = .ok (.aload_n 0, 1) := by decide +kernel
theorem dX10_sale_96 : decode cX10_sale 96 = .ok (.dup, 1) := by decide +kernel
theorem dX10_sale_97 : decode cX10_sale 97 = .ok (.getfield 161, 3) := by decide +kernel
theorem dX10_sale_100 : decode cX10_sale 100 = .ok (.iconst 1, 1) := by decide +kernel
theorem dX10_sale_101 : decode cX10_sale 101 = .ok (.iadd, 1) := by decide +kernel
theorem dX10_sale_102 : decode cX10_sale 102 = .ok (.putfield 161, 3) := by decide +kernel
theorem dX10_sale_105 : decode cX10_sale 105 = .ok (.iconst 0, 1) := by decide +kernel
theorem dX10_sale_106 : decode cX10_sale 106 = .ok (.istore 5, 2) := by decide +kernel
theorem dX10_sale_108 : decode cX10_sale 108 = .ok (.iconst 0, 1) := by decide +kernel
theorem dX10_sale_109 : decode cX10_sale 109 = .ok (.istore 6, 2) := by decide +kernel
theorem dX10_sale_111 : decode cX10_sale 111 = .ok (.iload 6, 2) := by decide +kernel
theorem dX10_sale_113 : decode cX10_sale 113 = .ok (.aload_n 0, 1) := by decide +kernel
theorem dX10_sale_114 : decode cX10_sale 114 = .ok (.getfield 161, 3) := by decide +kernel
theorem dX10_sale_117 : decode cX10_sale 117 = .ok (.if_icmp .ge 30, 3) := by decide +kernel
theorem dX10_sale_120 : decode cX10_sale 120 = .ok (.iload 5, 2) := by decide +kernel
theorem dX10_sale_122 : decode cX10_sale 122 = .ok (.aload_n 0, 1) := by decide +kernel
theorem dX10_sale_123 : decode cX10_sale 123 = .ok (.getfield 73, 3) := by decide +kernel
theorem dX10_sale_126 : decode cX10_sale 126 = .ok (.iload 6, 2) := by decide +kernel
theorem dX10_sale_128 : decode cX10_sale 128 = .ok (.iaload, 1) := by decide +kernel
theorem dX10_sale_129 : decode cX10_sale 129 = .ok (.iload_n 1, 1) := by decide +kernel
theorem dX10_sale_130 : decode cX10_sale 130 = .ok (.if_icmp .ne 7, 3) := by decide +kernel
theorem dX10_sale_133 : decode cX10_sale 133 = .ok (.iconst 1, 1) := by decide +kernel
theorem dX10_sale_134 : decode cX10_sale 134 = .ok (.goto 4, 3) := by decide +kernel
theorem dX10_sale_137 : decode cX10_sale 137 = .ok (.iconst 0, 1) := by decide +kernel
theorem dX10_sale_138 : decode cX10_sale 138 = .ok (.iadd, 1) := by decide +kernel
theorem dX10_sale_139 : decode cX10_sale 139 = .ok (.istore 5, 2) := by decide +kernel
theorem dX10_sale_141 : decode cX10_sale 141 = .ok (.iinc 6 1, 3) := by decide +kernel
theorem dX10_sale_144 : decode cX10_sale 144 = .ok (.goto (-33), 3) := by decide +kernel
theorem dX10_sale_147 : decode cX10_sale 147 = .ok (.iload 5, 2) := by decide +kernel
theorem dX10_sale_149 : decode cX10_sale 149 = .ok (.ireturn, 1) := by decide +kernel
set_option maxRecDepth 20000 in
theorem ggX10_worth_X10_isFind : GoodIn wsX10_worth wsX10_isFind := goodIn_r _ [16, 17, 18, 19, 15, 20, 24, 25, 26, 27, 28, 29, 30, 31, 32, 33, 34, 35, 36, 37, 38, 39, 40, 41, 42, 43, 44, 45, 46, 47, 48, 49, 50, 51, 52, 53, 54, 55, 56, 57, 58, 59, 60, 61] (by decide +kernel) (by decide +kernel)
set_option maxRecDepth 20000 in
theorem gX10_worth_X10_isFind : GoodIn wsX10_worth (wsV RX10 127 RX10 yX10_isFind wsX10_isFind) := goodIn_app (goodIn_of _ (by decide +kernel)) ggX10_worth_X10_isFind
set_option maxRecDepth 20000 in
theorem ggX10_worth_X10_yearOf : GoodIn wsX10_worth wsX10_yearOf := goodIn_r _ [23] (by decide +kernel) (by decide +kernel)
set_option maxRecDepth 20000 in
theorem gX10_worth_X10_yearOf : GoodIn wsX10_worth (va_wsS RX10 148 yX10_yearOf wsX10_yearOf) := goodIn_app (goodIn_of _ (by decide +kernel)) ggX10_worth_X10_yearOf
theorem dX10_worth_0 : decode cX10_worth 0 = .ok (.aload_n 0, 1) := by decide +kernel
theorem dX10_worth_1 : decode cX10_worth 1 = .ok (.iload_n 1, 1) := by decide +kernel
theorem dX10_worth_2 : decode cX10_worth 2 = .ok (.invokevirtual 127, 3) := by decide +kernel
theorem dX10_worth_5 : decode cX10_worth 5 = .ok (.ifCond .ne 5, 3) := by decide +kernel
theorem dX10_worth_8 : decode cX10_worth 8 = .ok (.iconst (-1), 1) := by decide +kernel
theorem dX10_worth_9 : decode cX10_worth 9 = .ok (.ireturn, 1) := by decide +kernel
theorem dX10_worth_10 : decode cX10_worth 10 = .ok (.lconst 0, 1) := by decide +kernel
theorem dX10_worth_11 : decode cX10_worth 11 = .ok (.lstore_n 2, 1) := by decide +kernel
theorem dX10_worth_12 : decode cX10_worth 12 = .ok (.lconst 0, 1) := by decide +kernel
theorem dX10_worth_13 : decode cX10_worth 13 = .ok (.lstore 4, 2) := by decide +kernel
theorem dX10_worth_15 : decode cX10_worth 15 = .ok (.iconst 0, 1) := by decide +kernel
theorem dX10_worth_16 : decode cX10_worth 16 = .ok (.istore 6, 2) := by decide +kernel
theorem dX10_worth_18 : decode cX10_worth 18 = .ok (.iload 6, 2) := by decide +kernel
theorem dX10_worth_20 : decode cX10_worth 20 = .ok (.aload_n 0, 1) := by decide +kernel
theorem dX10_worth_21 : decode cX10_worth 21 = .ok (.getfield 161, 3) := by decide +kernel
theorem dX10_worth_24 : decode cX10_worth 24 = .ok (.if_icmp .ge 91, 3) := by decide +kernel
theorem dX10_worth_27 : decode cX10_worth 27 = .ok (.aload_n 0, 1) := by decide +kernel
theorem dX10_worth_28 : decode cX10_worth 28 = .ok (.getfield 73, 3) := by decide +kernel
theorem dX10_worth_31 : decode cX10_worth 31 = .ok (.iload 6, 2) := by decide +kernel
theorem dX10_worth_33 : decode cX10_worth 33 = .ok (.iaload, 1) := by decide +kernel
theorem dX10_worth_34 : decode cX10_worth 34 = .ok (.aload_n 0, 1) := by decide +kernel
theorem dX10_worth_35 : decode cX10_worth 35 = .ok (.getfield 16, 3) := by decide +kernel
theorem dX10_worth_38 : decode cX10_worth 38 = .ok (.iload_n 1, 1) := by decide +kernel
theorem dX10_worth_39 : decode cX10_worth 39 = .ok (.iaload, 1) := by decide +kernel
theorem dX10_worth_40 : decode cX10_worth 40 = .ok (.if_icmp .eq 6, 3) := by decide +kernel
theorem dX10_worth_43 : decode cX10_worth 43 = .ok (.goto 66, 3) := by decide +kernel
theorem dX10_worth_46 : decode cX10_worth 46 = .ok (.lload_n 2, 1) := by decide +kernel
theorem dX10_worth_47 : decode cX10_worth 47 = .ok (.aload_n 0, 1) := by decide +kernel
theorem dX10_worth_48 : decode cX10_worth 48 = .ok (.getfield 82, 3) := by decide +kernel
theorem dX10_worth_51 : decode cX10_worth 51 = .ok (.iload 6, 2) := by decide +kernel
theorem dX10_worth_53 : decode cX10_worth 53 = .ok (.iaload, 1) := by decide +kernel
theorem dX10_worth_54 : decode cX10_worth 54 = .ok (.i2l, 1) := by decide +kernel
theorem dX10_worth_55 : decode cX10_worth 55 = .ok (.aload_n 0, 1) := by decide +kernel
theorem dX10_worth_56 : decode cX10_worth 56 = .ok (.getfield 70, 3) := by decide +kernel
theorem dX10_worth_59 : decode cX10_worth 59 = .ok (.aload_n 0, 1) := by decide +kernel
theorem dX10_worth_60 : decode cX10_worth 60 = .ok (.getfield 113, 3) := by decide +kernel
theorem dX10_worth_63 : decode cX10_worth 63 = .ok (.invokestatic 148, 3) := by decide +kernel
theorem dX10_worth_66 : decode cX10_worth 66 = .ok (.sipush 1950, 3) := by decide +kernel
theorem dX10_worth_69 : decode cX10_worth 69 = .ok (.isub, 1) := by decide +kernel
theorem dX10_worth_70 : decode cX10_worth 70 = .ok (.iaload, 1) := by decide +kernel
theorem dX10_worth_71 : decode cX10_worth 71 = .ok (.i2l, 1) := by decide +kernel
theorem dX10_worth_72 : decode cX10_worth 72 = .ok (.lmul, 1) := by decide +kernel
theorem dX10_worth_73 : decode cX10_worth 73 = .ok (.aload_n 0, 1) := by decide +kernel
theorem dX10_worth_74 : decode cX10_worth 74 = .ok (.getfield 70, 3) := by decide +kernel
theorem dX10_worth_77 : decode cX10_worth 77 = .ok (.aload_n 0, 1) := by decide +kernel
theorem dX10_worth_78 : decode cX10_worth 78 = .ok (.getfield 76, 3) := by decide +kernel
theorem dX10_worth_81 : decode cX10_worth 81 = .ok (.iload 6, 2) := by decide +kernel
theorem dX10_worth_83 : decode cX10_worth 83 = .ok (.iaload, 1) := by decide +kernel
theorem dX10_worth_84 : decode cX10_worth 84 = .ok (.invokestatic 148, 3) := by decide +kernel
theorem dX10_worth_87 : decode cX10_worth 87 = .ok (.sipush 1950, 3) := by decide +kernel
theorem dX10_worth_90 : decode cX10_worth 90 = .ok (.isub, 1) := by decide +kernel
theorem dX10_worth_91 : decode cX10_worth 91 = .ok (.iaload, 1) := by decide +kernel
theorem dX10_worth_92 : decode cX10_worth 92 = .ok (.i2l, 1) := by decide +kernel
theorem dX10_worth_93 : decode cX10_worth 93 = .ok (.ldiv, 1) := by decide +kernel
theorem dX10_worth_94 : decode cX10_worth 94 = .ok (.ladd, 1) := by decide +kernel
theorem dX10_worth_95 : decode cX10_worth 95 = .ok (.lstore_n 2, 1) := by decide +kernel
theorem dX10_worth_96 : decode cX10_worth 96 = .ok (.lload 4, 2) := by decide +kernel
theorem dX10_worth_98 : decode cX10_worth 98 = .ok (.aload_n 0, 1) := by decide +kernel
theorem dX10_worth_99 : decode cX10_worth 99 = .ok (.getfield 79, 3) := by decide +kernel
theorem dX10_worth_102 : decode cX10_worth 102 = .ok (.iload 6, 2) := by decide +kernel
theorem dX10_worth_104 : decode cX10_worth 104 = .ok (.iaload, 1) := by decide +kernel
theorem dX10_worth_105 : decode cX10_worth 105 = .ok (.i2l, 1) := by decide +kernel
theorem dX10_worth_106 : decode cX10_worth 106 = .ok (.ladd, 1) := by decide +kernel
theorem dX10_worth_107 : decode cX10_worth 107 = .ok (.lstore 4, 2) := by decide +kernel
theorem dX10_worth_109 : decode cX10_worth 109 = .ok (.iinc 6 1, 3) := by decide +kernel
theorem dX10_worth_112 : decode cX10_worth 112 = .ok (.goto (-94), 3) := by decide +kernel
theorem dX10_worth_115 : decode cX10_worth 115 = .ok (.lload 4, 2) := by decide +kernel
theorem dX10_worth_117 : decode cX10_worth 117 = .ok (.lconst 0, 1) := by decide +kernel
theorem dX10_worth_118 : decode cX10_worth 118 = .ok (.lcmp, 1) := by decide +kernel
theorem dX10_worth_119 : decode cX10_worth 119 = .ok (.ifCond .ne 5, 3) := by decide +kernel
theorem dX10_worth_122 : decode cX10_worth 122 = .ok (.iconst 0, 1) := by decide +kernel
theorem dX10_worth_123 : decode cX10_worth 123 = .ok (.ireturn, 1) := by decide +kernel
theorem dX10_worth_124 : decode cX10_worth 124 = .ok (.lload_n 2, 1) := by decide +kernel
theorem dX10_worth_125 : decode cX10_worth 125 = .ok (.aload_n 0, 1) := by decide +kernel
theorem dX10_worth_126 : decode cX10_worth 126 = .ok (.getfield 22, 3) := by decide +kernel
theorem dX10_worth_129 : decode cX10_worth 129 = .ok (.iload_n 1, 1) := by decide +kernel
theorem dX10_worth_130 : decode cX10_worth 130 = .ok (.iaload, 1) := by decide +kernel
theorem dX10_worth_131 : decode cX10_worth 131 = .ok (.i2l, 1) := by decide +kernel
theorem dX10_worth_132 : decode cX10_worth 132 = .ok (.lmul, 1) := by decide +kernel
theorem dX10_worth_133 : decode cX10_worth 133 = .ok (.lload 4, 2) := by decide +kernel
theorem dX10_worth_135 : decode cX10_worth 135 = .ok (.ldiv, 1) := by decide +kernel
theorem dX10_worth_136 : decode cX10_worth 136 = .ok (.lstore 6, 2) := by decide +kernel
theorem dX10_worth_138 : decode cX10_worth 138 = .ok (.lload 6, 2) := by decide +kernel
theorem dX10_worth_140 : decode cX10_worth 140 = .ok (.ldc2_w 164, 3) := by decide +kernel
theorem dX10_worth_143 : decode cX10_worth 143 = .ok (.lcmp, 1) := by decide +kernel
theorem dX10_worth_144 : decode cX10_worth 144 = .ok (.ifCond .le 8, 3) := by decide +kernel
theorem dX10_worth_147 : decode cX10_worth 147 = .ok (.ldc 105, 2) := by decide +kernel
theorem dX10_worth_149 : decode cX10_worth 149 = .ok (.goto 6, 3) := by decide +kernel
theorem dX10_worth_152 : decode cX10_worth 152 = .ok (.lload 6, 2) := by decide +kernel
theorem dX10_worth_154 : decode cX10_worth 154 = .ok (.l2i, 1) := by decide +kernel
theorem dX10_worth_155 : decode cX10_worth 155 = .ok (.ireturn, 1) := by decide +kernel
set_option maxRecDepth 20000 in
theorem ggX10_share_X10_isFind : GoodIn wsX10_share wsX10_isFind := goodIn_r _ [9, 10, 11, 12, 8, 13, 84, 85, 86, 87, 88, 89, 90, 91, 92, 93, 94, 95, 96, 97, 98, 99, 100, 101, 102, 103, 104, 105, 106, 107, 108, 109, 110, 111, 112, 113, 114, 115, 116, 117, 118, 119, 120, 121] (by decide +kernel) (by decide +kernel)
set_option maxRecDepth 20000 in
theorem gX10_share_X10_isFind : GoodIn wsX10_share (wsV RX10 127 RX10 yX10_isFind wsX10_isFind) := goodIn_app (goodIn_of _ (by decide +kernel)) ggX10_share_X10_isFind
set_option maxRecDepth 20000 in
theorem ggX10_share_X10_isPerson : GoodIn wsX10_share wsX10_isPerson := goodIn_r _ [16, 11, 12, 8, 13] (by decide +kernel) (by decide +kernel)
set_option maxRecDepth 20000 in
theorem gX10_share_X10_isPerson : GoodIn wsX10_share (va_wsS RX10 119 yX10_isPerson wsX10_isPerson) := goodIn_app (goodIn_of _ (by decide +kernel)) ggX10_share_X10_isPerson
set_option maxRecDepth 20000 in
theorem ggX10_share_X10_counts : GoodIn wsX10_share wsX10_counts := goodIn_r _ [20, 21, 22, 23, 24, 8, 25, 2, 26, 27, 28, 29, 30, 31, 32, 33, 34, 35, 36, 5, 6, 7, 9, 10, 11, 12, 13, 37, 38, 39, 40, 41, 42, 43, 44, 45, 46, 47, 48, 49, 50, 51, 52, 53, 54, 55, 56, 57, 58, 84, 85, 86, 87, 88, 89, 90, 91, 92, 93, 94, 95, 96, 97, 98, 99, 100, 101, 102, 103, 104, 105, 106, 107, 108, 109, 110, 111, 112, 113, 114, 115, 116, 117, 118, 119, 120, 121] (by decide +kernel) (by decide +kernel)
set_option maxRecDepth 20000 in
theorem gX10_share_X10_counts : GoodIn wsX10_share (wsV RX10 166 RX10 yX10_counts wsX10_counts) := goodIn_app (goodIn_of _ (by decide +kernel)) ggX10_share_X10_counts
set_option maxRecDepth 20000 in
theorem ggX10_share_X10_worth : GoodIn wsX10_share wsX10_worth := goodIn_r _ [62, 63, 64, 28, 65, 66, 21, 67, 68, 69, 70, 71, 5, 6, 7, 8, 9, 10, 11, 12, 13, 43, 44, 45, 84, 85, 86, 87, 88, 89, 90, 91, 92, 93, 94, 95, 96, 97, 98, 99, 100, 101, 102, 103, 104, 105, 106, 107, 108, 109, 110, 111, 112, 113, 114, 115, 116, 117, 118, 119, 120, 121] (by decide +kernel) (by decide +kernel)
set_option maxRecDepth 20000 in
theorem gX10_share_X10_worth : GoodIn wsX10_share (wsV RX10 169 RX10 yX10_worth wsX10_worth) := goodIn_app (goodIn_of _ (by decide +kernel)) ggX10_share_X10_worth
set_option maxRecDepth 20000 in
theorem ggX10_share_X10_lawOf : GoodIn wsX10_share wsX10_lawOf := goodIn_r _ [40, 41, 42, 84, 85, 86, 87, 88, 89, 90, 91, 92, 93, 94, 95, 96, 97, 98, 99, 100, 101, 102, 103, 104, 105, 106, 107, 108, 109, 110, 111, 112, 113, 114, 115, 116, 117, 118, 119, 120, 121] (by decide +kernel) (by decide +kernel)
set_option maxRecDepth 20000 in
theorem gX10_share_X10_lawOf : GoodIn wsX10_share (wsV RX10 144 RX10 yX10_lawOf wsX10_lawOf) := goodIn_app (goodIn_of _ (by decide +kernel)) ggX10_share_X10_lawOf
set_option maxRecDepth 20000 in
theorem ggX10_share_X10_ownerOf : GoodIn wsX10_share wsX10_ownerOf := goodIn_r _ [75, 55, 56, 2, 76, 77, 78, 8, 79, 80, 81, 82, 83, 84, 85, 86, 87, 88, 89, 90, 91, 92, 93, 94, 95, 96, 97, 98, 99, 100, 101, 102, 103, 104, 105, 106, 107, 108, 109, 110, 111, 112, 113, 114, 115, 116, 117, 118, 119, 120, 121] (by decide +kernel) (by decide +kernel)
set_option maxRecDepth 20000 in
theorem gX10_share_X10_ownerOf : GoodIn wsX10_share (wsV RX10 158 RX10 yX10_ownerOf wsX10_ownerOf) := goodIn_app (goodIn_of _ (by decide +kernel)) ggX10_share_X10_ownerOf
theorem dX10_share_0 : decode cX10_share 0 = .ok (.aload_n 0, 1) := by decide +kernel
theorem dX10_share_1 : decode cX10_share 1 = .ok (.iload_n 1, 1) := by decide +kernel
theorem dX10_share_2 : decode cX10_share 2 = .ok (.invokevirtual 127, 3) := by decide +kernel
theorem dX10_share_5 : decode cX10_share 5 = .ok (.ifCond .eq 18, 3) := by decide +kernel
theorem dX10_share_8 : decode cX10_share 8 = .ok (.iload_n 2, 1) := by decide +kernel
theorem dX10_share_9 : decode cX10_share 9 = .ok (.invokestatic 119, 3) := by decide +kernel
theorem dX10_share_12 : decode cX10_share 12 = .ok (.ifCond .eq 11, 3) := by decide +kernel
theorem dX10_share_15 : decode cX10_share 15 = .ok (.aload_n 0, 1) := by decide +kernel
theorem dX10_share_16 : decode cX10_share 16 = .ok (.iload_n 1, 1) := by decide +kernel
theorem dX10_share_17 : decode cX10_share 17 = .ok (.invokevirtual 166, 3) := by decide +kernel
theorem dX10_share_20 : decode cX10_share 20 = .ok (.ifCond .ne 5, 3) := by decide +kernel
theorem dX10_share_23 : decode cX10_share 23 = .ok (.iconst 0, 1) := by decide +kernel
theorem dX10_share_24 : decode cX10_share 24 = .ok (.ireturn, 1) := by decide +kernel
theorem dX10_share_25 : decode cX10_share 25 = .ok (.aload_n 0, 1) := by decide +kernel
theorem dX10_share_26 : decode cX10_share 26 = .ok (.iload_n 1, 1) := by decide +kernel
theorem dX10_share_27 : decode cX10_share 27 = .ok (.invokevirtual 169, 3) := by decide +kernel
theorem dX10_share_30 : decode cX10_share 30 = .ok (.istore_n 3, 1) := by decide +kernel
theorem dX10_share_31 : decode cX10_share 31 = .ok (.iload_n 3, 1) := by decide +kernel
theorem dX10_share_32 : decode cX10_share 32 = .ok (.i2l, 1) := by decide +kernel
theorem dX10_share_33 : decode cX10_share 33 = .ok (.aload_n 0, 1) := by decide +kernel
theorem dX10_share_34 : decode cX10_share 34 = .ok (.getfield 55, 3) := by decide +kernel
theorem dX10_share_37 : decode cX10_share 37 = .ok (.aload_n 0, 1) := by decide +kernel
theorem dX10_share_38 : decode cX10_share 38 = .ok (.aload_n 0, 1) := by decide +kernel
theorem dX10_share_39 : decode cX10_share 39 = .ok (.getfield 34, 3) := by decide +kernel
theorem dX10_share_42 : decode cX10_share 42 = .ok (.iload_n 1, 1) := by decide +kernel
theorem dX10_share_43 : decode cX10_share 43 = .ok (.iaload, 1) := by decide +kernel
theorem dX10_share_44 : decode cX10_share 44 = .ok (.invokevirtual 144, 3) := by decide +kernel
theorem dX10_share_47 : decode cX10_share 47 = .ok (.iaload, 1) := by decide +kernel
theorem dX10_share_48 : decode cX10_share 48 = .ok (.i2l, 1) := by decide +kernel
theorem dX10_share_49 : decode cX10_share 49 = .ok (.lmul, 1) := by decide +kernel
theorem dX10_share_50 : decode cX10_share 50 = .ok (.ldc2_w 172, 3) := by decide +kernel
theorem dX10_share_53 : decode cX10_share 53 = .ok (.ldiv, 1) := by decide +kernel
theorem dX10_share_54 : decode cX10_share 54 = .ok (.l2i, 1) := by decide +kernel
theorem dX10_share_55 : decode cX10_share 55 = .ok (.istore 4, 2) := by decide +kernel
theorem dX10_share_57 : decode cX10_share 57 = .ok (.aload_n 0, 1) := by decide +kernel
theorem dX10_share_58 : decode cX10_share 58 = .ok (.getfield 31, 3) := by decide +kernel
theorem dX10_share_61 : decode cX10_share 61 = .ok (.iload_n 1, 1) := by decide +kernel
theorem dX10_share_62 : decode cX10_share 62 = .ok (.iaload, 1) := by decide +kernel
theorem dX10_share_63 : decode cX10_share 63 = .ok (.iload_n 2, 1) := by decide +kernel
theorem dX10_share_64 : decode cX10_share 64 = .ok (.if_icmp .ne 8, 3) := by decide +kernel
theorem dX10_share_67 : decode cX10_share 67 = .ok (.iload 4, 2) := by decide +kernel
theorem dX10_share_69 : decode cX10_share 69 = .ok (.goto 4, 3) := by decide +kernel
theorem dX10_share_72 : decode cX10_share 72 = .ok (.iconst 0, 1) := by decide +kernel
theorem dX10_share_73 : decode cX10_share 73 = .ok (.aload_n 0, 1) := by decide +kernel
theorem dX10_share_74 : decode cX10_share 74 = .ok (.iload_n 1, 1) := by decide +kernel
theorem dX10_share_75 : decode cX10_share 75 = .ok (.invokevirtual 158, 3) := by decide +kernel
theorem dX10_share_78 : decode cX10_share 78 = .ok (.iload_n 2, 1) := by decide +kernel
theorem dX10_share_79 : decode cX10_share 79 = .ok (.if_icmp .ne 10, 3) := by decide +kernel
theorem dX10_share_82 : decode cX10_share 82 = .ok (.iload_n 3, 1) := by decide +kernel
theorem dX10_share_83 : decode cX10_share 83 = .ok (.iload 4, 2) := by decide +kernel
theorem dX10_share_85 : decode cX10_share 85 = .ok (.isub, 1) := by decide +kernel
theorem dX10_share_86 : decode cX10_share 86 = .ok (.goto 4, 3) := by decide +kernel
theorem dX10_share_89 : decode cX10_share 89 = .ok (.iconst 0, 1) := by decide +kernel
theorem dX10_share_90 : decode cX10_share 90 = .ok (.iadd, 1) := by decide +kernel
theorem dX10_share_91 : decode cX10_share 91 = .ok (.ireturn, 1) := by decide +kernel
set_option maxRecDepth 20000 in
theorem ggX10_due_X10_isPerson : GoodIn wsX10_due wsX10_isPerson := goodIn_r _ [6, 7, 8, 5, 9] (by decide +kernel) (by decide +kernel)
set_option maxRecDepth 20000 in
theorem gX10_due_X10_isPerson : GoodIn wsX10_due (va_wsS RX10 119 yX10_isPerson wsX10_isPerson) := goodIn_app (goodIn_of _ (by decide +kernel)) ggX10_due_X10_isPerson
set_option maxRecDepth 20000 in
theorem ggX10_due_X10_share : GoodIn wsX10_due wsX10_share := goodIn_r _ [13, 14, 15, 16, 17, 18, 19, 20, 5, 21, 2, 7, 8, 9, 3, 4, 6, 22, 23, 24, 25, 26, 27, 28, 29, 30, 31, 32, 33, 34, 35, 36, 37, 38, 39, 40, 41, 42, 43, 44, 45, 46, 47, 48, 49, 50, 51, 52, 53, 54, 55, 56, 57, 58, 59, 60, 61, 62, 63, 64, 65, 66, 67, 68, 69, 70, 71, 72, 73, 74, 75, 76, 77, 78, 79, 80, 81, 82, 83, 84, 85, 86, 87, 88, 89, 90, 91, 92, 93, 94, 95, 96, 97, 98, 99, 100, 101, 102, 103, 104, 105, 106, 107, 108, 109, 110, 111, 112, 113, 114, 115, 116, 117, 118, 119, 120, 121, 122, 123, 124, 125, 126] (by decide +kernel) (by decide +kernel)
set_option maxRecDepth 20000 in
theorem gX10_due_X10_share : GoodIn wsX10_due (wsV RX10 174 RX10 yX10_share wsX10_share) := goodIn_app (goodIn_of _ (by decide +kernel)) ggX10_due_X10_share
theorem dX10_due_0 : decode cX10_due 0 = .ok (.iload_n 1, 1) := by decide +kernel
theorem dX10_due_1 : decode cX10_due 1 = .ok (.invokestatic 119, 3) := by decide +kernel
theorem dX10_due_4 : decode cX10_due 4 = .ok (.ifCond .ne 5, 3) := by decide +kernel
theorem dX10_due_7 : decode cX10_due 7 = .ok (.iconst 0, 1) := by decide +kernel
theorem dX10_due_8 : decode cX10_due 8 = .ok (.ireturn, 1) := by decide +kernel
theorem dX10_due_9 : decode cX10_due 9 = .ok (.aload_n 0, 1) := by decide +kernel
theorem dX10_due_10 : decode cX10_due 10 = .ok (.getfield 85, 3) := by decide +kernel
theorem dX10_due_13 : decode cX10_due 13 = .ok (.iload_n 1, 1) := by decide +kernel
theorem dX10_due_14 : decode cX10_due 14 = .ok (.iaload, 1) := by decide +kernel
theorem dX10_due_15 : decode cX10_due 15 = .ok (.ineg, 1) := by decide +kernel
theorem dX10_due_16 : decode cX10_due 16 = .ok (.istore_n 2, 1) := by decide +kernel
theorem dX10_due_17 : decode cX10_due 17 = .ok (.iconst 0, 1) := by decide +kernel
theorem dX10_due_18 : decode cX10_due 18 = .ok (.istore_n 3, 1) := by decide +kernel
theorem dX10_due_19 : decode cX10_due 19 = .ok (.iload_n 3, 1) := by decide +kernel
theorem dX10_due_20 : decode cX10_due 20 = .ok (.aload_n 0, 1) := by decide +kernel
theorem dX10_due_21 : decode cX10_due 21 = .ok (.getfield 106, 3) := by decide +kernel
theorem dX10_due_24 : decode cX10_due 24 = .ok (.if_icmp .ge 18, 3) := by decide +kernel
theorem dX10_due_27 : decode cX10_due 27 = .ok (.iload_n 2, 1) := by decide +kernel
theorem dX10_due_28 : decode cX10_due 28 = .ok (.aload_n 0, 1) := by decide +kernel
theorem dX10_due_29 : decode cX10_due 29 = .ok (.iload_n 3, 1) := by decide +kernel
theorem dX10_due_30 : decode cX10_due 30 = .ok (.iload_n 1, 1) := by decide +kernel
theorem dX10_due_31 : decode cX10_due 31 = .ok (.invokevirtual 174, 3) := by decide +kernel
theorem dX10_due_34 : decode cX10_due 34 = .ok (.iadd, 1) := by decide +kernel
theorem dX10_due_35 : decode cX10_due 35 = .ok (.istore_n 2, 1) := by decide +kernel
theorem dX10_due_36 : decode cX10_due 36 = .ok (.iinc 3 1, 3) := by decide +kernel
theorem dX10_due_39 : decode cX10_due 39 = .ok (.goto (-20), 3) := by decide +kernel
theorem dX10_due_42 : decode cX10_due 42 = .ok (.iload_n 2, 1) := by decide +kernel
theorem dX10_due_43 : decode cX10_due 43 = .ok (.ireturn, 1) := by decide +kernel
set_option maxRecDepth 20000 in
theorem ggX10_settle_X10_due : GoodIn wsX10_settle wsX10_due := goodIn_r _ [6, 1, 7, 8, 9, 5, 10, 11, 12, 13, 14, 15, 16, 17, 18, 19, 20, 21, 22, 23, 24, 25, 26, 27, 28, 29, 30, 31, 32, 33, 34, 35, 36, 37, 38, 39, 40, 41, 42, 43, 44, 45, 46, 47, 48, 49, 50, 51, 52, 53, 54, 55, 56, 57, 58, 59, 60, 61, 62, 63, 64, 65, 66, 67, 68, 69, 70, 71, 72, 73, 74, 75, 76, 77, 78, 79, 80, 81, 82, 83, 84, 85, 86, 87, 88, 89, 90, 91, 92, 93, 94, 95, 96, 97, 98, 99, 100, 101, 102, 103, 104, 105, 106, 107, 108, 109, 110, 111, 112, 113, 114, 115, 116, 117, 118, 119, 120, 121, 122, 123, 124, 125, 126, 127, 128, 129, 130] (by decide +kernel) (by decide +kernel)
set_option maxRecDepth 20000 in
theorem gX10_settle_X10_due : GoodIn wsX10_settle (wsV RX10 177 RX10 yX10_due wsX10_due) := goodIn_app (goodIn_of _ (by decide +kernel)) ggX10_settle_X10_due
set_option maxRecDepth 20000 in
theorem ggX10_settle_X10_isPerson : GoodIn wsX10_settle wsX10_isPerson := goodIn_r _ [10, 11, 12, 5, 13] (by decide +kernel) (by decide +kernel)
set_option maxRecDepth 20000 in
theorem gX10_settle_X10_isPerson : GoodIn wsX10_settle (va_wsS RX10 119 yX10_isPerson wsX10_isPerson) := goodIn_app (goodIn_of _ (by decide +kernel)) ggX10_settle_X10_isPerson
theorem dX10_settle_0 : decode cX10_settle 0 = .ok (.aload_n 0, 1) := by decide +kernel
theorem dX10_settle_1 : decode cX10_settle 1 = .ok (.iload_n 1, 1) := by decide +kernel
theorem dX10_settle_2 : decode cX10_settle 2 = .ok (.invokevirtual 177, 3) := by decide +kernel
theorem dX10_settle_5 : decode cX10_settle 5 = .ok (.istore_n 2, 1) := by decide +kernel
theorem dX10_settle_6 : decode cX10_settle 6 = .ok (.iload_n 1, 1) := by decide +kernel
theorem dX10_settle_7 : decode cX10_settle 7 = .ok (.invokestatic 119, 3) := by decide +kernel
theorem dX10_settle_10 : decode cX10_settle 10 = .ok (.ifCond .eq 13, 3) := by decide +kernel
theorem dX10_settle_13 : decode cX10_settle 13 = .ok (.aload_n 0, 1) := by decide +kernel
theorem dX10_settle_14 : decode cX10_settle 14 = .ok (.getfield 85, 3) := by decide +kernel
theorem dX10_settle_17 : decode cX10_settle 17 = .ok (.iload_n 1, 1) := by decide +kernel
theorem dX10_settle_18 : decode cX10_settle 18 = .ok (.dup2, 1) := by decide +kernel
theorem dX10_settle_19 : decode cX10_settle 19 = .ok (.iaload, 1) := by decide +kernel
theorem dX10_settle_20 : decode cX10_settle 20 = .ok (.iload_n 2, 1) := by decide +kernel
theorem dX10_settle_21 : decode cX10_settle 21 = .ok (.iadd, 1) := by decide +kernel
theorem dX10_settle_22 : decode cX10_settle 22 = .ok (.iastore, 1) := by decide +kernel
theorem dX10_settle_23 : decode cX10_settle 23 = .ok (.iload_n 2, 1) := by decide +kernel
theorem dX10_settle_24 : decode cX10_settle 24 = .ok (.ireturn, 1) := by decide +kernel
set_option maxRecDepth 20000 in
theorem ggX10_paid_X10_isPerson : GoodIn wsX10_paid wsX10_isPerson := goodIn_r _ [5, 6, 7, 4, 8] (by decide +kernel) (by decide +kernel)
set_option maxRecDepth 20000 in
theorem gX10_paid_X10_isPerson : GoodIn wsX10_paid (va_wsS RX10 119 yX10_isPerson wsX10_isPerson) := goodIn_app (goodIn_of _ (by decide +kernel)) ggX10_paid_X10_isPerson
theorem dX10_paid_0 : decode cX10_paid 0 = .ok (.iload_n 1, 1) := by decide +kernel
theorem dX10_paid_1 : decode cX10_paid 1 = .ok (.invokestatic 119, 3) := by decide +kernel
theorem dX10_paid_4 : decode cX10_paid 4 = .ok (.ifCond .eq 12, 3) := by decide +kernel
theorem dX10_paid_7 : decode cX10_paid 7 = .ok (.aload_n 0, 1) := by decide +kernel
theorem dX10_paid_8 : decode cX10_paid 8 = .ok (.getfield 85, 3) := by decide +kernel
theorem dX10_paid_11 : decode cX10_paid 11 = .ok (.iload_n 1, 1) := by decide +kernel
theorem dX10_paid_12 : decode cX10_paid 12 = .ok (.iaload, 1) := by decide +kernel
theorem dX10_paid_13 : decode cX10_paid 13 = .ok (.goto 4, 3) := by decide +kernel
theorem dX10_paid_16 : decode cX10_paid 16 = .ok (.iconst 0, 1) := by decide +kernel
theorem dX10_paid_17 : decode cX10_paid 17 = .ok (.ireturn, 1) := by decide +kernel
theorem dX10_wide_0 : decode cX10_wide 0 = .ok (.iload_n 0, 1) := by decide +kernel
theorem dX10_wide_1 : decode cX10_wide 1 = .ok (.ifCond .ne 9, 3) := by decide +kernel
theorem dX10_wide_4 : decode cX10_wide 4 = .ok (.sipush 500, 3) := by decide +kernel
theorem dX10_wide_7 : decode cX10_wide 7 = .ok (.goto 24, 3) := by decide +kernel
theorem dX10_wide_10 : decode cX10_wide 10 = .ok (.iload_n 0, 1) := by decide +kernel
theorem dX10_wide_11 : decode cX10_wide 11 = .ok (.iconst 1, 1) := by decide +kernel
theorem dX10_wide_12 : decode cX10_wide 12 = .ok (.if_icmp .ne 8, 3) := by decide +kernel
theorem dX10_wide_15 : decode cX10_wide 15 = .ok (.bipush 100, 2) := by decide +kernel
theorem dX10_wide_17 : decode cX10_wide 17 = .ok (.goto 14, 3) := by decide +kernel
theorem dX10_wide_20 : decode cX10_wide 20 = .ok (.iload_n 0, 1) := by decide +kernel
theorem dX10_wide_21 : decode cX10_wide 21 = .ok (.iconst 2, 1) := by decide +kernel
theorem dX10_wide_22 : decode cX10_wide 22 = .ok (.if_icmp .ne 8, 3) := by decide +kernel
theorem dX10_wide_25 : decode cX10_wide 25 = .ok (.bipush 10, 2) := by decide +kernel
theorem dX10_wide_27 : decode cX10_wide 27 = .ok (.goto 4, 3) := by decide +kernel
theorem dX10_wide_30 : decode cX10_wide 30 = .ok (.iconst 1, 1) := by decide +kernel
theorem dX10_wide_31 : decode cX10_wide 31 = .ok (.ireturn, 1) := by decide +kernel
set_option maxRecDepth 20000 in
theorem ggX10_place_X10_isFind : GoodIn wsX10_place wsX10_isFind := goodIn_r _ [7, 8, 9, 10, 6, 11, 15, 16, 17, 18, 19, 20, 21, 22, 23, 24, 25, 26, 27, 28, 29, 30, 31, 32, 33, 34, 35, 36, 37, 38, 39, 40, 41, 42, 43, 44, 45, 46, 47, 48, 49, 50, 51, 52] (by decide +kernel) (by decide +kernel)
set_option maxRecDepth 20000 in
theorem gX10_place_X10_isFind : GoodIn wsX10_place (wsV RX10 127 RX10 yX10_isFind wsX10_isFind) := goodIn_app (goodIn_of _ (by decide +kernel)) ggX10_place_X10_isFind
set_option maxRecDepth 20000 in
theorem ggX10_place_X10_in : GoodIn wsX10_place wsX10_in := goodIn_r _ [11] (by decide +kernel) (by decide +kernel)
set_option maxRecDepth 20000 in
theorem gX10_place_X10_in : GoodIn wsX10_place (va_wsS RX10 109 yX10_in wsX10_in) := goodIn_app (goodIn_of _ (by decide +kernel)) ggX10_place_X10_in
set_option maxRecDepth 20000 in
theorem ggX10_place_X10_wide : GoodIn wsX10_place wsX10_wide := goodIn_r _ [14] (by decide +kernel) (by decide +kernel)
set_option maxRecDepth 20000 in
theorem gX10_place_X10_wide : GoodIn wsX10_place (va_wsS RX10 180 yX10_wide wsX10_wide) := goodIn_app (goodIn_of _ (by decide +kernel)) ggX10_place_X10_wide
theorem dX10_place_0 : decode cX10_place 0 = .ok (.aload_n 0, 1) := by decide +kernel
theorem dX10_place_1 : decode cX10_place 1 = .ok (.iload_n 1, 1) := by decide +kernel
theorem dX10_place_2 : decode cX10_place 2 = .ok (.invokevirtual 127, 3) := by decide +kernel
theorem dX10_place_5 : decode cX10_place 5 = .ok (.ifCond .eq 12, 3) := by decide +kernel
theorem dX10_place_8 : decode cX10_place 8 = .ok (.iload_n 2, 1) := by decide +kernel
theorem dX10_place_9 : decode cX10_place 9 = .ok (.iconst 0, 1) := by decide +kernel
theorem dX10_place_10 : decode cX10_place 10 = .ok (.iconst 3, 1) := by decide +kernel
theorem dX10_place_11 : decode cX10_place 11 = .ok (.invokestatic 109, 3) := by decide +kernel
theorem dX10_place_14 : decode cX10_place 14 = .ok (.ifCond .ne 5, 3) := by decide +kernel
theorem dX10_place_17 : decode cX10_place 17 = .ok (.iconst (-1), 1) := by decide +kernel
theorem dX10_place_18 : decode cX10_place 18 = .ok (.ireturn, 1) := by decide +kernel
theorem dX10_place_19 : decode cX10_place 19 = .ok (.iload_n 2, 1) := by decide +kernel
theorem dX10_place_20 : decode cX10_place 20 = .ok (.invokestatic 180, 3) := by decide +kernel
theorem dX10_place_23 : decode cX10_place 23 = .ok (.istore_n 3, 1) := by decide +kernel
theorem dX10_place_24 : decode cX10_place 24 = .ok (.aload_n 0, 1) := by decide +kernel
theorem dX10_place_25 : decode cX10_place 25 = .ok (.getfield 9, 3) := by decide +kernel
theorem dX10_place_28 : decode cX10_place 28 = .ok (.iload_n 1, 1) := by decide +kernel
theorem dX10_place_29 : decode cX10_place 29 = .ok (.iaload, 1) := by decide +kernel
theorem dX10_place_30 : decode cX10_place 30 = .ok (.aload_n 0, 1) := by decide +kernel
theorem dX10_place_31 : decode cX10_place 31 = .ok (.getfield 9, 3) := by decide +kernel
theorem dX10_place_34 : decode cX10_place 34 = .ok (.iload_n 1, 1) := by decide +kernel
theorem dX10_place_35 : decode cX10_place 35 = .ok (.iaload, 1) := by decide +kernel
theorem dX10_place_36 : decode cX10_place 36 = .ok (.iload_n 3, 1) := by decide +kernel
theorem dX10_place_37 : decode cX10_place 37 = .ok (.irem, 1) := by decide +kernel
theorem dX10_place_38 : decode cX10_place 38 = .ok (.isub, 1) := by decide +kernel
theorem dX10_place_39 : decode cX10_place 39 = .ok (.sipush 1000, 3) := by decide +kernel
theorem dX10_place_42 : decode cX10_place 42 = .ok (.imul, 1) := by decide +kernel
theorem dX10_place_43 : decode cX10_place 43 = .ok (.aload_n 0, 1) := by decide +kernel
theorem dX10_place_44 : decode cX10_place 44 = .ok (.getfield 13, 3) := by decide +kernel
theorem dX10_place_47 : decode cX10_place 47 = .ok (.iload_n 1, 1) := by decide +kernel
theorem dX10_place_48 : decode cX10_place 48 = .ok (.iaload, 1) := by decide +kernel
theorem dX10_place_49 : decode cX10_place 49 = .ok (.iadd, 1) := by decide +kernel
theorem dX10_place_50 : decode cX10_place 50 = .ok (.aload_n 0, 1) := by decide +kernel
theorem dX10_place_51 : decode cX10_place 51 = .ok (.getfield 13, 3) := by decide +kernel
theorem dX10_place_54 : decode cX10_place 54 = .ok (.iload_n 1, 1) := by decide +kernel
theorem dX10_place_55 : decode cX10_place 55 = .ok (.iaload, 1) := by decide +kernel
theorem dX10_place_56 : decode cX10_place 56 = .ok (.iload_n 3, 1) := by decide +kernel
theorem dX10_place_57 : decode cX10_place 57 = .ok (.irem, 1) := by decide +kernel
theorem dX10_place_58 : decode cX10_place 58 = .ok (.isub, 1) := by decide +kernel
theorem dX10_place_59 : decode cX10_place 59 = .ok (.ireturn, 1) := by decide +kernel
set_option maxRecDepth 20000 in
theorem ggX10_within_X10_in : GoodIn wsX10_within wsX10_in := goodIn_r _ [8] (by decide +kernel) (by decide +kernel)
set_option maxRecDepth 20000 in
theorem gX10_within_X10_in : GoodIn wsX10_within (va_wsS RX10 109 yX10_in wsX10_in) := goodIn_app (goodIn_of _ (by decide +kernel)) ggX10_within_X10_in
set_option maxRecDepth 20000 in
theorem ggX10_within_X10_wide : GoodIn wsX10_within wsX10_wide := goodIn_r _ [11] (by decide +kernel) (by decide +kernel)
set_option maxRecDepth 20000 in
theorem gX10_within_X10_wide : GoodIn wsX10_within (va_wsS RX10 180 yX10_wide wsX10_wide) := goodIn_app (goodIn_of _ (by decide +kernel)) ggX10_within_X10_wide
theorem dX10_within_0 : decode cX10_within 0 = .ok (.iload_n 3, 1) := by decide +kernel
theorem dX10_within_1 : decode cX10_within 1 = .ok (.iconst 0, 1) := by decide +kernel
theorem dX10_within_2 : decode cX10_within 2 = .ok (.iconst 3, 1) := by decide +kernel
theorem dX10_within_3 : decode cX10_within 3 = .ok (.invokestatic 109, 3) := by decide +kernel
theorem dX10_within_6 : decode cX10_within 6 = .ok (.ifCond .eq 23, 3) := by decide +kernel
theorem dX10_within_9 : decode cX10_within 9 = .ok (.iload_n 1, 1) := by decide +kernel
theorem dX10_within_10 : decode cX10_within 10 = .ok (.iconst 0, 1) := by decide +kernel
theorem dX10_within_11 : decode cX10_within 11 = .ok (.ldc 183, 2) := by decide +kernel
theorem dX10_within_13 : decode cX10_within 13 = .ok (.invokestatic 109, 3) := by decide +kernel
theorem dX10_within_16 : decode cX10_within 16 = .ok (.ifCond .eq 13, 3) := by decide +kernel
theorem dX10_within_19 : decode cX10_within 19 = .ok (.iload_n 2, 1) := by decide +kernel
theorem dX10_within_20 : decode cX10_within 20 = .ok (.iconst 0, 1) := by decide +kernel
theorem dX10_within_21 : decode cX10_within 21 = .ok (.ldc 183, 2) := by decide +kernel
theorem dX10_within_23 : decode cX10_within 23 = .ok (.invokestatic 109, 3) := by decide +kernel
theorem dX10_within_26 : decode cX10_within 26 = .ok (.ifCond .ne 5, 3) := by decide +kernel
theorem dX10_within_29 : decode cX10_within 29 = .ok (.iconst (-1), 1) := by decide +kernel
theorem dX10_within_30 : decode cX10_within 30 = .ok (.ireturn, 1) := by decide +kernel
theorem dX10_within_31 : decode cX10_within 31 = .ok (.iload_n 1, 1) := by decide +kernel
theorem dX10_within_32 : decode cX10_within 32 = .ok (.sipush 1001, 3) := by decide +kernel
theorem dX10_within_35 : decode cX10_within 35 = .ok (.idiv, 1) := by decide +kernel
theorem dX10_within_36 : decode cX10_within 36 = .ok (.istore 4, 2) := by decide +kernel
theorem dX10_within_38 : decode cX10_within 38 = .ok (.iload_n 1, 1) := by decide +kernel
theorem dX10_within_39 : decode cX10_within 39 = .ok (.sipush 1001, 3) := by decide +kernel
theorem dX10_within_42 : decode cX10_within 42 = .ok (.irem, 1) := by decide +kernel
theorem dX10_within_43 : decode cX10_within 43 = .ok (.istore 5, 2) := by decide +kernel
theorem dX10_within_45 : decode cX10_within 45 = .ok (.iload_n 2, 1) := by decide +kernel
theorem dX10_within_46 : decode cX10_within 46 = .ok (.sipush 1001, 3) := by decide +kernel
theorem dX10_within_49 : decode cX10_within 49 = .ok (.idiv, 1) := by decide +kernel
theorem dX10_within_50 : decode cX10_within 50 = .ok (.istore 6, 2) := by decide +kernel
theorem dX10_within_52 : decode cX10_within 52 = .ok (.iload_n 2, 1) := by decide +kernel
theorem dX10_within_53 : decode cX10_within 53 = .ok (.sipush 1001, 3) := by decide +kernel
theorem dX10_within_56 : decode cX10_within 56 = .ok (.irem, 1) := by decide +kernel
theorem dX10_within_57 : decode cX10_within 57 = .ok (.istore 7, 2) := by decide +kernel
theorem dX10_within_59 : decode cX10_within 59 = .ok (.iload_n 3, 1) := by decide +kernel
theorem dX10_within_60 : decode cX10_within 60 = .ok (.invokestatic 180, 3) := by decide +kernel
theorem dX10_within_63 : decode cX10_within 63 = .ok (.istore 8, 2) := by decide +kernel
theorem dX10_within_65 : decode cX10_within 65 = .ok (.iload 4, 2) := by decide +kernel
theorem dX10_within_67 : decode cX10_within 67 = .ok (.iload 8, 2) := by decide +kernel
theorem dX10_within_69 : decode cX10_within 69 = .ok (.irem, 1) := by decide +kernel
theorem dX10_within_70 : decode cX10_within 70 = .ok (.iload 6, 2) := by decide +kernel
theorem dX10_within_72 : decode cX10_within 72 = .ok (.iload 8, 2) := by decide +kernel
theorem dX10_within_74 : decode cX10_within 74 = .ok (.irem, 1) := by decide +kernel
theorem dX10_within_75 : decode cX10_within 75 = .ok (.iadd, 1) := by decide +kernel
theorem dX10_within_76 : decode cX10_within 76 = .ok (.iload 5, 2) := by decide +kernel
theorem dX10_within_78 : decode cX10_within 78 = .ok (.iload 8, 2) := by decide +kernel
theorem dX10_within_80 : decode cX10_within 80 = .ok (.irem, 1) := by decide +kernel
theorem dX10_within_81 : decode cX10_within 81 = .ok (.iadd, 1) := by decide +kernel
theorem dX10_within_82 : decode cX10_within 82 = .ok (.iload 7, 2) := by decide +kernel
theorem dX10_within_84 : decode cX10_within 84 = .ok (.iload 8, 2) := by decide +kernel
theorem dX10_within_86 : decode cX10_within 86 = .ok (.irem, 1) := by decide +kernel
theorem dX10_within_87 : decode cX10_within 87 = .ok (.iadd, 1) := by decide +kernel
theorem dX10_within_88 : decode cX10_within 88 = .ok (.ifCond .gt 17, 3) := by decide +kernel
theorem dX10_within_91 : decode cX10_within 91 = .ok (.iload 6, 2) := by decide +kernel
theorem dX10_within_93 : decode cX10_within 93 = .ok (.iload 4, 2) := by decide +kernel
theorem dX10_within_95 : decode cX10_within 95 = .ok (.if_icmp .le 10, 3) := by decide +kernel
theorem dX10_within_98 : decode cX10_within 98 = .ok (.iload 7, 2) := by decide +kernel
theorem dX10_within_100 : decode cX10_within 100 = .ok (.iload 5, 2) := by decide +kernel
theorem dX10_within_102 : decode cX10_within 102 = .ok (.if_icmp .gt 5, 3) := by decide +kernel
theorem dX10_within_105 : decode cX10_within 105 = .ok (.iconst (-1), 1) := by decide +kernel
theorem dX10_within_106 : decode cX10_within 106 = .ok (.ireturn, 1) := by decide +kernel
theorem dX10_within_107 : decode cX10_within 107 = .ok (.iconst 0, 1) := by decide +kernel
theorem dX10_within_108 : decode cX10_within 108 = .ok (.istore 9, 2) := by decide +kernel
theorem dX10_within_110 : decode cX10_within 110 = .ok (.iconst 0, 1) := by decide +kernel
theorem dX10_within_111 : decode cX10_within 111 = .ok (.istore 10, 2) := by decide +kernel
theorem dX10_within_113 : decode cX10_within 113 = .ok (.iload 10, 2) := by decide +kernel
theorem dX10_within_115 : decode cX10_within 115 = .ok (.aload_n 0, 1) := by decide +kernel
theorem dX10_within_116 : decode cX10_within 116 = .ok (.getfield 106, 3) := by decide +kernel
theorem dX10_within_119 : decode cX10_within 119 = .ok (.if_icmp .ge 57, 3) := by decide +kernel
theorem dX10_within_122 : decode cX10_within 122 = .ok (.iload 9, 2) := by decide +kernel
theorem dX10_within_124 : decode cX10_within 124 = .ok (.aload_n 0, 1) := by decide +kernel
theorem dX10_within_125 : decode cX10_within 125 = .ok (.getfield 9, 3) := by decide +kernel
theorem dX10_within_128 : decode cX10_within 128 = .ok (.iload 10, 2) := by decide +kernel
theorem dX10_within_130 : decode cX10_within 130 = .ok (.iaload, 1) := by decide +kernel
theorem dX10_within_131 : decode cX10_within 131 = .ok (.iload 4, 2) := by decide +kernel
theorem dX10_within_133 : decode cX10_within 133 = .ok (.iload 6, 2) := by decide +kernel
theorem dX10_within_135 : decode cX10_within 135 = .ok (.iconst 1, 1) := by decide +kernel
theorem dX10_within_136 : decode cX10_within 136 = .ok (.isub, 1) := by decide +kernel
theorem dX10_within_137 : decode cX10_within 137 = .ok (.invokestatic 109, 3) := by decide +kernel
theorem dX10_within_140 : decode cX10_within 140 = .ok (.ifCond .eq 26, 3) := by decide +kernel
theorem dX10_within_143 : decode cX10_within 143 = .ok (.aload_n 0, 1) := by decide +kernel
theorem dX10_within_144 : decode cX10_within 144 = .ok (.getfield 13, 3) := by decide +kernel
theorem dX10_within_147 : decode cX10_within 147 = .ok (.iload 10, 2) := by decide +kernel
theorem dX10_within_149 : decode cX10_within 149 = .ok (.iaload, 1) := by decide +kernel
theorem dX10_within_150 : decode cX10_within 150 = .ok (.iload 5, 2) := by decide +kernel
theorem dX10_within_152 : decode cX10_within 152 = .ok (.iload 7, 2) := by decide +kernel
theorem dX10_within_154 : decode cX10_within 154 = .ok (.iconst 1, 1) := by decide +kernel
theorem dX10_within_155 : decode cX10_within 155 = .ok (.isub, 1) := by decide +kernel
theorem dX10_within_156 : decode cX10_within 156 = .ok (.invokestatic 109, 3) := by decide +kernel
theorem dX10_within_159 : decode cX10_within 159 = .ok (.ifCond .eq 7, 3) := by decide +kernel
theorem dX10_within_162 : decode cX10_within 162 = .ok (.iconst 1, 1) := by decide +kernel
theorem dX10_within_163 : decode cX10_within 163 = .ok (.goto 4, 3) := by decide +kernel
theorem dX10_within_166 : decode cX10_within 166 = .ok (.iconst 0, 1) := by decide +kernel
theorem dX10_within_167 : decode cX10_within 167 = .ok (.iadd, 1) := by decide +kernel
theorem dX10_within_168 : decode cX10_within 168 = .ok (.istore 9, 2) := by decide +kernel
theorem dX10_within_170 : decode cX10_within 170 = .ok (.iinc 10 1, 3) := by decide +kernel
theorem dX10_within_173 : decode cX10_within 173 = .ok (.goto (-60), 3) := by decide +kernel
theorem dX10_within_176 : decode cX10_within 176 = .ok (.iload 9, 2) := by decide +kernel
theorem dX10_within_178 : decode cX10_within 178 = .ok (.ireturn, 1) := by decide +kernel
set_option maxRecDepth 20000 in
theorem ggX10_museum_X10_in : GoodIn wsX10_museum wsX10_in := goodIn_r _ [8] (by decide +kernel) (by decide +kernel)
set_option maxRecDepth 20000 in
theorem gX10_museum_X10_in : GoodIn wsX10_museum (va_wsS RX10 109 yX10_in wsX10_in) := goodIn_app (goodIn_of _ (by decide +kernel)) ggX10_museum_X10_in
theorem dX10_museum_0 : decode cX10_museum 0 = .ok (.iload_n 1, 1) := by decide +kernel
theorem dX10_museum_1 : decode cX10_museum 1 = .ok (.iconst 0, 1) := by decide +kernel
theorem dX10_museum_2 : decode cX10_museum 2 = .ok (.bipush 7, 2) := by decide +kernel
theorem dX10_museum_4 : decode cX10_museum 4 = .ok (.invokestatic 109, 3) := by decide +kernel
theorem dX10_museum_7 : decode cX10_museum 7 = .ok (.ifCond .eq 22, 3) := by decide +kernel
theorem dX10_museum_10 : decode cX10_museum 10 = .ok (.iload_n 2, 1) := by decide +kernel
theorem dX10_museum_11 : decode cX10_museum 11 = .ok (.iconst 0, 1) := by decide +kernel
theorem dX10_museum_12 : decode cX10_museum 12 = .ok (.ldc 105, 2) := by decide +kernel
theorem dX10_museum_14 : decode cX10_museum 14 = .ok (.invokestatic 109, 3) := by decide +kernel
theorem dX10_museum_17 : decode cX10_museum 17 = .ok (.ifCond .eq 12, 3) := by decide +kernel
theorem dX10_museum_20 : decode cX10_museum 20 = .ok (.aload_n 0, 1) := by decide +kernel
theorem dX10_museum_21 : decode cX10_museum 21 = .ok (.getfield 184, 3) := by decide +kernel
theorem dX10_museum_24 : decode cX10_museum 24 = .ok (.bipush 10, 2) := by decide +kernel
theorem dX10_museum_26 : decode cX10_museum 26 = .ok (.if_icmp .ne 5, 3) := by decide +kernel
theorem dX10_museum_29 : decode cX10_museum 29 = .ok (.iconst (-1), 1) := by decide +kernel
theorem dX10_museum_30 : decode cX10_museum 30 = .ok (.ireturn, 1) := by decide +kernel
theorem dX10_museum_31 : decode cX10_museum 31 = .ok (.aload_n 0, 1) := by decide +kernel
theorem dX10_museum_32 : decode cX10_museum 32 = .ok (.getfield 88, 3) := by decide +kernel
theorem dX10_museum_35 : decode cX10_museum 35 = .ok (.aload_n 0, 1) := by decide +kernel
theorem dX10_museum_36 : decode cX10_museum 36 = .ok (.getfield 184, 3) := by decide +kernel
theorem dX10_museum_39 : decode cX10_museum 39 = .ok (.iload_n 1, 1) := by decide +kernel
theorem dX10_museum_40 : decode cX10_museum 40 = .ok (.iastore, 1) := by decide +kernel
theorem dX10_museum_41 : decode cX10_museum 41 = .ok (.aload_n 0, 1) := by decide +kernel
theorem dX10_museum_42 : decode cX10_museum 42 = .ok (.getfield 91, 3) := by decide +kernel
theorem dX10_museum_45 : decode cX10_museum 45 = .ok (.aload_n 0, 1) := by decide +kernel
theorem dX10_museum_46 : decode cX10_museum 46 = .ok (.getfield 184, 3) := by decide +kernel
theorem dX10_museum_49 : decode cX10_museum 49 = .ok (.iload_n 2, 1) := by decide +kernel
theorem dX10_museum_50 : decode cX10_museum 50 = .ok (.iastore, 1) := by decide +kernel
theorem dX10_museum_51 : decode cX10_museum 51 = .ok (.aload_n 0, 1) := by decide +kernel
theorem dX10_museum_52 : decode cX10_museum 52 = .ok (.dup, 1) := by decide +kernel
theorem dX10_museum_53 : decode cX10_museum 53 = .ok (.getfield 184, 3) := by decide +kernel

theorem dX10_museum_56 : decode cX10_museum 56 = .ok (.iconst 1, 1) := by decide +kernel
theorem dX10_museum_57 : decode cX10_museum 57 = .ok (.iadd, 1) := by decide +kernel
theorem dX10_museum_58 : decode cX10_museum 58 = .ok (.putfield 184, 3) := by decide +kernel
theorem dX10_museum_61 : decode cX10_museum 61 = .ok (.aload_n 0, 1) := by decide +kernel
theorem dX10_museum_62 : decode cX10_museum 62 = .ok (.getfield 184, 3) := by decide +kernel
theorem dX10_museum_65 : decode cX10_museum 65 = .ok (.iconst 1, 1) := by decide +kernel
theorem dX10_museum_66 : decode cX10_museum 66 = .ok (.isub, 1) := by decide +kernel
theorem dX10_museum_67 : decode cX10_museum 67 = .ok (.ireturn, 1) := by decide +kernel
theorem dX10_turn_0 : decode cX10_turn 0 = .ok (.aload_n 0, 1) := by decide +kernel
theorem dX10_turn_1 : decode cX10_turn 1 = .ok (.getfield 184, 3) := by decide +kernel
theorem dX10_turn_4 : decode cX10_turn 4 = .ok (.ifCond .ne 7, 3) := by decide +kernel
theorem dX10_turn_7 : decode cX10_turn 7 = .ok (.iconst (-1), 1) := by decide +kernel
theorem dX10_turn_8 : decode cX10_turn 8 = .ok (.goto 14, 3) := by decide +kernel
theorem dX10_turn_11 : decode cX10_turn 11 = .ok (.aload_n 0, 1) := by decide +kernel
theorem dX10_turn_12 : decode cX10_turn 12 = .ok (.getfield 97, 3) := by decide +kernel
theorem dX10_turn_15 : decode cX10_turn 15 = .ok (.iconst 1, 1) := by decide +kernel
theorem dX10_turn_16 : decode cX10_turn 16 = .ok (.iadd, 1) := by decide +kernel
theorem dX10_turn_17 : decode cX10_turn 17 = .ok (.aload_n 0, 1) := by decide +kernel
theorem dX10_turn_18 : decode cX10_turn 18 = .ok (.getfield 184, 3) := by decide +kernel
theorem dX10_turn_21 : decode cX10_turn 21 = .ok (.irem, 1) := by decide +kernel
theorem dX10_turn_22 : decode cX10_turn 22 = .ok (.ireturn, 1) := by decide +kernel
set_option maxRecDepth 20000 in
theorem ggX10_offer_X10_isFind : GoodIn wsX10_offer wsX10_isFind := goodIn_r _ [12, 13, 14, 15, 11, 16, 76, 77, 78, 79, 80, 81, 82, 83, 84, 85, 86, 87, 88, 89, 90, 91, 92, 93, 94, 95, 96, 97, 98, 99, 100, 101, 102, 103, 104, 105, 106, 107, 108, 109, 110, 111, 112, 113] (by decide +kernel) (by decide +kernel)
set_option maxRecDepth 20000 in
theorem gX10_offer_X10_isFind : GoodIn wsX10_offer (wsV RX10 127 RX10 yX10_isFind wsX10_isFind) := goodIn_app (goodIn_of _ (by decide +kernel)) ggX10_offer_X10_isFind
set_option maxRecDepth 20000 in
theorem ggX10_offer_X10_counts : GoodIn wsX10_offer wsX10_counts := goodIn_r _ [20, 21, 22, 23, 24, 11, 25, 26, 27, 28, 4, 29, 30, 31, 32, 33, 34, 35, 36, 8, 9, 10, 12, 13, 14, 15, 16, 37, 38, 39, 40, 41, 42, 43, 44, 45, 46, 47, 48, 49, 50, 51, 52, 53, 54, 55, 56, 57, 58, 76, 77, 78, 79, 80, 81, 82, 83, 84, 85, 86, 87, 88, 89, 90, 91, 92, 93, 94, 95, 96, 97, 98, 99, 100, 101, 102, 103, 104, 105, 106, 107, 108, 109, 110, 111, 112, 113] (by decide +kernel) (by decide +kernel)
set_option maxRecDepth 20000 in
theorem gX10_offer_X10_counts : GoodIn wsX10_offer (wsV RX10 166 RX10 yX10_counts wsX10_counts) := goodIn_app (goodIn_of _ (by decide +kernel)) ggX10_offer_X10_counts
set_option maxRecDepth 20000 in
theorem ggX10_offer_X10_worth : GoodIn wsX10_offer wsX10_worth := goodIn_r _ [62, 63, 64, 4, 65, 66, 21, 67, 68, 69, 70, 71, 8, 9, 10, 11, 12, 13, 14, 15, 16, 43, 44, 45, 76, 77, 78, 79, 80, 81, 82, 83, 84, 85, 86, 87, 88, 89, 90, 91, 92, 93, 94, 95, 96, 97, 98, 99, 100, 101, 102, 103, 104, 105, 106, 107, 108, 109, 110, 111, 112, 113] (by decide +kernel) (by decide +kernel)
set_option maxRecDepth 20000 in
theorem gX10_offer_X10_worth : GoodIn wsX10_offer (wsV RX10 169 RX10 yX10_worth wsX10_worth) := goodIn_app (goodIn_of _ (by decide +kernel)) ggX10_offer_X10_worth
set_option maxRecDepth 20000 in
theorem ggX10_offer_X10_turn : GoodIn wsX10_offer wsX10_turn := goodIn_r _ [75, 2, 7, 76, 77, 78, 79, 80, 81, 82, 83, 84, 85, 86, 87, 88, 89, 90, 91, 92, 93, 94, 95, 96, 97, 98, 99, 100, 101, 102, 103, 104, 105, 106, 107, 108, 109, 110, 111, 112, 113] (by decide +kernel) (by decide +kernel)
set_option maxRecDepth 20000 in
theorem gX10_offer_X10_turn : GoodIn wsX10_offer (wsV RX10 187 RX10 yX10_turn wsX10_turn) := goodIn_app (goodIn_of _ (by decide +kernel)) ggX10_offer_X10_turn
theorem dX10_offer_0 : decode cX10_offer 0 = .ok (.aload_n 0, 1) := by decide +kernel
theorem dX10_offer_1 : decode cX10_offer 1 = .ok (.iload_n 1, 1) := by decide +kernel
theorem dX10_offer_2 : decode cX10_offer 2 = .ok (.invokevirtual 127, 3) := by decide +kernel
theorem dX10_offer_5 : decode cX10_offer 5 = .ok (.ifCond .eq 21, 3) := by decide +kernel
theorem dX10_offer_8 : decode cX10_offer 8 = .ok (.aload_n 0, 1) := by decide +kernel
theorem dX10_offer_9 : decode cX10_offer 9 = .ok (.getfield 40, 3) := by decide +kernel
theorem dX10_offer_12 : decode cX10_offer 12 = .ok (.iload_n 1, 1) := by decide +kernel
theorem dX10_offer_13 : decode cX10_offer 13 = .ok (.iaload, 1) := by decide +kernel
theorem dX10_offer_14 : decode cX10_offer 14 = .ok (.iconst (-1), 1) := by decide +kernel
theorem dX10_offer_15 : decode cX10_offer 15 = .ok (.if_icmp .ne 11, 3) := by decide +kernel
theorem dX10_offer_18 : decode cX10_offer 18 = .ok (.aload_n 0, 1) := by decide +kernel
theorem dX10_offer_19 : decode cX10_offer 19 = .ok (.iload_n 1, 1) := by decide +kernel
theorem dX10_offer_20 : decode cX10_offer 20 = .ok (.invokevirtual 166, 3) := by decide +kernel
theorem dX10_offer_23 : decode cX10_offer 23 = .ok (.ifCond .ne 5, 3) := by decide +kernel
theorem dX10_offer_26 : decode cX10_offer 26 = .ok (.iconst (-1), 1) := by decide +kernel
theorem dX10_offer_27 : decode cX10_offer 27 = .ok (.ireturn, 1) := by decide +kernel
theorem dX10_offer_28 : decode cX10_offer 28 = .ok (.aload_n 0, 1) := by decide +kernel
theorem dX10_offer_29 : decode cX10_offer 29 = .ok (.iload_n 1, 1) := by decide +kernel
theorem dX10_offer_30 : decode cX10_offer 30 = .ok (.invokevirtual 169, 3) := by decide +kernel
theorem dX10_offer_33 : decode cX10_offer 33 = .ok (.istore_n 2, 1) := by decide +kernel
theorem dX10_offer_34 : decode cX10_offer 34 = .ok (.aload_n 0, 1) := by decide +kernel
theorem dX10_offer_35 : decode cX10_offer 35 = .ok (.invokevirtual 187, 3) := by decide +kernel
theorem dX10_offer_38 : decode cX10_offer 38 = .ok (.istore_n 3, 1) := by decide +kernel
theorem dX10_offer_39 : decode cX10_offer 39 = .ok (.iconst 0, 1) := by decide +kernel
theorem dX10_offer_40 : decode cX10_offer 40 = .ok (.istore 4, 2) := by decide +kernel
theorem dX10_offer_42 : decode cX10_offer 42 = .ok (.iload 4, 2) := by decide +kernel
theorem dX10_offer_44 : decode cX10_offer 44 = .ok (.aload_n 0, 1) := by decide +kernel
theorem dX10_offer_45 : decode cX10_offer 45 = .ok (.getfield 184, 3) := by decide +kernel
theorem dX10_offer_48 : decode cX10_offer 48 = .ok (.if_icmp .ge 81, 3) := by decide +kernel
theorem dX10_offer_51 : decode cX10_offer 51 = .ok (.iload_n 3, 1) := by decide +kernel
theorem dX10_offer_52 : decode cX10_offer 52 = .ok (.iload 4, 2) := by decide +kernel
theorem dX10_offer_54 : decode cX10_offer 54 = .ok (.iadd, 1) := by decide +kernel
theorem dX10_offer_55 : decode cX10_offer 55 = .ok (.aload_n 0, 1) := by decide +kernel
theorem dX10_offer_56 : decode cX10_offer 56 = .ok (.getfield 184, 3) := by decide +kernel
theorem dX10_offer_59 : decode cX10_offer 59 = .ok (.irem, 1) := by decide +kernel
theorem dX10_offer_60 : decode cX10_offer 60 = .ok (.istore 5, 2) := by decide +kernel
theorem dX10_offer_62 : decode cX10_offer 62 = .ok (.aload_n 0, 1) := by decide +kernel
theorem dX10_offer_63 : decode cX10_offer 63 = .ok (.getfield 88, 3) := by decide +kernel
theorem dX10_offer_66 : decode cX10_offer 66 = .ok (.iload 5, 2) := by decide +kernel
theorem dX10_offer_68 : decode cX10_offer 68 = .ok (.iaload, 1) := by decide +kernel
theorem dX10_offer_69 : decode cX10_offer 69 = .ok (.aload_n 0, 1) := by decide +kernel
theorem dX10_offer_70 : decode cX10_offer 70 = .ok (.getfield 16, 3) := by decide +kernel
theorem dX10_offer_73 : decode cX10_offer 73 = .ok (.iload_n 1, 1) := by decide +kernel
theorem dX10_offer_74 : decode cX10_offer 74 = .ok (.iaload, 1) := by decide +kernel
theorem dX10_offer_75 : decode cX10_offer 75 = .ok (.ishr, 1) := by decide +kernel
theorem dX10_offer_76 : decode cX10_offer 76 = .ok (.iconst 1, 1) := by decide +kernel
theorem dX10_offer_77 : decode cX10_offer 77 = .ok (.iand, 1) := by decide +kernel
theorem dX10_offer_78 : decode cX10_offer 78 = .ok (.ifCond .eq 45, 3) := by decide +kernel
theorem dX10_offer_81 : decode cX10_offer 81 = .ok (.iload_n 2, 1) := by decide +kernel
theorem dX10_offer_82 : decode cX10_offer 82 = .ok (.aload_n 0, 1) := by decide +kernel
theorem dX10_offer_83 : decode cX10_offer 83 = .ok (.getfield 91, 3) := by decide +kernel
theorem dX10_offer_86 : decode cX10_offer 86 = .ok (.iload 5, 2) := by decide +kernel
theorem dX10_offer_88 : decode cX10_offer 88 = .ok (.iaload, 1) := by decide +kernel
theorem dX10_offer_89 : decode cX10_offer 89 = .ok (.if_icmp .le 6, 3) := by decide +kernel
theorem dX10_offer_92 : decode cX10_offer 92 = .ok (.goto 31, 3) := by decide +kernel
theorem dX10_offer_95 : decode cX10_offer 95 = .ok (.aload_n 0, 1) := by decide +kernel
theorem dX10_offer_96 : decode cX10_offer 96 = .ok (.getfield 40, 3) := by decide +kernel
theorem dX10_offer_99 : decode cX10_offer 99 = .ok (.iload_n 1, 1) := by decide +kernel
theorem dX10_offer_100 : decode cX10_offer 100 = .ok (.iload 5, 2) := by decide +kernel
theorem dX10_offer_102 : decode cX10_offer 102 = .ok (.iastore, 1) := by decide +kernel
theorem dX10_offer_103 : decode cX10_offer 103 = .ok (.aload_n 0, 1) := by decide +kernel
theorem dX10_offer_104 : decode cX10_offer 104 = .ok (.getfield 94, 3) := by decide +kernel
theorem dX10_offer_107 : decode cX10_offer 107 = .ok (.iload 5, 2) := by decide +kernel
theorem dX10_offer_109 : decode cX10_offer 109 = .ok (.dup2, 1) := by decide +kernel
theorem dX10_offer_110 : decode cX10_offer 110 = .ok (.iaload, 1) := by decide +kernel
theorem dX10_offer_111 : decode cX10_offer 111 = .ok (.iload_n 2, 1) := by decide +kernel
theorem dX10_offer_112 : decode cX10_offer 112 = .ok (.iadd, 1) := by decide +kernel
theorem dX10_offer_113 : decode cX10_offer 113 = .ok (.iastore, 1) := by decide +kernel
theorem dX10_offer_114 : decode cX10_offer 114 = .ok (.aload_n 0, 1) := by decide +kernel
theorem dX10_offer_115 : decode cX10_offer 115 = .ok (.iload 5, 2) := by decide +kernel
theorem dX10_offer_117 : decode cX10_offer 117 = .ok (.putfield 97, 3) := by decide +kernel
theorem dX10_offer_120 : decode cX10_offer 120 = .ok (.iload 5, 2) := by decide +kernel
theorem dX10_offer_122 : decode cX10_offer 122 = .ok (.ireturn, 1) := by decide +kernel
theorem dX10_offer_123 : decode cX10_offer 123 = .ok (.iinc 4 1, 3) := by decide +kernel
theorem dX10_offer_126 : decode cX10_offer 126 = .ok (.goto (-84), 3) := by decide +kernel
theorem dX10_offer_129 : decode cX10_offer 129 = .ok (.iconst (-1), 1) := by decide +kernel
theorem dX10_offer_130 : decode cX10_offer 130 = .ok (.ireturn, 1) := by decide +kernel
set_option maxRecDepth 20000 in
theorem ggX10_spent_X10_in : GoodIn wsX10_spent wsX10_in := goodIn_r _ [6] (by decide +kernel) (by decide +kernel)
set_option maxRecDepth 20000 in
theorem gX10_spent_X10_in : GoodIn wsX10_spent (va_wsS RX10 109 yX10_in wsX10_in) := goodIn_app (goodIn_of _ (by decide +kernel)) ggX10_spent_X10_in
theorem dX10_spent_0 : decode cX10_spent 0 = .ok (.iload_n 1, 1) := by decide +kernel
theorem dX10_spent_1 : decode cX10_spent 1 = .ok (.iconst 0, 1) := by decide +kernel
theorem dX10_spent_2 : decode cX10_spent 2 = .ok (.aload_n 0, 1) := by decide +kernel
theorem dX10_spent_3 : decode cX10_spent 3 = .ok (.getfield 184, 3) := by decide +kernel
theorem dX10_spent_6 : decode cX10_spent 6 = .ok (.iconst 1, 1) := by decide +kernel
theorem dX10_spent_7 : decode cX10_spent 7 = .ok (.isub, 1) := by decide +kernel
theorem dX10_spent_8 : decode cX10_spent 8 = .ok (.invokestatic 109, 3) := by decide +kernel
theorem dX10_spent_11 : decode cX10_spent 11 = .ok (.ifCond .eq 12, 3) := by decide +kernel
theorem dX10_spent_14 : decode cX10_spent 14 = .ok (.aload_n 0, 1) := by decide +kernel
theorem dX10_spent_15 : decode cX10_spent 15 = .ok (.getfield 94, 3) := by decide +kernel
theorem dX10_spent_18 : decode cX10_spent 18 = .ok (.iload_n 1, 1) := by decide +kernel
theorem dX10_spent_19 : decode cX10_spent 19 = .ok (.iaload, 1) := by decide +kernel
theorem dX10_spent_20 : decode cX10_spent 20 = .ok (.goto 4, 3) := by decide +kernel
theorem dX10_spent_23 : decode cX10_spent 23 = .ok (.iconst (-1), 1) := by decide +kernel
theorem dX10_spent_24 : decode cX10_spent 24 = .ok (.ireturn, 1) := by decide +kernel
set_option maxRecDepth 20000 in
theorem ggX10_count_X10_hoard : GoodIn wsX10_count wsX10_hoard := goodIn_r _ [11, 1, 12, 13, 14, 15, 10, 16, 2, 17, 18, 19, 20, 21, 22, 23, 24, 25, 26, 27, 28, 29, 30, 31, 32, 33, 65, 66, 67, 68, 69, 70, 71, 72, 73, 74, 75, 76, 77, 78, 79, 80, 81, 82, 83, 84, 85, 86, 87, 88, 89, 90, 91, 92, 93, 94, 95, 96, 97, 98, 99, 100, 101, 102] (by decide +kernel) (by decide +kernel)
set_option maxRecDepth 20000 in
theorem gX10_count_X10_hoard : GoodIn wsX10_count (wsV RX10 191 RX10 yX10_hoard wsX10_hoard) := goodIn_app (goodIn_of _ (by decide +kernel)) ggX10_count_X10_hoard
set_option maxRecDepth 20000 in
theorem ggX10_count_X10_counts : GoodIn wsX10_count wsX10_counts := goodIn_r _ [37, 1, 38, 39, 40, 10, 41, 42, 32, 43, 44, 45, 46, 47, 48, 49, 50, 51, 24, 13, 14, 15, 16, 2, 17, 18, 19, 52, 53, 54, 55, 3, 56, 57, 58, 59, 20, 21, 22, 23, 12, 25, 26, 27, 28, 29, 30, 31, 33, 65, 66, 67, 68, 69, 70, 71, 72, 73, 74, 75, 76, 77, 78, 79, 80, 81, 82, 83, 84, 85, 86, 87, 88, 89, 90, 91, 92, 93, 94, 95, 96, 97, 98, 99, 100, 101, 102] (by decide +kernel) (by decide +kernel)
set_option maxRecDepth 20000 in
theorem gX10_count_X10_counts : GoodIn wsX10_count (wsV RX10 166 RX10 yX10_counts wsX10_counts) := goodIn_app (goodIn_of _ (by decide +kernel)) ggX10_count_X10_counts
set_option maxRecDepth 20000 in
theorem ggX10_count_X10_turn : GoodIn wsX10_count wsX10_turn := goodIn_r _ [63, 5, 64, 65, 66, 67, 68, 69, 70, 71, 72, 73, 74, 75, 76, 77, 78, 79, 80, 81, 82, 83, 84, 85, 86, 87, 88, 89, 90, 91, 92, 93, 94, 95, 96, 97, 98, 99, 100, 101, 102] (by decide +kernel) (by decide +kernel)
set_option maxRecDepth 20000 in
theorem gX10_count_X10_turn : GoodIn wsX10_count (wsV RX10 187 RX10 yX10_turn wsX10_turn) := goodIn_app (goodIn_of _ (by decide +kernel)) ggX10_count_X10_turn
theorem dX10_count_0 : decode cX10_count 0 = .ok (.iconst 0, 1) := by decide +kernel
theorem dX10_count_1 : decode cX10_count 1 = .ok (.istore_n 2, 1) := by decide +kernel
theorem dX10_count_2 : decode cX10_count 2 = .ok (.iload_n 1, 1) := by decide +kernel
theorem dX10_count_3 : decode cX10_count 3 = .ok (.tableswitch 153 0 8 #[49, 54, 59, 94, 99, 104, 109, 114, 148], 49) := by decide +kernel
theorem dX10_count_52 : decode cX10_count 52 = .ok (.aload_n 0, 1) := by decide +kernel
theorem dX10_count_53 : decode cX10_count 53 = .ok (.getfield 113, 3) := by decide +kernel
theorem dX10_count_56 : decode cX10_count 56 = .ok (.ireturn, 1) := by decide +kernel
theorem dX10_count_57 : decode cX10_count 57 = .ok (.aload_n 0, 1) := by decide +kernel
theorem dX10_count_58 : decode cX10_count 58 = .ok (.getfield 106, 3) := by decide +kernel
theorem dX10_count_61 : decode cX10_count 61 = .ok (.ireturn, 1) := by decide +kernel
theorem dX10_count_62 : decode cX10_count 62 = .ok (.iconst 0, 1) := by decide +kernel
theorem dX10_count_63 : decode cX10_count 63 = .ok (.istore_n 3, 1) := by decide +kernel
theorem dX10_count_64 : decode cX10_count 64 = .ok (.iload_n 3, 1) := by decide +kernel
theorem dX10_count_65 : decode cX10_count 65 = .ok (.aload_n 0, 1) := by decide +kernel
theorem dX10_count_66 : decode cX10_count 66 = .ok (.getfield 106, 3) := by decide +kernel
theorem dX10_count_69 : decode cX10_count 69 = .ok (.if_icmp .ge 26, 3) := by decide +kernel
theorem dX10_count_72 : decode cX10_count 72 = .ok (.iload_n 2, 1) := by decide +kernel
theorem dX10_count_73 : decode cX10_count 73 = .ok (.aload_n 0, 1) := by decide +kernel
theorem dX10_count_74 : decode cX10_count 74 = .ok (.iload_n 3, 1) := by decide +kernel
theorem dX10_count_75 : decode cX10_count 75 = .ok (.invokevirtual 191, 3) := by decide +kernel
theorem dX10_count_78 : decode cX10_count 78 = .ok (.iload_n 3, 1) := by decide +kernel
theorem dX10_count_79 : decode cX10_count 79 = .ok (.if_icmp .ne 7, 3) := by decide +kernel
theorem dX10_count_82 : decode cX10_count 82 = .ok (.iconst 1, 1) := by decide +kernel
theorem dX10_count_83 : decode cX10_count 83 = .ok (.goto 4, 3) := by decide +kernel
theorem dX10_count_86 : decode cX10_count 86 = .ok (.iconst 0, 1) := by decide +kernel
theorem dX10_count_87 : decode cX10_count 87 = .ok (.iadd, 1) := by decide +kernel
theorem dX10_count_88 : decode cX10_count 88 = .ok (.istore_n 2, 1) := by decide +kernel
theorem dX10_count_89 : decode cX10_count 89 = .ok (.iinc 3 1, 3) := by decide +kernel
theorem dX10_count_92 : decode cX10_count 92 = .ok (.goto (-28), 3) := by decide +kernel
theorem dX10_count_95 : decode cX10_count 95 = .ok (.iload_n 2, 1) := by decide +kernel
theorem dX10_count_96 : decode cX10_count 96 = .ok (.ireturn, 1) := by decide +kernel
theorem dX10_count_97 : decode cX10_count 97 = .ok (.aload_n 0, 1) := by decide +kernel
theorem dX10_count_98 : decode cX10_count 98 = .ok (.getfield 116, 3) := by decide +kernel
theorem dX10_count_101 : decode cX10_count 101 = .ok (.ireturn, 1) := by decide +kernel
theorem dX10_count_102 : decode cX10_count 102 = .ok (.aload_n 0, 1) := by decide +kernel
theorem dX10_count_103 : decode cX10_count 103 = .ok (.getfield 161, 3) := by decide +kernel
theorem dX10_count_106 : decode cX10_count 106 = .ok (.ireturn, 1) := by decide +kernel
theorem dX10_count_107 : decode cX10_count 107 = .ok (.aload_n 0, 1) := by decide +kernel
theorem dX10_count_108 : decode cX10_count 108 = .ok (.getfield 184, 3) := by decide +kernel
theorem dX10_count_111 : decode cX10_count 111 = .ok (.ireturn, 1) := by decide +kernel
theorem dX10_count_112 : decode cX10_count 112 = .ok (.aload_n 0, 1) := by decide +kernel
theorem dX10_count_113 : decode cX10_count 113 = .ok (.getfield 130, 3) := by decide +kernel
theorem dX10_count_116 : decode cX10_count 116 = .ok (.ireturn, 1) := by decide +kernel
theorem dX10_count_117 : decode cX10_count 117 = .ok (.iconst 0, 1) := by decide +kernel
theorem dX10_count_118 : decode cX10_count 118 = .ok (.istore_n 3, 1) := by decide +kernel
theorem dX10_count_119 : decode cX10_count 119 = .ok (.iload_n 3, 1) := by decide +kernel
theorem dX10_count_120 : decode cX10_count 120 = .ok (.aload_n 0, 1) := by decide +kernel
theorem dX10_count_121 : decode cX10_count 121 = .ok (.getfield 106, 3) := by decide +kernel
theorem dX10_count_124 : decode cX10_count 124 = .ok (.if_icmp .ge 25, 3) := by decide +kernel
theorem dX10_count_127 : decode cX10_count 127 = .ok (.iload_n 2, 1) := by decide +kernel
theorem dX10_count_128 : decode cX10_count 128 = .ok (.aload_n 0, 1) := by decide +kernel
theorem dX10_count_129 : decode cX10_count 129 = .ok (.iload_n 3, 1) := by decide +kernel
theorem dX10_count_130 : decode cX10_count 130 = .ok (.invokevirtual 166, 3) := by decide +kernel
theorem dX10_count_133 : decode cX10_count 133 = .ok (.ifCond .eq 7, 3) := by decide +kernel
theorem dX10_count_136 : decode cX10_count 136 = .ok (.iconst 1, 1) := by decide +kernel
theorem dX10_count_137 : decode cX10_count 137 = .ok (.goto 4, 3) := by decide +kernel
theorem dX10_count_140 : decode cX10_count 140 = .ok (.iconst 0, 1) := by decide +kernel
theorem dX10_count_141 : decode cX10_count 141 = .ok (.iadd, 1) := by decide +kernel
theorem dX10_count_142 : decode cX10_count 142 = .ok (.istore_n 2, 1) := by decide +kernel
theorem dX10_count_143 : decode cX10_count 143 = .ok (.iinc 3 1, 3) := by decide +kernel
theorem dX10_count_146 : decode cX10_count 146 = .ok (.goto (-27), 3) := by decide +kernel
theorem dX10_count_149 : decode cX10_count 149 = .ok (.iload_n 2, 1) := by decide +kernel
theorem dX10_count_150 : decode cX10_count 150 = .ok (.ireturn, 1) := by decide +kernel
theorem dX10_count_151 : decode cX10_count 151 = .ok (.aload_n 0, 1) := by decide +kernel
theorem dX10_count_152 : decode cX10_count 152 = .ok (.invokevirtual 187, 3) := by decide +kernel
theorem dX10_count_155 : decode cX10_count 155 = .ok (.ireturn, 1) := by decide +kernel
theorem dX10_count_156 : decode cX10_count 156 = .ok (.iconst (-1), 1) := by decide +kernel
theorem dX10_count_157 : decode cX10_count 157 = .ok (.ireturn, 1) := by decide +kernel
theorem dJ9_abs_0f7a4_0 : decode cJ9_abs_0f7a4 0 = .ok (.iload_n 0, 1) := by decide +kernel
theorem dJ9_abs_0f7a4_1 : decode cJ9_abs_0f7a4 1 = .ok (.ifCond .ge 8, 3) := by decide +kernel
theorem dJ9_abs_0f7a4_4 : decode cJ9_abs_0f7a4 4 = .ok (.iload_n 0, 1) := by decide +kernel
theorem dJ9_abs_0f7a4_5 : decode cJ9_abs_0f7a4 5 = .ok (.ineg, 1) := by decide +kernel
theorem dJ9_abs_0f7a4_6 : decode cJ9_abs_0f7a4 6 = .ok (.goto 4, 3) := by decide +kernel
theorem dJ9_abs_0f7a4_9 : decode cJ9_abs_0f7a4 9 = .ok (.iload_n 0, 1) := by decide +kernel
theorem dJ9_abs_0f7a4_10 : decode cJ9_abs_0f7a4 10 = .ok (.ireturn, 1) := by decide +kernel
theorem dJ9_max_7cf53_0 : decode cJ9_max_7cf53 0 = .ok (.iload_n 0, 1) := by decide +kernel
theorem dJ9_max_7cf53_1 : decode cJ9_max_7cf53 1 = .ok (.iload_n 1, 1) := by decide +kernel
theorem dJ9_max_7cf53_2 : decode cJ9_max_7cf53 2 = .ok (.if_icmp .lt 7, 3) := by decide +kernel
theorem dJ9_max_7cf53_5 : decode cJ9_max_7cf53 5 = .ok (.iload_n 0, 1) := by decide +kernel
theorem dJ9_max_7cf53_6 : decode cJ9_max_7cf53 6 = .ok (.goto 4, 3) := by decide +kernel
theorem dJ9_max_7cf53_9 : decode cJ9_max_7cf53 9 = .ok (.iload_n 1, 1) := by decide +kernel
theorem dJ9_max_7cf53_10 : decode cJ9_max_7cf53 10 = .ok (.ireturn, 1) := by decide +kernel
theorem dJ9_min_7cf53_0 : decode cJ9_min_7cf53 0 = .ok (.iload_n 0, 1) := by decide +kernel
theorem dJ9_min_7cf53_1 : decode cJ9_min_7cf53 1 = .ok (.iload_n 1, 1) := by decide +kernel
theorem dJ9_min_7cf53_2 : decode cJ9_min_7cf53 2 = .ok (.if_icmp .gt 7, 3) := by decide +kernel
theorem dJ9_min_7cf53_5 : decode cJ9_min_7cf53 5 = .ok (.iload_n 0, 1) := by decide +kernel
theorem dJ9_min_7cf53_6 : decode cJ9_min_7cf53 6 = .ok (.goto 4, 3) := by decide +kernel
theorem dJ9_min_7cf53_9 : decode cJ9_min_7cf53 9 = .ok (.iload_n 1, 1) := by decide +kernel
theorem dJ9_min_7cf53_10 : decode cJ9_min_7cf53 10 = .ok (.ireturn, 1) := by decide +kernel
theorem dJ9_min_f86c9_0 : decode cJ9_min_f86c9 0 = .ok (.lload_n 0, 1) := by decide +kernel
theorem dJ9_min_f86c9_1 : decode cJ9_min_f86c9 1 = .ok (.lload_n 2, 1) := by decide +kernel
theorem dJ9_min_f86c9_2 : decode cJ9_min_f86c9 2 = .ok (.lcmp, 1) := by decide +kernel
theorem dJ9_min_f86c9_3 : decode cJ9_min_f86c9 3 = .ok (.ifCond .gt 7, 3) := by decide +kernel
theorem dJ9_min_f86c9_6 : decode cJ9_min_f86c9 6 = .ok (.lload_n 0, 1) := by decide +kernel
theorem dJ9_min_f86c9_7 : decode cJ9_min_f86c9 7 = .ok (.goto 4, 3) := by decide +kernel
theorem dJ9_min_f86c9_10 : decode cJ9_min_f86c9 10 = .ok (.lload_n 2, 1) := by decide +kernel
theorem dJ9_min_f86c9_11 : decode cJ9_min_f86c9 11 = .ok (.lreturn, 1) := by decide +kernel
theorem dJ7_fill_53178_0 : decode cJ7_fill_53178 0 = .ok (.iconst 0, 1) := by decide +kernel
theorem dJ7_fill_53178_1 : decode cJ7_fill_53178 1 = .ok (.istore_n 2, 1) := by decide +kernel
theorem dJ7_fill_53178_2 : decode cJ7_fill_53178 2 = .ok (.aload_n 0, 1) := by decide +kernel
theorem dJ7_fill_53178_3 : decode cJ7_fill_53178 3 = .ok (.arraylength, 1) := by decide +kernel
theorem dJ7_fill_53178_4 : decode cJ7_fill_53178 4 = .ok (.istore_n 3, 1) := by decide +kernel
theorem dJ7_fill_53178_5 : decode cJ7_fill_53178 5 = .ok (.iload_n 2, 1) := by decide +kernel
theorem dJ7_fill_53178_6 : decode cJ7_fill_53178 6 = .ok (.iload_n 3, 1) := by decide +kernel
theorem dJ7_fill_53178_7 : decode cJ7_fill_53178 7 = .ok (.if_icmp .ge 13, 3) := by decide +kernel
theorem dJ7_fill_53178_10 : decode cJ7_fill_53178 10 = .ok (.aload_n 0, 1) := by decide +kernel
theorem dJ7_fill_53178_11 : decode cJ7_fill_53178 11 = .ok (.iload_n 2, 1) := by decide +kernel
theorem dJ7_fill_53178_12 : decode cJ7_fill_53178 12 = .ok (.iload_n 1, 1) := by decide +kernel
theorem dJ7_fill_53178_13 : decode cJ7_fill_53178 13 = .ok (.iastore, 1) := by decide +kernel
theorem dJ7_fill_53178_14 : decode cJ7_fill_53178 14 = .ok (.iinc 2 1, 3) := by decide +kernel
theorem dJ7_fill_53178_17 : decode cJ7_fill_53178 17 = .ok (.goto (-12), 3) := by decide +kernel
theorem dJ7_fill_53178_20 : decode cJ7_fill_53178 20 = .ok (.return_, 1) := by decide +kernel
abbrev vwCl : List vw_C := [(RX0, TX0, 3), (RX1, TX1, 11), (RX2, TX2, 7), (RX3, TX3, 4), (RX4, TX4, 5), (RX5, TX5, 2), (RX6, TX6, 3), (RX7, TX7, 3), (RX8, TX8, 4), (RX9, TX9, 7), (RX10, TX10, 38)]

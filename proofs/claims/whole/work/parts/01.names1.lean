theorem dX0_next_27 : decode cX0_next 27 = .ok (.iconst 0, 1) := by decide +kernel
theorem dX0_next_28 : decode cX0_next 28 = .ok (.ireturn, 1) := by decide +kernel
set_option maxRecDepth 20000 in
theorem ggX0_sell_X0_next : GoodIn wsX0_sell wsX0_next := goodIn_r _ [8, 1, 3, 21, 22, 23] (by decide +kernel) (by decide +kernel)
set_option maxRecDepth 20000 in
theorem gX0_sell_X0_next : GoodIn wsX0_sell (wsV RX0 28 RX0 yX0_next wsX0_next) := goodIn_app (goodIn_of _ (by decide +kernel)) ggX0_sell_X0_next
set_option maxRecDepth 20000 in
theorem ggX0_sell_X0_numbered : GoodIn wsX0_sell wsX0_numbered := goodIn_r _ [12, 1, 13, 21, 22, 23] (by decide +kernel) (by decide +kernel)
set_option maxRecDepth 20000 in
theorem gX0_sell_X0_numbered : GoodIn wsX0_sell (wsV RX0 32 RX0 yX0_numbered wsX0_numbered) := goodIn_app (goodIn_of _ (by decide +kernel)) ggX0_sell_X0_numbered
set_option maxRecDepth 20000 in
theorem ggX0_sell_X7_takes : GoodIn wsX0_sell wsX7_takes := goodIn_r _ [18, 19, 20, 24, 25, 26] (by decide +kernel) (by decide +kernel)
set_option maxRecDepth 20000 in
theorem gX0_sell_X7_takes : GoodIn wsX0_sell (wsV RX0 36 RX7 yX7_takes wsX7_takes) := goodIn_app (goodIn_of _ (by decide +kernel)) ggX0_sell_X7_takes
theorem dX0_sell_0 : decode cX0_sell 0 = .ok (.aload_n 0, 1) := by decide +kernel
theorem dX0_sell_1 : decode cX0_sell 1 = .ok (.invokevirtual 28, 3) := by decide +kernel
theorem dX0_sell_4 : decode cX0_sell 4 = .ok (.istore_n 3, 1) := by decide +kernel
theorem dX0_sell_5 : decode cX0_sell 5 = .ok (.iconst 0, 1) := by decide +kernel
theorem dX0_sell_6 : decode cX0_sell 6 = .ok (.istore 4, 2) := by decide +kernel
theorem dX0_sell_8 : decode cX0_sell 8 = .ok (.iload 4, 2) := by decide +kernel
theorem dX0_sell_10 : decode cX0_sell 10 = .ok (.aload_n 0, 1) := by decide +kernel
theorem dX0_sell_11 : decode cX0_sell 11 = .ok (.getfield 17, 3) := by decide +kernel
theorem dX0_sell_14 : decode cX0_sell 14 = .ok (.if_icmp .ge 83, 3) := by decide +kernel
theorem dX0_sell_17 : decode cX0_sell 17 = .ok (.iload_n 3, 1) := by decide +kernel
theorem dX0_sell_18 : decode cX0_sell 18 = .ok (.iload 4, 2) := by decide +kernel
theorem dX0_sell_20 : decode cX0_sell 20 = .ok (.iadd, 1) := by decide +kernel
theorem dX0_sell_21 : decode cX0_sell 21 = .ok (.aload_n 0, 1) := by decide +kernel
theorem dX0_sell_22 : decode cX0_sell 22 = .ok (.getfield 17, 3) := by decide +kernel
theorem dX0_sell_25 : decode cX0_sell 25 = .ok (.if_icmp .ge 10, 3) := by decide +kernel
theorem dX0_sell_28 : decode cX0_sell 28 = .ok (.iload_n 3, 1) := by decide +kernel
theorem dX0_sell_29 : decode cX0_sell 29 = .ok (.iload 4, 2) := by decide +kernel
theorem dX0_sell_31 : decode cX0_sell 31 = .ok (.iadd, 1) := by decide +kernel
theorem dX0_sell_32 : decode cX0_sell 32 = .ok (.goto 12, 3) := by decide +kernel
theorem dX0_sell_35 : decode cX0_sell 35 = .ok (.iload_n 3, 1) := by decide +kernel
theorem dX0_sell_36 : decode cX0_sell 36 = .ok (.iload 4, 2) := by decide +kernel
theorem dX0_sell_38 : decode cX0_sell 38 = .ok (.iadd, 1) := by decide +kernel
theorem dX0_sell_39 : decode cX0_sell 39 = .ok (.aload_n 0, 1) := by decide +kernel
theorem dX0_sell_40 : decode cX0_sell 40 = .ok (.getfield 17, 3) := by decide +kernel
theorem dX0_sell_43 : decode cX0_sell 43 = .ok (.isub, 1) := by decide +kernel
theorem dX0_sell_44 : decode cX0_sell 44 = .ok (.istore 5, 2) := by decide +kernel
theorem dX0_sell_46 : decode cX0_sell 46 = .ok (.aload_n 0, 1) := by decide +kernel
theorem dX0_sell_47 : decode cX0_sell 47 = .ok (.iload 5, 2) := by decide +kernel
theorem dX0_sell_49 : decode cX0_sell 49 = .ok (.invokevirtual 32, 3) := by decide +kernel
theorem dX0_sell_52 : decode cX0_sell 52 = .ok (.astore 6, 2) := by decide +kernel
theorem dX0_sell_54 : decode cX0_sell 54 = .ok (.aload 6, 2) := by decide +kernel
theorem dX0_sell_56 : decode cX0_sell 56 = .ok (.ifnull 35, 3) := by decide +kernel
theorem dX0_sell_59 : decode cX0_sell 59 = .ok (.aload 6, 2) := by decide +kernel
theorem dX0_sell_61 : decode cX0_sell 61 = .ok (.iload_n 1, 1) := by decide +kernel
theorem dX0_sell_62 : decode cX0_sell 62 = .ok (.iload_n 2, 1) := by decide +kernel
theorem dX0_sell_63 : decode cX0_sell 63 = .ok (.invokevirtual 36, 3) := by decide +kernel
theorem dX0_sell_66 : decode cX0_sell 66 = .ok (.ifCond .eq 25, 3) := by decide +kernel
theorem dX0_sell_69 : decode cX0_sell 69 = .ok (.aload 6, 2) := by decide +kernel
theorem dX0_sell_71 : decode cX0_sell 71 = .ok (.dup, 1) := by decide +kernel
theorem dX0_sell_72 : decode cX0_sell 72 = .ok (.getfield 40, 3) := by decide +kernel
theorem dX0_sell_75 : decode cX0_sell 75 = .ok (.iload_n 2, 1) := by decide +kernel
theorem dX0_sell_76 : decode cX0_sell 76 = .ok (.iadd, 1) := by decide +kernel
theorem dX0_sell_77 : decode cX0_sell 77 = .ok (.putfield 40, 3) := by decide +kernel
theorem dX0_sell_80 : decode cX0_sell 80 = .ok (.aload_n 0, 1) := by decide +kernel
theorem dX0_sell_81 : decode cX0_sell 81 = .ok (.iload 5, 2) := by decide +kernel
theorem dX0_sell_83 : decode cX0_sell 83 = .ok (.iconst 1, 1) := by decide +kernel
theorem dX0_sell_84 : decode cX0_sell 84 = .ok (.iadd, 1) := by decide +kernel
theorem dX0_sell_85 : decode cX0_sell 85 = .ok (.putfield 21, 3) := by decide +kernel
theorem dX0_sell_88 : decode cX0_sell 88 = .ok (.iload 5, 2) := by decide +kernel
theorem dX0_sell_90 : decode cX0_sell 90 = .ok (.ireturn, 1) := by decide +kernel
theorem dX0_sell_91 : decode cX0_sell 91 = .ok (.iinc 4 1, 3) := by decide +kernel
theorem dX0_sell_94 : decode cX0_sell 94 = .ok (.goto (-86), 3) := by decide +kernel
theorem dX0_sell_97 : decode cX0_sell 97 = .ok (.iconst (-1), 1) := by decide +kernel
theorem dX0_sell_98 : decode cX0_sell 98 = .ok (.ireturn, 1) := by decide +kernel
theorem dX1_init_0 : decode cX1_init 0 = .ok (.aload_n 0, 1) := by decide +kernel
theorem dX1_init_1 : decode cX1_init 1 = .ok (.invokespecial 3, 3) := by decide +kernel
theorem dX1_init_4 : decode cX1_init 4 = .ok (.aload_n 0, 1) := by decide +kernel
theorem dX1_init_5 : decode cX1_init 5 = .ok (.iload_n 1, 1) := by decide +kernel
theorem dX1_init_6 : decode cX1_init 6 = .ok (.sipush 1000, 3) := by decide +kernel
theorem dX1_init_9 : decode cX1_init 9 = .ok (.idiv, 1) := by decide +kernel
theorem dX1_init_10 : decode cX1_init 10 = .ok (.putfield 9, 3) := by decide +kernel
theorem dX1_init_13 : decode cX1_init 13 = .ok (.aload_n 0, 1) := by decide +kernel
theorem dX1_init_14 : decode cX1_init 14 = .ok (.iload_n 1, 1) := by decide +kernel
theorem dX1_init_15 : decode cX1_init 15 = .ok (.sipush 1000, 3) := by decide +kernel
theorem dX1_init_18 : decode cX1_init 18 = .ok (.irem, 1) := by decide +kernel
theorem dX1_init_19 : decode cX1_init 19 = .ok (.putfield 15, 3) := by decide +kernel
theorem dX1_init_22 : decode cX1_init 22 = .ok (.aload_n 0, 1) := by decide +kernel
theorem dX1_init_23 : decode cX1_init 23 = .ok (.iload_n 2, 1) := by decide +kernel
theorem dX1_init_24 : decode cX1_init 24 = .ok (.ldc 18, 2) := by decide +kernel
theorem dX1_init_26 : decode cX1_init 26 = .ok (.idiv, 1) := by decide +kernel
theorem dX1_init_27 : decode cX1_init 27 = .ok (.putfield 19, 3) := by decide +kernel
theorem dX1_init_30 : decode cX1_init 30 = .ok (.aload_n 0, 1) := by decide +kernel
theorem dX1_init_31 : decode cX1_init 31 = .ok (.iload_n 2, 1) := by decide +kernel
theorem dX1_init_32 : decode cX1_init 32 = .ok (.sipush 10000, 3) := by decide +kernel
theorem dX1_init_35 : decode cX1_init 35 = .ok (.idiv, 1) := by decide +kernel
theorem dX1_init_36 : decode cX1_init 36 = .ok (.sipush 10000, 3) := by decide +kernel
theorem dX1_init_39 : decode cX1_init 39 = .ok (.irem, 1) := by decide +kernel
theorem dX1_init_40 : decode cX1_init 40 = .ok (.putfield 22, 3) := by decide +kernel
theorem dX1_init_43 : decode cX1_init 43 = .ok (.aload_n 0, 1) := by decide +kernel
theorem dX1_init_44 : decode cX1_init 44 = .ok (.iload_n 2, 1) := by decide +kernel
theorem dX1_init_45 : decode cX1_init 45 = .ok (.sipush 10000, 3) := by decide +kernel
theorem dX1_init_48 : decode cX1_init 48 = .ok (.irem, 1) := by decide +kernel
theorem dX1_init_49 : decode cX1_init 49 = .ok (.ifCond .ne 9, 3) := by decide +kernel
theorem dX1_init_52 : decode cX1_init 52 = .ok (.sipush 10000, 3) := by decide +kernel
theorem dX1_init_55 : decode cX1_init 55 = .ok (.goto 8, 3) := by decide +kernel
theorem dX1_init_58 : decode cX1_init 58 = .ok (.iload_n 2, 1) := by decide +kernel
theorem dX1_init_59 : decode cX1_init 59 = .ok (.sipush 10000, 3) := by decide +kernel
theorem dX1_init_62 : decode cX1_init 62 = .ok (.irem, 1) := by decide +kernel
theorem dX1_init_63 : decode cX1_init 63 = .ok (.putfield 25, 3) := by decide +kernel
theorem dX1_init_66 : decode cX1_init 66 = .ok (.aload_n 0, 1) := by decide +kernel
theorem dX1_init_67 : decode cX1_init 67 = .ok (.iload_n 3, 1) := by decide +kernel
theorem dX1_init_68 : decode cX1_init 68 = .ok (.sipush 10000, 3) := by decide +kernel
theorem dX1_init_71 : decode cX1_init 71 = .ok (.idiv, 1) := by decide +kernel
theorem dX1_init_72 : decode cX1_init 72 = .ok (.sipush 3000, 3) := by decide +kernel
theorem dX1_init_75 : decode cX1_init 75 = .ok (.isub, 1) := by decide +kernel
theorem dX1_init_76 : decode cX1_init 76 = .ok (.putfield 28, 3) := by decide +kernel
theorem dX1_init_79 : decode cX1_init 79 = .ok (.aload_n 0, 1) := by decide +kernel
theorem dX1_init_80 : decode cX1_init 80 = .ok (.iload_n 3, 1) := by decide +kernel
theorem dX1_init_81 : decode cX1_init 81 = .ok (.sipush 10000, 3) := by decide +kernel
theorem dX1_init_84 : decode cX1_init 84 = .ok (.irem, 1) := by decide +kernel
theorem dX1_init_85 : decode cX1_init 85 = .ok (.sipush 3000, 3) := by decide +kernel
theorem dX1_init_88 : decode cX1_init 88 = .ok (.isub, 1) := by decide +kernel
theorem dX1_init_89 : decode cX1_init 89 = .ok (.putfield 31, 3) := by decide +kernel
theorem dX1_init_92 : decode cX1_init 92 = .ok (.aload_n 0, 1) := by decide +kernel
theorem dX1_init_93 : decode cX1_init 93 = .ok (.iload 4, 2) := by decide +kernel
theorem dX1_init_95 : decode cX1_init 95 = .ok (.bipush 100, 2) := by decide +kernel
theorem dX1_init_97 : decode cX1_init 97 = .ok (.idiv, 1) := by decide +kernel
theorem dX1_init_98 : decode cX1_init 98 = .ok (.putfield 34, 3) := by decide +kernel
theorem dX1_init_101 : decode cX1_init 101 = .ok (.aload_n 0, 1) := by decide +kernel
theorem dX1_init_102 : decode cX1_init 102 = .ok (.iload 4, 2) := by decide +kernel
theorem dX1_init_104 : decode cX1_init 104 = .ok (.bipush 100, 2) := by decide +kernel
theorem dX1_init_106 : decode cX1_init 106 = .ok (.irem, 1) := by decide +kernel
theorem dX1_init_107 : decode cX1_init 107 = .ok (.putfield 37, 3) := by decide +kernel
theorem dX1_init_110 : decode cX1_init 110 = .ok (.aload_n 0, 1) := by decide +kernel
theorem dX1_init_111 : decode cX1_init 111 = .ok (.iload 5, 2) := by decide +kernel
theorem dX1_init_113 : decode cX1_init 113 = .ok (.putfield 40, 3) := by decide +kernel
theorem dX1_init_116 : decode cX1_init 116 = .ok (.aload_n 0, 1) := by decide +kernel
theorem dX1_init_117 : decode cX1_init 117 = .ok (.iconst (-1), 1) := by decide +kernel
theorem dX1_init_118 : decode cX1_init 118 = .ok (.putfield 43, 3) := by decide +kernel
theorem dX1_init_121 : decode cX1_init 121 = .ok (.return_, 1) := by decide +kernel
set_option maxRecDepth 20000 in
theorem ggX1_isPossible_X9_isBetween : GoodIn wsX1_isPossible wsX9_isBetween := goodIn_r _ [13] (by decide +kernel) (by decide +kernel)
set_option maxRecDepth 20000 in
theorem gX1_isPossible_X9_isBetween_n46 : GoodIn wsX1_isPossible (wsX9_isBetween) := ggX1_isPossible_X9_isBetween
set_option maxRecDepth 20000 in
theorem ggX1_isPossible_X9_isMetal : GoodIn wsX1_isPossible wsX9_isMetal := goodIn_r _ [15, 16, 11, 12, 13] (by decide +kernel) (by decide +kernel)
set_option maxRecDepth 20000 in
theorem gX1_isPossible_X9_isMetal_n50 : GoodIn wsX1_isPossible (wsX9_isMetal) := ggX1_isPossible_X9_isMetal
set_option maxRecDepth 20000 in
theorem ggX1_isPossible_X9_isPerson : GoodIn wsX1_isPossible wsX9_isPerson := goodIn_r _ [18, 16, 11, 12, 13] (by decide +kernel) (by decide +kernel)
set_option maxRecDepth 20000 in
theorem gX1_isPossible_X9_isPerson_n54 : GoodIn wsX1_isPossible (wsX9_isPerson) := ggX1_isPossible_X9_isPerson
theorem dX1_isPossible_0 : decode cX1_isPossible 0 = .ok (.aload_n 0, 1) := by decide +kernel
theorem dX1_isPossible_1 : decode cX1_isPossible 1 = .ok (.getfield 9, 3) := by decide +kernel
theorem dX1_isPossible_4 : decode cX1_isPossible 4 = .ok (.iconst 0, 1) := by decide +kernel
theorem dX1_isPossible_5 : decode cX1_isPossible 5 = .ok (.sipush 999, 3) := by decide +kernel
theorem dX1_isPossible_8 : decode cX1_isPossible 8 = .ok (.invokestatic 46, 3) := by decide +kernel
theorem dX1_isPossible_11 : decode cX1_isPossible 11 = .ok (.ifCond .eq 21, 3) := by decide +kernel
theorem dX1_isPossible_14 : decode cX1_isPossible 14 = .ok (.aload_n 0, 1) := by decide +kernel
theorem dX1_isPossible_15 : decode cX1_isPossible 15 = .ok (.getfield 15, 3) := by decide +kernel
theorem dX1_isPossible_18 : decode cX1_isPossible 18 = .ok (.iconst 0, 1) := by decide +kernel
theorem dX1_isPossible_19 : decode cX1_isPossible 19 = .ok (.sipush 999, 3) := by decide +kernel
theorem dX1_isPossible_22 : decode cX1_isPossible 22 = .ok (.invokestatic 46, 3) := by decide +kernel
theorem dX1_isPossible_25 : decode cX1_isPossible 25 = .ok (.ifCond .eq 7, 3) := by decide +kernel
theorem dX1_isPossible_28 : decode cX1_isPossible 28 = .ok (.iconst 1, 1) := by decide +kernel
theorem dX1_isPossible_29 : decode cX1_isPossible 29 = .ok (.goto 4, 3) := by decide +kernel
theorem dX1_isPossible_32 : decode cX1_isPossible 32 = .ok (.iconst 0, 1) := by decide +kernel
theorem dX1_isPossible_33 : decode cX1_isPossible 33 = .ok (.istore_n 1, 1) := by decide +kernel
theorem dX1_isPossible_34 : decode cX1_isPossible 34 = .ok (.aload_n 0, 1) := by decide +kernel
theorem dX1_isPossible_35 : decode cX1_isPossible 35 = .ok (.getfield 19, 3) := by decide +kernel
theorem dX1_isPossible_38 : decode cX1_isPossible 38 = .ok (.invokestatic 50, 3) := by decide +kernel
theorem dX1_isPossible_41 : decode cX1_isPossible 41 = .ok (.ifCond .eq 35, 3) := by decide +kernel
theorem dX1_isPossible_44 : decode cX1_isPossible 44 = .ok (.aload_n 0, 1) := by decide +kernel
theorem dX1_isPossible_45 : decode cX1_isPossible 45 = .ok (.getfield 22, 3) := by decide +kernel
theorem dX1_isPossible_48 : decode cX1_isPossible 48 = .ok (.iconst 0, 1) := by decide +kernel
theorem dX1_isPossible_49 : decode cX1_isPossible 49 = .ok (.sipush 1000, 3) := by decide +kernel
theorem dX1_isPossible_52 : decode cX1_isPossible 52 = .ok (.invokestatic 46, 3) := by decide +kernel
theorem dX1_isPossible_55 : decode cX1_isPossible 55 = .ok (.ifCond .eq 21, 3) := by decide +kernel
theorem dX1_isPossible_58 : decode cX1_isPossible 58 = .ok (.aload_n 0, 1) := by decide +kernel
theorem dX1_isPossible_59 : decode cX1_isPossible 59 = .ok (.getfield 25, 3) := by decide +kernel
theorem dX1_isPossible_62 : decode cX1_isPossible 62 = .ok (.iconst 1, 1) := by decide +kernel
theorem dX1_isPossible_63 : decode cX1_isPossible 63 = .ok (.sipush 10000, 3) := by decide +kernel
theorem dX1_isPossible_66 : decode cX1_isPossible 66 = .ok (.invokestatic 46, 3) := by decide +kernel
theorem dX1_isPossible_69 : decode cX1_isPossible 69 = .ok (.ifCond .eq 7, 3) := by decide +kernel
theorem dX1_isPossible_72 : decode cX1_isPossible 72 = .ok (.iconst 1, 1) := by decide +kernel
theorem dX1_isPossible_73 : decode cX1_isPossible 73 = .ok (.goto 4, 3) := by decide +kernel
theorem dX1_isPossible_76 : decode cX1_isPossible 76 = .ok (.iconst 0, 1) := by decide +kernel
theorem dX1_isPossible_77 : decode cX1_isPossible 77 = .ok (.istore_n 2, 1) := by decide +kernel
theorem dX1_isPossible_78 : decode cX1_isPossible 78 = .ok (.aload_n 0, 1) := by decide +kernel
theorem dX1_isPossible_79 : decode cX1_isPossible 79 = .ok (.getfield 28, 3) := by decide +kernel
theorem dX1_isPossible_82 : decode cX1_isPossible 82 = .ok (.sipush (-3000), 3) := by decide +kernel
theorem dX1_isPossible_85 : decode cX1_isPossible 85 = .ok (.if_icmp .lt 28, 3) := by decide +kernel
theorem dX1_isPossible_88 : decode cX1_isPossible 88 = .ok (.aload_n 0, 1) := by decide +kernel
theorem dX1_isPossible_89 : decode cX1_isPossible 89 = .ok (.getfield 28, 3) := by decide +kernel
theorem dX1_isPossible_92 : decode cX1_isPossible 92 = .ok (.aload_n 0, 1) := by decide +kernel
theorem dX1_isPossible_93 : decode cX1_isPossible 93 = .ok (.getfield 31, 3) := by decide +kernel
theorem dX1_isPossible_96 : decode cX1_isPossible 96 = .ok (.if_icmp .gt 17, 3) := by decide +kernel
theorem dX1_isPossible_99 : decode cX1_isPossible 99 = .ok (.aload_n 0, 1) := by decide +kernel
theorem dX1_isPossible_100 : decode cX1_isPossible 100 = .ok (.getfield 31, 3) := by decide +kernel
theorem dX1_isPossible_103 : decode cX1_isPossible 103 = .ok (.sipush 2000, 3) := by decide +kernel
theorem dX1_isPossible_106 : decode cX1_isPossible 106 = .ok (.if_icmp .gt 7, 3) := by decide +kernel
theorem dX1_isPossible_109 : decode cX1_isPossible 109 = .ok (.iconst 1, 1) := by decide +kernel
theorem dX1_isPossible_110 : decode cX1_isPossible 110 = .ok (.goto 4, 3) := by decide +kernel
theorem dX1_isPossible_113 : decode cX1_isPossible 113 = .ok (.iconst 0, 1) := by decide +kernel
theorem dX1_isPossible_114 : decode cX1_isPossible 114 = .ok (.istore_n 3, 1) := by decide +kernel
theorem dX1_isPossible_115 : decode cX1_isPossible 115 = .ok (.iload_n 1, 1) := by decide +kernel
theorem dX1_isPossible_116 : decode cX1_isPossible 116 = .ok (.ifCond .eq 40, 3) := by decide +kernel
theorem dX1_isPossible_119 : decode cX1_isPossible 119 = .ok (.iload_n 2, 1) := by decide +kernel
theorem dX1_isPossible_120 : decode cX1_isPossible 120 = .ok (.ifCond .eq 36, 3) := by decide +kernel
theorem dX1_isPossible_123 : decode cX1_isPossible 123 = .ok (.iload_n 3, 1) := by decide +kernel
theorem dX1_isPossible_124 : decode cX1_isPossible 124 = .ok (.ifCond .eq 32, 3) := by decide +kernel
theorem dX1_isPossible_127 : decode cX1_isPossible 127 = .ok (.aload_n 0, 1) := by decide +kernel
theorem dX1_isPossible_128 : decode cX1_isPossible 128 = .ok (.getfield 34, 3) := by decide +kernel
theorem dX1_isPossible_131 : decode cX1_isPossible 131 = .ok (.iconst 0, 1) := by decide +kernel
theorem dX1_isPossible_132 : decode cX1_isPossible 132 = .ok (.aload_n 0, 1) := by decide +kernel
theorem dX1_isPossible_133 : decode cX1_isPossible 133 = .ok (.getfield 40, 3) := by decide +kernel
theorem dX1_isPossible_136 : decode cX1_isPossible 136 = .ok (.invokestatic 46, 3) := by decide +kernel
theorem dX1_isPossible_139 : decode cX1_isPossible 139 = .ok (.ifCond .eq 17, 3) := by decide +kernel
theorem dX1_isPossible_142 : decode cX1_isPossible 142 = .ok (.aload_n 0, 1) := by decide +kernel
theorem dX1_isPossible_143 : decode cX1_isPossible 143 = .ok (.getfield 37, 3) := by decide +kernel
theorem dX1_isPossible_146 : decode cX1_isPossible 146 = .ok (.invokestatic 54, 3) := by decide +kernel
theorem dX1_isPossible_149 : decode cX1_isPossible 149 = .ok (.ifCond .eq 7, 3) := by decide +kernel
theorem dX1_isPossible_152 : decode cX1_isPossible 152 = .ok (.iconst 1, 1) := by decide +kernel
theorem dX1_isPossible_153 : decode cX1_isPossible 153 = .ok (.goto 4, 3) := by decide +kernel
theorem dX1_isPossible_156 : decode cX1_isPossible 156 = .ok (.iconst 0, 1) := by decide +kernel
theorem dX1_isPossible_157 : decode cX1_isPossible 157 = .ok (.ireturn, 1) := by decide +kernel
theorem dX1_plot_0 : decode cX1_plot 0 = .ok (.aload_n 0, 1) := by decide +kernel
theorem dX1_plot_1 : decode cX1_plot 1 = .ok (.getfield 9, 3) := by decide +kernel
theorem dX1_plot_4 : decode cX1_plot 4 = .ok (.bipush 100, 2) := by decide +kernel
theorem dX1_plot_6 : decode cX1_plot 6 = .ok (.idiv, 1) := by decide +kernel
theorem dX1_plot_7 : decode cX1_plot 7 = .ok (.bipush 10, 2) := by decide +kernel
theorem dX1_plot_9 : decode cX1_plot 9 = .ok (.imul, 1) := by decide +kernel
theorem dX1_plot_10 : decode cX1_plot 10 = .ok (.aload_n 0, 1) := by decide +kernel
theorem dX1_plot_11 : decode cX1_plot 11 = .ok (.getfield 15, 3) := by decide +kernel
theorem dX1_plot_14 : decode cX1_plot 14 = .ok (.bipush 100, 2) := by decide +kernel
theorem dX1_plot_16 : decode cX1_plot 16 = .ok (.idiv, 1) := by decide +kernel
theorem dX1_plot_17 : decode cX1_plot 17 = .ok (.iadd, 1) := by decide +kernel
theorem dX1_plot_18 : decode cX1_plot 18 = .ok (.ireturn, 1) := by decide +kernel
theorem dX1_isNear_0 : decode cX1_isNear 0 = .ok (.aload_n 0, 1) := by decide +kernel
theorem dX1_isNear_1 : decode cX1_isNear 1 = .ok (.getfield 9, 3) := by decide +kernel
theorem dX1_isNear_4 : decode cX1_isNear 4 = .ok (.aload_n 1, 1) := by decide +kernel
theorem dX1_isNear_5 : decode cX1_isNear 5 = .ok (.getfield 9, 3) := by decide +kernel
theorem dX1_isNear_8 : decode cX1_isNear 8 = .ok (.isub, 1) := by decide +kernel
theorem dX1_isNear_9 : decode cX1_isNear 9 = .ok (.invokestatic 57, 3) := by decide +kernel
theorem dX1_isNear_12 : decode cX1_isNear 12 = .ok (.bipush 10, 2) := by decide +kernel
theorem dX1_isNear_14 : decode cX1_isNear 14 = .ok (.if_icmp .gt 46, 3) := by decide +kernel
theorem dX1_isNear_17 : decode cX1_isNear 17 = .ok (.aload_n 0, 1) := by decide +kernel
theorem dX1_isNear_18 : decode cX1_isNear 18 = .ok (.getfield 15, 3) := by decide +kernel
theorem dX1_isNear_21 : decode cX1_isNear 21 = .ok (.aload_n 1, 1) := by decide +kernel
theorem dX1_isNear_22 : decode cX1_isNear 22 = .ok (.getfield 15, 3) := by decide +kernel
theorem dX1_isNear_25 : decode cX1_isNear 25 = .ok (.isub, 1) := by decide +kernel
theorem dX1_isNear_26 : decode cX1_isNear 26 = .ok (.invokestatic 57, 3) := by decide +kernel
theorem dX1_isNear_29 : decode cX1_isNear 29 = .ok (.bipush 10, 2) := by decide +kernel
theorem dX1_isNear_31 : decode cX1_isNear 31 = .ok (.if_icmp .gt 29, 3) := by decide +kernel
theorem dX1_isNear_34 : decode cX1_isNear 34 = .ok (.aload_n 0, 1) := by decide +kernel
theorem dX1_isNear_35 : decode cX1_isNear 35 = .ok (.getfield 28, 3) := by decide +kernel
theorem dX1_isNear_38 : decode cX1_isNear 38 = .ok (.aload_n 1, 1) := by decide +kernel
theorem dX1_isNear_39 : decode cX1_isNear 39 = .ok (.getfield 31, 3) := by decide +kernel
theorem dX1_isNear_42 : decode cX1_isNear 42 = .ok (.if_icmp .gt 18, 3) := by decide +kernel
theorem dX1_isNear_45 : decode cX1_isNear 45 = .ok (.aload_n 1, 1) := by decide +kernel
theorem dX1_isNear_46 : decode cX1_isNear 46 = .ok (.getfield 28, 3) := by decide +kernel
theorem dX1_isNear_49 : decode cX1_isNear 49 = .ok (.aload_n 0, 1) := by decide +kernel
theorem dX1_isNear_50 : decode cX1_isNear 50 = .ok (.getfield 31, 3) := by decide +kernel
theorem dX1_isNear_53 : decode cX1_isNear 53 = .ok (.if_icmp .gt 7, 3) := by decide +kernel
theorem dX1_isNear_56 : decode cX1_isNear 56 = .ok (.iconst 1, 1) := by decide +kernel
theorem dX1_isNear_57 : decode cX1_isNear 57 = .ok (.goto 4, 3) := by decide +kernel
theorem dX1_isNear_60 : decode cX1_isNear 60 = .ok (.iconst 0, 1) := by decide +kernel
theorem dX1_isNear_61 : decode cX1_isNear 61 = .ok (.ireturn, 1) := by decide +kernel
set_option maxRecDepth 20000 in
theorem ggX2_init_J7_fill_53178 : GoodIn wsX2_init wsJ7_fill_53178 := goodIn_r _ [16] (by decide +kernel) (by decide +kernel)
set_option maxRecDepth 20000 in
theorem gX2_init_J7_fill_53178 : GoodIn wsX2_init (va_wsS RX2 37 yJ7_fill_53178 wsJ7_fill_53178) := goodIn_app (goodIn_of _ (by decide +kernel)) ggX2_init_J7_fill_53178
theorem dX2_init_0 : decode cX2_init 0 = .ok (.aload_n 0, 1) := by decide +kernel
theorem dX2_init_1 : decode cX2_init 1 = .ok (.invokespecial 3, 3) := by decide +kernel
theorem dX2_init_4 : decode cX2_init 4 = .ok (.aload_n 0, 1) := by decide +kernel
theorem dX2_init_5 : decode cX2_init 5 = .ok (.bipush 50, 2) := by decide +kernel
theorem dX2_init_7 : decode cX2_init 7 = .ok (.anewarray 11, 3) := by decide +kernel
theorem dX2_init_10 : decode cX2_init 10 = .ok (.putfield 13, 3) := by decide +kernel
theorem dX2_init_13 : decode cX2_init 13 = .ok (.aload_n 0, 1) := by decide +kernel
theorem dX2_init_14 : decode cX2_init 14 = .ok (.iconst 0, 1) := by decide +kernel
theorem dX2_init_15 : decode cX2_init 15 = .ok (.putfield 17, 3) := by decide +kernel
theorem dX2_init_18 : decode cX2_init 18 = .ok (.aload_n 0, 1) := by decide +kernel
theorem dX2_init_19 : decode cX2_init 19 = .ok (.sipush 1225, 3) := by decide +kernel
theorem dX2_init_22 : decode cX2_init 22 = .ok (.newarray .int, 2) := by decide +kernel
theorem dX2_init_24 : decode cX2_init 24 = .ok (.putfield 21, 3) := by decide +kernel
theorem dX2_init_27 : decode cX2_init 27 = .ok (.aload_n 0, 1) := by decide +kernel
theorem dX2_init_28 : decode cX2_init 28 = .ok (.iconst 0, 1) := by decide +kernel
theorem dX2_init_29 : decode cX2_init 29 = .ok (.putfield 25, 3) := by decide +kernel
theorem dX2_init_32 : decode cX2_init 32 = .ok (.aload_n 0, 1) := by decide +kernel
theorem dX2_init_33 : decode cX2_init 33 = .ok (.bipush 50, 2) := by decide +kernel
theorem dX2_init_35 : decode cX2_init 35 = .ok (.newarray .int, 2) := by decide +kernel
theorem dX2_init_37 : decode cX2_init 37 = .ok (.putfield 28, 3) := by decide +kernel
theorem dX2_init_40 : decode cX2_init 40 = .ok (.aload_n 0, 1) := by decide +kernel
theorem dX2_init_41 : decode cX2_init 41 = .ok (.bipush 50, 2) := by decide +kernel
theorem dX2_init_43 : decode cX2_init 43 = .ok (.newarray .int, 2) := by decide +kernel
theorem dX2_init_45 : decode cX2_init 45 = .ok (.putfield 31, 3) := by decide +kernel
theorem dX2_init_48 : decode cX2_init 48 = .ok (.aload_n 0, 1) := by decide +kernel
theorem dX2_init_49 : decode cX2_init 49 = .ok (.bipush 50, 2) := by decide +kernel
theorem dX2_init_51 : decode cX2_init 51 = .ok (.newarray .int, 2) := by decide +kernel
theorem dX2_init_53 : decode cX2_init 53 = .ok (.putfield 34, 3) := by decide +kernel
theorem dX2_init_56 : decode cX2_init 56 = .ok (.aload_n 0, 1) := by decide +kernel
theorem dX2_init_57 : decode cX2_init 57 = .ok (.getfield 21, 3) := by decide +kernel
theorem dX2_init_60 : decode cX2_init 60 = .ok (.iconst (-1), 1) := by decide +kernel
theorem dX2_init_61 : decode cX2_init 61 = .ok (.invokestatic 37, 3) := by decide +kernel
theorem dX2_init_64 : decode cX2_init 64 = .ok (.return_, 1) := by decide +kernel
set_option maxRecDepth 20000 in
theorem ggX2_enter_X1_isPossible : GoodIn wsX2_enter wsX1_isPossible := goodIn_r _ [7, 8, 9, 10, 11, 12, 13, 14, 15, 16, 17, 18, 19, 20, 21, 22, 23, 24, 25, 33, 34, 35, 36, 37, 38, 39, 40, 41, 42, 43] (by decide +kernel) (by decide +kernel)
set_option maxRecDepth 20000 in
theorem gX2_enter_X1_isPossible : GoodIn wsX2_enter (wsV RX2 43 RX1 yX1_isPossible wsX1_isPossible) := goodIn_app (goodIn_of _ (by decide +kernel)) ggX2_enter_X1_isPossible
theorem dX2_enter_0 : decode cX2_enter 0 = .ok (.aload_n 0, 1) := by decide +kernel
theorem dX2_enter_1 : decode cX2_enter 1 = .ok (.getfield 17, 3) := by decide +kernel
theorem dX2_enter_4 : decode cX2_enter 4 = .ok (.bipush 50, 2) := by decide +kernel
theorem dX2_enter_6 : decode cX2_enter 6 = .ok (.if_icmp .ge 10, 3) := by decide +kernel
theorem dX2_enter_9 : decode cX2_enter 9 = .ok (.aload_n 1, 1) := by decide +kernel
theorem dX2_enter_10 : decode cX2_enter 10 = .ok (.invokevirtual 43, 3) := by decide +kernel
theorem dX2_enter_13 : decode cX2_enter 13 = .ok (.ifCond .ne 5, 3) := by decide +kernel
theorem dX2_enter_16 : decode cX2_enter 16 = .ok (.iconst (-1), 1) := by decide +kernel
theorem dX2_enter_17 : decode cX2_enter 17 = .ok (.ireturn, 1) := by decide +kernel
theorem dX2_enter_18 : decode cX2_enter 18 = .ok (.aload_n 0, 1) := by decide +kernel
theorem dX2_enter_19 : decode cX2_enter 19 = .ok (.getfield 13, 3) := by decide +kernel
theorem dX2_enter_22 : decode cX2_enter 22 = .ok (.aload_n 0, 1) := by decide +kernel
theorem dX2_enter_23 : decode cX2_enter 23 = .ok (.getfield 17, 3) := by decide +kernel
theorem dX2_enter_26 : decode cX2_enter 26 = .ok (.aload_n 1, 1) := by decide +kernel
theorem dX2_enter_27 : decode cX2_enter 27 = .ok (.aastore, 1) := by decide +kernel
theorem dX2_enter_28 : decode cX2_enter 28 = .ok (.aload_n 0, 1) := by decide +kernel
theorem dX2_enter_29 : decode cX2_enter 29 = .ok (.dup, 1) := by decide +kernel
theorem dX2_enter_30 : decode cX2_enter 30 = .ok (.getfield 17, 3) := by decide +kernel
theorem dX2_enter_33 : decode cX2_enter 33 = .ok (.iconst 1, 1) := by decide +kernel
theorem dX2_enter_34 : decode cX2_enter 34 = .ok (.iadd, 1) := by decide +kernel
theorem dX2_enter_35 : decode cX2_enter 35 = .ok (.putfield 17, 3) := by decide +kernel
theorem dX2_enter_38 : decode cX2_enter 38 = .ok (.aload_n 0, 1) := by decide +kernel
theorem dX2_enter_39 : decode cX2_enter 39 = .ok (.getfield 17, 3) := by decide +kernel
theorem dX2_enter_42 : decode cX2_enter 42 = .ok (.iconst 1, 1) := by decide +kernel
theorem dX2_enter_43 : decode cX2_enter 43 = .ok (.isub, 1) := by decide +kernel
theorem dX2_enter_44 : decode cX2_enter 44 = .ok (.ireturn, 1) := by decide +kernel
theorem dX2_isTold_0 : decode cX2_isTold 0 = .ok (.iload_n 1, 1) := by decide +kernel
theorem dX2_isTold_1 : decode cX2_isTold 1 = .ok (.ifCond .lt 21, 3) := by decide +kernel
theorem dX2_isTold_4 : decode cX2_isTold 4 = .ok (.iload_n 1, 1) := by decide +kernel
theorem dX2_isTold_5 : decode cX2_isTold 5 = .ok (.aload_n 0, 1) := by decide +kernel
theorem dX2_isTold_6 : decode cX2_isTold 6 = .ok (.getfield 17, 3) := by decide +kernel
theorem dX2_isTold_9 : decode cX2_isTold 9 = .ok (.if_icmp .ge 13, 3) := by decide +kernel
theorem dX2_isTold_12 : decode cX2_isTold 12 = .ok (.iload_n 1, 1) := by decide +kernel
theorem dX2_isTold_13 : decode cX2_isTold 13 = .ok (.bipush 50, 2) := by decide +kernel
theorem dX2_isTold_15 : decode cX2_isTold 15 = .ok (.if_icmp .ge 7, 3) := by decide +kernel
theorem dX2_isTold_18 : decode cX2_isTold 18 = .ok (.iconst 1, 1) := by decide +kernel
theorem dX2_isTold_19 : decode cX2_isTold 19 = .ok (.goto 4, 3) := by decide +kernel
theorem dX2_isTold_22 : decode cX2_isTold 22 = .ok (.iconst 0, 1) := by decide +kernel
theorem dX2_isTold_23 : decode cX2_isTold 23 = .ok (.ireturn, 1) := by decide +kernel
set_option maxRecDepth 20000 in
theorem ggX2_numbered_X2_isTold : GoodIn wsX2_numbered wsX2_isTold := goodIn_r _ [6, 7, 8, 9, 10, 11, 12, 13, 14] (by decide +kernel) (by decide +kernel)
set_option maxRecDepth 20000 in
theorem gX2_numbered_X2_isTold : GoodIn wsX2_numbered (wsV RX2 47 RX2 yX2_isTold wsX2_isTold) := goodIn_app (goodIn_of _ (by decide +kernel)) ggX2_numbered_X2_isTold
theorem dX2_numbered_0 : decode cX2_numbered 0 = .ok (.aload_n 0, 1) := by decide +kernel
theorem dX2_numbered_1 : decode cX2_numbered 1 = .ok (.iload_n 1, 1) := by decide +kernel
theorem dX2_numbered_2 : decode cX2_numbered 2 = .ok (.invokevirtual 47, 3) := by decide +kernel
theorem dX2_numbered_5 : decode cX2_numbered 5 = .ok (.ifCond .eq 12, 3) := by decide +kernel
theorem dX2_numbered_8 : decode cX2_numbered 8 = .ok (.aload_n 0, 1) := by decide +kernel
theorem dX2_numbered_9 : decode cX2_numbered 9 = .ok (.getfield 13, 3) := by decide +kernel
theorem dX2_numbered_12 : decode cX2_numbered 12 = .ok (.iload_n 1, 1) := by decide +kernel
theorem dX2_numbered_13 : decode cX2_numbered 13 = .ok (.aaload, 1) := by decide +kernel
theorem dX2_numbered_14 : decode cX2_numbered 14 = .ok (.goto 4, 3) := by decide +kernel
theorem dX2_numbered_17 : decode cX2_numbered 17 = .ok (.aconst_null, 1) := by decide +kernel
theorem dX2_numbered_18 : decode cX2_numbered 18 = .ok (.areturn, 1) := by decide +kernel
set_option maxRecDepth 20000 in
theorem ggX2_separate_X2_pairOf : GoodIn wsX2_separate wsX2_pairOf := goodIn_r _ [7, 8, 9, 10, 11, 12, 13, 14, 15, 16, 17, 6, 18, 19, 20, 21, 22, 23, 24, 25, 26] (by decide +kernel) (by decide +kernel)
set_option maxRecDepth 20000 in
theorem gX2_separate_X2_pairOf : GoodIn wsX2_separate (wsV RX2 51 RX2 yX2_pairOf wsX2_pairOf) := goodIn_app (goodIn_of _ (by decide +kernel)) ggX2_separate_X2_pairOf
theorem dX2_separate_0 : decode cX2_separate 0 = .ok (.aload_n 0, 1) := by decide +kernel
theorem dX2_separate_1 : decode cX2_separate 1 = .ok (.iload_n 1, 1) := by decide +kernel
theorem dX2_separate_2 : decode cX2_separate 2 = .ok (.iload_n 2, 1) := by decide +kernel
theorem dX2_separate_3 : decode cX2_separate 3 = .ok (.invokevirtual 51, 3) := by decide +kernel
theorem dX2_separate_6 : decode cX2_separate 6 = .ok (.istore 4, 2) := by decide +kernel
theorem dX2_separate_8 : decode cX2_separate 8 = .ok (.iload 4, 2) := by decide +kernel
theorem dX2_separate_10 : decode cX2_separate 10 = .ok (.iconst (-1), 1) := by decide +kernel
theorem dX2_separate_11 : decode cX2_separate 11 = .ok (.if_icmp .eq 14, 3) := by decide +kernel
theorem dX2_separate_14 : decode cX2_separate 14 = .ok (.aload_n 0, 1) := by decide +kernel
theorem dX2_separate_15 : decode cX2_separate 15 = .ok (.getfield 21, 3) := by decide +kernel
theorem dX2_separate_18 : decode cX2_separate 18 = .ok (.iload 4, 2) := by decide +kernel
theorem dX2_separate_20 : decode cX2_separate 20 = .ok (.iaload, 1) := by decide +kernel
theorem dX2_separate_21 : decode cX2_separate 21 = .ok (.iconst (-1), 1) := by decide +kernel
theorem dX2_separate_22 : decode cX2_separate 22 = .ok (.if_icmp .eq 5, 3) := by decide +kernel
theorem dX2_separate_25 : decode cX2_separate 25 = .ok (.iconst 0, 1) := by decide +kernel
theorem dX2_separate_26 : decode cX2_separate 26 = .ok (.ireturn, 1) := by decide +kernel
theorem dX2_separate_27 : decode cX2_separate 27 = .ok (.aload_n 0, 1) := by decide +kernel
theorem dX2_separate_28 : decode cX2_separate 28 = .ok (.getfield 21, 3) := by decide +kernel
theorem dX2_separate_31 : decode cX2_separate 31 = .ok (.iload 4, 2) := by decide +kernel
theorem dX2_separate_33 : decode cX2_separate 33 = .ok (.iload_n 3, 1) := by decide +kernel
theorem dX2_separate_34 : decode cX2_separate 34 = .ok (.iastore, 1) := by decide +kernel
theorem dX2_separate_35 : decode cX2_separate 35 = .ok (.aload_n 0, 1) := by decide +kernel
theorem dX2_separate_36 : decode cX2_separate 36 = .ok (.dup, 1) := by decide +kernel
theorem dX2_separate_37 : decode cX2_separate 37 = .ok (.getfield 25, 3) := by decide +kernel
theorem dX2_separate_40 : decode cX2_separate 40 = .ok (.iconst 1, 1) := by decide +kernel
theorem dX2_separate_41 : decode cX2_separate 41 = .ok (.iadd, 1) := by decide +kernel
theorem dX2_separate_42 : decode cX2_separate 42 = .ok (.putfield 25, 3) := by decide +kernel
theorem dX2_separate_45 : decode cX2_separate 45 = .ok (.iconst 1, 1) := by decide +kernel
theorem dX2_separate_46 : decode cX2_separate 46 = .ok (.ireturn, 1) := by decide +kernel
set_option maxRecDepth 20000 in
theorem ggX2_pairOf_X2_isTold : GoodIn wsX2_pairOf wsX2_isTold := goodIn_r _ [12, 13, 14, 15, 16, 17, 18, 19, 20] (by decide +kernel) (by decide +kernel)
set_option maxRecDepth 20000 in
theorem gX2_pairOf_X2_isTold : GoodIn wsX2_pairOf (wsV RX2 47 RX2 yX2_isTold wsX2_isTold) := goodIn_app (goodIn_of _ (by decide +kernel)) ggX2_pairOf_X2_isTold
theorem dX2_pairOf_0 : decode cX2_pairOf 0 = .ok (.aload_n 0, 1) := by decide +kernel
theorem dX2_pairOf_1 : decode cX2_pairOf 1 = .ok (.iload_n 1, 1) := by decide +kernel
theorem dX2_pairOf_2 : decode cX2_pairOf 2 = .ok (.invokevirtual 47, 3) := by decide +kernel
theorem dX2_pairOf_5 : decode cX2_pairOf 5 = .ok (.ifCond .eq 16, 3) := by decide +kernel
theorem dX2_pairOf_8 : decode cX2_pairOf 8 = .ok (.aload_n 0, 1) := by decide +kernel
theorem dX2_pairOf_9 : decode cX2_pairOf 9 = .ok (.iload_n 2, 1) := by decide +kernel
theorem dX2_pairOf_10 : decode cX2_pairOf 10 = .ok (.invokevirtual 47, 3) := by decide +kernel
theorem dX2_pairOf_13 : decode cX2_pairOf 13 = .ok (.ifCond .eq 8, 3) := by decide +kernel
theorem dX2_pairOf_16 : decode cX2_pairOf 16 = .ok (.iload_n 1, 1) := by decide +kernel
theorem dX2_pairOf_17 : decode cX2_pairOf 17 = .ok (.iload_n 2, 1) := by decide +kernel
theorem dX2_pairOf_18 : decode cX2_pairOf 18 = .ok (.if_icmp .ne 5, 3) := by decide +kernel
theorem dX2_pairOf_21 : decode cX2_pairOf 21 = .ok (.iconst (-1), 1) := by decide +kernel
theorem dX2_pairOf_22 : decode cX2_pairOf 22 = .ok (.ireturn, 1) := by decide +kernel
theorem dX2_pairOf_23 : decode cX2_pairOf 23 = .ok (.iload_n 1, 1) := by decide +kernel
theorem dX2_pairOf_24 : decode cX2_pairOf 24 = .ok (.iload_n 2, 1) := by decide +kernel
theorem dX2_pairOf_25 : decode cX2_pairOf 25 = .ok (.invokestatic 55, 3) := by decide +kernel
theorem dX2_pairOf_28 : decode cX2_pairOf 28 = .ok (.istore_n 3, 1) := by decide +kernel
theorem dX2_pairOf_29 : decode cX2_pairOf 29 = .ok (.iload_n 3, 1) := by decide +kernel
theorem dX2_pairOf_30 : decode cX2_pairOf 30 = .ok (.iload_n 3, 1) := by decide +kernel
theorem dX2_pairOf_31 : decode cX2_pairOf 31 = .ok (.iconst 1, 1) := by decide +kernel
theorem dX2_pairOf_32 : decode cX2_pairOf 32 = .ok (.isub, 1) := by decide +kernel
theorem dX2_pairOf_33 : decode cX2_pairOf 33 = .ok (.imul, 1) := by decide +kernel
theorem dX2_pairOf_34 : decode cX2_pairOf 34 = .ok (.iconst 2, 1) := by decide +kernel
theorem dX2_pairOf_35 : decode cX2_pairOf 35 = .ok (.idiv, 1) := by decide +kernel
theorem dX2_pairOf_36 : decode cX2_pairOf 36 = .ok (.iload_n 1, 1) := by decide +kernel
theorem dX2_pairOf_37 : decode cX2_pairOf 37 = .ok (.iload_n 2, 1) := by decide +kernel
theorem dX2_pairOf_38 : decode cX2_pairOf 38 = .ok (.invokestatic 60, 3) := by decide +kernel
theorem dX2_pairOf_41 : decode cX2_pairOf 41 = .ok (.iadd, 1) := by decide +kernel
theorem dX2_pairOf_42 : decode cX2_pairOf 42 = .ok (.ireturn, 1) := by decide +kernel
set_option maxRecDepth 20000 in
theorem ggX2_isJoined_X2_numbered : GoodIn wsX2_isJoined wsX2_numbered := goodIn_r _ [6, 7, 8, 9, 10, 5, 11, 12, 36, 37, 38, 39, 40, 41, 42] (by decide +kernel) (by decide +kernel)
set_option maxRecDepth 20000 in
theorem gX2_isJoined_X2_numbered : GoodIn wsX2_isJoined (wsV RX2 63 RX2 yX2_numbered wsX2_numbered) := goodIn_app (goodIn_of _ (by decide +kernel)) ggX2_isJoined_X2_numbered
set_option maxRecDepth 20000 in
theorem ggX2_isJoined_X1_isNear : GoodIn wsX2_isJoined wsX1_isNear := goodIn_r _ [17, 18, 19, 20, 21, 22, 23, 24, 25, 43, 44, 45, 46, 47, 48, 49, 50, 51, 52, 53] (by decide +kernel) (by decide +kernel)
set_option maxRecDepth 20000 in
theorem gX2_isJoined_X1_isNear : GoodIn wsX2_isJoined (wsV RX2 67 RX1 yX1_isNear wsX1_isNear) := goodIn_app (goodIn_of _ (by decide +kernel)) ggX2_isJoined_X1_isNear
set_option maxRecDepth 20000 in
theorem ggX2_isJoined_X2_pairOf : GoodIn wsX2_isJoined wsX2_pairOf := goodIn_r _ [29, 30, 31, 21, 32, 33, 34, 35, 8, 9, 10, 5, 11, 12, 36, 37, 38, 39, 40, 41, 42] (by decide +kernel) (by decide +kernel)
set_option maxRecDepth 20000 in
theorem gX2_isJoined_X2_pairOf : GoodIn wsX2_isJoined (wsV RX2 51 RX2 yX2_pairOf wsX2_pairOf) := goodIn_app (goodIn_of _ (by decide +kernel)) ggX2_isJoined_X2_pairOf
theorem dX2_isJoined_0 : decode cX2_isJoined 0 = .ok (.aload_n 0, 1) := by decide +kernel
theorem dX2_isJoined_1 : decode cX2_isJoined 1 = .ok (.iload_n 1, 1) := by decide +kernel
theorem dX2_isJoined_2 : decode cX2_isJoined 2 = .ok (.invokevirtual 63, 3) := by decide +kernel
theorem dX2_isJoined_5 : decode cX2_isJoined 5 = .ok (.astore 4, 2) := by decide +kernel
theorem dX2_isJoined_7 : decode cX2_isJoined 7 = .ok (.aload_n 0, 1) := by decide +kernel
theorem dX2_isJoined_8 : decode cX2_isJoined 8 = .ok (.iload_n 2, 1) := by decide +kernel
theorem dX2_isJoined_9 : decode cX2_isJoined 9 = .ok (.invokevirtual 63, 3) := by decide +kernel
theorem dX2_isJoined_12 : decode cX2_isJoined 12 = .ok (.astore 5, 2) := by decide +kernel
theorem dX2_isJoined_14 : decode cX2_isJoined 14 = .ok (.aload 4, 2) := by decide +kernel
theorem dX2_isJoined_16 : decode cX2_isJoined 16 = .ok (.ifnull 18, 3) := by decide +kernel
theorem dX2_isJoined_19 : decode cX2_isJoined 19 = .ok (.aload 5, 2) := by decide +kernel
theorem dX2_isJoined_21 : decode cX2_isJoined 21 = .ok (.ifnull 13, 3) := by decide +kernel
theorem dX2_isJoined_24 : decode cX2_isJoined 24 = .ok (.aload 4, 2) := by decide +kernel
theorem dX2_isJoined_26 : decode cX2_isJoined 26 = .ok (.aload 5, 2) := by decide +kernel
theorem dX2_isJoined_28 : decode cX2_isJoined 28 = .ok (.invokevirtual 67, 3) := by decide +kernel
theorem dX2_isJoined_31 : decode cX2_isJoined 31 = .ok (.ifCond .ne 5, 3) := by decide +kernel
theorem dX2_isJoined_34 : decode cX2_isJoined 34 = .ok (.iconst 0, 1) := by decide +kernel
theorem dX2_isJoined_35 : decode cX2_isJoined 35 = .ok (.ireturn, 1) := by decide +kernel
theorem dX2_isJoined_36 : decode cX2_isJoined 36 = .ok (.aload_n 0, 1) := by decide +kernel
theorem dX2_isJoined_37 : decode cX2_isJoined 37 = .ok (.iload_n 1, 1) := by decide +kernel
theorem dX2_isJoined_38 : decode cX2_isJoined 38 = .ok (.iload_n 2, 1) := by decide +kernel
theorem dX2_isJoined_39 : decode cX2_isJoined 39 = .ok (.invokevirtual 51, 3) := by decide +kernel
theorem dX2_isJoined_42 : decode cX2_isJoined 42 = .ok (.istore 6, 2) := by decide +kernel
theorem dX2_isJoined_44 : decode cX2_isJoined 44 = .ok (.iload 6, 2) := by decide +kernel
theorem dX2_isJoined_46 : decode cX2_isJoined 46 = .ok (.iconst (-1), 1) := by decide +kernel
theorem dX2_isJoined_47 : decode cX2_isJoined 47 = .ok (.if_icmp .eq 29, 3) := by decide +kernel
theorem dX2_isJoined_50 : decode cX2_isJoined 50 = .ok (.aload_n 0, 1) := by decide +kernel
theorem dX2_isJoined_51 : decode cX2_isJoined 51 = .ok (.getfield 21, 3) := by decide +kernel
theorem dX2_isJoined_54 : decode cX2_isJoined 54 = .ok (.iload 6, 2) := by decide +kernel
theorem dX2_isJoined_56 : decode cX2_isJoined 56 = .ok (.iaload, 1) := by decide +kernel
theorem dX2_isJoined_57 : decode cX2_isJoined 57 = .ok (.iconst (-1), 1) := by decide +kernel
theorem dX2_isJoined_58 : decode cX2_isJoined 58 = .ok (.if_icmp .eq 14, 3) := by decide +kernel
theorem dX2_isJoined_61 : decode cX2_isJoined 61 = .ok (.aload_n 0, 1) := by decide +kernel
theorem dX2_isJoined_62 : decode cX2_isJoined 62 = .ok (.getfield 21, 3) := by decide +kernel
theorem dX2_isJoined_65 : decode cX2_isJoined 65 = .ok (.iload 6, 2) := by decide +kernel
theorem dX2_isJoined_67 : decode cX2_isJoined 67 = .ok (.iaload, 1) := by decide +kernel
theorem dX2_isJoined_68 : decode cX2_isJoined 68 = .ok (.iload_n 3, 1) := by decide +kernel
theorem dX2_isJoined_69 : decode cX2_isJoined 69 = .ok (.if_icmp .le 7, 3) := by decide +kernel
theorem dX2_isJoined_72 : decode cX2_isJoined 72 = .ok (.iconst 1, 1) := by decide +kernel
theorem dX2_isJoined_73 : decode cX2_isJoined 73 = .ok (.goto 4, 3) := by decide +kernel
theorem dX2_isJoined_76 : decode cX2_isJoined 76 = .ok (.iconst 0, 1) := by decide +kernel
theorem dX2_isJoined_77 : decode cX2_isJoined 77 = .ok (.ireturn, 1) := by decide +kernel
set_option maxRecDepth 20000 in
theorem ggX2_gatherHoards_J7_fill_53178 : GoodIn wsX2_gatherHoards wsJ7_fill_53178 := goodIn_r _ [6] (by decide +kernel) (by decide +kernel)
set_option maxRecDepth 20000 in
theorem gX2_gatherHoards_J7_fill_53178 : GoodIn wsX2_gatherHoards (va_wsS RX2 37 yJ7_fill_53178 wsJ7_fill_53178) := goodIn_app (goodIn_of _ (by decide +kernel)) ggX2_gatherHoards_J7_fill_53178
set_option maxRecDepth 20000 in
theorem ggX2_gatherHoards_X2_knownBy : GoodIn wsX2_gatherHoards wsX2_knownBy := goodIn_r _ [11, 12, 13, 14, 15, 16, 10, 17, 18, 19, 20, 21, 22, 56, 57, 58, 59, 60, 61, 62, 63, 64, 65, 66, 67, 68, 69, 70, 71, 72, 73] (by decide +kernel) (by decide +kernel)
set_option maxRecDepth 20000 in
theorem gX2_gatherHoards_X2_knownBy : GoodIn wsX2_gatherHoards (wsV RX2 71 RX2 yX2_knownBy wsX2_knownBy) := goodIn_app (goodIn_of _ (by decide +kernel)) ggX2_gatherHoards_X2_knownBy
set_option maxRecDepth 20000 in
theorem ggX2_gatherHoards_X2_gatherFrom : GoodIn wsX2_gatherHoards wsX2_gatherFrom := goodIn_r _ [26, 1, 27, 28, 29, 30, 10, 31, 32, 14, 15, 16, 17, 18, 19, 20, 21, 22, 12, 33, 34, 35, 36, 37, 38, 39, 40, 41, 42, 43, 44, 45, 46, 47, 48, 49, 50, 51, 52, 53, 54, 55, 56, 57, 58, 59, 60, 61, 62, 63, 64, 65, 66, 67, 68, 69, 70, 71, 72, 73] (by decide +kernel) (by decide +kernel)
set_option maxRecDepth 20000 in
theorem gX2_gatherHoards_X2_gatherFrom : GoodIn wsX2_gatherHoards (wsV RX2 75 RX2 yX2_gatherFrom wsX2_gatherFrom) := goodIn_app (goodIn_of _ (by decide +kernel)) ggX2_gatherHoards_X2_gatherFrom
theorem dX2_gatherHoards_0 : decode cX2_gatherHoards 0 = .ok (.aload_n 0, 1) := by decide +kernel
theorem dX2_gatherHoards_1 : decode cX2_gatherHoards 1 = .ok (.getfield 28, 3) := by decide +kernel
theorem dX2_gatherHoards_4 : decode cX2_gatherHoards 4 = .ok (.iconst (-1), 1) := by decide +kernel
theorem dX2_gatherHoards_5 : decode cX2_gatherHoards 5 = .ok (.invokestatic 37, 3) := by decide +kernel
theorem dX2_gatherHoards_8 : decode cX2_gatherHoards 8 = .ok (.aload_n 0, 1) := by decide +kernel
theorem dX2_gatherHoards_9 : decode cX2_gatherHoards 9 = .ok (.iload_n 1, 1) := by decide +kernel
theorem dX2_gatherHoards_10 : decode cX2_gatherHoards 10 = .ok (.invokevirtual 71, 3) := by decide +kernel
theorem dX2_gatherHoards_13 : decode cX2_gatherHoards 13 = .ok (.istore_n 2, 1) := by decide +kernel
theorem dX2_gatherHoards_14 : decode cX2_gatherHoards 14 = .ok (.iconst 0, 1) := by decide +kernel
theorem dX2_gatherHoards_15 : decode cX2_gatherHoards 15 = .ok (.istore_n 3, 1) := by decide +kernel
theorem dX2_gatherHoards_16 : decode cX2_gatherHoards 16 = .ok (.iload_n 3, 1) := by decide +kernel
theorem dX2_gatherHoards_17 : decode cX2_gatherHoards 17 = .ok (.iload_n 2, 1) := by decide +kernel
theorem dX2_gatherHoards_18 : decode cX2_gatherHoards 18 = .ok (.if_icmp .ge 38, 3) := by decide +kernel
theorem dX2_gatherHoards_21 : decode cX2_gatherHoards 21 = .ok (.iload_n 3, 1) := by decide +kernel
theorem dX2_gatherHoards_22 : decode cX2_gatherHoards 22 = .ok (.bipush 50, 2) := by decide +kernel
theorem dX2_gatherHoards_24 : decode cX2_gatherHoards 24 = .ok (.if_icmp .ge 32, 3) := by decide +kernel
theorem dX2_gatherHoards_27 : decode cX2_gatherHoards 27 = .ok (.aload_n 0, 1) := by decide +kernel
theorem dX2_gatherHoards_28 : decode cX2_gatherHoards 28 = .ok (.getfield 28, 3) := by decide +kernel
theorem dX2_gatherHoards_31 : decode cX2_gatherHoards 31 = .ok (.iload_n 3, 1) := by decide +kernel
theorem dX2_gatherHoards_32 : decode cX2_gatherHoards 32 = .ok (.iaload, 1) := by decide +kernel
theorem dX2_gatherHoards_33 : decode cX2_gatherHoards 33 = .ok (.iconst (-1), 1) := by decide +kernel
theorem dX2_gatherHoards_34 : decode cX2_gatherHoards 34 = .ok (.if_icmp .ne 16, 3) := by decide +kernel
theorem dX2_gatherHoards_37 : decode cX2_gatherHoards 37 = .ok (.aload_n 0, 1) := by decide +kernel
theorem dX2_gatherHoards_38 : decode cX2_gatherHoards 38 = .ok (.getfield 31, 3) := by decide +kernel
theorem dX2_gatherHoards_41 : decode cX2_gatherHoards 41 = .ok (.iload_n 3, 1) := by decide +kernel
theorem dX2_gatherHoards_42 : decode cX2_gatherHoards 42 = .ok (.aload_n 0, 1) := by decide +kernel
theorem dX2_gatherHoards_43 : decode cX2_gatherHoards 43 = .ok (.iload_n 3, 1) := by decide +kernel
theorem dX2_gatherHoards_44 : decode cX2_gatherHoards 44 = .ok (.iload_n 2, 1) := by decide +kernel
theorem dX2_gatherHoards_45 : decode cX2_gatherHoards 45 = .ok (.iload_n 1, 1) := by decide +kernel
theorem dX2_gatherHoards_46 : decode cX2_gatherHoards 46 = .ok (.invokevirtual 75, 3) := by decide +kernel
theorem dX2_gatherHoards_49 : decode cX2_gatherHoards 49 = .ok (.iastore, 1) := by decide +kernel
theorem dX2_gatherHoards_50 : decode cX2_gatherHoards 50 = .ok (.iinc 3 1, 3) := by decide +kernel
theorem dX2_gatherHoards_53 : decode cX2_gatherHoards 53 = .ok (.goto (-37), 3) := by decide +kernel
theorem dX2_gatherHoards_56 : decode cX2_gatherHoards 56 = .ok (.return_, 1) := by decide +kernel
set_option maxRecDepth 20000 in
theorem ggX2_knownBy_X2_numbered : GoodIn wsX2_knownBy wsX2_numbered := goodIn_r _ [7, 8, 9, 10, 11, 6, 12, 1, 13, 14, 15, 16, 17, 18, 19] (by decide +kernel) (by decide +kernel)
set_option maxRecDepth 20000 in
theorem gX2_knownBy_X2_numbered : GoodIn wsX2_knownBy (wsV RX2 63 RX2 yX2_numbered wsX2_numbered) := goodIn_app (goodIn_of _ (by decide +kernel)) ggX2_knownBy_X2_numbered
theorem dX2_knownBy_0 : decode cX2_knownBy 0 = .ok (.iconst 0, 1) := by decide +kernel
theorem dX2_knownBy_1 : decode cX2_knownBy 1 = .ok (.istore_n 2, 1) := by decide +kernel
theorem dX2_knownBy_2 : decode cX2_knownBy 2 = .ok (.iconst 0, 1) := by decide +kernel
theorem dX2_knownBy_3 : decode cX2_knownBy 3 = .ok (.istore_n 3, 1) := by decide +kernel
theorem dX2_knownBy_4 : decode cX2_knownBy 4 = .ok (.iload_n 3, 1) := by decide +kernel
theorem dX2_knownBy_5 : decode cX2_knownBy 5 = .ok (.aload_n 0, 1) := by decide +kernel
theorem dX2_knownBy_6 : decode cX2_knownBy 6 = .ok (.getfield 17, 3) := by decide +kernel
theorem dX2_knownBy_9 : decode cX2_knownBy 9 = .ok (.if_icmp .ge 34, 3) := by decide +kernel
theorem dX2_knownBy_12 : decode cX2_knownBy 12 = .ok (.aload_n 0, 1) := by decide +kernel
theorem dX2_knownBy_13 : decode cX2_knownBy 13 = .ok (.iload_n 3, 1) := by decide +kernel
theorem dX2_knownBy_14 : decode cX2_knownBy 14 = .ok (.invokevirtual 63, 3) := by decide +kernel
theorem dX2_knownBy_17 : decode cX2_knownBy 17 = .ok (.astore 4, 2) := by decide +kernel
theorem dX2_knownBy_19 : decode cX2_knownBy 19 = .ok (.aload 4, 2) := by decide +kernel
theorem dX2_knownBy_21 : decode cX2_knownBy 21 = .ok (.ifnull 16, 3) := by decide +kernel
theorem dX2_knownBy_24 : decode cX2_knownBy 24 = .ok (.aload 4, 2) := by decide +kernel
theorem dX2_knownBy_26 : decode cX2_knownBy 26 = .ok (.getfield 79, 3) := by decide +kernel
theorem dX2_knownBy_29 : decode cX2_knownBy 29 = .ok (.iload_n 1, 1) := by decide +kernel
theorem dX2_knownBy_30 : decode cX2_knownBy 30 = .ok (.if_icmp .gt 7, 3) := by decide +kernel
theorem dX2_knownBy_33 : decode cX2_knownBy 33 = .ok (.iload_n 3, 1) := by decide +kernel
theorem dX2_knownBy_34 : decode cX2_knownBy 34 = .ok (.iconst 1, 1) := by decide +kernel
theorem dX2_knownBy_35 : decode cX2_knownBy 35 = .ok (.iadd, 1) := by decide +kernel
theorem dX2_knownBy_36 : decode cX2_knownBy 36 = .ok (.istore_n 2, 1) := by decide +kernel
theorem dX2_knownBy_37 : decode cX2_knownBy 37 = .ok (.iinc 3 1, 3) := by decide +kernel
theorem dX2_knownBy_40 : decode cX2_knownBy 40 = .ok (.goto (-36), 3) := by decide +kernel
theorem dX2_knownBy_43 : decode cX2_knownBy 43 = .ok (.iload_n 2, 1) := by decide +kernel
theorem dX2_knownBy_44 : decode cX2_knownBy 44 = .ok (.ireturn, 1) := by decide +kernel
set_option maxRecDepth 20000 in
theorem ggX2_gatherFrom_X2_isJoined : GoodIn wsX2_gatherFrom wsX2_isJoined := goodIn_r _ [7, 8, 9, 10, 11, 6, 12, 13, 14, 15, 16, 17, 18, 19, 20, 21, 22, 23, 24, 25, 26, 27, 28, 29, 30, 31, 32, 33, 34, 35, 36, 37, 38, 39, 40, 41, 42, 43, 44, 45, 46, 47, 48, 49, 50, 51, 52, 53, 54, 55, 56, 57, 58, 59] (by decide +kernel) (by decide +kernel)
set_option maxRecDepth 20000 in
theorem gX2_gatherFrom_X2_isJoined : GoodIn wsX2_gatherFrom (wsV RX2 82 RX2 yX2_isJoined wsX2_isJoined) := goodIn_app (goodIn_of _ (by decide +kernel)) ggX2_gatherFrom_X2_isJoined
theorem dX2_gatherFrom_0 : decode cX2_gatherFrom 0 = .ok (.aload_n 0, 1) := by decide +kernel
theorem dX2_gatherFrom_1 : decode cX2_gatherFrom 1 = .ok (.getfield 28, 3) := by decide +kernel
theorem dX2_gatherFrom_4 : decode cX2_gatherFrom 4 = .ok (.iload_n 1, 1) := by decide +kernel
theorem dX2_gatherFrom_5 : decode cX2_gatherFrom 5 = .ok (.iload_n 1, 1) := by decide +kernel
theorem dX2_gatherFrom_6 : decode cX2_gatherFrom 6 = .ok (.iastore, 1) := by decide +kernel
theorem dX2_gatherFrom_7 : decode cX2_gatherFrom 7 = .ok (.aload_n 0, 1) := by decide +kernel
theorem dX2_gatherFrom_8 : decode cX2_gatherFrom 8 = .ok (.getfield 34, 3) := by decide +kernel
theorem dX2_gatherFrom_11 : decode cX2_gatherFrom 11 = .ok (.iconst 0, 1) := by decide +kernel
theorem dX2_gatherFrom_12 : decode cX2_gatherFrom 12 = .ok (.iload_n 1, 1) := by decide +kernel
theorem dX2_gatherFrom_13 : decode cX2_gatherFrom 13 = .ok (.iastore, 1) := by decide +kernel
theorem dX2_gatherFrom_14 : decode cX2_gatherFrom 14 = .ok (.iconst 1, 1) := by decide +kernel
theorem dX2_gatherFrom_15 : decode cX2_gatherFrom 15 = .ok (.istore 4, 2) := by decide +kernel
theorem dX2_gatherFrom_17 : decode cX2_gatherFrom 17 = .ok (.iconst 0, 1) := by decide +kernel
theorem dX2_gatherFrom_18 : decode cX2_gatherFrom 18 = .ok (.istore 5, 2) := by decide +kernel
theorem dX2_gatherFrom_20 : decode cX2_gatherFrom 20 = .ok (.iload 5, 2) := by decide +kernel
theorem dX2_gatherFrom_22 : decode cX2_gatherFrom 22 = .ok (.iload 4, 2) := by decide +kernel
theorem dX2_gatherFrom_24 : decode cX2_gatherFrom 24 = .ok (.if_icmp .ge 107, 3) := by decide +kernel
theorem dX2_gatherFrom_27 : decode cX2_gatherFrom 27 = .ok (.iload 5, 2) := by decide +kernel
theorem dX2_gatherFrom_29 : decode cX2_gatherFrom 29 = .ok (.bipush 50, 2) := by decide +kernel
theorem dX2_gatherFrom_31 : decode cX2_gatherFrom 31 = .ok (.if_icmp .ge 100, 3) := by decide +kernel
theorem dX2_gatherFrom_34 : decode cX2_gatherFrom 34 = .ok (.iload_n 1, 1) := by decide +kernel
theorem dX2_gatherFrom_35 : decode cX2_gatherFrom 35 = .ok (.iconst 1, 1) := by decide +kernel
theorem dX2_gatherFrom_36 : decode cX2_gatherFrom 36 = .ok (.iadd, 1) := by decide +kernel
theorem dX2_gatherFrom_37 : decode cX2_gatherFrom 37 = .ok (.istore 6, 2) := by decide +kernel
theorem dX2_gatherFrom_39 : decode cX2_gatherFrom 39 = .ok (.iload 6, 2) := by decide +kernel
theorem dX2_gatherFrom_41 : decode cX2_gatherFrom 41 = .ok (.iload_n 2, 1) := by decide +kernel
theorem dX2_gatherFrom_42 : decode cX2_gatherFrom 42 = .ok (.if_icmp .ge 83, 3) := by decide +kernel
theorem dX2_gatherFrom_45 : decode cX2_gatherFrom 45 = .ok (.iload 6, 2) := by decide +kernel
theorem dX2_gatherFrom_47 : decode cX2_gatherFrom 47 = .ok (.bipush 50, 2) := by decide +kernel
theorem dX2_gatherFrom_49 : decode cX2_gatherFrom 49 = .ok (.if_icmp .ge 76, 3) := by decide +kernel
theorem dX2_gatherFrom_52 : decode cX2_gatherFrom 52 = .ok (.aload_n 0, 1) := by decide +kernel
theorem dX2_gatherFrom_53 : decode cX2_gatherFrom 53 = .ok (.getfield 28, 3) := by decide +kernel
theorem dX2_gatherFrom_56 : decode cX2_gatherFrom 56 = .ok (.iload 6, 2) := by decide +kernel
theorem dX2_gatherFrom_58 : decode cX2_gatherFrom 58 = .ok (.iaload, 1) := by decide +kernel
theorem dX2_gatherFrom_59 : decode cX2_gatherFrom 59 = .ok (.iconst (-1), 1) := by decide +kernel
theorem dX2_gatherFrom_60 : decode cX2_gatherFrom 60 = .ok (.if_icmp .ne 14, 3) := by decide +kernel
theorem dX2_gatherFrom_63 : decode cX2_gatherFrom 63 = .ok (.iload 4, 2) := by decide +kernel
theorem dX2_gatherFrom_65 : decode cX2_gatherFrom 65 = .ok (.bipush 50, 2) := by decide +kernel
theorem dX2_gatherFrom_67 : decode cX2_gatherFrom 67 = .ok (.if_icmp .ge 7, 3) := by decide +kernel
theorem dX2_gatherFrom_70 : decode cX2_gatherFrom 70 = .ok (.iconst 1, 1) := by decide +kernel
theorem dX2_gatherFrom_71 : decode cX2_gatherFrom 71 = .ok (.goto 4, 3) := by decide +kernel
theorem dX2_gatherFrom_74 : decode cX2_gatherFrom 74 = .ok (.iconst 0, 1) := by decide +kernel
theorem dX2_gatherFrom_75 : decode cX2_gatherFrom 75 = .ok (.istore 7, 2) := by decide +kernel
theorem dX2_gatherFrom_77 : decode cX2_gatherFrom 77 = .ok (.iload 7, 2) := by decide +kernel
theorem dX2_gatherFrom_79 : decode cX2_gatherFrom 79 = .ok (.ifCond .eq 40, 3) := by decide +kernel
theorem dX2_gatherFrom_82 : decode cX2_gatherFrom 82 = .ok (.aload_n 0, 1) := by decide +kernel
theorem dX2_gatherFrom_83 : decode cX2_gatherFrom 83 = .ok (.aload_n 0, 1) := by decide +kernel
theorem dX2_gatherFrom_84 : decode cX2_gatherFrom 84 = .ok (.getfield 34, 3) := by decide +kernel
theorem dX2_gatherFrom_87 : decode cX2_gatherFrom 87 = .ok (.iload 5, 2) := by decide +kernel
theorem dX2_gatherFrom_89 : decode cX2_gatherFrom 89 = .ok (.iaload, 1) := by decide +kernel
theorem dX2_gatherFrom_90 : decode cX2_gatherFrom 90 = .ok (.iload 6, 2) := by decide +kernel
theorem dX2_gatherFrom_92 : decode cX2_gatherFrom 92 = .ok (.iload_n 3, 1) := by decide +kernel
theorem dX2_gatherFrom_93 : decode cX2_gatherFrom 93 = .ok (.invokevirtual 82, 3) := by decide +kernel
theorem dX2_gatherFrom_96 : decode cX2_gatherFrom 96 = .ok (.ifCond .eq 23, 3) := by decide +kernel
theorem dX2_gatherFrom_99 : decode cX2_gatherFrom 99 = .ok (.aload_n 0, 1) := by decide +kernel
theorem dX2_gatherFrom_100 : decode cX2_gatherFrom 100 = .ok (.getfield 28, 3) := by decide +kernel
theorem dX2_gatherFrom_103 : decode cX2_gatherFrom 103 = .ok (.iload 6, 2) := by decide +kernel
theorem dX2_gatherFrom_105 : decode cX2_gatherFrom 105 = .ok (.iload_n 1, 1) := by decide +kernel
theorem dX2_gatherFrom_106 : decode cX2_gatherFrom 106 = .ok (.iastore, 1) := by decide +kernel
theorem dX2_gatherFrom_107 : decode cX2_gatherFrom 107 = .ok (.aload_n 0, 1) := by decide +kernel
theorem dX2_gatherFrom_108 : decode cX2_gatherFrom 108 = .ok (.getfield 34, 3) := by decide +kernel
theorem dX2_gatherFrom_111 : decode cX2_gatherFrom 111 = .ok (.iload 4, 2) := by decide +kernel
theorem dX2_gatherFrom_113 : decode cX2_gatherFrom 113 = .ok (.iload 6, 2) := by decide +kernel
theorem dX2_gatherFrom_115 : decode cX2_gatherFrom 115 = .ok (.iastore, 1) := by decide +kernel
theorem dX2_gatherFrom_116 : decode cX2_gatherFrom 116 = .ok (.iinc 4 1, 3) := by decide +kernel
theorem dX2_gatherFrom_119 : decode cX2_gatherFrom 119 = .ok (.iinc 6 1, 3) := by decide +kernel
theorem dX2_gatherFrom_122 : decode cX2_gatherFrom 122 = .ok (.goto (-83), 3) := by decide +kernel
theorem dX2_gatherFrom_125 : decode cX2_gatherFrom 125 = .ok (.iinc 5 1, 3) := by decide +kernel
theorem dX2_gatherFrom_128 : decode cX2_gatherFrom 128 = .ok (.goto (-108), 3) := by decide +kernel
theorem dX2_gatherFrom_131 : decode cX2_gatherFrom 131 = .ok (.iload 4, 2) := by decide +kernel
theorem dX2_gatherFrom_133 : decode cX2_gatherFrom 133 = .ok (.ireturn, 1) := by decide +kernel
set_option maxRecDepth 20000 in
theorem ggX2_hoardNumber_X2_isTold : GoodIn wsX2_hoardNumber wsX2_isTold := goodIn_r _ [6, 7, 8, 9, 10, 11, 12, 13, 14] (by decide +kernel) (by decide +kernel)
set_option maxRecDepth 20000 in
theorem gX2_hoardNumber_X2_isTold : GoodIn wsX2_hoardNumber (wsV RX2 47 RX2 yX2_isTold wsX2_isTold) := goodIn_app (goodIn_of _ (by decide +kernel)) ggX2_hoardNumber_X2_isTold
theorem dX2_hoardNumber_0 : decode cX2_hoardNumber 0 = .ok (.aload_n 0, 1) := by decide +kernel
theorem dX2_hoardNumber_1 : decode cX2_hoardNumber 1 = .ok (.iload_n 1, 1) := by decide +kernel
theorem dX2_hoardNumber_2 : decode cX2_hoardNumber 2 = .ok (.invokevirtual 47, 3) := by decide +kernel
theorem dX2_hoardNumber_5 : decode cX2_hoardNumber 5 = .ok (.ifCond .eq 12, 3) := by decide +kernel
theorem dX2_hoardNumber_8 : decode cX2_hoardNumber 8 = .ok (.aload_n 0, 1) := by decide +kernel
theorem dX2_hoardNumber_9 : decode cX2_hoardNumber 9 = .ok (.getfield 28, 3) := by decide +kernel
theorem dX2_hoardNumber_12 : decode cX2_hoardNumber 12 = .ok (.iload_n 1, 1) := by decide +kernel
theorem dX2_hoardNumber_13 : decode cX2_hoardNumber 13 = .ok (.iaload, 1) := by decide +kernel
theorem dX2_hoardNumber_14 : decode cX2_hoardNumber 14 = .ok (.goto 4, 3) := by decide +kernel
theorem dX2_hoardNumber_17 : decode cX2_hoardNumber 17 = .ok (.iconst (-1), 1) := by decide +kernel
theorem dX2_hoardNumber_18 : decode cX2_hoardNumber 18 = .ok (.ireturn, 1) := by decide +kernel
set_option maxRecDepth 20000 in
theorem ggX2_hoardSize_X2_isTold : GoodIn wsX2_hoardSize wsX2_isTold := goodIn_r _ [7, 8, 9, 10, 11, 12, 13, 14, 15] (by decide +kernel) (by decide +kernel)
set_option maxRecDepth 20000 in
theorem gX2_hoardSize_X2_isTold : GoodIn wsX2_hoardSize (wsV RX2 47 RX2 yX2_isTold wsX2_isTold) := goodIn_app (goodIn_of _ (by decide +kernel)) ggX2_hoardSize_X2_isTold
theorem dX2_hoardSize_0 : decode cX2_hoardSize 0 = .ok (.aload_n 0, 1) := by decide +kernel
theorem dX2_hoardSize_1 : decode cX2_hoardSize 1 = .ok (.iload_n 1, 1) := by decide +kernel
theorem dX2_hoardSize_2 : decode cX2_hoardSize 2 = .ok (.invokevirtual 47, 3) := by decide +kernel
theorem dX2_hoardSize_5 : decode cX2_hoardSize 5 = .ok (.ifCond .eq 12, 3) := by decide +kernel
theorem dX2_hoardSize_8 : decode cX2_hoardSize 8 = .ok (.aload_n 0, 1) := by decide +kernel
theorem dX2_hoardSize_9 : decode cX2_hoardSize 9 = .ok (.getfield 28, 3) := by decide +kernel
theorem dX2_hoardSize_12 : decode cX2_hoardSize 12 = .ok (.iload_n 1, 1) := by decide +kernel
theorem dX2_hoardSize_13 : decode cX2_hoardSize 13 = .ok (.iaload, 1) := by decide +kernel
theorem dX2_hoardSize_14 : decode cX2_hoardSize 14 = .ok (.goto 4, 3) := by decide +kernel
theorem dX2_hoardSize_17 : decode cX2_hoardSize 17 = .ok (.iconst (-1), 1) := by decide +kernel
theorem dX2_hoardSize_18 : decode cX2_hoardSize 18 = .ok (.istore_n 2, 1) := by decide +kernel
theorem dX2_hoardSize_19 : decode cX2_hoardSize 19 = .ok (.aload_n 0, 1) := by decide +kernel
theorem dX2_hoardSize_20 : decode cX2_hoardSize 20 = .ok (.iload_n 2, 1) := by decide +kernel
theorem dX2_hoardSize_21 : decode cX2_hoardSize 21 = .ok (.invokevirtual 47, 3) := by decide +kernel
theorem dX2_hoardSize_24 : decode cX2_hoardSize 24 = .ok (.ifCond .eq 12, 3) := by decide +kernel
theorem dX2_hoardSize_27 : decode cX2_hoardSize 27 = .ok (.aload_n 0, 1) := by decide +kernel
theorem dX2_hoardSize_28 : decode cX2_hoardSize 28 = .ok (.getfield 31, 3) := by decide +kernel
theorem dX2_hoardSize_31 : decode cX2_hoardSize 31 = .ok (.iload_n 2, 1) := by decide +kernel
theorem dX2_hoardSize_32 : decode cX2_hoardSize 32 = .ok (.iaload, 1) := by decide +kernel
theorem dX2_hoardSize_33 : decode cX2_hoardSize 33 = .ok (.goto 4, 3) := by decide +kernel
theorem dX2_hoardSize_36 : decode cX2_hoardSize 36 = .ok (.iconst (-1), 1) := by decide +kernel
theorem dX2_hoardSize_37 : decode cX2_hoardSize 37 = .ok (.ireturn, 1) := by decide +kernel
set_option maxRecDepth 20000 in
theorem ggX2_tally_X2_numbered : GoodIn wsX2_tally wsX2_numbered := goodIn_r _ [8, 9, 10, 11, 12, 7, 13, 1, 17, 18, 19, 20, 21, 22, 23] (by decide +kernel) (by decide +kernel)
set_option maxRecDepth 20000 in
theorem gX2_tally_X2_numbered : GoodIn wsX2_tally (wsV RX2 63 RX2 yX2_numbered wsX2_numbered) := goodIn_app (goodIn_of _ (by decide +kernel)) ggX2_tally_X2_numbered
set_option maxRecDepth 20000 in
theorem ggX2_tally_X9_isBetween : GoodIn wsX2_tally wsX9_isBetween := goodIn_r _ [16] (by decide +kernel) (by decide +kernel)
set_option maxRecDepth 20000 in
theorem gX2_tally_X9_isBetween_n89 : GoodIn wsX2_tally (wsX9_isBetween) := ggX2_tally_X9_isBetween
theorem dX2_tally_0 : decode cX2_tally 0 = .ok (.iconst 0, 1) := by decide +kernel
theorem dX2_tally_1 : decode cX2_tally 1 = .ok (.istore 5, 2) := by decide +kernel
theorem dX2_tally_3 : decode cX2_tally 3 = .ok (.iconst 0, 1) := by decide +kernel
theorem dX2_tally_4 : decode cX2_tally 4 = .ok (.istore 6, 2) := by decide +kernel
theorem dX2_tally_6 : decode cX2_tally 6 = .ok (.iload 6, 2) := by decide +kernel
theorem dX2_tally_8 : decode cX2_tally 8 = .ok (.aload_n 0, 1) := by decide +kernel
theorem dX2_tally_9 : decode cX2_tally 9 = .ok (.getfield 17, 3) := by decide +kernel
theorem dX2_tally_12 : decode cX2_tally 12 = .ok (.if_icmp .ge 56, 3) := by decide +kernel
theorem dX2_tally_15 : decode cX2_tally 15 = .ok (.aload_n 0, 1) := by decide +kernel
theorem dX2_tally_16 : decode cX2_tally 16 = .ok (.iload 6, 2) := by decide +kernel
theorem dX2_tally_18 : decode cX2_tally 18 = .ok (.invokevirtual 63, 3) := by decide +kernel
theorem dX2_tally_21 : decode cX2_tally 21 = .ok (.astore 7, 2) := by decide +kernel
theorem dX2_tally_23 : decode cX2_tally 23 = .ok (.aload 7, 2) := by decide +kernel
theorem dX2_tally_25 : decode cX2_tally 25 = .ok (.ifnull 37, 3) := by decide +kernel
theorem dX2_tally_28 : decode cX2_tally 28 = .ok (.aload 7, 2) := by decide +kernel
theorem dX2_tally_30 : decode cX2_tally 30 = .ok (.getfield 86, 3) := by decide +kernel
theorem dX2_tally_33 : decode cX2_tally 33 = .ok (.iload_n 1, 1) := by decide +kernel
theorem dX2_tally_34 : decode cX2_tally 34 = .ok (.iload_n 2, 1) := by decide +kernel
theorem dX2_tally_35 : decode cX2_tally 35 = .ok (.iconst 1, 1) := by decide +kernel
theorem dX2_tally_36 : decode cX2_tally 36 = .ok (.isub, 1) := by decide +kernel
theorem dX2_tally_37 : decode cX2_tally 37 = .ok (.invokestatic 89, 3) := by decide +kernel
theorem dX2_tally_40 : decode cX2_tally 40 = .ok (.ifCond .eq 22, 3) := by decide +kernel
theorem dX2_tally_43 : decode cX2_tally 43 = .ok (.aload 7, 2) := by decide +kernel
theorem dX2_tally_45 : decode cX2_tally 45 = .ok (.getfield 92, 3) := by decide +kernel
theorem dX2_tally_48 : decode cX2_tally 48 = .ok (.iload_n 3, 1) := by decide +kernel
theorem dX2_tally_49 : decode cX2_tally 49 = .ok (.iload 4, 2) := by decide +kernel
theorem dX2_tally_51 : decode cX2_tally 51 = .ok (.iconst 1, 1) := by decide +kernel
theorem dX2_tally_52 : decode cX2_tally 52 = .ok (.isub, 1) := by decide +kernel
theorem dX2_tally_53 : decode cX2_tally 53 = .ok (.invokestatic 89, 3) := by decide +kernel
theorem dX2_tally_56 : decode cX2_tally 56 = .ok (.ifCond .eq 6, 3) := by decide +kernel
theorem dX2_tally_59 : decode cX2_tally 59 = .ok (.iinc 5 1, 3) := by decide +kernel
theorem dX2_tally_62 : decode cX2_tally 62 = .ok (.iinc 6 1, 3) := by decide +kernel
theorem dX2_tally_65 : decode cX2_tally 65 = .ok (.goto (-59), 3) := by decide +kernel
theorem dX2_tally_68 : decode cX2_tally 68 = .ok (.iload 5, 2) := by decide +kernel
theorem dX2_tally_70 : decode cX2_tally 70 = .ok (.ireturn, 1) := by decide +kernel
theorem dX3_init_0 : decode cX3_init 0 = .ok (.aload_n 0, 1) := by decide +kernel
theorem dX3_init_1 : decode cX3_init 1 = .ok (.invokespecial 3, 3) := by decide +kernel
theorem dX3_init_4 : decode cX3_init 4 = .ok (.aload_n 0, 1) := by decide +kernel
theorem dX3_init_5 : decode cX3_init 5 = .ok (.bipush 100, 2) := by decide +kernel
theorem dX3_init_7 : decode cX3_init 7 = .ok (.newarray .int, 2) := by decide +kernel
theorem dX3_init_9 : decode cX3_init 9 = .ok (.putfield 11, 3) := by decide +kernel
theorem dX3_init_12 : decode cX3_init 12 = .ok (.aload_n 0, 1) := by decide +kernel
theorem dX3_init_13 : decode cX3_init 13 = .ok (.bipush 100, 2) := by decide +kernel
theorem dX3_init_15 : decode cX3_init 15 = .ok (.newarray .int, 2) := by decide +kernel
theorem dX3_init_17 : decode cX3_init 17 = .ok (.putfield 15, 3) := by decide +kernel
theorem dX3_init_20 : decode cX3_init 20 = .ok (.aload_n 0, 1) := by decide +kernel
theorem dX3_init_21 : decode cX3_init 21 = .ok (.bipush 100, 2) := by decide +kernel
theorem dX3_init_23 : decode cX3_init 23 = .ok (.newarray .int, 2) := by decide +kernel
theorem dX3_init_25 : decode cX3_init 25 = .ok (.putfield 18, 3) := by decide +kernel
theorem dX3_init_28 : decode cX3_init 28 = .ok (.aload_n 0, 1) := by decide +kernel
theorem dX3_init_29 : decode cX3_init 29 = .ok (.iconst 0, 1) := by decide +kernel
theorem dX3_init_30 : decode cX3_init 30 = .ok (.putfield 21, 3) := by decide +kernel
theorem dX3_init_33 : decode cX3_init 33 = .ok (.return_, 1) := by decide +kernel
set_option maxRecDepth 20000 in
theorem ggX3_enter_X9_isBetween : GoodIn wsX3_enter wsX9_isBetween := goodIn_r _ [7] (by decide +kernel) (by decide +kernel)
set_option maxRecDepth 20000 in
theorem gX3_enter_X9_isBetween_n25 : GoodIn wsX3_enter (wsX9_isBetween) := ggX3_enter_X9_isBetween
set_option maxRecDepth 20000 in
theorem ggX3_enter_X9_isDay : GoodIn wsX3_enter wsX9_isDay := goodIn_r _ [9, 10, 5, 6, 7] (by decide +kernel) (by decide +kernel)
set_option maxRecDepth 20000 in
theorem gX3_enter_X9_isDay_n29 : GoodIn wsX3_enter (wsX9_isDay) := ggX3_enter_X9_isDay
set_option maxRecDepth 20000 in
theorem ggX3_enter_X9_isPerson : GoodIn wsX3_enter wsX9_isPerson := goodIn_r _ [12, 10, 5, 6, 7] (by decide +kernel) (by decide +kernel)
set_option maxRecDepth 20000 in
theorem gX3_enter_X9_isPerson_n33 : GoodIn wsX3_enter (wsX9_isPerson) := ggX3_enter_X9_isPerson
theorem dX3_enter_0 : decode cX3_enter 0 = .ok (.iload_n 1, 1) := by decide +kernel
theorem dX3_enter_1 : decode cX3_enter 1 = .ok (.iconst 0, 1) := by decide +kernel
theorem dX3_enter_2 : decode cX3_enter 2 = .ok (.bipush 99, 2) := by decide +kernel
theorem dX3_enter_4 : decode cX3_enter 4 = .ok (.invokestatic 25, 3) := by decide +kernel
theorem dX3_enter_7 : decode cX3_enter 7 = .ok (.ifCond .eq 21, 3) := by decide +kernel
theorem dX3_enter_10 : decode cX3_enter 10 = .ok (.iload_n 2, 1) := by decide +kernel
theorem dX3_enter_11 : decode cX3_enter 11 = .ok (.invokestatic 29, 3) := by decide +kernel
theorem dX3_enter_14 : decode cX3_enter 14 = .ok (.ifCond .eq 14, 3) := by decide +kernel
theorem dX3_enter_17 : decode cX3_enter 17 = .ok (.iload_n 3, 1) := by decide +kernel
theorem dX3_enter_18 : decode cX3_enter 18 = .ok (.invokestatic 33, 3) := by decide +kernel
theorem dX3_enter_21 : decode cX3_enter 21 = .ok (.ifCond .eq 7, 3) := by decide +kernel
theorem dX3_enter_24 : decode cX3_enter 24 = .ok (.iconst 1, 1) := by decide +kernel
theorem dX3_enter_25 : decode cX3_enter 25 = .ok (.goto 4, 3) := by decide +kernel
theorem dX3_enter_28 : decode cX3_enter 28 = .ok (.iconst 0, 1) := by decide +kernel
theorem dX3_enter_29 : decode cX3_enter 29 = .ok (.istore 4, 2) := by decide +kernel
theorem dX3_enter_31 : decode cX3_enter 31 = .ok (.aload_n 0, 1) := by decide +kernel
theorem dX3_enter_32 : decode cX3_enter 32 = .ok (.getfield 21, 3) := by decide +kernel
theorem dX3_enter_35 : decode cX3_enter 35 = .ok (.bipush 100, 2) := by decide +kernel
theorem dX3_enter_37 : decode cX3_enter 37 = .ok (.if_icmp .ge 8, 3) := by decide +kernel
theorem dX3_enter_40 : decode cX3_enter 40 = .ok (.iload 4, 2) := by decide +kernel
theorem dX3_enter_42 : decode cX3_enter 42 = .ok (.ifCond .ne 5, 3) := by decide +kernel
theorem dX3_enter_45 : decode cX3_enter 45 = .ok (.iconst 0, 1) := by decide +kernel
theorem dX3_enter_46 : decode cX3_enter 46 = .ok (.ireturn, 1) := by decide +kernel
theorem dX3_enter_47 : decode cX3_enter 47 = .ok (.aload_n 0, 1) := by decide +kernel
theorem dX3_enter_48 : decode cX3_enter 48 = .ok (.getfield 11, 3) := by decide +kernel
theorem dX3_enter_51 : decode cX3_enter 51 = .ok (.aload_n 0, 1) := by decide +kernel
theorem dX3_enter_52 : decode cX3_enter 52 = .ok (.getfield 21, 3) := by decide +kernel
theorem dX3_enter_55 : decode cX3_enter 55 = .ok (.iload_n 1, 1) := by decide +kernel
theorem dX3_enter_56 : decode cX3_enter 56 = .ok (.iastore, 1) := by decide +kernel
theorem dX3_enter_57 : decode cX3_enter 57 = .ok (.aload_n 0, 1) := by decide +kernel
theorem dX3_enter_58 : decode cX3_enter 58 = .ok (.getfield 15, 3) := by decide +kernel
theorem dX3_enter_61 : decode cX3_enter 61 = .ok (.aload_n 0, 1) := by decide +kernel
theorem dX3_enter_62 : decode cX3_enter 62 = .ok (.getfield 21, 3) := by decide +kernel
theorem dX3_enter_65 : decode cX3_enter 65 = .ok (.iload_n 2, 1) := by decide +kernel
theorem dX3_enter_66 : decode cX3_enter 66 = .ok (.iastore, 1) := by decide +kernel
theorem dX3_enter_67 : decode cX3_enter 67 = .ok (.aload_n 0, 1) := by decide +kernel
theorem dX3_enter_68 : decode cX3_enter 68 = .ok (.getfield 18, 3) := by decide +kernel
theorem dX3_enter_71 : decode cX3_enter 71 = .ok (.aload_n 0, 1) := by decide +kernel
theorem dX3_enter_72 : decode cX3_enter 72 = .ok (.getfield 21, 3) := by decide +kernel
theorem dX3_enter_75 : decode cX3_enter 75 = .ok (.iload_n 3, 1) := by decide +kernel
theorem dX3_enter_76 : decode cX3_enter 76 = .ok (.iastore, 1) := by decide +kernel
theorem dX3_enter_77 : decode cX3_enter 77 = .ok (.aload_n 0, 1) := by decide +kernel
theorem dX3_enter_78 : decode cX3_enter 78 = .ok (.dup, 1) := by decide +kernel
theorem dX3_enter_79 : decode cX3_enter 79 = .ok (.getfield 21, 3) := by decide +kernel
theorem dX3_enter_82 : decode cX3_enter 82 = .ok (.iconst 1, 1) := by decide +kernel
theorem dX3_enter_83 : decode cX3_enter 83 = .ok (.iadd, 1) := by decide +kernel
theorem dX3_enter_84 : decode cX3_enter 84 = .ok (.putfield 21, 3) := by decide +kernel
theorem dX3_enter_87 : decode cX3_enter 87 = .ok (.iconst 1, 1) := by decide +kernel
theorem dX3_enter_88 : decode cX3_enter 88 = .ok (.ireturn, 1) := by decide +kernel
theorem dX3_holderOn_0 : decode cX3_holderOn 0 = .ok (.iconst 0, 1) := by decide +kernel
theorem dX3_holderOn_1 : decode cX3_holderOn 1 = .ok (.istore_n 3, 1) := by decide +kernel
theorem dX3_holderOn_2 : decode cX3_holderOn 2 = .ok (.iconst 0, 1) := by decide +kernel
theorem dX3_holderOn_3 : decode cX3_holderOn 3 = .ok (.istore 4, 2) := by decide +kernel
theorem dX3_holderOn_5 : decode cX3_holderOn 5 = .ok (.iconst 0, 1) := by decide +kernel
theorem dX3_holderOn_6 : decode cX3_holderOn 6 = .ok (.istore 5, 2) := by decide +kernel
theorem dX3_holderOn_8 : decode cX3_holderOn 8 = .ok (.iload 5, 2) := by decide +kernel
theorem dX3_holderOn_10 : decode cX3_holderOn 10 = .ok (.aload_n 0, 1) := by decide +kernel
theorem dX3_holderOn_11 : decode cX3_holderOn 11 = .ok (.getfield 21, 3) := by decide +kernel
theorem dX3_holderOn_14 : decode cX3_holderOn 14 = .ok (.if_icmp .ge 67, 3) := by decide +kernel
theorem dX3_holderOn_17 : decode cX3_holderOn 17 = .ok (.iload 5, 2) := by decide +kernel
theorem dX3_holderOn_19 : decode cX3_holderOn 19 = .ok (.bipush 100, 2) := by decide +kernel
theorem dX3_holderOn_21 : decode cX3_holderOn 21 = .ok (.if_icmp .ge 60, 3) := by decide +kernel
theorem dX3_holderOn_24 : decode cX3_holderOn 24 = .ok (.aload_n 0, 1) := by decide +kernel
theorem dX3_holderOn_25 : decode cX3_holderOn 25 = .ok (.getfield 11, 3) := by decide +kernel
theorem dX3_holderOn_28 : decode cX3_holderOn 28 = .ok (.iload 5, 2) := by decide +kernel
theorem dX3_holderOn_30 : decode cX3_holderOn 30 = .ok (.iaload, 1) := by decide +kernel
theorem dX3_holderOn_31 : decode cX3_holderOn 31 = .ok (.iload_n 1, 1) := by decide +kernel
theorem dX3_holderOn_32 : decode cX3_holderOn 32 = .ok (.if_icmp .ne 43, 3) := by decide +kernel
theorem dX3_holderOn_35 : decode cX3_holderOn 35 = .ok (.aload_n 0, 1) := by decide +kernel
theorem dX3_holderOn_36 : decode cX3_holderOn 36 = .ok (.getfield 15, 3) := by decide +kernel
theorem dX3_holderOn_39 : decode cX3_holderOn 39 = .ok (.iload 5, 2) := by decide +kernel
theorem dX3_holderOn_41 : decode cX3_holderOn 41 = .ok (.iaload, 1) := by decide +kernel
theorem dX3_holderOn_42 : decode cX3_holderOn 42 = .ok (.iload_n 2, 1) := by decide +kernel
theorem dX3_holderOn_43 : decode cX3_holderOn 43 = .ok (.if_icmp .gt 32, 3) := by decide +kernel
theorem dX3_holderOn_46 : decode cX3_holderOn 46 = .ok (.aload_n 0, 1) := by decide +kernel
theorem dX3_holderOn_47 : decode cX3_holderOn 47 = .ok (.getfield 15, 3) := by decide +kernel
theorem dX3_holderOn_50 : decode cX3_holderOn 50 = .ok (.iload 5, 2) := by decide +kernel
theorem dX3_holderOn_52 : decode cX3_holderOn 52 = .ok (.iaload, 1) := by decide +kernel
theorem dX3_holderOn_53 : decode cX3_holderOn 53 = .ok (.iload 4, 2) := by decide +kernel
theorem dX3_holderOn_55 : decode cX3_holderOn 55 = .ok (.if_icmp .lt 20, 3) := by decide +kernel
theorem dX3_holderOn_58 : decode cX3_holderOn 58 = .ok (.aload_n 0, 1) := by decide +kernel
theorem dX3_holderOn_59 : decode cX3_holderOn 59 = .ok (.getfield 18, 3) := by decide +kernel
theorem dX3_holderOn_62 : decode cX3_holderOn 62 = .ok (.iload 5, 2) := by decide +kernel
theorem dX3_holderOn_64 : decode cX3_holderOn 64 = .ok (.iaload, 1) := by decide +kernel
theorem dX3_holderOn_65 : decode cX3_holderOn 65 = .ok (.istore_n 3, 1) := by decide +kernel
theorem dX3_holderOn_66 : decode cX3_holderOn 66 = .ok (.aload_n 0, 1) := by decide +kernel
theorem dX3_holderOn_67 : decode cX3_holderOn 67 = .ok (.getfield 15, 3) := by decide +kernel
theorem dX3_holderOn_70 : decode cX3_holderOn 70 = .ok (.iload 5, 2) := by decide +kernel
theorem dX3_holderOn_72 : decode cX3_holderOn 72 = .ok (.iaload, 1) := by decide +kernel
theorem dX3_holderOn_73 : decode cX3_holderOn 73 = .ok (.istore 4, 2) := by decide +kernel
theorem dX3_holderOn_75 : decode cX3_holderOn 75 = .ok (.iinc 5 1, 3) := by decide +kernel
theorem dX3_holderOn_78 : decode cX3_holderOn 78 = .ok (.goto (-70), 3) := by decide +kernel
theorem dX3_holderOn_81 : decode cX3_holderOn 81 = .ok (.iload_n 3, 1) := by decide +kernel
theorem dX3_holderOn_82 : decode cX3_holderOn 82 = .ok (.ireturn, 1) := by decide +kernel
theorem dX4_init_0 : decode cX4_init 0 = .ok (.aload_n 0, 1) := by decide +kernel
theorem dX4_init_1 : decode cX4_init 1 = .ok (.invokespecial 1, 3) := by decide +kernel
theorem dX4_init_4 : decode cX4_init 4 = .ok (.aload_n 0, 1) := by decide +kernel
theorem dX4_init_5 : decode cX4_init 5 = .ok (.iload_n 1, 1) := by decide +kernel
theorem dX4_init_6 : decode cX4_init 6 = .ok (.putfield 7, 3) := by decide +kernel
theorem dX4_init_9 : decode cX4_init 9 = .ok (.aload_n 0, 1) := by decide +kernel
theorem dX4_init_10 : decode cX4_init 10 = .ok (.iload_n 2, 1) := by decide +kernel
theorem dX4_init_11 : decode cX4_init 11 = .ok (.ldc 13, 2) := by decide +kernel
theorem dX4_init_13 : decode cX4_init 13 = .ok (.idiv, 1) := by decide +kernel
theorem dX4_init_14 : decode cX4_init 14 = .ok (.putfield 14, 3) := by decide +kernel
theorem dX4_init_17 : decode cX4_init 17 = .ok (.aload_n 0, 1) := by decide +kernel
theorem dX4_init_18 : decode cX4_init 18 = .ok (.iload_n 2, 1) := by decide +kernel
theorem dX4_init_19 : decode cX4_init 19 = .ok (.sipush 1000, 3) := by decide +kernel
theorem dX4_init_22 : decode cX4_init 22 = .ok (.idiv, 1) := by decide +kernel
theorem dX4_init_23 : decode cX4_init 23 = .ok (.sipush 1000, 3) := by decide +kernel
theorem dX4_init_26 : decode cX4_init 26 = .ok (.irem, 1) := by decide +kernel
theorem dX4_init_27 : decode cX4_init 27 = .ok (.putfield 17, 3) := by decide +kernel
theorem dX4_init_30 : decode cX4_init 30 = .ok (.aload_n 0, 1) := by decide +kernel
theorem dX4_init_31 : decode cX4_init 31 = .ok (.iload_n 2, 1) := by decide +kernel
theorem dX4_init_32 : decode cX4_init 32 = .ok (.sipush 1000, 3) := by decide +kernel
theorem dX4_init_35 : decode cX4_init 35 = .ok (.irem, 1) := by decide +kernel
theorem dX4_init_36 : decode cX4_init 36 = .ok (.putfield 20, 3) := by decide +kernel
theorem dX4_init_39 : decode cX4_init 39 = .ok (.aload_n 0, 1) := by decide +kernel
theorem dX4_init_40 : decode cX4_init 40 = .ok (.iload_n 3, 1) := by decide +kernel
theorem dX4_init_41 : decode cX4_init 41 = .ok (.putfield 23, 3) := by decide +kernel
theorem dX4_init_44 : decode cX4_init 44 = .ok (.return_, 1) := by decide +kernel
set_option maxRecDepth 20000 in
theorem ggX4_isPossible_X9_isDay : GoodIn wsX4_isPossible wsX9_isDay := goodIn_r _ [8, 9, 10, 7, 11] (by decide +kernel) (by decide +kernel)
set_option maxRecDepth 20000 in
theorem gX4_isPossible_X9_isDay_n26 : GoodIn wsX4_isPossible (wsX9_isDay) := ggX4_isPossible_X9_isDay
set_option maxRecDepth 20000 in
theorem ggX4_isPossible_X9_isBetween : GoodIn wsX4_isPossible wsX9_isBetween := goodIn_r _ [11] (by decide +kernel) (by decide +kernel)
set_option maxRecDepth 20000 in
theorem gX4_isPossible_X9_isBetween_n32 : GoodIn wsX4_isPossible (wsX9_isBetween) := ggX4_isPossible_X9_isBetween
theorem dX4_isPossible_0 : decode cX4_isPossible 0 = .ok (.aload_n 0, 1) := by decide +kernel
theorem dX4_isPossible_1 : decode cX4_isPossible 1 = .ok (.getfield 7, 3) := by decide +kernel
theorem dX4_isPossible_4 : decode cX4_isPossible 4 = .ok (.invokestatic 26, 3) := by decide +kernel
theorem dX4_isPossible_7 : decode cX4_isPossible 7 = .ok (.ifCond .eq 61, 3) := by decide +kernel
theorem dX4_isPossible_10 : decode cX4_isPossible 10 = .ok (.aload_n 0, 1) := by decide +kernel
theorem dX4_isPossible_11 : decode cX4_isPossible 11 = .ok (.getfield 14, 3) := by decide +kernel
theorem dX4_isPossible_14 : decode cX4_isPossible 14 = .ok (.iconst 0, 1) := by decide +kernel
theorem dX4_isPossible_15 : decode cX4_isPossible 15 = .ok (.sipush 2000, 3) := by decide +kernel
theorem dX4_isPossible_18 : decode cX4_isPossible 18 = .ok (.invokestatic 32, 3) := by decide +kernel
theorem dX4_isPossible_21 : decode cX4_isPossible 21 = .ok (.ifCond .eq 47, 3) := by decide +kernel
theorem dX4_isPossible_24 : decode cX4_isPossible 24 = .ok (.aload_n 0, 1) := by decide +kernel
theorem dX4_isPossible_25 : decode cX4_isPossible 25 = .ok (.getfield 17, 3) := by decide +kernel
theorem dX4_isPossible_28 : decode cX4_isPossible 28 = .ok (.iconst 0, 1) := by decide +kernel
theorem dX4_isPossible_29 : decode cX4_isPossible 29 = .ok (.sipush 999, 3) := by decide +kernel
theorem dX4_isPossible_32 : decode cX4_isPossible 32 = .ok (.invokestatic 32, 3) := by decide +kernel
theorem dX4_isPossible_35 : decode cX4_isPossible 35 = .ok (.ifCond .eq 33, 3) := by decide +kernel
theorem dX4_isPossible_38 : decode cX4_isPossible 38 = .ok (.aload_n 0, 1) := by decide +kernel
theorem dX4_isPossible_39 : decode cX4_isPossible 39 = .ok (.getfield 20, 3) := by decide +kernel
theorem dX4_isPossible_42 : decode cX4_isPossible 42 = .ok (.iconst 0, 1) := by decide +kernel
theorem dX4_isPossible_43 : decode cX4_isPossible 43 = .ok (.bipush 100, 2) := by decide +kernel
theorem dX4_isPossible_45 : decode cX4_isPossible 45 = .ok (.invokestatic 32, 3) := by decide +kernel
theorem dX4_isPossible_48 : decode cX4_isPossible 48 = .ok (.ifCond .eq 20, 3) := by decide +kernel
theorem dX4_isPossible_51 : decode cX4_isPossible 51 = .ok (.aload_n 0, 1) := by decide +kernel
theorem dX4_isPossible_52 : decode cX4_isPossible 52 = .ok (.getfield 23, 3) := by decide +kernel
theorem dX4_isPossible_55 : decode cX4_isPossible 55 = .ok (.iconst 1, 1) := by decide +kernel
theorem dX4_isPossible_56 : decode cX4_isPossible 56 = .ok (.bipush 50, 2) := by decide +kernel
theorem dX4_isPossible_58 : decode cX4_isPossible 58 = .ok (.invokestatic 32, 3) := by decide +kernel
theorem dX4_isPossible_61 : decode cX4_isPossible 61 = .ok (.ifCond .eq 7, 3) := by decide +kernel
theorem dX4_isPossible_64 : decode cX4_isPossible 64 = .ok (.iconst 1, 1) := by decide +kernel
theorem dX4_isPossible_65 : decode cX4_isPossible 65 = .ok (.goto 4, 3) := by decide +kernel
theorem dX4_isPossible_68 : decode cX4_isPossible 68 = .ok (.iconst 0, 1) := by decide +kernel
theorem dX4_isPossible_69 : decode cX4_isPossible 69 = .ok (.ireturn, 1) := by decide +kernel
set_option maxRecDepth 20000 in
theorem ggX4_covers_X9_yearOf : GoodIn wsX4_covers wsX9_yearOf := goodIn_r _ [10] (by decide +kernel) (by decide +kernel)
set_option maxRecDepth 20000 in
theorem gX4_covers_X9_yearOf_n43 : GoodIn wsX4_covers (wsX9_yearOf) := ggX4_covers_X9_yearOf
theorem dX4_covers_0 : decode cX4_covers 0 = .ok (.aload_n 1, 1) := by decide +kernel
theorem dX4_covers_1 : decode cX4_covers 1 = .ok (.getfield 38, 3) := by decide +kernel
theorem dX4_covers_4 : decode cX4_covers 4 = .ok (.invokestatic 43, 3) := by decide +kernel
theorem dX4_covers_7 : decode cX4_covers 7 = .ok (.aload_n 1, 1) := by decide +kernel
theorem dX4_covers_8 : decode cX4_covers 8 = .ok (.getfield 47, 3) := by decide +kernel
theorem dX4_covers_11 : decode cX4_covers 11 = .ok (.isub, 1) := by decide +kernel
theorem dX4_covers_12 : decode cX4_covers 12 = .ok (.aload_n 0, 1) := by decide +kernel
theorem dX4_covers_13 : decode cX4_covers 13 = .ok (.getfield 14, 3) := by decide +kernel
theorem dX4_covers_16 : decode cX4_covers 16 = .ok (.if_icmp .lt 7, 3) := by decide +kernel
theorem dX4_covers_19 : decode cX4_covers 19 = .ok (.iconst 1, 1) := by decide +kernel
theorem dX4_covers_20 : decode cX4_covers 20 = .ok (.goto 4, 3) := by decide +kernel
theorem dX4_covers_23 : decode cX4_covers 23 = .ok (.iconst 0, 1) := by decide +kernel
theorem dX4_covers_24 : decode cX4_covers 24 = .ok (.istore_n 3, 1) := by decide +kernel
theorem dX4_covers_25 : decode cX4_covers 25 = .ok (.aload_n 1, 1) := by decide +kernel
theorem dX4_covers_26 : decode cX4_covers 26 = .ok (.getfield 50, 3) := by decide +kernel
theorem dX4_covers_29 : decode cX4_covers 29 = .ok (.ifCond .eq 18, 3) := by decide +kernel
theorem dX4_covers_32 : decode cX4_covers 32 = .ok (.aload_n 1, 1) := by decide +kernel
theorem dX4_covers_33 : decode cX4_covers 33 = .ok (.getfield 53, 3) := by decide +kernel
theorem dX4_covers_36 : decode cX4_covers 36 = .ok (.aload_n 0, 1) := by decide +kernel
theorem dX4_covers_37 : decode cX4_covers 37 = .ok (.getfield 17, 3) := by decide +kernel
theorem dX4_covers_40 : decode cX4_covers 40 = .ok (.if_icmp .lt 7, 3) := by decide +kernel
theorem dX4_covers_43 : decode cX4_covers 43 = .ok (.iconst 1, 1) := by decide +kernel
theorem dX4_covers_44 : decode cX4_covers 44 = .ok (.goto 4, 3) := by decide +kernel
theorem dX4_covers_47 : decode cX4_covers 47 = .ok (.iconst 0, 1) := by decide +kernel
theorem dX4_covers_48 : decode cX4_covers 48 = .ok (.istore 4, 2) := by decide +kernel
theorem dX4_covers_50 : decode cX4_covers 50 = .ok (.iload_n 3, 1) := by decide +kernel
theorem dX4_covers_51 : decode cX4_covers 51 = .ok (.ifCond .eq 20, 3) := by decide +kernel
theorem dX4_covers_54 : decode cX4_covers 54 = .ok (.iload 4, 2) := by decide +kernel
theorem dX4_covers_56 : decode cX4_covers 56 = .ok (.ifCond .ne 11, 3) := by decide +kernel
theorem dX4_covers_59 : decode cX4_covers 59 = .ok (.iload_n 2, 1) := by decide +kernel
theorem dX4_covers_60 : decode cX4_covers 60 = .ok (.aload_n 0, 1) := by decide +kernel
theorem dX4_covers_61 : decode cX4_covers 61 = .ok (.getfield 23, 3) := by decide +kernel
theorem dX4_covers_64 : decode cX4_covers 64 = .ok (.if_icmp .lt 7, 3) := by decide +kernel
theorem dX4_covers_67 : decode cX4_covers 67 = .ok (.iconst 1, 1) := by decide +kernel
theorem dX4_covers_68 : decode cX4_covers 68 = .ok (.goto 4, 3) := by decide +kernel
theorem dX4_covers_71 : decode cX4_covers 71 = .ok (.iconst 0, 1) := by decide +kernel
theorem dX4_covers_72 : decode cX4_covers 72 = .ok (.ireturn, 1) := by decide +kernel
theorem dX5_init_0 : decode cX5_init 0 = .ok (.aload_n 0, 1) := by decide +kernel
theorem dX5_init_1 : decode cX5_init 1 = .ok (.invokespecial 3, 3) := by decide +kernel
theorem dX5_init_4 : decode cX5_init 4 = .ok (.aload_n 0, 1) := by decide +kernel
theorem dX5_init_5 : decode cX5_init 5 = .ok (.bipush 20, 2) := by decide +kernel
theorem dX5_init_7 : decode cX5_init 7 = .ok (.anewarray 11, 3) := by decide +kernel
theorem dX5_init_10 : decode cX5_init 10 = .ok (.putfield 13, 3) := by decide +kernel
theorem dX5_init_13 : decode cX5_init 13 = .ok (.aload_n 0, 1) := by decide +kernel
theorem dX5_init_14 : decode cX5_init 14 = .ok (.iconst 0, 1) := by decide +kernel
theorem dX5_init_15 : decode cX5_init 15 = .ok (.putfield 17, 3) := by decide +kernel
theorem dX5_init_18 : decode cX5_init 18 = .ok (.return_, 1) := by decide +kernel
set_option maxRecDepth 20000 in
theorem ggX5_enact_X4_isPossible : GoodIn wsX5_enact wsX4_isPossible := goodIn_r _ [7, 8, 9, 10, 11, 12, 13, 14, 15, 16, 17, 18, 21, 22, 23, 24, 25] (by decide +kernel) (by decide +kernel)
set_option maxRecDepth 20000 in
theorem gX5_enact_X4_isPossible : GoodIn wsX5_enact (wsV RX5 21 RX4 yX4_isPossible wsX4_isPossible) := goodIn_app (goodIn_of _ (by decide +kernel)) ggX5_enact_X4_isPossible
theorem dX5_enact_0 : decode cX5_enact 0 = .ok (.aload_n 0, 1) := by decide +kernel
theorem dX5_enact_1 : decode cX5_enact 1 = .ok (.getfield 17, 3) := by decide +kernel
theorem dX5_enact_4 : decode cX5_enact 4 = .ok (.bipush 20, 2) := by decide +kernel
theorem dX5_enact_6 : decode cX5_enact 6 = .ok (.if_icmp .ge 10, 3) := by decide +kernel
theorem dX5_enact_9 : decode cX5_enact 9 = .ok (.aload_n 1, 1) := by decide +kernel
theorem dX5_enact_10 : decode cX5_enact 10 = .ok (.invokevirtual 21, 3) := by decide +kernel
theorem dX5_enact_13 : decode cX5_enact 13 = .ok (.ifCond .ne 5, 3) := by decide +kernel
theorem dX5_enact_16 : decode cX5_enact 16 = .ok (.iconst (-1), 1) := by decide +kernel
theorem dX5_enact_17 : decode cX5_enact 17 = .ok (.ireturn, 1) := by decide +kernel
theorem dX5_enact_18 : decode cX5_enact 18 = .ok (.aload_n 0, 1) := by decide +kernel
theorem dX5_enact_19 : decode cX5_enact 19 = .ok (.getfield 13, 3) := by decide +kernel
theorem dX5_enact_22 : decode cX5_enact 22 = .ok (.aload_n 0, 1) := by decide +kernel
theorem dX5_enact_23 : decode cX5_enact 23 = .ok (.getfield 17, 3) := by decide +kernel
theorem dX5_enact_26 : decode cX5_enact 26 = .ok (.aload_n 1, 1) := by decide +kernel
theorem dX5_enact_27 : decode cX5_enact 27 = .ok (.aastore, 1) := by decide +kernel
theorem dX5_enact_28 : decode cX5_enact 28 = .ok (.aload_n 0, 1) := by decide +kernel
theorem dX5_enact_29 : decode cX5_enact 29 = .ok (.dup, 1) := by decide +kernel
theorem dX5_enact_30 : decode cX5_enact 30 = .ok (.getfield 17, 3) := by decide +kernel
theorem dX5_enact_33 : decode cX5_enact 33 = .ok (.iconst 1, 1) := by decide +kernel
theorem dX5_enact_34 : decode cX5_enact 34 = .ok (.iadd, 1) := by decide +kernel
theorem dX5_enact_35 : decode cX5_enact 35 = .ok (.putfield 17, 3) := by decide +kernel
theorem dX5_enact_38 : decode cX5_enact 38 = .ok (.aload_n 0, 1) := by decide +kernel
theorem dX5_enact_39 : decode cX5_enact 39 = .ok (.getfield 17, 3) := by decide +kernel
theorem dX5_enact_42 : decode cX5_enact 42 = .ok (.ireturn, 1) := by decide +kernel
theorem dX5_inForce_0 : decode cX5_inForce 0 = .ok (.aconst_null, 1) := by decide +kernel
theorem dX5_inForce_1 : decode cX5_inForce 1 = .ok (.astore_n 2, 1) := by decide +kernel
theorem dX5_inForce_2 : decode cX5_inForce 2 = .ok (.iconst 0, 1) := by decide +kernel
theorem dX5_inForce_3 : decode cX5_inForce 3 = .ok (.istore_n 3, 1) := by decide +kernel
theorem dX5_inForce_4 : decode cX5_inForce 4 = .ok (.iload_n 3, 1) := by decide +kernel
theorem dX5_inForce_5 : decode cX5_inForce 5 = .ok (.aload_n 0, 1) := by decide +kernel
theorem dX5_inForce_6 : decode cX5_inForce 6 = .ok (.getfield 17, 3) := by decide +kernel
theorem dX5_inForce_9 : decode cX5_inForce 9 = .ok (.if_icmp .ge 56, 3) := by decide +kernel
theorem dX5_inForce_12 : decode cX5_inForce 12 = .ok (.iload_n 3, 1) := by decide +kernel
theorem dX5_inForce_13 : decode cX5_inForce 13 = .ok (.bipush 20, 2) := by decide +kernel
theorem dX5_inForce_15 : decode cX5_inForce 15 = .ok (.if_icmp .ge 50, 3) := by decide +kernel
theorem dX5_inForce_18 : decode cX5_inForce 18 = .ok (.aload_n 0, 1) := by decide +kernel
theorem dX5_inForce_19 : decode cX5_inForce 19 = .ok (.getfield 13, 3) := by decide +kernel
theorem dX5_inForce_22 : decode cX5_inForce 22 = .ok (.iload_n 3, 1) := by decide +kernel
theorem dX5_inForce_23 : decode cX5_inForce 23 = .ok (.aaload, 1) := by decide +kernel
theorem dX5_inForce_24 : decode cX5_inForce 24 = .ok (.astore 4, 2) := by decide +kernel
theorem dX5_inForce_26 : decode cX5_inForce 26 = .ok (.aload 4, 2) := by decide +kernel
theorem dX5_inForce_28 : decode cX5_inForce 28 = .ok (.ifnull 31, 3) := by decide +kernel
theorem dX5_inForce_31 : decode cX5_inForce 31 = .ok (.aload 4, 2) := by decide +kernel

theorem dX9_isRank_2 : decode cX9_isRank 2 = .ok (.getstatic 217, 3) := by decide +kernel
theorem dX9_isRank_5 : decode cX9_isRank 5 = .ok (.arraylength, 1) := by decide +kernel
theorem dX9_isRank_6 : decode cX9_isRank 6 = .ok (.iconst 1, 1) := by decide +kernel
theorem dX9_isRank_7 : decode cX9_isRank 7 = .ok (.isub, 1) := by decide +kernel
theorem dX9_isRank_8 : decode cX9_isRank 8 = .ok (.invokestatic 52, 3) := by decide +kernel
theorem dX9_isRank_11 : decode cX9_isRank 11 = .ok (.ireturn, 1) := by decide +kernel
theorem dX9_yearOf_0 : decode cX9_yearOf 0 = .ok (.sipush 1950, 3) := by decide +kernel
theorem dX9_yearOf_3 : decode cX9_yearOf 3 = .ok (.iload_n 0, 1) := by decide +kernel
theorem dX9_yearOf_4 : decode cX9_yearOf 4 = .ok (.sipush 365, 3) := by decide +kernel
theorem dX9_yearOf_7 : decode cX9_yearOf 7 = .ok (.idiv, 1) := by decide +kernel
theorem dX9_yearOf_8 : decode cX9_yearOf 8 = .ok (.iadd, 1) := by decide +kernel
theorem dX9_yearOf_9 : decode cX9_yearOf 9 = .ok (.ireturn, 1) := by decide +kernel
set_option maxRecDepth 20000 in
theorem ggX9_roundDown_X9_isRank : GoodIn wsX9_roundDown wsX9_isRank := goodIn_r _ [5, 1, 6, 7, 4, 8] (by decide +kernel) (by decide +kernel)
set_option maxRecDepth 20000 in
theorem gX9_roundDown_X9_isRank : GoodIn wsX9_roundDown (va_wsS RX9 162 yX9_isRank wsX9_isRank) := goodIn_app (goodIn_of _ (by decide +kernel)) ggX9_roundDown_X9_isRank
theorem dX9_roundDown_0 : decode cX9_roundDown 0 = .ok (.iload_n 1, 1) := by decide +kernel
theorem dX9_roundDown_1 : decode cX9_roundDown 1 = .ok (.invokestatic 162, 3) := by decide +kernel
theorem dX9_roundDown_4 : decode cX9_roundDown 4 = .ok (.ifCond .eq 11, 3) := by decide +kernel
theorem dX9_roundDown_7 : decode cX9_roundDown 7 = .ok (.getstatic 217, 3) := by decide +kernel
theorem dX9_roundDown_10 : decode cX9_roundDown 10 = .ok (.iload_n 1, 1) := by decide +kernel
theorem dX9_roundDown_11 : decode cX9_roundDown 11 = .ok (.iaload, 1) := by decide +kernel
theorem dX9_roundDown_12 : decode cX9_roundDown 12 = .ok (.goto 4, 3) := by decide +kernel
theorem dX9_roundDown_15 : decode cX9_roundDown 15 = .ok (.iconst 1, 1) := by decide +kernel
theorem dX9_roundDown_16 : decode cX9_roundDown 16 = .ok (.istore_n 2, 1) := by decide +kernel
theorem dX9_roundDown_17 : decode cX9_roundDown 17 = .ok (.iload_n 2, 1) := by decide +kernel
theorem dX9_roundDown_18 : decode cX9_roundDown 18 = .ok (.ifCond .le 11, 3) := by decide +kernel
theorem dX9_roundDown_21 : decode cX9_roundDown 21 = .ok (.iload_n 0, 1) := by decide +kernel
theorem dX9_roundDown_22 : decode cX9_roundDown 22 = .ok (.iload_n 0, 1) := by decide +kernel
theorem dX9_roundDown_23 : decode cX9_roundDown 23 = .ok (.iload_n 2, 1) := by decide +kernel
theorem dX9_roundDown_24 : decode cX9_roundDown 24 = .ok (.irem, 1) := by decide +kernel
theorem dX9_roundDown_25 : decode cX9_roundDown 25 = .ok (.isub, 1) := by decide +kernel
theorem dX9_roundDown_26 : decode cX9_roundDown 26 = .ok (.goto 4, 3) := by decide +kernel
theorem dX9_roundDown_29 : decode cX9_roundDown 29 = .ok (.iload_n 0, 1) := by decide +kernel
theorem dX9_roundDown_30 : decode cX9_roundDown 30 = .ok (.ireturn, 1) := by decide +kernel
set_option maxRecDepth 20000 in
theorem ggX9_isCorner_X9_isBetween : GoodIn wsX9_isCorner wsX9_isBetween := goodIn_r _ [5] (by decide +kernel) (by decide +kernel)
set_option maxRecDepth 20000 in
theorem gX9_isCorner_X9_isBetween : GoodIn wsX9_isCorner (va_wsS RX9 52 yX9_isBetween wsX9_isBetween) := goodIn_app (goodIn_of _ (by decide +kernel)) ggX9_isCorner_X9_isBetween
set_option maxRecDepth 20000 in
theorem ggX9_isCorner_X9_roundDown : GoodIn wsX9_isCorner wsX9_roundDown := goodIn_r _ [8, 9, 10, 11, 4, 12, 2, 3, 5] (by decide +kernel) (by decide +kernel)
set_option maxRecDepth 20000 in
theorem gX9_isCorner_X9_roundDown : GoodIn wsX9_isCorner (va_wsS RX9 168 yX9_roundDown wsX9_roundDown) := goodIn_app (goodIn_of _ (by decide +kernel)) ggX9_isCorner_X9_roundDown
theorem dX9_isCorner_0 : decode cX9_isCorner 0 = .ok (.iload_n 0, 1) := by decide +kernel
theorem dX9_isCorner_1 : decode cX9_isCorner 1 = .ok (.iconst 0, 1) := by decide +kernel
theorem dX9_isCorner_2 : decode cX9_isCorner 2 = .ok (.ldc 220, 2) := by decide +kernel
theorem dX9_isCorner_4 : decode cX9_isCorner 4 = .ok (.invokestatic 52, 3) := by decide +kernel
theorem dX9_isCorner_7 : decode cX9_isCorner 7 = .ok (.ifCond .ne 5, 3) := by decide +kernel
theorem dX9_isCorner_10 : decode cX9_isCorner 10 = .ok (.iconst 0, 1) := by decide +kernel
theorem dX9_isCorner_11 : decode cX9_isCorner 11 = .ok (.ireturn, 1) := by decide +kernel
theorem dX9_isCorner_12 : decode cX9_isCorner 12 = .ok (.iload_n 0, 1) := by decide +kernel
theorem dX9_isCorner_13 : decode cX9_isCorner 13 = .ok (.sipush 1001, 3) := by decide +kernel
theorem dX9_isCorner_16 : decode cX9_isCorner 16 = .ok (.idiv, 1) := by decide +kernel
theorem dX9_isCorner_17 : decode cX9_isCorner 17 = .ok (.istore_n 2, 1) := by decide +kernel
theorem dX9_isCorner_18 : decode cX9_isCorner 18 = .ok (.iload_n 0, 1) := by decide +kernel
theorem dX9_isCorner_19 : decode cX9_isCorner 19 = .ok (.sipush 1001, 3) := by decide +kernel
theorem dX9_isCorner_22 : decode cX9_isCorner 22 = .ok (.irem, 1) := by decide +kernel
theorem dX9_isCorner_23 : decode cX9_isCorner 23 = .ok (.istore_n 3, 1) := by decide +kernel
theorem dX9_isCorner_24 : decode cX9_isCorner 24 = .ok (.iload_n 2, 1) := by decide +kernel
theorem dX9_isCorner_25 : decode cX9_isCorner 25 = .ok (.iload_n 2, 1) := by decide +kernel
theorem dX9_isCorner_26 : decode cX9_isCorner 26 = .ok (.iload_n 1, 1) := by decide +kernel
theorem dX9_isCorner_27 : decode cX9_isCorner 27 = .ok (.invokestatic 168, 3) := by decide +kernel
theorem dX9_isCorner_30 : decode cX9_isCorner 30 = .ok (.if_icmp .ne 16, 3) := by decide +kernel
theorem dX9_isCorner_33 : decode cX9_isCorner 33 = .ok (.iload_n 3, 1) := by decide +kernel
theorem dX9_isCorner_34 : decode cX9_isCorner 34 = .ok (.iload_n 3, 1) := by decide +kernel
theorem dX9_isCorner_35 : decode cX9_isCorner 35 = .ok (.iload_n 1, 1) := by decide +kernel
theorem dX9_isCorner_36 : decode cX9_isCorner 36 = .ok (.invokestatic 168, 3) := by decide +kernel
theorem dX9_isCorner_39 : decode cX9_isCorner 39 = .ok (.if_icmp .ne 7, 3) := by decide +kernel
theorem dX9_isCorner_42 : decode cX9_isCorner 42 = .ok (.iconst 1, 1) := by decide +kernel
theorem dX9_isCorner_43 : decode cX9_isCorner 43 = .ok (.goto 4, 3) := by decide +kernel
theorem dX9_isCorner_46 : decode cX9_isCorner 46 = .ok (.iconst 0, 1) := by decide +kernel
theorem dX9_isCorner_47 : decode cX9_isCorner 47 = .ok (.ireturn, 1) := by decide +kernel
set_option maxRecDepth 20000 in
theorem ggX9_isPast_X9_isBetween : GoodIn wsX9_isPast wsX9_isBetween := goodIn_r _ [5] (by decide +kernel) (by decide +kernel)
set_option maxRecDepth 20000 in
theorem gX9_isPast_X9_isBetween : GoodIn wsX9_isPast (va_wsS RX9 52 yX9_isBetween wsX9_isBetween) := goodIn_app (goodIn_of _ (by decide +kernel)) ggX9_isPast_X9_isBetween
theorem dX9_isPast_0 : decode cX9_isPast 0 = .ok (.iload_n 1, 1) := by decide +kernel
theorem dX9_isPast_1 : decode cX9_isPast 1 = .ok (.iconst 0, 1) := by decide +kernel
theorem dX9_isPast_2 : decode cX9_isPast 2 = .ok (.aload_n 0, 1) := by decide +kernel
theorem dX9_isPast_3 : decode cX9_isPast 3 = .ok (.getfield 7, 3) := by decide +kernel
theorem dX9_isPast_6 : decode cX9_isPast 6 = .ok (.invokestatic 52, 3) := by decide +kernel
theorem dX9_isPast_9 : decode cX9_isPast 9 = .ok (.ireturn, 1) := by decide +kernel
set_option maxRecDepth 20000 in
theorem ggX9_landownerOf_X1_plot : GoodIn wsX9_landownerOf wsX1_plot := goodIn_r _ [7, 8, 9, 26, 27, 28, 29, 30, 31, 32, 33, 34, 35, 36] (by decide +kernel) (by decide +kernel)
set_option maxRecDepth 20000 in
theorem gX9_landownerOf_X1_plot : GoodIn wsX9_landownerOf (wsV RX9 221 RX1 yX1_plot wsX1_plot) := goodIn_app (goodIn_of _ (by decide +kernel)) ggX9_landownerOf_X1_plot
set_option maxRecDepth 20000 in
theorem ggX9_landownerOf_X3_holderOn : GoodIn wsX9_landownerOf wsX3_holderOn := goodIn_r _ [14, 15, 16, 17, 18, 37, 38, 39, 40] (by decide +kernel) (by decide +kernel)
set_option maxRecDepth 20000 in
theorem gX9_landownerOf_X3_holderOn : GoodIn wsX9_landownerOf (wsV RX9 224 RX3 yX3_holderOn wsX3_holderOn) := goodIn_app (goodIn_of _ (by decide +kernel)) ggX9_landownerOf_X3_holderOn
theorem dX9_landownerOf_0 : decode cX9_landownerOf 0 = .ok (.aload_n 0, 1) := by decide +kernel
theorem dX9_landownerOf_1 : decode cX9_landownerOf 1 = .ok (.getfield 23, 3) := by decide +kernel
theorem dX9_landownerOf_4 : decode cX9_landownerOf 4 = .ok (.aload_n 1, 1) := by decide +kernel
theorem dX9_landownerOf_5 : decode cX9_landownerOf 5 = .ok (.invokevirtual 221, 3) := by decide +kernel
theorem dX9_landownerOf_8 : decode cX9_landownerOf 8 = .ok (.aload_n 1, 1) := by decide +kernel
theorem dX9_landownerOf_9 : decode cX9_landownerOf 9 = .ok (.getfield 109, 3) := by decide +kernel
theorem dX9_landownerOf_12 : decode cX9_landownerOf 12 = .ok (.invokevirtual 224, 3) := by decide +kernel
theorem dX9_landownerOf_15 : decode cX9_landownerOf 15 = .ok (.ireturn, 1) := by decide +kernel
set_option maxRecDepth 20000 in
theorem ggX9_worthNow_X9_yearOf : GoodIn wsX9_worthNow wsX9_yearOf := goodIn_r _ [8] (by decide +kernel) (by decide +kernel)
set_option maxRecDepth 20000 in
theorem gX9_worthNow_X9_yearOf : GoodIn wsX9_worthNow (va_wsS RX9 227 yX9_yearOf wsX9_yearOf) := goodIn_app (goodIn_of _ (by decide +kernel)) ggX9_worthNow_X9_yearOf
set_option maxRecDepth 20000 in
theorem ggX9_worthNow_X6_appraise : GoodIn wsX9_worthNow wsX6_appraise := goodIn_r _ [13, 14, 15, 16, 17, 18, 19, 20, 21, 22, 23, 24, 25, 12, 26, 27, 28, 6, 7, 8, 29, 30, 31, 32, 33, 52, 53, 54, 55, 56, 57, 58] (by decide +kernel) (by decide +kernel)
set_option maxRecDepth 20000 in
theorem gX9_worthNow_X6_appraise : GoodIn wsX9_worthNow (wsV RX9 230 RX6 yX6_appraise wsX6_appraise) := goodIn_app (goodIn_of _ (by decide +kernel)) ggX9_worthNow_X6_appraise
theorem dX9_worthNow_0 : decode cX9_worthNow 0 = .ok (.aload_n 0, 1) := by decide +kernel
theorem dX9_worthNow_1 : decode cX9_worthNow 1 = .ok (.getfield 37, 3) := by decide +kernel
theorem dX9_worthNow_4 : decode cX9_worthNow 4 = .ok (.aload_n 1, 1) := by decide +kernel
theorem dX9_worthNow_5 : decode cX9_worthNow 5 = .ok (.getfield 115, 3) := by decide +kernel
theorem dX9_worthNow_8 : decode cX9_worthNow 8 = .ok (.aload_n 1, 1) := by decide +kernel
theorem dX9_worthNow_9 : decode cX9_worthNow 9 = .ok (.getfield 121, 3) := by decide +kernel
theorem dX9_worthNow_12 : decode cX9_worthNow 12 = .ok (.aload_n 0, 1) := by decide +kernel
theorem dX9_worthNow_13 : decode cX9_worthNow 13 = .ok (.getfield 7, 3) := by decide +kernel
theorem dX9_worthNow_16 : decode cX9_worthNow 16 = .ok (.invokestatic 227, 3) := by decide +kernel
theorem dX9_worthNow_19 : decode cX9_worthNow 19 = .ok (.invokevirtual 230, 3) := by decide +kernel
theorem dX9_worthNow_22 : decode cX9_worthNow 22 = .ok (.ireturn, 1) := by decide +kernel
set_option maxRecDepth 20000 in
theorem ggX9_hoardSizeOn_X2_gatherHoards : GoodIn wsX9_hoardSizeOn wsX2_gatherHoards := goodIn_r _ [6, 7, 8, 9, 10, 11, 12, 13, 14, 15, 5, 16, 17, 18, 19, 20, 21, 22, 23, 24, 25, 26, 27, 28, 29, 30, 31, 32, 33, 34, 35, 36, 37, 38, 39, 40, 41, 42, 43, 44, 45, 46, 47, 48, 49, 50, 51, 52, 53, 54, 55, 56, 57, 58, 59, 60, 72, 73, 74, 75, 76, 77, 78, 79, 80, 81, 82, 83, 84, 85, 86, 87, 88, 89] (by decide +kernel) (by decide +kernel)
set_option maxRecDepth 20000 in
theorem gX9_hoardSizeOn_X2_gatherHoards : GoodIn wsX9_hoardSizeOn (wsV RX9 85 RX2 yX2_gatherHoards wsX2_gatherHoards) := goodIn_app (goodIn_of _ (by decide +kernel)) ggX9_hoardSizeOn_X2_gatherHoards
set_option maxRecDepth 20000 in
theorem ggX9_hoardSizeOn_X2_hoardSize : GoodIn wsX9_hoardSizeOn wsX2_hoardSize := goodIn_r _ [64, 7, 8, 24, 25, 26, 5, 27, 17, 72, 73, 74, 75, 76, 77, 78] (by decide +kernel) (by decide +kernel)
set_option maxRecDepth 20000 in
theorem gX9_hoardSizeOn_X2_hoardSize : GoodIn wsX9_hoardSizeOn (wsV RX9 234 RX2 yX2_hoardSize wsX2_hoardSize) := goodIn_app (goodIn_of _ (by decide +kernel)) ggX9_hoardSizeOn_X2_hoardSize
theorem dX9_hoardSizeOn_0 : decode cX9_hoardSizeOn 0 = .ok (.aload_n 0, 1) := by decide +kernel
theorem dX9_hoardSizeOn_1 : decode cX9_hoardSizeOn 1 = .ok (.getfield 30, 3) := by decide +kernel
theorem dX9_hoardSizeOn_4 : decode cX9_hoardSizeOn 4 = .ok (.iload_n 2, 1) := by decide +kernel
theorem dX9_hoardSizeOn_5 : decode cX9_hoardSizeOn 5 = .ok (.invokevirtual 85, 3) := by decide +kernel
theorem dX9_hoardSizeOn_8 : decode cX9_hoardSizeOn 8 = .ok (.aload_n 0, 1) := by decide +kernel
theorem dX9_hoardSizeOn_9 : decode cX9_hoardSizeOn 9 = .ok (.getfield 30, 3) := by decide +kernel
theorem dX9_hoardSizeOn_12 : decode cX9_hoardSizeOn 12 = .ok (.iload_n 1, 1) := by decide +kernel
theorem dX9_hoardSizeOn_13 : decode cX9_hoardSizeOn 13 = .ok (.invokevirtual 234, 3) := by decide +kernel
theorem dX9_hoardSizeOn_16 : decode cX9_hoardSizeOn 16 = .ok (.ireturn, 1) := by decide +kernel
set_option maxRecDepth 20000 in
theorem ggX9_isTreasureOn_X2_gatherHoards : GoodIn wsX9_isTreasureOn wsX2_gatherHoards := goodIn_r _ [6, 7, 8, 9, 10, 11, 12, 13, 14, 15, 5, 16, 17, 18, 19, 20, 21, 22, 23, 24, 25, 26, 27, 28, 29, 30, 31, 32, 33, 34, 35, 36, 37, 38, 39, 40, 41, 42, 43, 44, 45, 46, 47, 48, 49, 50, 51, 52, 53, 54, 55, 56, 57, 58, 59, 60, 102, 103, 104, 105, 106, 107, 108, 109, 110, 111, 112, 113, 114, 115, 116, 117, 118, 119] (by decide +kernel) (by decide +kernel)
set_option maxRecDepth 20000 in
theorem gX9_isTreasureOn_X2_gatherHoards : GoodIn wsX9_isTreasureOn (wsV RX9 85 RX2 yX2_gatherHoards wsX2_gatherHoards) := goodIn_app (goodIn_of _ (by decide +kernel)) ggX9_isTreasureOn_X2_gatherHoards
set_option maxRecDepth 20000 in
theorem ggX9_isTreasureOn_X9_lawThatCounts : GoodIn wsX9_isTreasureOn wsX9_lawThatCounts := goodIn_r _ [65, 1, 66, 67, 68, 20, 21, 5, 22, 23, 24, 25, 26, 27, 17, 69, 70, 71, 72, 7, 8, 73, 74, 75, 76, 77, 78, 79, 80, 81, 82, 83, 84, 85, 86, 87, 88, 89, 90, 91, 92, 93, 64, 94, 95, 96, 97, 98, 99, 100, 101, 109, 110, 111, 112, 113, 114, 115, 116, 117, 118, 119, 102, 103, 104, 105, 106, 107, 108, 120, 121, 122, 123, 124, 125, 126] (by decide +kernel) (by decide +kernel)
set_option maxRecDepth 20000 in
theorem gX9_isTreasureOn_X9_lawThatCounts : GoodIn wsX9_isTreasureOn (wsV RX9 237 RX9 yX9_lawThatCounts wsX9_lawThatCounts) := goodIn_app (goodIn_of _ (by decide +kernel)) ggX9_isTreasureOn_X9_lawThatCounts
theorem dX9_isTreasureOn_0 : decode cX9_isTreasureOn 0 = .ok (.aload_n 0, 1) := by decide +kernel
theorem dX9_isTreasureOn_1 : decode cX9_isTreasureOn 1 = .ok (.getfield 30, 3) := by decide +kernel
theorem dX9_isTreasureOn_4 : decode cX9_isTreasureOn 4 = .ok (.iload_n 2, 1) := by decide +kernel
theorem dX9_isTreasureOn_5 : decode cX9_isTreasureOn 5 = .ok (.invokevirtual 85, 3) := by decide +kernel
theorem dX9_isTreasureOn_8 : decode cX9_isTreasureOn 8 = .ok (.aload_n 0, 1) := by decide +kernel
theorem dX9_isTreasureOn_9 : decode cX9_isTreasureOn 9 = .ok (.iload_n 1, 1) := by decide +kernel
theorem dX9_isTreasureOn_10 : decode cX9_isTreasureOn 10 = .ok (.invokevirtual 237, 3) := by decide +kernel
theorem dX9_isTreasureOn_13 : decode cX9_isTreasureOn 13 = .ok (.ifnull 7, 3) := by decide +kernel
theorem dX9_isTreasureOn_16 : decode cX9_isTreasureOn 16 = .ok (.iconst 1, 1) := by decide +kernel
theorem dX9_isTreasureOn_17 : decode cX9_isTreasureOn 17 = .ok (.goto 4, 3) := by decide +kernel
theorem dX9_isTreasureOn_20 : decode cX9_isTreasureOn 20 = .ok (.iconst 0, 1) := by decide +kernel
theorem dX9_isTreasureOn_21 : decode cX9_isTreasureOn 21 = .ok (.ireturn, 1) := by decide +kernel
set_option maxRecDepth 20000 in
theorem ggX9_lawThatCounts_X2_numbered : GoodIn wsX9_lawThatCounts wsX2_numbered := goodIn_r _ [8, 9, 10, 11, 12, 7, 13, 14, 62, 63, 64, 65, 66, 67, 68] (by decide +kernel) (by decide +kernel)
set_option maxRecDepth 20000 in
theorem gX9_lawThatCounts_X2_numbered : GoodIn wsX9_lawThatCounts (wsV RX9 104 RX2 yX2_numbered wsX2_numbered) := goodIn_app (goodIn_of _ (by decide +kernel)) ggX9_lawThatCounts_X2_numbered
set_option maxRecDepth 20000 in
theorem ggX9_lawThatCounts_X2_hoardSize : GoodIn wsX9_lawThatCounts wsX2_hoardSize := goodIn_r _ [18, 19, 20, 10, 11, 12, 7, 13, 14, 62, 63, 64, 65, 66, 67, 68] (by decide +kernel) (by decide +kernel)
set_option maxRecDepth 20000 in
theorem gX9_lawThatCounts_X2_hoardSize : GoodIn wsX9_lawThatCounts (wsV RX9 234 RX2 yX2_hoardSize wsX2_hoardSize) := goodIn_app (goodIn_of _ (by decide +kernel)) ggX9_lawThatCounts_X2_hoardSize
set_option maxRecDepth 20000 in
theorem ggX9_lawThatCounts_X5_inForce : GoodIn wsX9_lawThatCounts wsX5_inForce := goodIn_r _ [25, 26, 27, 28, 69, 70, 71, 72, 73, 74, 75] (by decide +kernel) (by decide +kernel)
set_option maxRecDepth 20000 in
theorem gX9_lawThatCounts_X5_inForce : GoodIn wsX9_lawThatCounts (wsV RX9 241 RX5 yX5_inForce wsX5_inForce) := goodIn_app (goodIn_of _ (by decide +kernel)) ggX9_lawThatCounts_X5_inForce
set_option maxRecDepth 20000 in
theorem ggX9_lawThatCounts_X4_covers : GoodIn wsX9_lawThatCounts wsX4_covers := goodIn_r _ [33, 34, 35, 36, 37, 38, 39, 40, 41, 42, 43, 51, 52, 53, 54, 55, 56, 57, 58, 59, 60, 61, 71, 72, 73, 74, 75] (by decide +kernel) (by decide +kernel)
set_option maxRecDepth 20000 in
theorem gX9_lawThatCounts_X4_covers : GoodIn wsX9_lawThatCounts (wsV RX9 244 RX4 yX4_covers wsX4_covers) := goodIn_app (goodIn_of _ (by decide +kernel)) ggX9_lawThatCounts_X4_covers
theorem dX9_lawThatCounts_0 : decode cX9_lawThatCounts 0 = .ok (.aload_n 0, 1) := by decide +kernel
theorem dX9_lawThatCounts_1 : decode cX9_lawThatCounts 1 = .ok (.getfield 30, 3) := by decide +kernel
theorem dX9_lawThatCounts_4 : decode cX9_lawThatCounts 4 = .ok (.iload_n 1, 1) := by decide +kernel
theorem dX9_lawThatCounts_5 : decode cX9_lawThatCounts 5 = .ok (.invokevirtual 104, 3) := by decide +kernel
theorem dX9_lawThatCounts_8 : decode cX9_lawThatCounts 8 = .ok (.astore_n 2, 1) := by decide +kernel
theorem dX9_lawThatCounts_9 : decode cX9_lawThatCounts 9 = .ok (.aload_n 0, 1) := by decide +kernel
theorem dX9_lawThatCounts_10 : decode cX9_lawThatCounts 10 = .ok (.getfield 30, 3) := by decide +kernel
theorem dX9_lawThatCounts_13 : decode cX9_lawThatCounts 13 = .ok (.iload_n 1, 1) := by decide +kernel
theorem dX9_lawThatCounts_14 : decode cX9_lawThatCounts 14 = .ok (.invokevirtual 234, 3) := by decide +kernel
theorem dX9_lawThatCounts_17 : decode cX9_lawThatCounts 17 = .ok (.istore_n 3, 1) := by decide +kernel
theorem dX9_lawThatCounts_18 : decode cX9_lawThatCounts 18 = .ok (.aload_n 2, 1) := by decide +kernel
theorem dX9_lawThatCounts_19 : decode cX9_lawThatCounts 19 = .ok (.ifnull 8, 3) := by decide +kernel
theorem dX9_lawThatCounts_22 : decode cX9_lawThatCounts 22 = .ok (.iload_n 3, 1) := by decide +kernel
theorem dX9_lawThatCounts_23 : decode cX9_lawThatCounts 23 = .ok (.iconst (-1), 1) := by decide +kernel
theorem dX9_lawThatCounts_24 : decode cX9_lawThatCounts 24 = .ok (.if_icmp .ne 5, 3) := by decide +kernel
theorem dX9_lawThatCounts_27 : decode cX9_lawThatCounts 27 = .ok (.aconst_null, 1) := by decide +kernel
theorem dX9_lawThatCounts_28 : decode cX9_lawThatCounts 28 = .ok (.areturn, 1) := by decide +kernel
theorem dX9_lawThatCounts_29 : decode cX9_lawThatCounts 29 = .ok (.aload_n 0, 1) := by decide +kernel
theorem dX9_lawThatCounts_30 : decode cX9_lawThatCounts 30 = .ok (.getfield 16, 3) := by decide +kernel
theorem dX9_lawThatCounts_33 : decode cX9_lawThatCounts 33 = .ok (.aload_n 2, 1) := by decide +kernel
theorem dX9_lawThatCounts_34 : decode cX9_lawThatCounts 34 = .ok (.getfield 109, 3) := by decide +kernel
theorem dX9_lawThatCounts_37 : decode cX9_lawThatCounts 37 = .ok (.invokevirtual 241, 3) := by decide +kernel
theorem dX9_lawThatCounts_40 : decode cX9_lawThatCounts 40 = .ok (.astore 4, 2) := by decide +kernel
theorem dX9_lawThatCounts_42 : decode cX9_lawThatCounts 42 = .ok (.aload 4, 2) := by decide +kernel
theorem dX9_lawThatCounts_44 : decode cX9_lawThatCounts 44 = .ok (.ifnull 18, 3) := by decide +kernel
theorem dX9_lawThatCounts_47 : decode cX9_lawThatCounts 47 = .ok (.aload 4, 2) := by decide +kernel
theorem dX9_lawThatCounts_49 : decode cX9_lawThatCounts 49 = .ok (.aload_n 2, 1) := by decide +kernel
theorem dX9_lawThatCounts_50 : decode cX9_lawThatCounts 50 = .ok (.iload_n 3, 1) := by decide +kernel
theorem dX9_lawThatCounts_51 : decode cX9_lawThatCounts 51 = .ok (.invokevirtual 244, 3) := by decide +kernel
theorem dX9_lawThatCounts_54 : decode cX9_lawThatCounts 54 = .ok (.ifCond .eq 8, 3) := by decide +kernel
theorem dX9_lawThatCounts_57 : decode cX9_lawThatCounts 57 = .ok (.aload 4, 2) := by decide +kernel
theorem dX9_lawThatCounts_59 : decode cX9_lawThatCounts 59 = .ok (.goto 4, 3) := by decide +kernel
theorem dX9_lawThatCounts_62 : decode cX9_lawThatCounts 62 = .ok (.aconst_null, 1) := by decide +kernel
theorem dX9_lawThatCounts_63 : decode cX9_lawThatCounts 63 = .ok (.areturn, 1) := by decide +kernel
set_option maxRecDepth 20000 in
theorem ggX9_rewardFor_X2_numbered : GoodIn wsX9_rewardFor wsX2_numbered := goodIn_r _ [8, 9, 10, 11, 12, 7, 13, 14, 128, 129, 130, 131, 132, 133, 134] (by decide +kernel) (by decide +kernel)
set_option maxRecDepth 20000 in
theorem gX9_rewardFor_X2_numbered : GoodIn wsX9_rewardFor (wsV RX9 104 RX2 yX2_numbered wsX2_numbered) := goodIn_app (goodIn_of _ (by decide +kernel)) ggX9_rewardFor_X2_numbered
set_option maxRecDepth 20000 in
theorem ggX9_rewardFor_X9_lawThatCounts : GoodIn wsX9_rewardFor wsX9_lawThatCounts := goodIn_r _ [19, 1, 20, 21, 4, 5, 6, 7, 8, 9, 10, 11, 12, 13, 14, 22, 23, 24, 25, 26, 27, 28, 29, 30, 31, 32, 33, 34, 35, 36, 37, 38, 39, 40, 41, 42, 43, 44, 45, 46, 47, 48, 18, 49, 105, 106, 107, 108, 109, 110, 111, 117, 118, 119, 120, 121, 122, 123, 124, 125, 126, 127, 128, 129, 130, 131, 132, 133, 134, 135, 136, 112, 113, 114, 115, 116] (by decide +kernel) (by decide +kernel)
set_option maxRecDepth 20000 in
theorem gX9_rewardFor_X9_lawThatCounts : GoodIn wsX9_rewardFor (wsV RX9 237 RX9 yX9_lawThatCounts wsX9_lawThatCounts) := goodIn_app (goodIn_of _ (by decide +kernel)) ggX9_rewardFor_X9_lawThatCounts
set_option maxRecDepth 20000 in
theorem ggX9_rewardFor_X9_worthNow : GoodIn wsX9_rewardFor wsX9_worthNow := goodIn_r _ [53, 54, 55, 56, 57, 58, 48, 18, 49, 59, 60, 61, 62, 63, 64, 65, 66, 67, 68, 69, 70, 71, 72, 73, 74, 75, 76, 77, 78, 79, 80, 81, 82, 83, 105, 106, 107, 108, 109, 110, 111, 117, 118, 119, 120, 121, 122, 123, 124, 125, 126, 127, 137, 138, 139, 140, 141, 142, 143] (by decide +kernel) (by decide +kernel)
set_option maxRecDepth 20000 in
theorem gX9_rewardFor_X9_worthNow : GoodIn wsX9_rewardFor (wsV RX9 150 RX9 yX9_worthNow wsX9_worthNow) := goodIn_app (goodIn_of _ (by decide +kernel)) ggX9_rewardFor_X9_worthNow
set_option maxRecDepth 20000 in
theorem ggX9_rewardFor_X9_landownerOf : GoodIn wsX9_rewardFor wsX9_landownerOf := goodIn_r _ [87, 88, 21, 89, 90, 91, 92, 93, 94, 95, 96, 97, 98, 99, 100, 101, 102, 103, 104, 105, 106, 107, 108, 109, 110, 111, 117, 118, 119, 120, 121, 122, 123, 124, 125, 126, 127, 144, 145, 146, 147] (by decide +kernel) (by decide +kernel)
set_option maxRecDepth 20000 in
theorem gX9_rewardFor_X9_landownerOf : GoodIn wsX9_rewardFor (wsV RX9 133 RX9 yX9_landownerOf wsX9_landownerOf) := goodIn_app (goodIn_of _ (by decide +kernel)) ggX9_rewardFor_X9_landownerOf
theorem dX9_rewardFor_0 : decode cX9_rewardFor 0 = .ok (.aload_n 0, 1) := by decide +kernel
theorem dX9_rewardFor_1 : decode cX9_rewardFor 1 = .ok (.getfield 30, 3) := by decide +kernel
theorem dX9_rewardFor_4 : decode cX9_rewardFor 4 = .ok (.iload_n 1, 1) := by decide +kernel
theorem dX9_rewardFor_5 : decode cX9_rewardFor 5 = .ok (.invokevirtual 104, 3) := by decide +kernel
theorem dX9_rewardFor_8 : decode cX9_rewardFor 8 = .ok (.astore_n 3, 1) := by decide +kernel
theorem dX9_rewardFor_9 : decode cX9_rewardFor 9 = .ok (.aload_n 0, 1) := by decide +kernel
theorem dX9_rewardFor_10 : decode cX9_rewardFor 10 = .ok (.iload_n 1, 1) := by decide +kernel
theorem dX9_rewardFor_11 : decode cX9_rewardFor 11 = .ok (.invokevirtual 237, 3) := by decide +kernel
theorem dX9_rewardFor_14 : decode cX9_rewardFor 14 = .ok (.astore 4, 2) := by decide +kernel
theorem dX9_rewardFor_16 : decode cX9_rewardFor 16 = .ok (.aload_n 3, 1) := by decide +kernel
theorem dX9_rewardFor_17 : decode cX9_rewardFor 17 = .ok (.ifnull 8, 3) := by decide +kernel
theorem dX9_rewardFor_20 : decode cX9_rewardFor 20 = .ok (.aload 4, 2) := by decide +kernel
theorem dX9_rewardFor_22 : decode cX9_rewardFor 22 = .ok (.ifnonnull 5, 3) := by decide +kernel
theorem dX9_rewardFor_25 : decode cX9_rewardFor 25 = .ok (.iconst 0, 1) := by decide +kernel
theorem dX9_rewardFor_26 : decode cX9_rewardFor 26 = .ok (.ireturn, 1) := by decide +kernel
theorem dX9_rewardFor_27 : decode cX9_rewardFor 27 = .ok (.aload_n 0, 1) := by decide +kernel
theorem dX9_rewardFor_28 : decode cX9_rewardFor 28 = .ok (.aload_n 3, 1) := by decide +kernel
theorem dX9_rewardFor_29 : decode cX9_rewardFor 29 = .ok (.invokevirtual 150, 3) := by decide +kernel
theorem dX9_rewardFor_32 : decode cX9_rewardFor 32 = .ok (.istore 5, 2) := by decide +kernel
theorem dX9_rewardFor_34 : decode cX9_rewardFor 34 = .ok (.iload 5, 2) := by decide +kernel
theorem dX9_rewardFor_36 : decode cX9_rewardFor 36 = .ok (.aload 4, 2) := by decide +kernel
theorem dX9_rewardFor_38 : decode cX9_rewardFor 38 = .ok (.getfield 248, 3) := by decide +kernel
theorem dX9_rewardFor_41 : decode cX9_rewardFor 41 = .ok (.imul, 1) := by decide +kernel
theorem dX9_rewardFor_42 : decode cX9_rewardFor 42 = .ok (.bipush 100, 2) := by decide +kernel
theorem dX9_rewardFor_44 : decode cX9_rewardFor 44 = .ok (.idiv, 1) := by decide +kernel
theorem dX9_rewardFor_45 : decode cX9_rewardFor 45 = .ok (.istore 6, 2) := by decide +kernel
theorem dX9_rewardFor_47 : decode cX9_rewardFor 47 = .ok (.aload_n 3, 1) := by decide +kernel
theorem dX9_rewardFor_48 : decode cX9_rewardFor 48 = .ok (.getfield 130, 3) := by decide +kernel
theorem dX9_rewardFor_51 : decode cX9_rewardFor 51 = .ok (.iload_n 2, 1) := by decide +kernel
theorem dX9_rewardFor_52 : decode cX9_rewardFor 52 = .ok (.if_icmp .ne 8, 3) := by decide +kernel
theorem dX9_rewardFor_55 : decode cX9_rewardFor 55 = .ok (.iload 6, 2) := by decide +kernel
theorem dX9_rewardFor_57 : decode cX9_rewardFor 57 = .ok (.goto 4, 3) := by decide +kernel
theorem dX9_rewardFor_60 : decode cX9_rewardFor 60 = .ok (.iconst 0, 1) := by decide +kernel
theorem dX9_rewardFor_61 : decode cX9_rewardFor 61 = .ok (.istore 7, 2) := by decide +kernel
theorem dX9_rewardFor_63 : decode cX9_rewardFor 63 = .ok (.aload_n 0, 1) := by decide +kernel
theorem dX9_rewardFor_64 : decode cX9_rewardFor 64 = .ok (.aload_n 3, 1) := by decide +kernel
theorem dX9_rewardFor_65 : decode cX9_rewardFor 65 = .ok (.invokevirtual 133, 3) := by decide +kernel
theorem dX9_rewardFor_68 : decode cX9_rewardFor 68 = .ok (.iload_n 2, 1) := by decide +kernel
theorem dX9_rewardFor_69 : decode cX9_rewardFor 69 = .ok (.if_icmp .ne 14, 3) := by decide +kernel
theorem dX9_rewardFor_72 : decode cX9_rewardFor 72 = .ok (.iload 7, 2) := by decide +kernel
theorem dX9_rewardFor_74 : decode cX9_rewardFor 74 = .ok (.iload 5, 2) := by decide +kernel
theorem dX9_rewardFor_76 : decode cX9_rewardFor 76 = .ok (.iadd, 1) := by decide +kernel
theorem dX9_rewardFor_77 : decode cX9_rewardFor 77 = .ok (.iload 6, 2) := by decide +kernel
theorem dX9_rewardFor_79 : decode cX9_rewardFor 79 = .ok (.isub, 1) := by decide +kernel
theorem dX9_rewardFor_80 : decode cX9_rewardFor 80 = .ok (.goto 5, 3) := by decide +kernel
theorem dX9_rewardFor_83 : decode cX9_rewardFor 83 = .ok (.iload 7, 2) := by decide +kernel
theorem dX9_rewardFor_85 : decode cX9_rewardFor 85 = .ok (.ireturn, 1) := by decide +kernel
set_option maxRecDepth 20000 in
theorem ggX9_stillOpen_X2_gatherHoards : GoodIn wsX9_stillOpen wsX2_gatherHoards := goodIn_r _ [9, 10, 11, 12, 13, 14, 15, 16, 17, 18, 8, 19, 20, 21, 22, 23, 24, 25, 26, 27, 28, 29, 30, 31, 32, 33, 34, 35, 36, 37, 38, 39, 40, 41, 42, 43, 44, 45, 46, 47, 48, 49, 50, 51, 52, 53, 54, 55, 56, 57, 58, 59, 60, 61, 62, 63, 167, 168, 169, 170, 171, 172, 173, 174, 175, 176, 177, 178, 179, 180, 181, 182, 183, 184] (by decide +kernel) (by decide +kernel)
set_option maxRecDepth 20000 in
theorem gX9_stillOpen_X2_gatherHoards : GoodIn wsX9_stillOpen (wsV RX9 85 RX2 yX2_gatherHoards wsX2_gatherHoards) := goodIn_app (goodIn_of _ (by decide +kernel)) ggX9_stillOpen_X2_gatherHoards
set_option maxRecDepth 20000 in
theorem ggX9_stillOpen_X9_isPerson : GoodIn wsX9_stillOpen wsX9_isPerson := goodIn_r _ [67, 68, 69, 66, 70] (by decide +kernel) (by decide +kernel)
set_option maxRecDepth 20000 in
theorem gX9_stillOpen_X9_isPerson : GoodIn wsX9_stillOpen (va_wsS RX9 153 yX9_isPerson wsX9_isPerson) := goodIn_app (goodIn_of _ (by decide +kernel)) ggX9_stillOpen_X9_isPerson
set_option maxRecDepth 20000 in
theorem ggX9_stillOpen_X9_rewardFor : GoodIn wsX9_stillOpen wsX9_rewardFor := goodIn_r _ [74, 1, 75, 76, 77, 23, 24, 8, 25, 26, 27, 28, 29, 30, 20, 78, 79, 80, 66, 81, 82, 83, 84, 85, 86, 87, 10, 11, 88, 89, 90, 91, 92, 93, 94, 95, 96, 97, 98, 99, 100, 101, 102, 103, 104, 105, 106, 107, 108, 109, 110, 111, 112, 113, 114, 115, 116, 2, 117, 118, 119, 120, 121, 122, 123, 124, 125, 126, 127, 128, 129, 49, 130, 131, 132, 133, 134, 135, 136, 137, 138, 139, 140, 141, 142, 143, 144, 145, 146, 147, 148, 149, 44, 150, 46, 51, 151, 152, 153, 154, 155, 156, 157, 158, 159, 160, 161, 162, 163, 164, 165, 166, 185, 186, 187, 188, 189, 174, 175, 176, 177, 178, 179, 180, 181, 182, 183, 184, 167, 168, 169, 170, 171, 172, 173, 190, 191, 192, 193, 194, 195, 196, 197, 198, 199, 200, 201, 202] (by decide +kernel) (by decide +kernel)
set_option maxRecDepth 20000 in
theorem gX9_stillOpen_X9_rewardFor : GoodIn wsX9_stillOpen (wsV RX9 156 RX9 yX9_rewardFor wsX9_rewardFor) := goodIn_app (goodIn_of _ (by decide +kernel)) ggX9_stillOpen_X9_rewardFor
theorem dX9_stillOpen_0 : decode cX9_stillOpen 0 = .ok (.aload_n 0, 1) := by decide +kernel
theorem dX9_stillOpen_1 : decode cX9_stillOpen 1 = .ok (.getfield 30, 3) := by decide +kernel
theorem dX9_stillOpen_4 : decode cX9_stillOpen 4 = .ok (.aload_n 0, 1) := by decide +kernel
theorem dX9_stillOpen_5 : decode cX9_stillOpen 5 = .ok (.getfield 7, 3) := by decide +kernel
theorem dX9_stillOpen_8 : decode cX9_stillOpen 8 = .ok (.invokevirtual 85, 3) := by decide +kernel
theorem dX9_stillOpen_11 : decode cX9_stillOpen 11 = .ok (.iload_n 1, 1) := by decide +kernel
theorem dX9_stillOpen_12 : decode cX9_stillOpen 12 = .ok (.invokestatic 153, 3) := by decide +kernel
theorem dX9_stillOpen_15 : decode cX9_stillOpen 15 = .ok (.ifCond .eq 13, 3) := by decide +kernel
theorem dX9_stillOpen_18 : decode cX9_stillOpen 18 = .ok (.aload_n 0, 1) := by decide +kernel
theorem dX9_stillOpen_19 : decode cX9_stillOpen 19 = .ok (.getfield 48, 3) := by decide +kernel
theorem dX9_stillOpen_22 : decode cX9_stillOpen 22 = .ok (.iload_n 1, 1) := by decide +kernel
theorem dX9_stillOpen_23 : decode cX9_stillOpen 23 = .ok (.iaload, 1) := by decide +kernel
theorem dX9_stillOpen_24 : decode cX9_stillOpen 24 = .ok (.ineg, 1) := by decide +kernel
theorem dX9_stillOpen_25 : decode cX9_stillOpen 25 = .ok (.goto 4, 3) := by decide +kernel
theorem dX9_stillOpen_28 : decode cX9_stillOpen 28 = .ok (.iconst 0, 1) := by decide +kernel
theorem dX9_stillOpen_29 : decode cX9_stillOpen 29 = .ok (.istore_n 2, 1) := by decide +kernel
theorem dX9_stillOpen_30 : decode cX9_stillOpen 30 = .ok (.iconst 0, 1) := by decide +kernel
theorem dX9_stillOpen_31 : decode cX9_stillOpen 31 = .ok (.istore_n 3, 1) := by decide +kernel
theorem dX9_stillOpen_32 : decode cX9_stillOpen 32 = .ok (.iload_n 3, 1) := by decide +kernel
theorem dX9_stillOpen_33 : decode cX9_stillOpen 33 = .ok (.aload_n 0, 1) := by decide +kernel
theorem dX9_stillOpen_34 : decode cX9_stillOpen 34 = .ok (.getfield 30, 3) := by decide +kernel
theorem dX9_stillOpen_37 : decode cX9_stillOpen 37 = .ok (.getfield 198, 3) := by decide +kernel
theorem dX9_stillOpen_40 : decode cX9_stillOpen 40 = .ok (.if_icmp .ge 18, 3) := by decide +kernel
theorem dX9_stillOpen_43 : decode cX9_stillOpen 43 = .ok (.iload_n 2, 1) := by decide +kernel
theorem dX9_stillOpen_44 : decode cX9_stillOpen 44 = .ok (.aload_n 0, 1) := by decide +kernel
theorem dX9_stillOpen_45 : decode cX9_stillOpen 45 = .ok (.iload_n 3, 1) := by decide +kernel
theorem dX9_stillOpen_46 : decode cX9_stillOpen 46 = .ok (.iload_n 1, 1) := by decide +kernel
theorem dX9_stillOpen_47 : decode cX9_stillOpen 47 = .ok (.invokevirtual 156, 3) := by decide +kernel
theorem dX9_stillOpen_50 : decode cX9_stillOpen 50 = .ok (.iadd, 1) := by decide +kernel
theorem dX9_stillOpen_51 : decode cX9_stillOpen 51 = .ok (.istore_n 2, 1) := by decide +kernel
theorem dX9_stillOpen_52 : decode cX9_stillOpen 52 = .ok (.iinc 3 1, 3) := by decide +kernel
theorem dX9_stillOpen_55 : decode cX9_stillOpen 55 = .ok (.goto (-23), 3) := by decide +kernel
theorem dX9_stillOpen_58 : decode cX9_stillOpen 58 = .ok (.iload_n 2, 1) := by decide +kernel
theorem dX9_stillOpen_59 : decode cX9_stillOpen 59 = .ok (.ireturn, 1) := by decide +kernel
set_option maxRecDepth 20000 in
theorem ggX9_hoardsNow_X2_gatherHoards : GoodIn wsX9_hoardsNow wsX2_gatherHoards := goodIn_r _ [8, 9, 10, 11, 12, 13, 14, 15, 16, 17, 7, 18, 19, 20, 21, 22, 23, 24, 25, 26, 27, 28, 29, 30, 31, 32, 33, 34, 35, 36, 37, 38, 39, 40, 41, 42, 43, 44, 45, 46, 47, 48, 49, 50, 51, 52, 53, 54, 55, 56, 57, 58, 59, 60, 61, 62, 74, 75, 76, 77, 78, 79, 80, 81, 82, 83, 84, 85, 86, 87, 88, 89, 90, 91] (by decide +kernel) (by decide +kernel)
set_option maxRecDepth 20000 in
theorem gX9_hoardsNow_X2_gatherHoards : GoodIn wsX9_hoardsNow (wsV RX9 85 RX2 yX2_gatherHoards wsX2_gatherHoards) := goodIn_app (goodIn_of _ (by decide +kernel)) ggX9_hoardsNow_X2_gatherHoards
set_option maxRecDepth 20000 in
theorem ggX9_hoardsNow_X2_hoardNumber : GoodIn wsX9_hoardsNow wsX2_hoardNumber := goodIn_r _ [66, 9, 26, 27, 28, 7, 29, 19, 74, 75, 76, 77, 78, 79, 80] (by decide +kernel) (by decide +kernel)
set_option maxRecDepth 20000 in
theorem gX9_hoardsNow_X2_hoardNumber : GoodIn wsX9_hoardsNow (wsV RX9 89 RX2 yX2_hoardNumber wsX2_hoardNumber) := goodIn_app (goodIn_of _ (by decide +kernel)) ggX9_hoardsNow_X2_hoardNumber
theorem dX9_hoardsNow_0 : decode cX9_hoardsNow 0 = .ok (.aload_n 0, 1) := by decide +kernel
theorem dX9_hoardsNow_1 : decode cX9_hoardsNow 1 = .ok (.getfield 30, 3) := by decide +kernel
theorem dX9_hoardsNow_4 : decode cX9_hoardsNow 4 = .ok (.aload_n 0, 1) := by decide +kernel
theorem dX9_hoardsNow_5 : decode cX9_hoardsNow 5 = .ok (.getfield 7, 3) := by decide +kernel
theorem dX9_hoardsNow_8 : decode cX9_hoardsNow 8 = .ok (.invokevirtual 85, 3) := by decide +kernel
theorem dX9_hoardsNow_11 : decode cX9_hoardsNow 11 = .ok (.iconst 0, 1) := by decide +kernel
theorem dX9_hoardsNow_12 : decode cX9_hoardsNow 12 = .ok (.istore_n 1, 1) := by decide +kernel
theorem dX9_hoardsNow_13 : decode cX9_hoardsNow 13 = .ok (.iconst 0, 1) := by decide +kernel
theorem dX9_hoardsNow_14 : decode cX9_hoardsNow 14 = .ok (.istore_n 2, 1) := by decide +kernel
theorem dX9_hoardsNow_15 : decode cX9_hoardsNow 15 = .ok (.iload_n 2, 1) := by decide +kernel
theorem dX9_hoardsNow_16 : decode cX9_hoardsNow 16 = .ok (.aload_n 0, 1) := by decide +kernel
theorem dX9_hoardsNow_17 : decode cX9_hoardsNow 17 = .ok (.getfield 30, 3) := by decide +kernel
theorem dX9_hoardsNow_20 : decode cX9_hoardsNow 20 = .ok (.getfield 198, 3) := by decide +kernel
theorem dX9_hoardsNow_23 : decode cX9_hoardsNow 23 = .ok (.if_icmp .ge 24, 3) := by decide +kernel
theorem dX9_hoardsNow_26 : decode cX9_hoardsNow 26 = .ok (.aload_n 0, 1) := by decide +kernel
theorem dX9_hoardsNow_27 : decode cX9_hoardsNow 27 = .ok (.getfield 30, 3) := by decide +kernel
theorem dX9_hoardsNow_30 : decode cX9_hoardsNow 30 = .ok (.iload_n 2, 1) := by decide +kernel
theorem dX9_hoardsNow_31 : decode cX9_hoardsNow 31 = .ok (.invokevirtual 89, 3) := by decide +kernel
theorem dX9_hoardsNow_34 : decode cX9_hoardsNow 34 = .ok (.iload_n 2, 1) := by decide +kernel
theorem dX9_hoardsNow_35 : decode cX9_hoardsNow 35 = .ok (.if_icmp .ne 6, 3) := by decide +kernel
theorem dX9_hoardsNow_38 : decode cX9_hoardsNow 38 = .ok (.iinc 1 1, 3) := by decide +kernel
theorem dX9_hoardsNow_41 : decode cX9_hoardsNow 41 = .ok (.iinc 2 1, 3) := by decide +kernel
theorem dX9_hoardsNow_44 : decode cX9_hoardsNow 44 = .ok (.goto (-29), 3) := by decide +kernel
theorem dX9_hoardsNow_47 : decode cX9_hoardsNow 47 = .ok (.iload_n 1, 1) := by decide +kernel
theorem dX9_hoardsNow_48 : decode cX9_hoardsNow 48 = .ok (.ireturn, 1) := by decide +kernel
set_option maxRecDepth 20000 in
theorem ggX9_treasuresNow_X2_gatherHoards : GoodIn wsX9_treasuresNow wsX2_gatherHoards := goodIn_r _ [8, 9, 10, 11, 12, 13, 14, 15, 16, 17, 7, 18, 19, 20, 21, 22, 23, 24, 25, 26, 27, 28, 29, 30, 31, 32, 33, 34, 35, 36, 37, 38, 39, 40, 41, 42, 43, 44, 45, 46, 47, 48, 49, 50, 51, 52, 53, 54, 55, 56, 57, 58, 59, 60, 61, 62, 104, 105, 106, 107, 108, 109, 110, 111, 112, 113, 114, 115, 116, 117, 118, 119, 120, 121] (by decide +kernel) (by decide +kernel)
set_option maxRecDepth 20000 in
theorem gX9_treasuresNow_X2_gatherHoards : GoodIn wsX9_treasuresNow (wsV RX9 85 RX2 yX2_gatherHoards wsX2_gatherHoards) := goodIn_app (goodIn_of _ (by decide +kernel)) ggX9_treasuresNow_X2_gatherHoards
set_option maxRecDepth 20000 in
theorem ggX9_treasuresNow_X9_lawThatCounts : GoodIn wsX9_treasuresNow wsX9_lawThatCounts := goodIn_r _ [67, 1, 68, 69, 70, 22, 23, 7, 24, 25, 26, 27, 28, 29, 19, 71, 72, 73, 74, 9, 10, 75, 76, 77, 78, 79, 80, 81, 82, 83, 84, 85, 86, 87, 88, 89, 90, 91, 92, 93, 94, 95, 66, 96, 97, 98, 99, 100, 101, 102, 103, 111, 112, 113, 114, 115, 116, 117, 118, 119, 120, 121, 104, 105, 106, 107, 108, 109, 110, 122, 123, 124, 125, 126, 127, 128] (by decide +kernel) (by decide +kernel)
set_option maxRecDepth 20000 in
theorem gX9_treasuresNow_X9_lawThatCounts : GoodIn wsX9_treasuresNow (wsV RX9 237 RX9 yX9_lawThatCounts wsX9_lawThatCounts) := goodIn_app (goodIn_of _ (by decide +kernel)) ggX9_treasuresNow_X9_lawThatCounts
theorem dX9_treasuresNow_0 : decode cX9_treasuresNow 0 = .ok (.aload_n 0, 1) := by decide +kernel
theorem dX9_treasuresNow_1 : decode cX9_treasuresNow 1 = .ok (.getfield 30, 3) := by decide +kernel
theorem dX9_treasuresNow_4 : decode cX9_treasuresNow 4 = .ok (.aload_n 0, 1) := by decide +kernel
theorem dX9_treasuresNow_5 : decode cX9_treasuresNow 5 = .ok (.getfield 7, 3) := by decide +kernel
theorem dX9_treasuresNow_8 : decode cX9_treasuresNow 8 = .ok (.invokevirtual 85, 3) := by decide +kernel
theorem dX9_treasuresNow_11 : decode cX9_treasuresNow 11 = .ok (.iconst 0, 1) := by decide +kernel
theorem dX9_treasuresNow_12 : decode cX9_treasuresNow 12 = .ok (.istore_n 1, 1) := by decide +kernel
theorem dX9_treasuresNow_13 : decode cX9_treasuresNow 13 = .ok (.iconst 0, 1) := by decide +kernel
theorem dX9_treasuresNow_14 : decode cX9_treasuresNow 14 = .ok (.istore_n 2, 1) := by decide +kernel
theorem dX9_treasuresNow_15 : decode cX9_treasuresNow 15 = .ok (.iload_n 2, 1) := by decide +kernel
theorem dX9_treasuresNow_16 : decode cX9_treasuresNow 16 = .ok (.aload_n 0, 1) := by decide +kernel
theorem dX9_treasuresNow_17 : decode cX9_treasuresNow 17 = .ok (.getfield 30, 3) := by decide +kernel
theorem dX9_treasuresNow_20 : decode cX9_treasuresNow 20 = .ok (.getfield 198, 3) := by decide +kernel
theorem dX9_treasuresNow_23 : decode cX9_treasuresNow 23 = .ok (.if_icmp .ge 20, 3) := by decide +kernel
theorem dX9_treasuresNow_26 : decode cX9_treasuresNow 26 = .ok (.aload_n 0, 1) := by decide +kernel
theorem dX9_treasuresNow_27 : decode cX9_treasuresNow 27 = .ok (.iload_n 2, 1) := by decide +kernel
theorem dX9_treasuresNow_28 : decode cX9_treasuresNow 28 = .ok (.invokevirtual 237, 3) := by decide +kernel
theorem dX9_treasuresNow_31 : decode cX9_treasuresNow 31 = .ok (.ifnull 6, 3) := by decide +kernel
theorem dX9_treasuresNow_34 : decode cX9_treasuresNow 34 = .ok (.iinc 1 1, 3) := by decide +kernel
theorem dX9_treasuresNow_37 : decode cX9_treasuresNow 37 = .ok (.iinc 2 1, 3) := by decide +kernel
theorem dX9_treasuresNow_40 : decode cX9_treasuresNow 40 = .ok (.goto (-25), 3) := by decide +kernel
theorem dX9_treasuresNow_43 : decode cX9_treasuresNow 43 = .ok (.iload_n 1, 1) := by decide +kernel
theorem dX9_treasuresNow_44 : decode cX9_treasuresNow 44 = .ok (.ireturn, 1) := by decide +kernel
theorem dX10_init_0 : decode cX10_init 0 = .ok (.aload_n 0, 1) := by decide +kernel
theorem dX10_init_1 : decode cX10_init 1 = .ok (.invokespecial 1, 3) := by decide +kernel
theorem dX10_init_4 : decode cX10_init 4 = .ok (.aload_n 0, 1) := by decide +kernel
theorem dX10_init_5 : decode cX10_init 5 = .ok (.bipush 50, 2) := by decide +kernel
theorem dX10_init_7 : decode cX10_init 7 = .ok (.newarray .int, 2) := by decide +kernel
theorem dX10_init_9 : decode cX10_init 9 = .ok (.putfield 9, 3) := by decide +kernel
theorem dX10_init_12 : decode cX10_init 12 = .ok (.aload_n 0, 1) := by decide +kernel
theorem dX10_init_13 : decode cX10_init 13 = .ok (.bipush 50, 2) := by decide +kernel
theorem dX10_init_15 : decode cX10_init 15 = .ok (.newarray .int, 2) := by decide +kernel
theorem dX10_init_17 : decode cX10_init 17 = .ok (.putfield 13, 3) := by decide +kernel
theorem dX10_init_20 : decode cX10_init 20 = .ok (.aload_n 0, 1) := by decide +kernel
theorem dX10_init_21 : decode cX10_init 21 = .ok (.bipush 50, 2) := by decide +kernel
theorem dX10_init_23 : decode cX10_init 23 = .ok (.newarray .int, 2) := by decide +kernel
theorem dX10_init_25 : decode cX10_init 25 = .ok (.putfield 16, 3) := by decide +kernel
theorem dX10_init_28 : decode cX10_init 28 = .ok (.aload_n 0, 1) := by decide +kernel
theorem dX10_init_29 : decode cX10_init 29 = .ok (.bipush 50, 2) := by decide +kernel
theorem dX10_init_31 : decode cX10_init 31 = .ok (.newarray .int, 2) := by decide +kernel
theorem dX10_init_33 : decode cX10_init 33 = .ok (.putfield 19, 3) := by decide +kernel
theorem dX10_init_36 : decode cX10_init 36 = .ok (.aload_n 0, 1) := by decide +kernel
theorem dX10_init_37 : decode cX10_init 37 = .ok (.bipush 50, 2) := by decide +kernel
theorem dX10_init_39 : decode cX10_init 39 = .ok (.newarray .int, 2) := by decide +kernel
theorem dX10_init_41 : decode cX10_init 41 = .ok (.putfield 22, 3) := by decide +kernel
theorem dX10_init_44 : decode cX10_init 44 = .ok (.aload_n 0, 1) := by decide +kernel
theorem dX10_init_45 : decode cX10_init 45 = .ok (.bipush 50, 2) := by decide +kernel
theorem dX10_init_47 : decode cX10_init 47 = .ok (.newarray .int, 2) := by decide +kernel
theorem dX10_init_49 : decode cX10_init 49 = .ok (.putfield 25, 3) := by decide +kernel
theorem dX10_init_52 : decode cX10_init 52 = .ok (.aload_n 0, 1) := by decide +kernel
theorem dX10_init_53 : decode cX10_init 53 = .ok (.bipush 50, 2) := by decide +kernel
theorem dX10_init_55 : decode cX10_init 55 = .ok (.newarray .int, 2) := by decide +kernel
theorem dX10_init_57 : decode cX10_init 57 = .ok (.putfield 28, 3) := by decide +kernel
theorem dX10_init_60 : decode cX10_init 60 = .ok (.aload_n 0, 1) := by decide +kernel
theorem dX10_init_61 : decode cX10_init 61 = .ok (.bipush 50, 2) := by decide +kernel
theorem dX10_init_63 : decode cX10_init 63 = .ok (.newarray .int, 2) := by decide +kernel
theorem dX10_init_65 : decode cX10_init 65 = .ok (.putfield 31, 3) := by decide +kernel
theorem dX10_init_68 : decode cX10_init 68 = .ok (.aload_n 0, 1) := by decide +kernel
theorem dX10_init_69 : decode cX10_init 69 = .ok (.bipush 50, 2) := by decide +kernel
theorem dX10_init_71 : decode cX10_init 71 = .ok (.newarray .int, 2) := by decide +kernel
theorem dX10_init_73 : decode cX10_init 73 = .ok (.putfield 34, 3) := by decide +kernel
theorem dX10_init_76 : decode cX10_init 76 = .ok (.aload_n 0, 1) := by decide +kernel
theorem dX10_init_77 : decode cX10_init 77 = .ok (.bipush 50, 2) := by decide +kernel
theorem dX10_init_79 : decode cX10_init 79 = .ok (.newarray .int, 2) := by decide +kernel
theorem dX10_init_81 : decode cX10_init 81 = .ok (.putfield 37, 3) := by decide +kernel
theorem dX10_init_84 : decode cX10_init 84 = .ok (.aload_n 0, 1) := by decide +kernel
theorem dX10_init_85 : decode cX10_init 85 = .ok (.bipush 50, 2) := by decide +kernel
theorem dX10_init_87 : decode cX10_init 87 = .ok (.newarray .int, 2) := by decide +kernel
theorem dX10_init_89 : decode cX10_init 89 = .ok (.putfield 40, 3) := by decide +kernel
theorem dX10_init_92 : decode cX10_init 92 = .ok (.aload_n 0, 1) := by decide +kernel
theorem dX10_init_93 : decode cX10_init 93 = .ok (.sipush 2500, 3) := by decide +kernel
theorem dX10_init_96 : decode cX10_init 96 = .ok (.newarray .int, 2) := by decide +kernel
theorem dX10_init_98 : decode cX10_init 98 = .ok (.putfield 43, 3) := by decide +kernel
theorem dX10_init_101 : decode cX10_init 101 = .ok (.aload_n 0, 1) := by decide +kernel
theorem dX10_init_102 : decode cX10_init 102 = .ok (.bipush 20, 2) := by decide +kernel
theorem dX10_init_104 : decode cX10_init 104 = .ok (.newarray .int, 2) := by decide +kernel
theorem dX10_init_106 : decode cX10_init 106 = .ok (.putfield 46, 3) := by decide +kernel
theorem dX10_init_109 : decode cX10_init 109 = .ok (.aload_n 0, 1) := by decide +kernel
theorem dX10_init_110 : decode cX10_init 110 = .ok (.bipush 20, 2) := by decide +kernel
theorem dX10_init_112 : decode cX10_init 112 = .ok (.newarray .int, 2) := by decide +kernel
theorem dX10_init_114 : decode cX10_init 114 = .ok (.putfield 49, 3) := by decide +kernel
theorem dX10_init_117 : decode cX10_init 117 = .ok (.aload_n 0, 1) := by decide +kernel
theorem dX10_init_118 : decode cX10_init 118 = .ok (.bipush 20, 2) := by decide +kernel
theorem dX10_init_120 : decode cX10_init 120 = .ok (.newarray .int, 2) := by decide +kernel
theorem dX10_init_122 : decode cX10_init 122 = .ok (.putfield 52, 3) := by decide +kernel
theorem dX10_init_125 : decode cX10_init 125 = .ok (.aload_n 0, 1) := by decide +kernel
theorem dX10_init_126 : decode cX10_init 126 = .ok (.bipush 20, 2) := by decide +kernel
theorem dX10_init_128 : decode cX10_init 128 = .ok (.newarray .int, 2) := by decide +kernel
theorem dX10_init_130 : decode cX10_init 130 = .ok (.putfield 55, 3) := by decide +kernel
theorem dX10_init_133 : decode cX10_init 133 = .ok (.aload_n 0, 1) := by decide +kernel
theorem dX10_init_134 : decode cX10_init 134 = .ok (.bipush 20, 2) := by decide +kernel
theorem dX10_init_136 : decode cX10_init 136 = .ok (.newarray .int, 2) := by decide +kernel
theorem dX10_init_138 : decode cX10_init 138 = .ok (.putfield 58, 3) := by decide +kernel
theorem dX10_init_141 : decode cX10_init 141 = .ok (.aload_n 0, 1) := by decide +kernel
theorem dX10_init_142 : decode cX10_init 142 = .ok (.bipush 100, 2) := by decide +kernel
theorem dX10_init_144 : decode cX10_init 144 = .ok (.newarray .int, 2) := by decide +kernel
theorem dX10_init_146 : decode cX10_init 146 = .ok (.putfield 61, 3) := by decide +kernel
theorem dX10_init_149 : decode cX10_init 149 = .ok (.aload_n 0, 1) := by decide +kernel
theorem dX10_init_150 : decode cX10_init 150 = .ok (.bipush 100, 2) := by decide +kernel
theorem dX10_init_152 : decode cX10_init 152 = .ok (.newarray .int, 2) := by decide +kernel
theorem dX10_init_154 : decode cX10_init 154 = .ok (.putfield 64, 3) := by decide +kernel
theorem dX10_init_157 : decode cX10_init 157 = .ok (.aload_n 0, 1) := by decide +kernel
theorem dX10_init_158 : decode cX10_init 158 = .ok (.bipush 100, 2) := by decide +kernel
theorem dX10_init_160 : decode cX10_init 160 = .ok (.newarray .int, 2) := by decide +kernel
theorem dX10_init_162 : decode cX10_init 162 = .ok (.putfield 67, 3) := by decide +kernel
theorem dX10_init_165 : decode cX10_init 165 = .ok (.aload_n 0, 1) := by decide +kernel
theorem dX10_init_166 : decode cX10_init 166 = .ok (.bipush 55, 2) := by decide +kernel
theorem dX10_init_168 : decode cX10_init 168 = .ok (.newarray .int, 2) := by decide +kernel
theorem dX10_init_170 : decode cX10_init 170 = .ok (.putfield 70, 3) := by decide +kernel
theorem dX10_init_173 : decode cX10_init 173 = .ok (.aload_n 0, 1) := by decide +kernel
theorem dX10_init_174 : decode cX10_init 174 = .ok (.bipush 60, 2) := by decide +kernel
theorem dX10_init_176 : decode cX10_init 176 = .ok (.newarray .int, 2) := by decide +kernel
theorem dX10_init_178 : decode cX10_init 178 = .ok (.putfield 73, 3) := by decide +kernel
theorem dX10_init_181 : decode cX10_init 181 = .ok (.aload_n 0, 1) := by decide +kernel
theorem dX10_init_182 : decode cX10_init 182 = .ok (.bipush 60, 2) := by decide +kernel
theorem dX10_init_184 : decode cX10_init 184 = .ok (.newarray .int, 2) := by decide +kernel
theorem dX10_init_186 : decode cX10_init 186 = .ok (.putfield 76, 3) := by decide +kernel
theorem dX10_init_189 : decode cX10_init 189 = .ok (.aload_n 0, 1) := by decide +kernel
theorem dX10_init_190 : decode cX10_init 190 = .ok (.bipush 60, 2) := by decide +kernel
theorem dX10_init_192 : decode cX10_init 192 = .ok (.newarray .int, 2) := by decide +kernel
theorem dX10_init_194 : decode cX10_init 194 = .ok (.putfield 79, 3) := by decide +kernel
theorem dX10_init_197 : decode cX10_init 197 = .ok (.aload_n 0, 1) := by decide +kernel
theorem dX10_init_198 : decode cX10_init 198 = .ok (.bipush 60, 2) := by decide +kernel
theorem dX10_init_200 : decode cX10_init 200 = .ok (.newarray .int, 2) := by decide +kernel
theorem dX10_init_202 : decode cX10_init 202 = .ok (.putfield 82, 3) := by decide +kernel
theorem dX10_init_205 : decode cX10_init 205 = .ok (.aload_n 0, 1) := by decide +kernel
theorem dX10_init_206 : decode cX10_init 206 = .ok (.bipush 30, 2) := by decide +kernel
theorem dX10_init_208 : decode cX10_init 208 = .ok (.newarray .int, 2) := by decide +kernel
theorem dX10_init_210 : decode cX10_init 210 = .ok (.putfield 85, 3) := by decide +kernel
theorem dX10_init_213 : decode cX10_init 213 = .ok (.aload_n 0, 1) := by decide +kernel
theorem dX10_init_214 : decode cX10_init 214 = .ok (.bipush 10, 2) := by decide +kernel
theorem dX10_init_216 : decode cX10_init 216 = .ok (.newarray .int, 2) := by decide +kernel
theorem dX10_init_218 : decode cX10_init 218 = .ok (.putfield 88, 3) := by decide +kernel
theorem dX10_init_221 : decode cX10_init 221 = .ok (.aload_n 0, 1) := by decide +kernel
theorem dX10_init_222 : decode cX10_init 222 = .ok (.bipush 10, 2) := by decide +kernel
theorem dX10_init_224 : decode cX10_init 224 = .ok (.newarray .int, 2) := by decide +kernel
theorem dX10_init_226 : decode cX10_init 226 = .ok (.putfield 91, 3) := by decide +kernel
theorem dX10_init_229 : decode cX10_init 229 = .ok (.aload_n 0, 1) := by decide +kernel
theorem dX10_init_230 : decode cX10_init 230 = .ok (.bipush 10, 2) := by decide +kernel
theorem dX10_init_232 : decode cX10_init 232 = .ok (.newarray .int, 2) := by decide +kernel
theorem dX10_init_234 : decode cX10_init 234 = .ok (.putfield 94, 3) := by decide +kernel
theorem dX10_init_237 : decode cX10_init 237 = .ok (.aload_n 0, 1) := by decide +kernel
theorem dX10_init_238 : decode cX10_init 238 = .ok (.iconst (-1), 1) := by decide +kernel
theorem dX10_init_239 : decode cX10_init 239 = .ok (.putfield 97, 3) := by decide +kernel
theorem dX10_init_242 : decode cX10_init 242 = .ok (.aload_n 0, 1) := by decide +kernel
theorem dX10_init_243 : decode cX10_init 243 = .ok (.bipush 50, 2) := by decide +kernel
theorem dX10_init_245 : decode cX10_init 245 = .ok (.newarray .boolean, 2) := by decide +kernel
theorem dX10_init_247 : decode cX10_init 247 = .ok (.putfield 101, 3) := by decide +kernel
theorem dX10_init_250 : decode cX10_init 250 = .ok (.iconst 0, 1) := by decide +kernel
theorem dX10_init_251 : decode cX10_init 251 = .ok (.istore_n 1, 1) := by decide +kernel
theorem dX10_init_252 : decode cX10_init 252 = .ok (.iload_n 1, 1) := by decide +kernel
theorem dX10_init_253 : decode cX10_init 253 = .ok (.sipush 2500, 3) := by decide +kernel
theorem dX10_init_256 : decode cX10_init 256 = .ok (.if_icmp .ge 17, 3) := by decide +kernel
theorem dX10_init_259 : decode cX10_init 259 = .ok (.aload_n 0, 1) := by decide +kernel
theorem dX10_init_260 : decode cX10_init 260 = .ok (.getfield 43, 3) := by decide +kernel
theorem dX10_init_263 : decode cX10_init 263 = .ok (.iload_n 1, 1) := by decide +kernel
theorem dX10_init_264 : decode cX10_init 264 = .ok (.ldc 105, 2) := by decide +kernel
theorem dX10_init_266 : decode cX10_init 266 = .ok (.iastore, 1) := by decide +kernel
theorem dX10_init_267 : decode cX10_init 267 = .ok (.iinc 1 1, 3) := by decide +kernel
theorem dX10_init_270 : decode cX10_init 270 = .ok (.goto (-18), 3) := by decide +kernel
theorem dX10_init_273 : decode cX10_init 273 = .ok (.iconst 0, 1) := by decide +kernel
theorem dX10_init_274 : decode cX10_init 274 = .ok (.istore_n 1, 1) := by decide +kernel
theorem dX10_init_275 : decode cX10_init 275 = .ok (.iload_n 1, 1) := by decide +kernel
theorem dX10_init_276 : decode cX10_init 276 = .ok (.bipush 55, 2) := by decide +kernel
theorem dX10_init_278 : decode cX10_init 278 = .ok (.if_icmp .ge 17, 3) := by decide +kernel
theorem dX10_init_281 : decode cX10_init 281 = .ok (.aload_n 0, 1) := by decide +kernel
theorem dX10_init_282 : decode cX10_init 282 = .ok (.getfield 70, 3) := by decide +kernel
theorem dX10_init_285 : decode cX10_init 285 = .ok (.iload_n 1, 1) := by decide +kernel
theorem dX10_init_286 : decode cX10_init 286 = .ok (.bipush 100, 2) := by decide +kernel
theorem dX10_init_288 : decode cX10_init 288 = .ok (.iastore, 1) := by decide +kernel
theorem dX10_init_289 : decode cX10_init 289 = .ok (.iinc 1 1, 3) := by decide +kernel
theorem dX10_init_292 : decode cX10_init 292 = .ok (.goto (-17), 3) := by decide +kernel
theorem dX10_init_295 : decode cX10_init 295 = .ok (.return_, 1) := by decide +kernel
theorem dX10_in_0 : decode cX10_in 0 = .ok (.iload_n 0, 1) := by decide +kernel
theorem dX10_in_1 : decode cX10_in 1 = .ok (.iload_n 1, 1) := by decide +kernel
theorem dX10_in_2 : decode cX10_in 2 = .ok (.if_icmp .lt 12, 3) := by decide +kernel
theorem dX10_in_5 : decode cX10_in 5 = .ok (.iload_n 0, 1) := by decide +kernel
theorem dX10_in_6 : decode cX10_in 6 = .ok (.iload_n 2, 1) := by decide +kernel
theorem dX10_in_7 : decode cX10_in 7 = .ok (.if_icmp .gt 7, 3) := by decide +kernel
theorem dX10_in_10 : decode cX10_in 10 = .ok (.iconst 1, 1) := by decide +kernel
theorem dX10_in_11 : decode cX10_in 11 = .ok (.goto 4, 3) := by decide +kernel
theorem dX10_in_14 : decode cX10_in 14 = .ok (.iconst 0, 1) := by decide +kernel
theorem dX10_in_15 : decode cX10_in 15 = .ok (.ireturn, 1) := by decide +kernel
set_option maxRecDepth 20000 in
theorem ggX10_isFind_X10_in : GoodIn wsX10_isFind wsX10_in := goodIn_r _ [5] (by decide +kernel) (by decide +kernel)
set_option maxRecDepth 20000 in
theorem gX10_isFind_X10_in : GoodIn wsX10_isFind (va_wsS RX10 109 yX10_in wsX10_in) := goodIn_app (goodIn_of _ (by decide +kernel)) ggX10_isFind_X10_in
theorem dX10_isFind_0 : decode cX10_isFind 0 = .ok (.iload_n 1, 1) := by decide +kernel
theorem dX10_isFind_1 : decode cX10_isFind 1 = .ok (.iconst 0, 1) := by decide +kernel
theorem dX10_isFind_2 : decode cX10_isFind 2 = .ok (.aload_n 0, 1) := by decide +kernel
theorem dX10_isFind_3 : decode cX10_isFind 3 = .ok (.getfield 106, 3) := by decide +kernel
theorem dX10_isFind_6 : decode cX10_isFind 6 = .ok (.iconst 1, 1) := by decide +kernel
theorem dX10_isFind_7 : decode cX10_isFind 7 = .ok (.isub, 1) := by decide +kernel
theorem dX10_isFind_8 : decode cX10_isFind 8 = .ok (.invokestatic 109, 3) := by decide +kernel
theorem dX10_isFind_11 : decode cX10_isFind 11 = .ok (.ireturn, 1) := by decide +kernel
set_option maxRecDepth 20000 in
theorem ggX10_isPerson_X10_in : GoodIn wsX10_isPerson wsX10_in := goodIn_r _ [4] (by decide +kernel) (by decide +kernel)
set_option maxRecDepth 20000 in
theorem gX10_isPerson_X10_in : GoodIn wsX10_isPerson (va_wsS RX10 109 yX10_in wsX10_in) := goodIn_app (goodIn_of _ (by decide +kernel)) ggX10_isPerson_X10_in
theorem dX10_isPerson_0 : decode cX10_isPerson 0 = .ok (.iload_n 0, 1) := by decide +kernel
theorem dX10_isPerson_1 : decode cX10_isPerson 1 = .ok (.iconst 0, 1) := by decide +kernel
theorem dX10_isPerson_2 : decode cX10_isPerson 2 = .ok (.bipush 29, 2) := by decide +kernel
theorem dX10_isPerson_4 : decode cX10_isPerson 4 = .ok (.invokestatic 109, 3) := by decide +kernel
theorem dX10_isPerson_7 : decode cX10_isPerson 7 = .ok (.ireturn, 1) := by decide +kernel
theorem dX10_yearOf_0 : decode cX10_yearOf 0 = .ok (.sipush 1950, 3) := by decide +kernel
theorem dX10_yearOf_3 : decode cX10_yearOf 3 = .ok (.iload_n 0, 1) := by decide +kernel
theorem dX10_yearOf_4 : decode cX10_yearOf 4 = .ok (.sipush 365, 3) := by decide +kernel
theorem dX10_yearOf_7 : decode cX10_yearOf 7 = .ok (.idiv, 1) := by decide +kernel
theorem dX10_yearOf_8 : decode cX10_yearOf 8 = .ok (.iadd, 1) := by decide +kernel
theorem dX10_yearOf_9 : decode cX10_yearOf 9 = .ok (.ireturn, 1) := by decide +kernel
set_option maxRecDepth 20000 in
theorem ggX10_go_X10_in : GoodIn wsX10_go wsX10_in := goodIn_r _ [5] (by decide +kernel) (by decide +kernel)
set_option maxRecDepth 20000 in
theorem gX10_go_X10_in : GoodIn wsX10_go (va_wsS RX10 109 yX10_in wsX10_in) := goodIn_app (goodIn_of _ (by decide +kernel)) ggX10_go_X10_in
theorem dX10_go_0 : decode cX10_go 0 = .ok (.iload_n 1, 1) := by decide +kernel
theorem dX10_go_1 : decode cX10_go 1 = .ok (.iconst 0, 1) := by decide +kernel
theorem dX10_go_2 : decode cX10_go 2 = .ok (.sipush 20000, 3) := by decide +kernel
theorem dX10_go_5 : decode cX10_go 5 = .ok (.invokestatic 109, 3) := by decide +kernel
theorem dX10_go_8 : decode cX10_go 8 = .ok (.ifCond .ne 5, 3) := by decide +kernel
theorem dX10_go_11 : decode cX10_go 11 = .ok (.iconst (-1), 1) := by decide +kernel
theorem dX10_go_12 : decode cX10_go 12 = .ok (.ireturn, 1) := by decide +kernel
theorem dX10_go_13 : decode cX10_go 13 = .ok (.aload_n 0, 1) := by decide +kernel
theorem dX10_go_14 : decode cX10_go 14 = .ok (.aload_n 0, 1) := by decide +kernel
theorem dX10_go_15 : decode cX10_go 15 = .ok (.getfield 113, 3) := by decide +kernel
theorem dX10_go_18 : decode cX10_go 18 = .ok (.iload_n 1, 1) := by decide +kernel
theorem dX10_go_19 : decode cX10_go 19 = .ok (.iadd, 1) := by decide +kernel
theorem dX10_go_20 : decode cX10_go 20 = .ok (.sipush 20000, 3) := by decide +kernel
theorem dX10_go_23 : decode cX10_go 23 = .ok (.if_icmp .le 9, 3) := by decide +kernel
theorem dX10_go_26 : decode cX10_go 26 = .ok (.sipush 20000, 3) := by decide +kernel
theorem dX10_go_29 : decode cX10_go 29 = .ok (.goto 9, 3) := by decide +kernel
theorem dX10_go_32 : decode cX10_go 32 = .ok (.aload_n 0, 1) := by decide +kernel
theorem dX10_go_33 : decode cX10_go 33 = .ok (.getfield 113, 3) := by decide +kernel
theorem dX10_go_36 : decode cX10_go 36 = .ok (.iload_n 1, 1) := by decide +kernel
theorem dX10_go_37 : decode cX10_go 37 = .ok (.iadd, 1) := by decide +kernel
theorem dX10_go_38 : decode cX10_go 38 = .ok (.putfield 113, 3) := by decide +kernel
theorem dX10_go_41 : decode cX10_go 41 = .ok (.aload_n 0, 1) := by decide +kernel
theorem dX10_go_42 : decode cX10_go 42 = .ok (.getfield 113, 3) := by decide +kernel
theorem dX10_go_45 : decode cX10_go 45 = .ok (.ireturn, 1) := by decide +kernel
set_option maxRecDepth 20000 in
theorem ggX10_law_X10_in : GoodIn wsX10_law wsX10_in := goodIn_r _ [11] (by decide +kernel) (by decide +kernel)
set_option maxRecDepth 20000 in
theorem gX10_law_X10_in : GoodIn wsX10_law (va_wsS RX10 109 yX10_in wsX10_in) := goodIn_app (goodIn_of _ (by decide +kernel)) ggX10_law_X10_in
theorem dX10_law_0 : decode cX10_law 0 = .ok (.iload_n 1, 1) := by decide +kernel
theorem dX10_law_1 : decode cX10_law 1 = .ok (.iconst 0, 1) := by decide +kernel
theorem dX10_law_2 : decode cX10_law 2 = .ok (.sipush 20000, 3) := by decide +kernel
theorem dX10_law_5 : decode cX10_law 5 = .ok (.invokestatic 109, 3) := by decide +kernel
theorem dX10_law_8 : decode cX10_law 8 = .ok (.ifCond .eq 46, 3) := by decide +kernel
theorem dX10_law_11 : decode cX10_law 11 = .ok (.iload_n 2, 1) := by decide +kernel
theorem dX10_law_12 : decode cX10_law 12 = .ok (.ifCond .lt 42, 3) := by decide +kernel
theorem dX10_law_15 : decode cX10_law 15 = .ok (.iload_n 2, 1) := by decide +kernel
theorem dX10_law_16 : decode cX10_law 16 = .ok (.ldc 105, 2) := by decide +kernel
theorem dX10_law_18 : decode cX10_law 18 = .ok (.idiv, 1) := by decide +kernel
theorem dX10_law_19 : decode cX10_law 19 = .ok (.sipush 2000, 3) := by decide +kernel
theorem dX10_law_22 : decode cX10_law 22 = .ok (.if_icmp .gt 32, 3) := by decide +kernel
theorem dX10_law_25 : decode cX10_law 25 = .ok (.iload_n 2, 1) := by decide +kernel
theorem dX10_law_26 : decode cX10_law 26 = .ok (.sipush 1000, 3) := by decide +kernel
theorem dX10_law_29 : decode cX10_law 29 = .ok (.irem, 1) := by decide +kernel
theorem dX10_law_30 : decode cX10_law 30 = .ok (.bipush 100, 2) := by decide +kernel
theorem dX10_law_32 : decode cX10_law 32 = .ok (.if_icmp .gt 22, 3) := by decide +kernel
theorem dX10_law_35 : decode cX10_law 35 = .ok (.iload_n 3, 1) := by decide +kernel
theorem dX10_law_36 : decode cX10_law 36 = .ok (.iconst 1, 1) := by decide +kernel
theorem dX10_law_37 : decode cX10_law 37 = .ok (.bipush 50, 2) := by decide +kernel
theorem dX10_law_39 : decode cX10_law 39 = .ok (.invokestatic 109, 3) := by decide +kernel
theorem dX10_law_42 : decode cX10_law 42 = .ok (.ifCond .eq 12, 3) := by decide +kernel
theorem dX10_law_45 : decode cX10_law 45 = .ok (.aload_n 0, 1) := by decide +kernel
theorem dX10_law_46 : decode cX10_law 46 = .ok (.getfield 116, 3) := by decide +kernel
theorem dX10_law_49 : decode cX10_law 49 = .ok (.bipush 20, 2) := by decide +kernel
theorem dX10_law_51 : decode cX10_law 51 = .ok (.if_icmp .ne 5, 3) := by decide +kernel
theorem dX10_law_54 : decode cX10_law 54 = .ok (.iconst (-1), 1) := by decide +kernel
theorem dX10_law_55 : decode cX10_law 55 = .ok (.ireturn, 1) := by decide +kernel
theorem dX10_law_56 : decode cX10_law 56 = .ok (.aload_n 0, 1) := by decide +kernel
theorem dX10_law_57 : decode cX10_law 57 = .ok (.getfield 46, 3) := by decide +kernel
theorem dX10_law_60 : decode cX10_law 60 = .ok (.aload_n 0, 1) := by decide +kernel
theorem dX10_law_61 : decode cX10_law 61 = .ok (.getfield 116, 3) := by decide +kernel
theorem dX10_law_64 : decode cX10_law 64 = .ok (.iload_n 1, 1) := by decide +kernel
theorem dX10_law_65 : decode cX10_law 65 = .ok (.iastore, 1) := by decide +kernel
theorem dX10_law_66 : decode cX10_law 66 = .ok (.aload_n 0, 1) := by decide +kernel
theorem dX10_law_67 : decode cX10_law 67 = .ok (.getfield 49, 3) := by decide +kernel
theorem dX10_law_70 : decode cX10_law 70 = .ok (.aload_n 0, 1) := by decide +kernel
theorem dX10_law_71 : decode cX10_law 71 = .ok (.getfield 116, 3) := by decide +kernel
theorem dX10_law_74 : decode cX10_law 74 = .ok (.iload_n 2, 1) := by decide +kernel
theorem dX10_law_75 : decode cX10_law 75 = .ok (.ldc 105, 2) := by decide +kernel
theorem dX10_law_77 : decode cX10_law 77 = .ok (.idiv, 1) := by decide +kernel
theorem dX10_law_78 : decode cX10_law 78 = .ok (.iastore, 1) := by decide +kernel
theorem dX10_law_79 : decode cX10_law 79 = .ok (.aload_n 0, 1) := by decide +kernel
theorem dX10_law_80 : decode cX10_law 80 = .ok (.getfield 52, 3) := by decide +kernel
theorem dX10_law_83 : decode cX10_law 83 = .ok (.aload_n 0, 1) := by decide +kernel
theorem dX10_law_84 : decode cX10_law 84 = .ok (.getfield 116, 3) := by decide +kernel
theorem dX10_law_87 : decode cX10_law 87 = .ok (.iload_n 2, 1) := by decide +kernel
theorem dX10_law_88 : decode cX10_law 88 = .ok (.sipush 1000, 3) := by decide +kernel
theorem dX10_law_91 : decode cX10_law 91 = .ok (.idiv, 1) := by decide +kernel
theorem dX10_law_92 : decode cX10_law 92 = .ok (.sipush 1000, 3) := by decide +kernel
theorem dX10_law_95 : decode cX10_law 95 = .ok (.irem, 1) := by decide +kernel
theorem dX10_law_96 : decode cX10_law 96 = .ok (.iastore, 1) := by decide +kernel
theorem dX10_law_97 : decode cX10_law 97 = .ok (.aload_n 0, 1) := by decide +kernel
theorem dX10_law_98 : decode cX10_law 98 = .ok (.getfield 55, 3) := by decide +kernel
theorem dX10_law_101 : decode cX10_law 101 = .ok (.aload_n 0, 1) := by decide +kernel
theorem dX10_law_102 : decode cX10_law 102 = .ok (.getfield 116, 3) := by decide +kernel
theorem dX10_law_105 : decode cX10_law 105 = .ok (.iload_n 2, 1) := by decide +kernel
theorem dX10_law_106 : decode cX10_law 106 = .ok (.sipush 1000, 3) := by decide +kernel
theorem dX10_law_109 : decode cX10_law 109 = .ok (.irem, 1) := by decide +kernel
theorem dX10_law_110 : decode cX10_law 110 = .ok (.iastore, 1) := by decide +kernel
theorem dX10_law_111 : decode cX10_law 111 = .ok (.aload_n 0, 1) := by decide +kernel
theorem dX10_law_112 : decode cX10_law 112 = .ok (.getfield 58, 3) := by decide +kernel
theorem dX10_law_115 : decode cX10_law 115 = .ok (.aload_n 0, 1) := by decide +kernel
theorem dX10_law_116 : decode cX10_law 116 = .ok (.getfield 116, 3) := by decide +kernel
theorem dX10_law_119 : decode cX10_law 119 = .ok (.iload_n 3, 1) := by decide +kernel
theorem dX10_law_120 : decode cX10_law 120 = .ok (.iastore, 1) := by decide +kernel
theorem dX10_law_121 : decode cX10_law 121 = .ok (.aload_n 0, 1) := by decide +kernel
theorem dX10_law_122 : decode cX10_law 122 = .ok (.dup, 1) := by decide +kernel
theorem dX10_law_123 : decode cX10_law 123 = .ok (.getfield 116, 3) := by decide +kernel
theorem dX10_law_126 : decode cX10_law 126 = .ok (.iconst 1, 1) := by decide +kernel
theorem dX10_law_127 : decode cX10_law 127 = .ok (.iadd, 1) := by decide +kernel
theorem dX10_law_128 : decode cX10_law 128 = .ok (.putfield 116, 3) := by decide +kernel
theorem dX10_law_131 : decode cX10_law 131 = .ok (.aload_n 0, 1) := by decide +kernel
theorem dX10_law_132 : decode cX10_law 132 = .ok (.getfield 116, 3) := by decide +kernel
theorem dX10_law_135 : decode cX10_law 135 = .ok (.ireturn, 1) := by decide +kernel
set_option maxRecDepth 20000 in
theorem ggX10_owner_X10_in : GoodIn wsX10_owner wsX10_in := goodIn_r _ [8] (by decide +kernel) (by decide +kernel)
set_option maxRecDepth 20000 in
theorem gX10_owner_X10_in : GoodIn wsX10_owner (va_wsS RX10 109 yX10_in wsX10_in) := goodIn_app (goodIn_of _ (by decide +kernel)) ggX10_owner_X10_in
set_option maxRecDepth 20000 in
theorem ggX10_owner_X10_isPerson : GoodIn wsX10_owner wsX10_isPerson := goodIn_r _ [11, 5, 6, 7, 8] (by decide +kernel) (by decide +kernel)
set_option maxRecDepth 20000 in
theorem gX10_owner_X10_isPerson : GoodIn wsX10_owner (va_wsS RX10 119 yX10_isPerson wsX10_isPerson) := goodIn_app (goodIn_of _ (by decide +kernel)) ggX10_owner_X10_isPerson
theorem dX10_owner_0 : decode cX10_owner 0 = .ok (.iload_n 1, 1) := by decide +kernel
theorem dX10_owner_1 : decode cX10_owner 1 = .ok (.iconst 0, 1) := by decide +kernel
theorem dX10_owner_2 : decode cX10_owner 2 = .ok (.bipush 99, 2) := by decide +kernel
theorem dX10_owner_4 : decode cX10_owner 4 = .ok (.invokestatic 109, 3) := by decide +kernel
theorem dX10_owner_7 : decode cX10_owner 7 = .ok (.ifCond .eq 30, 3) := by decide +kernel
theorem dX10_owner_10 : decode cX10_owner 10 = .ok (.iload_n 2, 1) := by decide +kernel
theorem dX10_owner_11 : decode cX10_owner 11 = .ok (.iconst 0, 1) := by decide +kernel
theorem dX10_owner_12 : decode cX10_owner 12 = .ok (.sipush 20000, 3) := by decide +kernel
theorem dX10_owner_15 : decode cX10_owner 15 = .ok (.invokestatic 109, 3) := by decide +kernel
theorem dX10_owner_18 : decode cX10_owner 18 = .ok (.ifCond .eq 19, 3) := by decide +kernel
theorem dX10_owner_21 : decode cX10_owner 21 = .ok (.iload_n 3, 1) := by decide +kernel
theorem dX10_owner_22 : decode cX10_owner 22 = .ok (.invokestatic 119, 3) := by decide +kernel
theorem dX10_owner_25 : decode cX10_owner 25 = .ok (.ifCond .eq 12, 3) := by decide +kernel
theorem dX10_owner_28 : decode cX10_owner 28 = .ok (.aload_n 0, 1) := by decide +kernel
theorem dX10_owner_29 : decode cX10_owner 29 = .ok (.getfield 123, 3) := by decide +kernel
theorem dX10_owner_32 : decode cX10_owner 32 = .ok (.bipush 100, 2) := by decide +kernel
theorem dX10_owner_34 : decode cX10_owner 34 = .ok (.if_icmp .ne 5, 3) := by decide +kernel
theorem dX10_owner_37 : decode cX10_owner 37 = .ok (.iconst 0, 1) := by decide +kernel
theorem dX10_owner_38 : decode cX10_owner 38 = .ok (.ireturn, 1) := by decide +kernel
theorem dX10_owner_39 : decode cX10_owner 39 = .ok (.aload_n 0, 1) := by decide +kernel
theorem dX10_owner_40 : decode cX10_owner 40 = .ok (.getfield 61, 3) := by decide +kernel
theorem dX10_owner_43 : decode cX10_owner 43 = .ok (.aload_n 0, 1) := by decide +kernel
theorem dX10_owner_44 : decode cX10_owner 44 = .ok (.getfield 123, 3) := by decide +kernel
theorem dX10_owner_47 : decode cX10_owner 47 = .ok (.iload_n 1, 1) := by decide +kernel
theorem dX10_owner_48 : decode cX10_owner 48 = .ok (.iastore, 1) := by decide +kernel
theorem dX10_owner_49 : decode cX10_owner 49 = .ok (.aload_n 0, 1) := by decide +kernel
theorem dX10_owner_50 : decode cX10_owner 50 = .ok (.getfield 64, 3) := by decide +kernel
theorem dX10_owner_53 : decode cX10_owner 53 = .ok (.aload_n 0, 1) := by decide +kernel
theorem dX10_owner_54 : decode cX10_owner 54 = .ok (.getfield 123, 3) := by decide +kernel
theorem dX10_owner_57 : decode cX10_owner 57 = .ok (.iload_n 2, 1) := by decide +kernel
theorem dX10_owner_58 : decode cX10_owner 58 = .ok (.iastore, 1) := by decide +kernel
theorem dX10_owner_59 : decode cX10_owner 59 = .ok (.aload_n 0, 1) := by decide +kernel
theorem dX10_owner_60 : decode cX10_owner 60 = .ok (.getfield 67, 3) := by decide +kernel
theorem dX10_owner_63 : decode cX10_owner 63 = .ok (.aload_n 0, 1) := by decide +kernel
theorem dX10_owner_64 : decode cX10_owner 64 = .ok (.getfield 123, 3) := by decide +kernel
theorem dX10_owner_67 : decode cX10_owner 67 = .ok (.iload_n 3, 1) := by decide +kernel
theorem dX10_owner_68 : decode cX10_owner 68 = .ok (.iastore, 1) := by decide +kernel
theorem dX10_owner_69 : decode cX10_owner 69 = .ok (.aload_n 0, 1) := by decide +kernel
theorem dX10_owner_70 : decode cX10_owner 70 = .ok (.dup, 1) := by decide +kernel
theorem dX10_owner_71 : decode cX10_owner 71 = .ok (.getfield 123, 3) := by decide +kernel
theorem dX10_owner_74 : decode cX10_owner 74 = .ok (.iconst 1, 1) := by decide +kernel
theorem dX10_owner_75 : decode cX10_owner 75 = .ok (.iadd, 1) := by decide +kernel
theorem dX10_owner_76 : decode cX10_owner 76 = .ok (.putfield 123, 3) := by decide +kernel
theorem dX10_owner_79 : decode cX10_owner 79 = .ok (.iconst 1, 1) := by decide +kernel
theorem dX10_owner_80 : decode cX10_owner 80 = .ok (.ireturn, 1) := by decide +kernel
set_option maxRecDepth 20000 in
theorem ggX10_find_X10_in : GoodIn wsX10_find wsX10_in := goodIn_r _ [19] (by decide +kernel) (by decide +kernel)
set_option maxRecDepth 20000 in
theorem gX10_find_X10_in : GoodIn wsX10_find (va_wsS RX10 109 yX10_in wsX10_in) := goodIn_app (goodIn_of _ (by decide +kernel)) ggX10_find_X10_in
set_option maxRecDepth 20000 in
theorem ggX10_find_X10_isPerson : GoodIn wsX10_find wsX10_isPerson := goodIn_r _ [22, 16, 17, 18, 19] (by decide +kernel) (by decide +kernel)
set_option maxRecDepth 20000 in
theorem gX10_find_X10_isPerson : GoodIn wsX10_find (va_wsS RX10 119 yX10_isPerson wsX10_isPerson) := goodIn_app (goodIn_of _ (by decide +kernel)) ggX10_find_X10_isPerson
theorem dX10_find_0 : decode cX10_find 0 = .ok (.iload_n 1, 1) := by decide +kernel
theorem dX10_find_1 : decode cX10_find 1 = .ok (.ifCond .lt 22, 3) := by decide +kernel
theorem dX10_find_4 : decode cX10_find 4 = .ok (.iload_n 2, 1) := by decide +kernel
theorem dX10_find_5 : decode cX10_find 5 = .ok (.ifCond .lt 18, 3) := by decide +kernel
theorem dX10_find_8 : decode cX10_find 8 = .ok (.iload_n 3, 1) := by decide +kernel
theorem dX10_find_9 : decode cX10_find 9 = .ok (.ifCond .lt 14, 3) := by decide +kernel
theorem dX10_find_12 : decode cX10_find 12 = .ok (.iload 4, 2) := by decide +kernel
theorem dX10_find_14 : decode cX10_find 14 = .ok (.ifCond .lt 9, 3) := by decide +kernel
theorem dX10_find_17 : decode cX10_find 17 = .ok (.iload_n 1, 1) := by decide +kernel
theorem dX10_find_18 : decode cX10_find 18 = .ok (.ldc 105, 2) := by decide +kernel
theorem dX10_find_20 : decode cX10_find 20 = .ok (.if_icmp .lt 5, 3) := by decide +kernel
theorem dX10_find_23 : decode cX10_find 23 = .ok (.iconst (-1), 1) := by decide +kernel
theorem dX10_find_24 : decode cX10_find 24 = .ok (.ireturn, 1) := by decide +kernel
theorem dX10_find_25 : decode cX10_find 25 = .ok (.iload_n 2, 1) := by decide +kernel
theorem dX10_find_26 : decode cX10_find 26 = .ok (.sipush 10000, 3) := by decide +kernel
theorem dX10_find_29 : decode cX10_find 29 = .ok (.irem, 1) := by decide +kernel
theorem dX10_find_30 : decode cX10_find 30 = .ok (.ifCond .ne 9, 3) := by decide +kernel
theorem dX10_find_33 : decode cX10_find 33 = .ok (.sipush 10000, 3) := by decide +kernel
theorem dX10_find_36 : decode cX10_find 36 = .ok (.goto 8, 3) := by decide +kernel
theorem dX10_find_39 : decode cX10_find 39 = .ok (.iload_n 2, 1) := by decide +kernel
theorem dX10_find_40 : decode cX10_find 40 = .ok (.sipush 10000, 3) := by decide +kernel
theorem dX10_find_43 : decode cX10_find 43 = .ok (.irem, 1) := by decide +kernel
theorem dX10_find_44 : decode cX10_find 44 = .ok (.istore 5, 2) := by decide +kernel
theorem dX10_find_46 : decode cX10_find 46 = .ok (.iload_n 2, 1) := by decide +kernel
theorem dX10_find_47 : decode cX10_find 47 = .ok (.sipush 10000, 3) := by decide +kernel
theorem dX10_find_50 : decode cX10_find 50 = .ok (.idiv, 1) := by decide +kernel
theorem dX10_find_51 : decode cX10_find 51 = .ok (.sipush 10000, 3) := by decide +kernel
theorem dX10_find_54 : decode cX10_find 54 = .ok (.irem, 1) := by decide +kernel
theorem dX10_find_55 : decode cX10_find 55 = .ok (.istore 6, 2) := by decide +kernel
theorem dX10_find_57 : decode cX10_find 57 = .ok (.iload_n 2, 1) := by decide +kernel
theorem dX10_find_58 : decode cX10_find 58 = .ok (.ldc 126, 2) := by decide +kernel
theorem dX10_find_60 : decode cX10_find 60 = .ok (.idiv, 1) := by decide +kernel
theorem dX10_find_61 : decode cX10_find 61 = .ok (.istore 7, 2) := by decide +kernel
theorem dX10_find_63 : decode cX10_find 63 = .ok (.iload_n 3, 1) := by decide +kernel
theorem dX10_find_64 : decode cX10_find 64 = .ok (.sipush 10000, 3) := by decide +kernel
theorem dX10_find_67 : decode cX10_find 67 = .ok (.idiv, 1) := by decide +kernel
theorem dX10_find_68 : decode cX10_find 68 = .ok (.istore 8, 2) := by decide +kernel
theorem dX10_find_70 : decode cX10_find 70 = .ok (.iload_n 3, 1) := by decide +kernel
theorem dX10_find_71 : decode cX10_find 71 = .ok (.sipush 10000, 3) := by decide +kernel
theorem dX10_find_74 : decode cX10_find 74 = .ok (.irem, 1) := by decide +kernel
theorem dX10_find_75 : decode cX10_find 75 = .ok (.istore 9, 2) := by decide +kernel
theorem dX10_find_77 : decode cX10_find 77 = .ok (.iload 7, 2) := by decide +kernel
theorem dX10_find_79 : decode cX10_find 79 = .ok (.iconst 2, 1) := by decide +kernel
theorem dX10_find_80 : decode cX10_find 80 = .ok (.if_icmp .gt 64, 3) := by decide +kernel
theorem dX10_find_83 : decode cX10_find 83 = .ok (.iload 6, 2) := by decide +kernel
theorem dX10_find_85 : decode cX10_find 85 = .ok (.sipush 1000, 3) := by decide +kernel
theorem dX10_find_88 : decode cX10_find 88 = .ok (.if_icmp .gt 56, 3) := by decide +kernel
theorem dX10_find_91 : decode cX10_find 91 = .ok (.iload 8, 2) := by decide +kernel
theorem dX10_find_93 : decode cX10_find 93 = .ok (.sipush 5000, 3) := by decide +kernel
theorem dX10_find_96 : decode cX10_find 96 = .ok (.if_icmp .gt 48, 3) := by decide +kernel
theorem dX10_find_99 : decode cX10_find 99 = .ok (.iload 9, 2) := by decide +kernel
theorem dX10_find_101 : decode cX10_find 101 = .ok (.iload 8, 2) := by decide +kernel
theorem dX10_find_103 : decode cX10_find 103 = .ok (.sipush 5000, 3) := by decide +kernel
theorem dX10_find_106 : decode cX10_find 106 = .ok (.invokestatic 109, 3) := by decide +kernel
theorem dX10_find_109 : decode cX10_find 109 = .ok (.ifCond .eq 35, 3) := by decide +kernel
theorem dX10_find_112 : decode cX10_find 112 = .ok (.iload 4, 2) := by decide +kernel
theorem dX10_find_114 : decode cX10_find 114 = .ok (.bipush 100, 2) := by decide +kernel
theorem dX10_find_116 : decode cX10_find 116 = .ok (.irem, 1) := by decide +kernel
theorem dX10_find_117 : decode cX10_find 117 = .ok (.invokestatic 119, 3) := by decide +kernel
theorem dX10_find_120 : decode cX10_find 120 = .ok (.ifCond .eq 24, 3) := by decide +kernel
theorem dX10_find_123 : decode cX10_find 123 = .ok (.iload 4, 2) := by decide +kernel
theorem dX10_find_125 : decode cX10_find 125 = .ok (.bipush 100, 2) := by decide +kernel
theorem dX10_find_127 : decode cX10_find 127 = .ok (.idiv, 1) := by decide +kernel
theorem dX10_find_128 : decode cX10_find 128 = .ok (.aload_n 0, 1) := by decide +kernel
theorem dX10_find_129 : decode cX10_find 129 = .ok (.getfield 113, 3) := by decide +kernel
theorem dX10_find_132 : decode cX10_find 132 = .ok (.if_icmp .gt 12, 3) := by decide +kernel
theorem dX10_find_135 : decode cX10_find 135 = .ok (.aload_n 0, 1) := by decide +kernel
theorem dX10_find_136 : decode cX10_find 136 = .ok (.getfield 106, 3) := by decide +kernel
theorem dX10_find_139 : decode cX10_find 139 = .ok (.bipush 50, 2) := by decide +kernel
theorem dX10_find_141 : decode cX10_find 141 = .ok (.if_icmp .ne 5, 3) := by decide +kernel
theorem dX10_find_144 : decode cX10_find 144 = .ok (.iconst (-1), 1) := by decide +kernel
theorem dX10_find_145 : decode cX10_find 145 = .ok (.ireturn, 1) := by decide +kernel
theorem dX10_find_146 : decode cX10_find 146 = .ok (.aload_n 0, 1) := by decide +kernel
theorem dX10_find_147 : decode cX10_find 147 = .ok (.getfield 9, 3) := by decide +kernel
theorem dX10_find_150 : decode cX10_find 150 = .ok (.aload_n 0, 1) := by decide +kernel
theorem dX10_find_151 : decode cX10_find 151 = .ok (.getfield 106, 3) := by decide +kernel
theorem dX10_find_154 : decode cX10_find 154 = .ok (.iload_n 1, 1) := by decide +kernel
theorem dX10_find_155 : decode cX10_find 155 = .ok (.sipush 1000, 3) := by decide +kernel
theorem dX10_find_158 : decode cX10_find 158 = .ok (.idiv, 1) := by decide +kernel
theorem dX10_find_159 : decode cX10_find 159 = .ok (.iastore, 1) := by decide +kernel
theorem dX10_find_160 : decode cX10_find 160 = .ok (.aload_n 0, 1) := by decide +kernel
theorem dX10_find_161 : decode cX10_find 161 = .ok (.getfield 13, 3) := by decide +kernel
theorem dX10_find_164 : decode cX10_find 164 = .ok (.aload_n 0, 1) := by decide +kernel
theorem dX10_find_165 : decode cX10_find 165 = .ok (.getfield 106, 3) := by decide +kernel
theorem dX10_find_168 : decode cX10_find 168 = .ok (.iload_n 1, 1) := by decide +kernel
theorem dX10_find_169 : decode cX10_find 169 = .ok (.sipush 1000, 3) := by decide +kernel
theorem dX10_find_172 : decode cX10_find 172 = .ok (.irem, 1) := by decide +kernel
theorem dX10_find_173 : decode cX10_find 173 = .ok (.iastore, 1) := by decide +kernel
theorem dX10_find_174 : decode cX10_find 174 = .ok (.aload_n 0, 1) := by decide +kernel
theorem dX10_find_175 : decode cX10_find 175 = .ok (.getfield 16, 3) := by decide +kernel
theorem dX10_find_178 : decode cX10_find 178 = .ok (.aload_n 0, 1) := by decide +kernel
theorem dX10_find_179 : decode cX10_find 179 = .ok (.getfield 106, 3) := by decide +kernel
theorem dX10_find_182 : decode cX10_find 182 = .ok (.iload 7, 2) := by decide +kernel
theorem dX10_find_184 : decode cX10_find 184 = .ok (.iastore, 1) := by decide +kernel
theorem dX10_find_185 : decode cX10_find 185 = .ok (.aload_n 0, 1) := by decide +kernel
theorem dX10_find_186 : decode cX10_find 186 = .ok (.getfield 19, 3) := by decide +kernel
theorem dX10_find_189 : decode cX10_find 189 = .ok (.aload_n 0, 1) := by decide +kernel
theorem dX10_find_190 : decode cX10_find 190 = .ok (.getfield 106, 3) := by decide +kernel
theorem dX10_find_193 : decode cX10_find 193 = .ok (.iload 6, 2) := by decide +kernel
theorem dX10_find_195 : decode cX10_find 195 = .ok (.iastore, 1) := by decide +kernel
theorem dX10_find_196 : decode cX10_find 196 = .ok (.aload_n 0, 1) := by decide +kernel
theorem dX10_find_197 : decode cX10_find 197 = .ok (.getfield 22, 3) := by decide +kernel
theorem dX10_find_200 : decode cX10_find 200 = .ok (.aload_n 0, 1) := by decide +kernel
theorem dX10_find_201 : decode cX10_find 201 = .ok (.getfield 106, 3) := by decide +kernel
theorem dX10_find_204 : decode cX10_find 204 = .ok (.iload 5, 2) := by decide +kernel
theorem dX10_find_206 : decode cX10_find 206 = .ok (.iastore, 1) := by decide +kernel
theorem dX10_find_207 : decode cX10_find 207 = .ok (.aload_n 0, 1) := by decide +kernel
theorem dX10_find_208 : decode cX10_find 208 = .ok (.getfield 25, 3) := by decide +kernel
theorem dX10_find_211 : decode cX10_find 211 = .ok (.aload_n 0, 1) := by decide +kernel
theorem dX10_find_212 : decode cX10_find 212 = .ok (.getfield 106, 3) := by decide +kernel
theorem dX10_find_215 : decode cX10_find 215 = .ok (.iload 8, 2) := by decide +kernel
theorem dX10_find_217 : decode cX10_find 217 = .ok (.sipush 3000, 3) := by decide +kernel
theorem dX10_find_220 : decode cX10_find 220 = .ok (.isub, 1) := by decide +kernel
theorem dX10_find_221 : decode cX10_find 221 = .ok (.iastore, 1) := by decide +kernel
theorem dX10_find_222 : decode cX10_find 222 = .ok (.aload_n 0, 1) := by decide +kernel
theorem dX10_find_223 : decode cX10_find 223 = .ok (.getfield 28, 3) := by decide +kernel
theorem dX10_find_226 : decode cX10_find 226 = .ok (.aload_n 0, 1) := by decide +kernel
theorem dX10_find_227 : decode cX10_find 227 = .ok (.getfield 106, 3) := by decide +kernel
theorem dX10_find_230 : decode cX10_find 230 = .ok (.iload 9, 2) := by decide +kernel
theorem dX10_find_232 : decode cX10_find 232 = .ok (.sipush 3000, 3) := by decide +kernel
theorem dX10_find_235 : decode cX10_find 235 = .ok (.isub, 1) := by decide +kernel
theorem dX10_find_236 : decode cX10_find 236 = .ok (.iastore, 1) := by decide +kernel
theorem dX10_find_237 : decode cX10_find 237 = .ok (.aload_n 0, 1) := by decide +kernel
theorem dX10_find_238 : decode cX10_find 238 = .ok (.getfield 31, 3) := by decide +kernel
theorem dX10_find_241 : decode cX10_find 241 = .ok (.aload_n 0, 1) := by decide +kernel
theorem dX10_find_242 : decode cX10_find 242 = .ok (.getfield 106, 3) := by decide +kernel
theorem dX10_find_245 : decode cX10_find 245 = .ok (.iload 4, 2) := by decide +kernel
theorem dX10_find_247 : decode cX10_find 247 = .ok (.bipush 100, 2) := by decide +kernel
theorem dX10_find_249 : decode cX10_find 249 = .ok (.irem, 1) := by decide +kernel
theorem dX10_find_250 : decode cX10_find 250 = .ok (.iastore, 1) := by decide +kernel
theorem dX10_find_251 : decode cX10_find 251 = .ok (.aload_n 0, 1) := by decide +kernel
theorem dX10_find_252 : decode cX10_find 252 = .ok (.getfield 34, 3) := by decide +kernel
theorem dX10_find_255 : decode cX10_find 255 = .ok (.aload_n 0, 1) := by decide +kernel
theorem dX10_find_256 : decode cX10_find 256 = .ok (.getfield 106, 3) := by decide +kernel
theorem dX10_find_259 : decode cX10_find 259 = .ok (.iload 4, 2) := by decide +kernel
theorem dX10_find_261 : decode cX10_find 261 = .ok (.bipush 100, 2) := by decide +kernel
theorem dX10_find_263 : decode cX10_find 263 = .ok (.idiv, 1) := by decide +kernel
theorem dX10_find_264 : decode cX10_find 264 = .ok (.iastore, 1) := by decide +kernel
theorem dX10_find_265 : decode cX10_find 265 = .ok (.aload_n 0, 1) := by decide +kernel
theorem dX10_find_266 : decode cX10_find 266 = .ok (.getfield 37, 3) := by decide +kernel
theorem dX10_find_269 : decode cX10_find 269 = .ok (.aload_n 0, 1) := by decide +kernel
theorem dX10_find_270 : decode cX10_find 270 = .ok (.getfield 106, 3) := by decide +kernel
theorem dX10_find_273 : decode cX10_find 273 = .ok (.aload_n 0, 1) := by decide +kernel
theorem dX10_find_274 : decode cX10_find 274 = .ok (.getfield 113, 3) := by decide +kernel
theorem dX10_find_277 : decode cX10_find 277 = .ok (.iastore, 1) := by decide +kernel
theorem dX10_find_278 : decode cX10_find 278 = .ok (.aload_n 0, 1) := by decide +kernel
theorem dX10_find_279 : decode cX10_find 279 = .ok (.getfield 40, 3) := by decide +kernel
theorem dX10_find_282 : decode cX10_find 282 = .ok (.aload_n 0, 1) := by decide +kernel
theorem dX10_find_283 : decode cX10_find 283 = .ok (.getfield 106, 3) := by decide +kernel
theorem dX10_find_286 : decode cX10_find 286 = .ok (.iconst (-1), 1) := by decide +kernel
theorem dX10_find_287 : decode cX10_find 287 = .ok (.iastore, 1) := by decide +kernel
theorem dX10_find_288 : decode cX10_find 288 = .ok (.aload_n 0, 1) := by decide +kernel
theorem dX10_find_289 : decode cX10_find 289 = .ok (.dup, 1) := by decide +kernel
theorem dX10_find_290 : decode cX10_find 290 = .ok (.getfield 106, 3) := by decide +kernel
theorem dX10_find_293 : decode cX10_find 293 = .ok (.iconst 1, 1) := by decide +kernel
theorem dX10_find_294 : decode cX10_find 294 = .ok (.iadd, 1) := by decide +kernel
theorem dX10_find_295 : decode cX10_find 295 = .ok (.putfield 106, 3) := by decide +kernel
theorem dX10_find_298 : decode cX10_find 298 = .ok (.aload_n 0, 1) := by decide +kernel
theorem dX10_find_299 : decode cX10_find 299 = .ok (.getfield 106, 3) := by decide +kernel
theorem dX10_find_302 : decode cX10_find 302 = .ok (.iconst 1, 1) := by decide +kernel
theorem dX10_find_303 : decode cX10_find 303 = .ok (.isub, 1) := by decide +kernel
theorem dX10_find_304 : decode cX10_find 304 = .ok (.ireturn, 1) := by decide +kernel
set_option maxRecDepth 20000 in
theorem ggX10_part_X10_isFind : GoodIn wsX10_part wsX10_isFind := goodIn_r _ [9, 10, 11, 12, 8, 13, 14, 15, 16, 17, 18, 19, 20, 21, 22, 23, 24, 25, 26, 27, 28, 29, 30, 31, 32, 33, 34, 35, 36, 37, 38, 39, 40, 41, 42, 43, 44, 45, 46, 47, 48, 49, 50, 51] (by decide +kernel) (by decide +kernel)
set_option maxRecDepth 20000 in
theorem gX10_part_X10_isFind : GoodIn wsX10_part (wsV RX10 127 RX10 yX10_isFind wsX10_isFind) := goodIn_app (goodIn_of _ (by decide +kernel)) ggX10_part_X10_isFind
theorem dX10_part_0 : decode cX10_part 0 = .ok (.aload_n 0, 1) := by decide +kernel
theorem dX10_part_1 : decode cX10_part 1 = .ok (.iload_n 1, 1) := by decide +kernel
theorem dX10_part_2 : decode cX10_part 2 = .ok (.invokevirtual 127, 3) := by decide +kernel
theorem dX10_part_5 : decode cX10_part 5 = .ok (.ifCond .eq 32, 3) := by decide +kernel
theorem dX10_part_8 : decode cX10_part 8 = .ok (.aload_n 0, 1) := by decide +kernel
theorem dX10_part_9 : decode cX10_part 9 = .ok (.iload_n 2, 1) := by decide +kernel
theorem dX10_part_10 : decode cX10_part 10 = .ok (.invokevirtual 127, 3) := by decide +kernel
theorem dX10_part_13 : decode cX10_part 13 = .ok (.ifCond .eq 24, 3) := by decide +kernel
theorem dX10_part_16 : decode cX10_part 16 = .ok (.iload_n 1, 1) := by decide +kernel
theorem dX10_part_17 : decode cX10_part 17 = .ok (.iload_n 2, 1) := by decide +kernel
theorem dX10_part_18 : decode cX10_part 18 = .ok (.if_icmp .eq 19, 3) := by decide +kernel
theorem dX10_part_21 : decode cX10_part 21 = .ok (.aload_n 0, 1) := by decide +kernel
theorem dX10_part_22 : decode cX10_part 22 = .ok (.getfield 43, 3) := by decide +kernel
theorem dX10_part_25 : decode cX10_part 25 = .ok (.bipush 50, 2) := by decide +kernel
theorem dX10_part_27 : decode cX10_part 27 = .ok (.iload_n 1, 1) := by decide +kernel
theorem dX10_part_28 : decode cX10_part 28 = .ok (.imul, 1) := by decide +kernel
theorem dX10_part_29 : decode cX10_part 29 = .ok (.iload_n 2, 1) := by decide +kernel
theorem dX10_part_30 : decode cX10_part 30 = .ok (.iadd, 1) := by decide +kernel
theorem dX10_part_31 : decode cX10_part 31 = .ok (.iaload, 1) := by decide +kernel
theorem dX10_part_32 : decode cX10_part 32 = .ok (.ldc 105, 2) := by decide +kernel
theorem dX10_part_34 : decode cX10_part 34 = .ok (.if_icmp .eq 5, 3) := by decide +kernel
theorem dX10_part_37 : decode cX10_part 37 = .ok (.iconst 0, 1) := by decide +kernel
theorem dX10_part_38 : decode cX10_part 38 = .ok (.ireturn, 1) := by decide +kernel
theorem dX10_part_39 : decode cX10_part 39 = .ok (.aload_n 0, 1) := by decide +kernel
theorem dX10_part_40 : decode cX10_part 40 = .ok (.getfield 43, 3) := by decide +kernel
theorem dX10_part_43 : decode cX10_part 43 = .ok (.bipush 50, 2) := by decide +kernel
theorem dX10_part_45 : decode cX10_part 45 = .ok (.iload_n 1, 1) := by decide +kernel
theorem dX10_part_46 : decode cX10_part 46 = .ok (.imul, 1) := by decide +kernel
theorem dX10_part_47 : decode cX10_part 47 = .ok (.iload_n 2, 1) := by decide +kernel
theorem dX10_part_48 : decode cX10_part 48 = .ok (.iadd, 1) := by decide +kernel
theorem dX10_part_49 : decode cX10_part 49 = .ok (.aload_n 0, 1) := by decide +kernel
theorem dX10_part_50 : decode cX10_part 50 = .ok (.getfield 113, 3) := by decide +kernel
theorem dX10_part_53 : decode cX10_part 53 = .ok (.iastore, 1) := by decide +kernel
theorem dX10_part_54 : decode cX10_part 54 = .ok (.aload_n 0, 1) := by decide +kernel
theorem dX10_part_55 : decode cX10_part 55 = .ok (.getfield 43, 3) := by decide +kernel
theorem dX10_part_58 : decode cX10_part 58 = .ok (.bipush 50, 2) := by decide +kernel
theorem dX10_part_60 : decode cX10_part 60 = .ok (.iload_n 2, 1) := by decide +kernel
theorem dX10_part_61 : decode cX10_part 61 = .ok (.imul, 1) := by decide +kernel
theorem dX10_part_62 : decode cX10_part 62 = .ok (.iload_n 1, 1) := by decide +kernel
theorem dX10_part_63 : decode cX10_part 63 = .ok (.iadd, 1) := by decide +kernel
theorem dX10_part_64 : decode cX10_part 64 = .ok (.aload_n 0, 1) := by decide +kernel
theorem dX10_part_65 : decode cX10_part 65 = .ok (.getfield 113, 3) := by decide +kernel
theorem dX10_part_68 : decode cX10_part 68 = .ok (.iastore, 1) := by decide +kernel
theorem dX10_part_69 : decode cX10_part 69 = .ok (.aload_n 0, 1) := by decide +kernel
theorem dX10_part_70 : decode cX10_part 70 = .ok (.dup, 1) := by decide +kernel
theorem dX10_part_71 : decode cX10_part 71 = .ok (.getfield 130, 3) := by decide +kernel
theorem dX10_part_74 : decode cX10_part 74 = .ok (.iconst 1, 1) := by decide +kernel
theorem dX10_part_75 : decode cX10_part 75 = .ok (.iadd, 1) := by decide +kernel
theorem dX10_part_76 : decode cX10_part 76 = .ok (.putfield 130, 3) := by decide +kernel
theorem dX10_part_79 : decode cX10_part 79 = .ok (.iconst 1, 1) := by decide +kernel
theorem dX10_part_80 : decode cX10_part 80 = .ok (.ireturn, 1) := by decide +kernel
set_option maxRecDepth 20000 in
theorem ggX10_isJoined_X10_in : GoodIn wsX10_isJoined wsX10_in := goodIn_r _ [9] (by decide +kernel) (by decide +kernel)
set_option maxRecDepth 20000 in
theorem gX10_isJoined_X10_in : GoodIn wsX10_isJoined (va_wsS RX10 109 yX10_in wsX10_in) := goodIn_app (goodIn_of _ (by decide +kernel)) ggX10_isJoined_X10_in
theorem dX10_isJoined_0 : decode cX10_isJoined 0 = .ok (.aload_n 0, 1) := by decide +kernel
theorem dX10_isJoined_1 : decode cX10_isJoined 1 = .ok (.getfield 9, 3) := by decide +kernel
theorem dX10_isJoined_4 : decode cX10_isJoined 4 = .ok (.iload_n 1, 1) := by decide +kernel
theorem dX10_isJoined_5 : decode cX10_isJoined 5 = .ok (.iaload, 1) := by decide +kernel
theorem dX10_isJoined_6 : decode cX10_isJoined 6 = .ok (.aload_n 0, 1) := by decide +kernel
theorem dX10_isJoined_7 : decode cX10_isJoined 7 = .ok (.getfield 9, 3) := by decide +kernel
theorem dX10_isJoined_10 : decode cX10_isJoined 10 = .ok (.iload_n 2, 1) := by decide +kernel
theorem dX10_isJoined_11 : decode cX10_isJoined 11 = .ok (.iaload, 1) := by decide +kernel
theorem dX10_isJoined_12 : decode cX10_isJoined 12 = .ok (.isub, 1) := by decide +kernel
theorem dX10_isJoined_13 : decode cX10_isJoined 13 = .ok (.bipush (-10), 2) := by decide +kernel
theorem dX10_isJoined_15 : decode cX10_isJoined 15 = .ok (.bipush 10, 2) := by decide +kernel
theorem dX10_isJoined_17 : decode cX10_isJoined 17 = .ok (.invokestatic 109, 3) := by decide +kernel
theorem dX10_isJoined_20 : decode cX10_isJoined 20 = .ok (.ifCond .eq 75, 3) := by decide +kernel
theorem dX10_isJoined_23 : decode cX10_isJoined 23 = .ok (.aload_n 0, 1) := by decide +kernel
theorem dX10_isJoined_24 : decode cX10_isJoined 24 = .ok (.getfield 13, 3) := by decide +kernel
theorem dX10_isJoined_27 : decode cX10_isJoined 27 = .ok (.iload_n 1, 1) := by decide +kernel
theorem dX10_isJoined_28 : decode cX10_isJoined 28 = .ok (.iaload, 1) := by decide +kernel
theorem dX10_isJoined_29 : decode cX10_isJoined 29 = .ok (.aload_n 0, 1) := by decide +kernel
theorem dX10_isJoined_30 : decode cX10_isJoined 30 = .ok (.getfield 13, 3) := by decide +kernel
theorem dX10_isJoined_33 : decode cX10_isJoined 33 = .ok (.iload_n 2, 1) := by decide +kernel
theorem dX10_isJoined_34 : decode cX10_isJoined 34 = .ok (.iaload, 1) := by decide +kernel
theorem dX10_isJoined_35 : decode cX10_isJoined 35 = .ok (.isub, 1) := by decide +kernel
theorem dX10_isJoined_36 : decode cX10_isJoined 36 = .ok (.bipush (-10), 2) := by decide +kernel
theorem dX10_isJoined_38 : decode cX10_isJoined 38 = .ok (.bipush 10, 2) := by decide +kernel
theorem dX10_isJoined_40 : decode cX10_isJoined 40 = .ok (.invokestatic 109, 3) := by decide +kernel
theorem dX10_isJoined_43 : decode cX10_isJoined 43 = .ok (.ifCond .eq 52, 3) := by decide +kernel
theorem dX10_isJoined_46 : decode cX10_isJoined 46 = .ok (.aload_n 0, 1) := by decide +kernel
theorem dX10_isJoined_47 : decode cX10_isJoined 47 = .ok (.getfield 25, 3) := by decide +kernel
theorem dX10_isJoined_50 : decode cX10_isJoined 50 = .ok (.iload_n 1, 1) := by decide +kernel
theorem dX10_isJoined_51 : decode cX10_isJoined 51 = .ok (.iaload, 1) := by decide +kernel
theorem dX10_isJoined_52 : decode cX10_isJoined 52 = .ok (.aload_n 0, 1) := by decide +kernel
theorem dX10_isJoined_53 : decode cX10_isJoined 53 = .ok (.getfield 28, 3) := by decide +kernel
theorem dX10_isJoined_56 : decode cX10_isJoined 56 = .ok (.iload_n 2, 1) := by decide +kernel
theorem dX10_isJoined_57 : decode cX10_isJoined 57 = .ok (.iaload, 1) := by decide +kernel
theorem dX10_isJoined_58 : decode cX10_isJoined 58 = .ok (.if_icmp .gt 37, 3) := by decide +kernel
theorem dX10_isJoined_61 : decode cX10_isJoined 61 = .ok (.aload_n 0, 1) := by decide +kernel
theorem dX10_isJoined_62 : decode cX10_isJoined 62 = .ok (.getfield 25, 3) := by decide +kernel
theorem dX10_isJoined_65 : decode cX10_isJoined 65 = .ok (.iload_n 2, 1) := by decide +kernel
theorem dX10_isJoined_66 : decode cX10_isJoined 66 = .ok (.iaload, 1) := by decide +kernel
theorem dX10_isJoined_67 : decode cX10_isJoined 67 = .ok (.aload_n 0, 1) := by decide +kernel
theorem dX10_isJoined_68 : decode cX10_isJoined 68 = .ok (.getfield 28, 3) := by decide +kernel
theorem dX10_isJoined_71 : decode cX10_isJoined 71 = .ok (.iload_n 1, 1) := by decide +kernel
theorem dX10_isJoined_72 : decode cX10_isJoined 72 = .ok (.iaload, 1) := by decide +kernel
theorem dX10_isJoined_73 : decode cX10_isJoined 73 = .ok (.if_icmp .gt 22, 3) := by decide +kernel
theorem dX10_isJoined_76 : decode cX10_isJoined 76 = .ok (.aload_n 0, 1) := by decide +kernel
theorem dX10_isJoined_77 : decode cX10_isJoined 77 = .ok (.getfield 43, 3) := by decide +kernel
theorem dX10_isJoined_80 : decode cX10_isJoined 80 = .ok (.bipush 50, 2) := by decide +kernel

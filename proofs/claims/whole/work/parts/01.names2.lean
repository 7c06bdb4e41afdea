theorem dX5_inForce_33 : decode cX5_inForce 33 = .ok (.getfield 25, 3) := by decide +kernel
theorem dX5_inForce_36 : decode cX5_inForce 36 = .ok (.iload_n 1, 1) := by decide +kernel
theorem dX5_inForce_37 : decode cX5_inForce 37 = .ok (.if_icmp .gt 22, 3) := by decide +kernel
theorem dX5_inForce_40 : decode cX5_inForce 40 = .ok (.aload_n 2, 1) := by decide +kernel
theorem dX5_inForce_41 : decode cX5_inForce 41 = .ok (.ifnull 15, 3) := by decide +kernel
theorem dX5_inForce_44 : decode cX5_inForce 44 = .ok (.aload 4, 2) := by decide +kernel
theorem dX5_inForce_46 : decode cX5_inForce 46 = .ok (.getfield 25, 3) := by decide +kernel
theorem dX5_inForce_49 : decode cX5_inForce 49 = .ok (.aload_n 2, 1) := by decide +kernel
theorem dX5_inForce_50 : decode cX5_inForce 50 = .ok (.getfield 25, 3) := by decide +kernel
theorem dX5_inForce_53 : decode cX5_inForce 53 = .ok (.if_icmp .lt 6, 3) := by decide +kernel
theorem dX5_inForce_56 : decode cX5_inForce 56 = .ok (.aload 4, 2) := by decide +kernel
theorem dX5_inForce_58 : decode cX5_inForce 58 = .ok (.astore_n 2, 1) := by decide +kernel
theorem dX5_inForce_59 : decode cX5_inForce 59 = .ok (.iinc 3 1, 3) := by decide +kernel
theorem dX5_inForce_62 : decode cX5_inForce 62 = .ok (.goto (-58), 3) := by decide +kernel
theorem dX5_inForce_65 : decode cX5_inForce 65 = .ok (.aload_n 2, 1) := by decide +kernel
theorem dX5_inForce_66 : decode cX5_inForce 66 = .ok (.areturn, 1) := by decide +kernel
set_option maxRecDepth 20000 in
theorem ggX6_init_J7_fill_53178 : GoodIn wsX6_init wsJ7_fill_53178 := goodIn_r _ [12] (by decide +kernel) (by decide +kernel)
set_option maxRecDepth 20000 in
theorem gX6_init_J7_fill_53178 : GoodIn wsX6_init (va_wsS RX6 25 yJ7_fill_53178 wsJ7_fill_53178) := goodIn_app (goodIn_of _ (by decide +kernel)) ggX6_init_J7_fill_53178
theorem dX6_init_0 : decode cX6_init 0 = .ok (.aload_n 0, 1) := by decide +kernel
theorem dX6_init_1 : decode cX6_init 1 = .ok (.invokespecial 3, 3) := by decide +kernel
theorem dX6_init_4 : decode cX6_init 4 = .ok (.aload_n 0, 1) := by decide +kernel
theorem dX6_init_5 : decode cX6_init 5 = .ok (.bipush 60, 2) := by decide +kernel
theorem dX6_init_7 : decode cX6_init 7 = .ok (.anewarray 11, 3) := by decide +kernel
theorem dX6_init_10 : decode cX6_init 10 = .ok (.putfield 13, 3) := by decide +kernel
theorem dX6_init_13 : decode cX6_init 13 = .ok (.aload_n 0, 1) := by decide +kernel
theorem dX6_init_14 : decode cX6_init 14 = .ok (.iconst 0, 1) := by decide +kernel
theorem dX6_init_15 : decode cX6_init 15 = .ok (.putfield 17, 3) := by decide +kernel
theorem dX6_init_18 : decode cX6_init 18 = .ok (.aload_n 0, 1) := by decide +kernel
theorem dX6_init_19 : decode cX6_init 19 = .ok (.bipush 55, 2) := by decide +kernel
theorem dX6_init_21 : decode cX6_init 21 = .ok (.newarray .int, 2) := by decide +kernel
theorem dX6_init_23 : decode cX6_init 23 = .ok (.putfield 21, 3) := by decide +kernel
theorem dX6_init_26 : decode cX6_init 26 = .ok (.aload_n 0, 1) := by decide +kernel
theorem dX6_init_27 : decode cX6_init 27 = .ok (.getfield 21, 3) := by decide +kernel
theorem dX6_init_30 : decode cX6_init 30 = .ok (.bipush 100, 2) := by decide +kernel
theorem dX6_init_32 : decode cX6_init 32 = .ok (.invokestatic 25, 3) := by decide +kernel
theorem dX6_init_35 : decode cX6_init 35 = .ok (.return_, 1) := by decide +kernel
set_option maxRecDepth 20000 in
theorem ggX6_setLevel_X9_isBetween : GoodIn wsX6_setLevel wsX9_isBetween := goodIn_r _ [4] (by decide +kernel) (by decide +kernel)
set_option maxRecDepth 20000 in
theorem gX6_setLevel_X9_isBetween_n31 : GoodIn wsX6_setLevel (wsX9_isBetween) := ggX6_setLevel_X9_isBetween
theorem dX6_setLevel_0 : decode cX6_setLevel 0 = .ok (.iload_n 1, 1) := by decide +kernel
theorem dX6_setLevel_1 : decode cX6_setLevel 1 = .ok (.sipush 1950, 3) := by decide +kernel
theorem dX6_setLevel_4 : decode cX6_setLevel 4 = .ok (.sipush 2004, 3) := by decide +kernel
theorem dX6_setLevel_7 : decode cX6_setLevel 7 = .ok (.invokestatic 31, 3) := by decide +kernel
theorem dX6_setLevel_10 : decode cX6_setLevel 10 = .ok (.ifCond .eq 14, 3) := by decide +kernel
theorem dX6_setLevel_13 : decode cX6_setLevel 13 = .ok (.iload_n 2, 1) := by decide +kernel
theorem dX6_setLevel_14 : decode cX6_setLevel 14 = .ok (.iconst 1, 1) := by decide +kernel
theorem dX6_setLevel_15 : decode cX6_setLevel 15 = .ok (.sipush 10000, 3) := by decide +kernel
theorem dX6_setLevel_18 : decode cX6_setLevel 18 = .ok (.invokestatic 31, 3) := by decide +kernel
theorem dX6_setLevel_21 : decode cX6_setLevel 21 = .ok (.ifCond .ne 5, 3) := by decide +kernel
theorem dX6_setLevel_24 : decode cX6_setLevel 24 = .ok (.iconst 0, 1) := by decide +kernel
theorem dX6_setLevel_25 : decode cX6_setLevel 25 = .ok (.ireturn, 1) := by decide +kernel
theorem dX6_setLevel_26 : decode cX6_setLevel 26 = .ok (.aload_n 0, 1) := by decide +kernel
theorem dX6_setLevel_27 : decode cX6_setLevel 27 = .ok (.getfield 21, 3) := by decide +kernel
theorem dX6_setLevel_30 : decode cX6_setLevel 30 = .ok (.iload_n 1, 1) := by decide +kernel
theorem dX6_setLevel_31 : decode cX6_setLevel 31 = .ok (.sipush 1950, 3) := by decide +kernel
theorem dX6_setLevel_34 : decode cX6_setLevel 34 = .ok (.isub, 1) := by decide +kernel
theorem dX6_setLevel_35 : decode cX6_setLevel 35 = .ok (.iload_n 2, 1) := by decide +kernel
theorem dX6_setLevel_36 : decode cX6_setLevel 36 = .ok (.iastore, 1) := by decide +kernel
theorem dX6_setLevel_37 : decode cX6_setLevel 37 = .ok (.iconst 1, 1) := by decide +kernel
theorem dX6_setLevel_38 : decode cX6_setLevel 38 = .ok (.ireturn, 1) := by decide +kernel
theorem dX6_levelIn_0 : decode cX6_levelIn 0 = .ok (.iload_n 1, 1) := by decide +kernel
theorem dX6_levelIn_1 : decode cX6_levelIn 1 = .ok (.sipush 1950, 3) := by decide +kernel
theorem dX6_levelIn_4 : decode cX6_levelIn 4 = .ok (.isub, 1) := by decide +kernel
theorem dX6_levelIn_5 : decode cX6_levelIn 5 = .ok (.istore_n 2, 1) := by decide +kernel
theorem dX6_levelIn_6 : decode cX6_levelIn 6 = .ok (.iload_n 2, 1) := by decide +kernel
theorem dX6_levelIn_7 : decode cX6_levelIn 7 = .ok (.ifCond .lt 21, 3) := by decide +kernel
theorem dX6_levelIn_10 : decode cX6_levelIn 10 = .ok (.iload_n 2, 1) := by decide +kernel
theorem dX6_levelIn_11 : decode cX6_levelIn 11 = .ok (.aload_n 0, 1) := by decide +kernel
theorem dX6_levelIn_12 : decode cX6_levelIn 12 = .ok (.getfield 21, 3) := by decide +kernel
theorem dX6_levelIn_15 : decode cX6_levelIn 15 = .ok (.arraylength, 1) := by decide +kernel
theorem dX6_levelIn_16 : decode cX6_levelIn 16 = .ok (.if_icmp .ge 12, 3) := by decide +kernel
theorem dX6_levelIn_19 : decode cX6_levelIn 19 = .ok (.aload_n 0, 1) := by decide +kernel
theorem dX6_levelIn_20 : decode cX6_levelIn 20 = .ok (.getfield 21, 3) := by decide +kernel
theorem dX6_levelIn_23 : decode cX6_levelIn 23 = .ok (.iload_n 2, 1) := by decide +kernel
theorem dX6_levelIn_24 : decode cX6_levelIn 24 = .ok (.iaload, 1) := by decide +kernel
theorem dX6_levelIn_25 : decode cX6_levelIn 25 = .ok (.goto 5, 3) := by decide +kernel
theorem dX6_levelIn_28 : decode cX6_levelIn 28 = .ok (.bipush 100, 2) := by decide +kernel
theorem dX6_levelIn_30 : decode cX6_levelIn 30 = .ok (.ireturn, 1) := by decide +kernel
set_option maxRecDepth 20000 in
theorem ggX6_enter_X8_isPossible : GoodIn wsX6_enter wsX8_isPossible := goodIn_r _ [8, 9, 10, 11, 12, 13, 14, 15, 16, 17, 18, 19, 20, 21, 30, 31, 32, 33] (by decide +kernel) (by decide +kernel)
set_option maxRecDepth 20000 in
theorem gX6_enter_X8_isPossible : GoodIn wsX6_enter (wsV RX6 35 RX8 yX8_isPossible wsX8_isPossible) := goodIn_app (goodIn_of _ (by decide +kernel)) ggX6_enter_X8_isPossible
set_option maxRecDepth 20000 in
theorem ggX6_enter_X6_salesOf : GoodIn wsX6_enter wsX6_salesOf := goodIn_r _ [26, 1, 2, 3, 27, 28, 29, 30, 31, 32, 33] (by decide +kernel) (by decide +kernel)
set_option maxRecDepth 20000 in
theorem gX6_enter_X6_salesOf : GoodIn wsX6_enter (wsV RX6 42 RX6 yX6_salesOf wsX6_salesOf) := goodIn_app (goodIn_of _ (by decide +kernel)) ggX6_enter_X6_salesOf
theorem dX6_enter_0 : decode cX6_enter 0 = .ok (.aload_n 0, 1) := by decide +kernel
theorem dX6_enter_1 : decode cX6_enter 1 = .ok (.getfield 17, 3) := by decide +kernel
theorem dX6_enter_4 : decode cX6_enter 4 = .ok (.bipush 60, 2) := by decide +kernel
theorem dX6_enter_6 : decode cX6_enter 6 = .ok (.if_icmp .ge 10, 3) := by decide +kernel
theorem dX6_enter_9 : decode cX6_enter 9 = .ok (.aload_n 1, 1) := by decide +kernel
theorem dX6_enter_10 : decode cX6_enter 10 = .ok (.invokevirtual 35, 3) := by decide +kernel
theorem dX6_enter_13 : decode cX6_enter 13 = .ok (.ifCond .ne 5, 3) := by decide +kernel
theorem dX6_enter_16 : decode cX6_enter 16 = .ok (.iconst (-1), 1) := by decide +kernel
theorem dX6_enter_17 : decode cX6_enter 17 = .ok (.ireturn, 1) := by decide +kernel
theorem dX6_enter_18 : decode cX6_enter 18 = .ok (.aload_n 0, 1) := by decide +kernel
theorem dX6_enter_19 : decode cX6_enter 19 = .ok (.getfield 13, 3) := by decide +kernel
theorem dX6_enter_22 : decode cX6_enter 22 = .ok (.aload_n 0, 1) := by decide +kernel
theorem dX6_enter_23 : decode cX6_enter 23 = .ok (.getfield 17, 3) := by decide +kernel
theorem dX6_enter_26 : decode cX6_enter 26 = .ok (.aload_n 1, 1) := by decide +kernel
theorem dX6_enter_27 : decode cX6_enter 27 = .ok (.aastore, 1) := by decide +kernel
theorem dX6_enter_28 : decode cX6_enter 28 = .ok (.aload_n 0, 1) := by decide +kernel
theorem dX6_enter_29 : decode cX6_enter 29 = .ok (.dup, 1) := by decide +kernel
theorem dX6_enter_30 : decode cX6_enter 30 = .ok (.getfield 17, 3) := by decide +kernel
theorem dX6_enter_33 : decode cX6_enter 33 = .ok (.iconst 1, 1) := by decide +kernel
theorem dX6_enter_34 : decode cX6_enter 34 = .ok (.iadd, 1) := by decide +kernel
theorem dX6_enter_35 : decode cX6_enter 35 = .ok (.putfield 17, 3) := by decide +kernel
theorem dX6_enter_38 : decode cX6_enter 38 = .ok (.aload_n 0, 1) := by decide +kernel
theorem dX6_enter_39 : decode cX6_enter 39 = .ok (.aload_n 1, 1) := by decide +kernel
theorem dX6_enter_40 : decode cX6_enter 40 = .ok (.getfield 39, 3) := by decide +kernel
theorem dX6_enter_43 : decode cX6_enter 43 = .ok (.invokevirtual 42, 3) := by decide +kernel
theorem dX6_enter_46 : decode cX6_enter 46 = .ok (.ireturn, 1) := by decide +kernel
theorem dX6_salesOf_0 : decode cX6_salesOf 0 = .ok (.iconst 0, 1) := by decide +kernel
theorem dX6_salesOf_1 : decode cX6_salesOf 1 = .ok (.istore_n 2, 1) := by decide +kernel
theorem dX6_salesOf_2 : decode cX6_salesOf 2 = .ok (.iconst 0, 1) := by decide +kernel
theorem dX6_salesOf_3 : decode cX6_salesOf 3 = .ok (.istore_n 3, 1) := by decide +kernel
theorem dX6_salesOf_4 : decode cX6_salesOf 4 = .ok (.iload_n 3, 1) := by decide +kernel
theorem dX6_salesOf_5 : decode cX6_salesOf 5 = .ok (.aload_n 0, 1) := by decide +kernel
theorem dX6_salesOf_6 : decode cX6_salesOf 6 = .ok (.getfield 17, 3) := by decide +kernel
theorem dX6_salesOf_9 : decode cX6_salesOf 9 = .ok (.if_icmp .ge 40, 3) := by decide +kernel
theorem dX6_salesOf_12 : decode cX6_salesOf 12 = .ok (.iload_n 3, 1) := by decide +kernel
theorem dX6_salesOf_13 : decode cX6_salesOf 13 = .ok (.bipush 60, 2) := by decide +kernel
theorem dX6_salesOf_15 : decode cX6_salesOf 15 = .ok (.if_icmp .ge 34, 3) := by decide +kernel
theorem dX6_salesOf_18 : decode cX6_salesOf 18 = .ok (.aload_n 0, 1) := by decide +kernel
theorem dX6_salesOf_19 : decode cX6_salesOf 19 = .ok (.getfield 13, 3) := by decide +kernel
theorem dX6_salesOf_22 : decode cX6_salesOf 22 = .ok (.iload_n 3, 1) := by decide +kernel
theorem dX6_salesOf_23 : decode cX6_salesOf 23 = .ok (.aaload, 1) := by decide +kernel
theorem dX6_salesOf_24 : decode cX6_salesOf 24 = .ok (.astore 4, 2) := by decide +kernel
theorem dX6_salesOf_26 : decode cX6_salesOf 26 = .ok (.aload 4, 2) := by decide +kernel
theorem dX6_salesOf_28 : decode cX6_salesOf 28 = .ok (.ifnull 15, 3) := by decide +kernel
theorem dX6_salesOf_31 : decode cX6_salesOf 31 = .ok (.aload 4, 2) := by decide +kernel
theorem dX6_salesOf_33 : decode cX6_salesOf 33 = .ok (.getfield 39, 3) := by decide +kernel
theorem dX6_salesOf_36 : decode cX6_salesOf 36 = .ok (.iload_n 1, 1) := by decide +kernel
theorem dX6_salesOf_37 : decode cX6_salesOf 37 = .ok (.if_icmp .ne 6, 3) := by decide +kernel
theorem dX6_salesOf_40 : decode cX6_salesOf 40 = .ok (.iinc 2 1, 3) := by decide +kernel
theorem dX6_salesOf_43 : decode cX6_salesOf 43 = .ok (.iinc 3 1, 3) := by decide +kernel
theorem dX6_salesOf_46 : decode cX6_salesOf 46 = .ok (.goto (-42), 3) := by decide +kernel
theorem dX6_salesOf_49 : decode cX6_salesOf 49 = .ok (.iload_n 2, 1) := by decide +kernel
theorem dX6_salesOf_50 : decode cX6_salesOf 50 = .ok (.ireturn, 1) := by decide +kernel
set_option maxRecDepth 20000 in
theorem ggX6_appraise_X6_priceIn : GoodIn wsX6_appraise wsX6_priceIn := goodIn_r _ [14, 15, 16, 17, 18, 19, 20, 21, 22, 13, 23, 24, 28, 29, 30, 31, 25, 26, 27] (by decide +kernel) (by decide +kernel)
set_option maxRecDepth 20000 in
theorem gX6_appraise_X6_priceIn : GoodIn wsX6_appraise (wsV RX6 46 RX6 yX6_priceIn wsX6_priceIn) := goodIn_app (goodIn_of _ (by decide +kernel)) ggX6_appraise_X6_priceIn
theorem dX6_appraise_0 : decode cX6_appraise 0 = .ok (.lconst 0, 1) := by decide +kernel
theorem dX6_appraise_1 : decode cX6_appraise 1 = .ok (.lstore 4, 2) := by decide +kernel
theorem dX6_appraise_3 : decode cX6_appraise 3 = .ok (.lconst 0, 1) := by decide +kernel
theorem dX6_appraise_4 : decode cX6_appraise 4 = .ok (.lstore 6, 2) := by decide +kernel
theorem dX6_appraise_6 : decode cX6_appraise 6 = .ok (.iconst 0, 1) := by decide +kernel
theorem dX6_appraise_7 : decode cX6_appraise 7 = .ok (.istore 8, 2) := by decide +kernel
theorem dX6_appraise_9 : decode cX6_appraise 9 = .ok (.iload 8, 2) := by decide +kernel
theorem dX6_appraise_11 : decode cX6_appraise 11 = .ok (.aload_n 0, 1) := by decide +kernel
theorem dX6_appraise_12 : decode cX6_appraise 12 = .ok (.getfield 17, 3) := by decide +kernel
theorem dX6_appraise_15 : decode cX6_appraise 15 = .ok (.if_icmp .ge 62, 3) := by decide +kernel
theorem dX6_appraise_18 : decode cX6_appraise 18 = .ok (.iload 8, 2) := by decide +kernel
theorem dX6_appraise_20 : decode cX6_appraise 20 = .ok (.bipush 60, 2) := by decide +kernel
theorem dX6_appraise_22 : decode cX6_appraise 22 = .ok (.if_icmp .ge 55, 3) := by decide +kernel
theorem dX6_appraise_25 : decode cX6_appraise 25 = .ok (.aload_n 0, 1) := by decide +kernel
theorem dX6_appraise_26 : decode cX6_appraise 26 = .ok (.getfield 13, 3) := by decide +kernel
theorem dX6_appraise_29 : decode cX6_appraise 29 = .ok (.iload 8, 2) := by decide +kernel
theorem dX6_appraise_31 : decode cX6_appraise 31 = .ok (.aaload, 1) := by decide +kernel
theorem dX6_appraise_32 : decode cX6_appraise 32 = .ok (.astore 9, 2) := by decide +kernel
theorem dX6_appraise_34 : decode cX6_appraise 34 = .ok (.aload 9, 2) := by decide +kernel
theorem dX6_appraise_36 : decode cX6_appraise 36 = .ok (.ifnull 35, 3) := by decide +kernel
theorem dX6_appraise_39 : decode cX6_appraise 39 = .ok (.aload 9, 2) := by decide +kernel
theorem dX6_appraise_41 : decode cX6_appraise 41 = .ok (.getfield 39, 3) := by decide +kernel
theorem dX6_appraise_44 : decode cX6_appraise 44 = .ok (.iload_n 1, 1) := by decide +kernel
theorem dX6_appraise_45 : decode cX6_appraise 45 = .ok (.if_icmp .ne 26, 3) := by decide +kernel
theorem dX6_appraise_48 : decode cX6_appraise 48 = .ok (.lload 4, 2) := by decide +kernel
theorem dX6_appraise_50 : decode cX6_appraise 50 = .ok (.aload_n 0, 1) := by decide +kernel
theorem dX6_appraise_51 : decode cX6_appraise 51 = .ok (.iload_n 3, 1) := by decide +kernel
theorem dX6_appraise_52 : decode cX6_appraise 52 = .ok (.aload 9, 2) := by decide +kernel
theorem dX6_appraise_54 : decode cX6_appraise 54 = .ok (.invokevirtual 46, 3) := by decide +kernel
theorem dX6_appraise_57 : decode cX6_appraise 57 = .ok (.ladd, 1) := by decide +kernel
theorem dX6_appraise_58 : decode cX6_appraise 58 = .ok (.lstore 4, 2) := by decide +kernel
theorem dX6_appraise_60 : decode cX6_appraise 60 = .ok (.lload 6, 2) := by decide +kernel
theorem dX6_appraise_62 : decode cX6_appraise 62 = .ok (.aload 9, 2) := by decide +kernel
theorem dX6_appraise_64 : decode cX6_appraise 64 = .ok (.getfield 50, 3) := by decide +kernel
theorem dX6_appraise_67 : decode cX6_appraise 67 = .ok (.i2l, 1) := by decide +kernel
theorem dX6_appraise_68 : decode cX6_appraise 68 = .ok (.ladd, 1) := by decide +kernel
theorem dX6_appraise_69 : decode cX6_appraise 69 = .ok (.lstore 6, 2) := by decide +kernel
theorem dX6_appraise_71 : decode cX6_appraise 71 = .ok (.iinc 8 1, 3) := by decide +kernel
theorem dX6_appraise_74 : decode cX6_appraise 74 = .ok (.goto (-65), 3) := by decide +kernel
theorem dX6_appraise_77 : decode cX6_appraise 77 = .ok (.lload 6, 2) := by decide +kernel
theorem dX6_appraise_79 : decode cX6_appraise 79 = .ok (.lconst 0, 1) := by decide +kernel
theorem dX6_appraise_80 : decode cX6_appraise 80 = .ok (.lcmp, 1) := by decide +kernel
theorem dX6_appraise_81 : decode cX6_appraise 81 = .ok (.ifCond .gt 5, 3) := by decide +kernel
theorem dX6_appraise_84 : decode cX6_appraise 84 = .ok (.iconst 0, 1) := by decide +kernel
theorem dX6_appraise_85 : decode cX6_appraise 85 = .ok (.ireturn, 1) := by decide +kernel
theorem dX6_appraise_86 : decode cX6_appraise 86 = .ok (.lload 4, 2) := by decide +kernel
theorem dX6_appraise_88 : decode cX6_appraise 88 = .ok (.iload_n 2, 1) := by decide +kernel
theorem dX6_appraise_89 : decode cX6_appraise 89 = .ok (.i2l, 1) := by decide +kernel
theorem dX6_appraise_90 : decode cX6_appraise 90 = .ok (.lmul, 1) := by decide +kernel
theorem dX6_appraise_91 : decode cX6_appraise 91 = .ok (.lload 6, 2) := by decide +kernel
theorem dX6_appraise_93 : decode cX6_appraise 93 = .ok (.ldiv, 1) := by decide +kernel
theorem dX6_appraise_94 : decode cX6_appraise 94 = .ok (.ldc2_w 53, 3) := by decide +kernel
theorem dX6_appraise_97 : decode cX6_appraise 97 = .ok (.invokestatic 55, 3) := by decide +kernel
theorem dX6_appraise_100 : decode cX6_appraise 100 = .ok (.l2i, 1) := by decide +kernel
theorem dX6_appraise_101 : decode cX6_appraise 101 = .ok (.ireturn, 1) := by decide +kernel
set_option maxRecDepth 20000 in
theorem ggX6_priceIn_X9_yearOf : GoodIn wsX6_priceIn wsX9_yearOf := goodIn_r _ [5] (by decide +kernel) (by decide +kernel)
set_option maxRecDepth 20000 in
theorem gX6_priceIn_X9_yearOf_n64 : GoodIn wsX6_priceIn (wsX9_yearOf) := ggX6_priceIn_X9_yearOf
set_option maxRecDepth 20000 in
theorem ggX6_priceIn_X6_levelIn : GoodIn wsX6_priceIn wsX6_levelIn := goodIn_r _ [10, 11, 16, 17, 18] (by decide +kernel) (by decide +kernel)
set_option maxRecDepth 20000 in
theorem gX6_priceIn_X6_levelIn : GoodIn wsX6_priceIn (wsV RX6 67 RX6 yX6_levelIn wsX6_levelIn) := goodIn_app (goodIn_of _ (by decide +kernel)) ggX6_priceIn_X6_levelIn
theorem dX6_priceIn_0 : decode cX6_priceIn 0 = .ok (.aload_n 0, 1) := by decide +kernel
theorem dX6_priceIn_1 : decode cX6_priceIn 1 = .ok (.aload_n 2, 1) := by decide +kernel
theorem dX6_priceIn_2 : decode cX6_priceIn 2 = .ok (.getfield 61, 3) := by decide +kernel
theorem dX6_priceIn_5 : decode cX6_priceIn 5 = .ok (.invokestatic 64, 3) := by decide +kernel
theorem dX6_priceIn_8 : decode cX6_priceIn 8 = .ok (.invokevirtual 67, 3) := by decide +kernel
theorem dX6_priceIn_11 : decode cX6_priceIn 11 = .ok (.istore_n 3, 1) := by decide +kernel
theorem dX6_priceIn_12 : decode cX6_priceIn 12 = .ok (.iload_n 3, 1) := by decide +kernel
theorem dX6_priceIn_13 : decode cX6_priceIn 13 = .ok (.ifCond .le 21, 3) := by decide +kernel
theorem dX6_priceIn_16 : decode cX6_priceIn 16 = .ok (.aload_n 2, 1) := by decide +kernel
theorem dX6_priceIn_17 : decode cX6_priceIn 17 = .ok (.getfield 70, 3) := by decide +kernel
theorem dX6_priceIn_20 : decode cX6_priceIn 20 = .ok (.i2l, 1) := by decide +kernel
theorem dX6_priceIn_21 : decode cX6_priceIn 21 = .ok (.aload_n 0, 1) := by decide +kernel
theorem dX6_priceIn_22 : decode cX6_priceIn 22 = .ok (.iload_n 1, 1) := by decide +kernel
theorem dX6_priceIn_23 : decode cX6_priceIn 23 = .ok (.invokevirtual 67, 3) := by decide +kernel
theorem dX6_priceIn_26 : decode cX6_priceIn 26 = .ok (.i2l, 1) := by decide +kernel
theorem dX6_priceIn_27 : decode cX6_priceIn 27 = .ok (.lmul, 1) := by decide +kernel
theorem dX6_priceIn_28 : decode cX6_priceIn 28 = .ok (.iload_n 3, 1) := by decide +kernel
theorem dX6_priceIn_29 : decode cX6_priceIn 29 = .ok (.i2l, 1) := by decide +kernel
theorem dX6_priceIn_30 : decode cX6_priceIn 30 = .ok (.ldiv, 1) := by decide +kernel
theorem dX6_priceIn_31 : decode cX6_priceIn 31 = .ok (.goto 4, 3) := by decide +kernel
theorem dX6_priceIn_34 : decode cX6_priceIn 34 = .ok (.lconst 0, 1) := by decide +kernel
theorem dX6_priceIn_35 : decode cX6_priceIn 35 = .ok (.lreturn, 1) := by decide +kernel
theorem dX7_init_0 : decode cX7_init 0 = .ok (.aload_n 0, 1) := by decide +kernel
theorem dX7_init_1 : decode cX7_init 1 = .ok (.invokespecial 3, 3) := by decide +kernel
theorem dX7_init_4 : decode cX7_init 4 = .ok (.aload_n 0, 1) := by decide +kernel
theorem dX7_init_5 : decode cX7_init 5 = .ok (.iload_n 1, 1) := by decide +kernel
theorem dX7_init_6 : decode cX7_init 6 = .ok (.putfield 9, 3) := by decide +kernel
theorem dX7_init_9 : decode cX7_init 9 = .ok (.aload_n 0, 1) := by decide +kernel
theorem dX7_init_10 : decode cX7_init 10 = .ok (.iload_n 2, 1) := by decide +kernel
theorem dX7_init_11 : decode cX7_init 11 = .ok (.putfield 15, 3) := by decide +kernel
theorem dX7_init_14 : decode cX7_init 14 = .ok (.aload_n 0, 1) := by decide +kernel
theorem dX7_init_15 : decode cX7_init 15 = .ok (.iconst 0, 1) := by decide +kernel
theorem dX7_init_16 : decode cX7_init 16 = .ok (.putfield 18, 3) := by decide +kernel
theorem dX7_init_19 : decode cX7_init 19 = .ok (.return_, 1) := by decide +kernel
set_option maxRecDepth 20000 in
theorem ggX7_isPossible_X9_isBetween : GoodIn wsX7_isPossible wsX9_isBetween := goodIn_r _ [6] (by decide +kernel) (by decide +kernel)
set_option maxRecDepth 20000 in
theorem gX7_isPossible_X9_isBetween_n21 : GoodIn wsX7_isPossible (wsX9_isBetween) := ggX7_isPossible_X9_isBetween
theorem dX7_isPossible_0 : decode cX7_isPossible 0 = .ok (.aload_n 0, 1) := by decide +kernel
theorem dX7_isPossible_1 : decode cX7_isPossible 1 = .ok (.getfield 9, 3) := by decide +kernel
theorem dX7_isPossible_4 : decode cX7_isPossible 4 = .ok (.iconst 0, 1) := by decide +kernel
theorem dX7_isPossible_5 : decode cX7_isPossible 5 = .ok (.bipush 7, 2) := by decide +kernel
theorem dX7_isPossible_7 : decode cX7_isPossible 7 = .ok (.invokestatic 21, 3) := by decide +kernel
theorem dX7_isPossible_10 : decode cX7_isPossible 10 = .ok (.ifCond .eq 20, 3) := by decide +kernel
theorem dX7_isPossible_13 : decode cX7_isPossible 13 = .ok (.aload_n 0, 1) := by decide +kernel
theorem dX7_isPossible_14 : decode cX7_isPossible 14 = .ok (.getfield 15, 3) := by decide +kernel
theorem dX7_isPossible_17 : decode cX7_isPossible 17 = .ok (.iconst 0, 1) := by decide +kernel
theorem dX7_isPossible_18 : decode cX7_isPossible 18 = .ok (.ldc 25, 2) := by decide +kernel
theorem dX7_isPossible_20 : decode cX7_isPossible 20 = .ok (.invokestatic 21, 3) := by decide +kernel
theorem dX7_isPossible_23 : decode cX7_isPossible 23 = .ok (.ifCond .eq 7, 3) := by decide +kernel
theorem dX7_isPossible_26 : decode cX7_isPossible 26 = .ok (.iconst 1, 1) := by decide +kernel
theorem dX7_isPossible_27 : decode cX7_isPossible 27 = .ok (.goto 4, 3) := by decide +kernel
theorem dX7_isPossible_30 : decode cX7_isPossible 30 = .ok (.iconst 0, 1) := by decide +kernel
theorem dX7_isPossible_31 : decode cX7_isPossible 31 = .ok (.ireturn, 1) := by decide +kernel
theorem dX7_takes_0 : decode cX7_takes 0 = .ok (.aload_n 0, 1) := by decide +kernel
theorem dX7_takes_1 : decode cX7_takes 1 = .ok (.getfield 9, 3) := by decide +kernel
theorem dX7_takes_4 : decode cX7_takes 4 = .ok (.iload_n 1, 1) := by decide +kernel
theorem dX7_takes_5 : decode cX7_takes 5 = .ok (.ishr, 1) := by decide +kernel
theorem dX7_takes_6 : decode cX7_takes 6 = .ok (.iconst 1, 1) := by decide +kernel
theorem dX7_takes_7 : decode cX7_takes 7 = .ok (.iand, 1) := by decide +kernel
theorem dX7_takes_8 : decode cX7_takes 8 = .ok (.iconst 1, 1) := by decide +kernel
theorem dX7_takes_9 : decode cX7_takes 9 = .ok (.if_icmp .ne 15, 3) := by decide +kernel
theorem dX7_takes_12 : decode cX7_takes 12 = .ok (.iload_n 2, 1) := by decide +kernel
theorem dX7_takes_13 : decode cX7_takes 13 = .ok (.aload_n 0, 1) := by decide +kernel
theorem dX7_takes_14 : decode cX7_takes 14 = .ok (.getfield 15, 3) := by decide +kernel
theorem dX7_takes_17 : decode cX7_takes 17 = .ok (.if_icmp .gt 7, 3) := by decide +kernel
theorem dX7_takes_20 : decode cX7_takes 20 = .ok (.iconst 1, 1) := by decide +kernel
theorem dX7_takes_21 : decode cX7_takes 21 = .ok (.goto 4, 3) := by decide +kernel
theorem dX7_takes_24 : decode cX7_takes 24 = .ok (.iconst 0, 1) := by decide +kernel
theorem dX7_takes_25 : decode cX7_takes 25 = .ok (.ireturn, 1) := by decide +kernel
theorem dX8_init_0 : decode cX8_init 0 = .ok (.aload_n 0, 1) := by decide +kernel
theorem dX8_init_1 : decode cX8_init 1 = .ok (.invokespecial 3, 3) := by decide +kernel
theorem dX8_init_4 : decode cX8_init 4 = .ok (.aload_n 0, 1) := by decide +kernel
theorem dX8_init_5 : decode cX8_init 5 = .ok (.iload_n 1, 1) := by decide +kernel
theorem dX8_init_6 : decode cX8_init 6 = .ok (.putfield 9, 3) := by decide +kernel
theorem dX8_init_9 : decode cX8_init 9 = .ok (.aload_n 0, 1) := by decide +kernel
theorem dX8_init_10 : decode cX8_init 10 = .ok (.iload_n 2, 1) := by decide +kernel
theorem dX8_init_11 : decode cX8_init 11 = .ok (.putfield 15, 3) := by decide +kernel
theorem dX8_init_14 : decode cX8_init 14 = .ok (.aload_n 0, 1) := by decide +kernel
theorem dX8_init_15 : decode cX8_init 15 = .ok (.iload_n 3, 1) := by decide +kernel
theorem dX8_init_16 : decode cX8_init 16 = .ok (.putfield 18, 3) := by decide +kernel
theorem dX8_init_19 : decode cX8_init 19 = .ok (.aload_n 0, 1) := by decide +kernel
theorem dX8_init_20 : decode cX8_init 20 = .ok (.iload 4, 2) := by decide +kernel
theorem dX8_init_22 : decode cX8_init 22 = .ok (.putfield 21, 3) := by decide +kernel
theorem dX8_init_25 : decode cX8_init 25 = .ok (.return_, 1) := by decide +kernel
set_option maxRecDepth 20000 in
theorem ggX8_isPossible_X9_isMetal : GoodIn wsX8_isPossible wsX9_isMetal := goodIn_r _ [8, 9, 10, 7, 11] (by decide +kernel) (by decide +kernel)
set_option maxRecDepth 20000 in
theorem gX8_isPossible_X9_isMetal_n24 : GoodIn wsX8_isPossible (wsX9_isMetal) := ggX8_isPossible_X9_isMetal
set_option maxRecDepth 20000 in
theorem ggX8_isPossible_X9_isDay : GoodIn wsX8_isPossible wsX9_isDay := goodIn_r _ [13, 9, 10, 7, 11] (by decide +kernel) (by decide +kernel)
set_option maxRecDepth 20000 in
theorem gX8_isPossible_X9_isDay_n28 : GoodIn wsX8_isPossible (wsX9_isDay) := ggX8_isPossible_X9_isDay
set_option maxRecDepth 20000 in
theorem ggX8_isPossible_X9_isBetween : GoodIn wsX8_isPossible wsX9_isBetween := goodIn_r _ [11] (by decide +kernel) (by decide +kernel)
set_option maxRecDepth 20000 in
theorem gX8_isPossible_X9_isBetween_n31 : GoodIn wsX8_isPossible (wsX9_isBetween) := ggX8_isPossible_X9_isBetween
theorem dX8_isPossible_0 : decode cX8_isPossible 0 = .ok (.aload_n 0, 1) := by decide +kernel
theorem dX8_isPossible_1 : decode cX8_isPossible 1 = .ok (.getfield 9, 3) := by decide +kernel
theorem dX8_isPossible_4 : decode cX8_isPossible 4 = .ok (.invokestatic 24, 3) := by decide +kernel
theorem dX8_isPossible_7 : decode cX8_isPossible 7 = .ok (.ifCond .eq 44, 3) := by decide +kernel
theorem dX8_isPossible_10 : decode cX8_isPossible 10 = .ok (.aload_n 0, 1) := by decide +kernel
theorem dX8_isPossible_11 : decode cX8_isPossible 11 = .ok (.getfield 15, 3) := by decide +kernel
theorem dX8_isPossible_14 : decode cX8_isPossible 14 = .ok (.invokestatic 28, 3) := by decide +kernel
theorem dX8_isPossible_17 : decode cX8_isPossible 17 = .ok (.ifCond .eq 34, 3) := by decide +kernel
theorem dX8_isPossible_20 : decode cX8_isPossible 20 = .ok (.aload_n 0, 1) := by decide +kernel
theorem dX8_isPossible_21 : decode cX8_isPossible 21 = .ok (.getfield 18, 3) := by decide +kernel
theorem dX8_isPossible_24 : decode cX8_isPossible 24 = .ok (.iconst 1, 1) := by decide +kernel
theorem dX8_isPossible_25 : decode cX8_isPossible 25 = .ok (.sipush 10000, 3) := by decide +kernel
theorem dX8_isPossible_28 : decode cX8_isPossible 28 = .ok (.invokestatic 31, 3) := by decide +kernel
theorem dX8_isPossible_31 : decode cX8_isPossible 31 = .ok (.ifCond .eq 20, 3) := by decide +kernel
theorem dX8_isPossible_34 : decode cX8_isPossible 34 = .ok (.aload_n 0, 1) := by decide +kernel
theorem dX8_isPossible_35 : decode cX8_isPossible 35 = .ok (.getfield 21, 3) := by decide +kernel
theorem dX8_isPossible_38 : decode cX8_isPossible 38 = .ok (.iconst 0, 1) := by decide +kernel
theorem dX8_isPossible_39 : decode cX8_isPossible 39 = .ok (.ldc 35, 2) := by decide +kernel
theorem dX8_isPossible_41 : decode cX8_isPossible 41 = .ok (.invokestatic 31, 3) := by decide +kernel
theorem dX8_isPossible_44 : decode cX8_isPossible 44 = .ok (.ifCond .eq 7, 3) := by decide +kernel
theorem dX8_isPossible_47 : decode cX8_isPossible 47 = .ok (.iconst 1, 1) := by decide +kernel
theorem dX8_isPossible_48 : decode cX8_isPossible 48 = .ok (.goto 4, 3) := by decide +kernel
theorem dX8_isPossible_51 : decode cX8_isPossible 51 = .ok (.iconst 0, 1) := by decide +kernel
theorem dX8_isPossible_52 : decode cX8_isPossible 52 = .ok (.ireturn, 1) := by decide +kernel
set_option maxRecDepth 20000 in
theorem ggX9_init_X5_init : GoodIn wsX9_init wsX5_init := goodIn_r _ [28, 29, 2, 3, 30, 31, 32, 79, 80] (by decide +kernel) (by decide +kernel)
set_option maxRecDepth 20000 in
theorem gX9_init_X5_init_n15 : GoodIn wsX9_init (wsX5_init) := ggX9_init_X5_init
set_option maxRecDepth 20000 in
theorem ggX9_init_X3_init : GoodIn wsX9_init wsX3_init := goodIn_r _ [34, 35, 2, 3, 25, 36, 37, 38, 39, 81, 82, 83, 84] (by decide +kernel) (by decide +kernel)
set_option maxRecDepth 20000 in
theorem gX9_init_X3_init_n22 : GoodIn wsX9_init (wsX3_init) := ggX9_init_X3_init
set_option maxRecDepth 20000 in
theorem ggX9_init_X2_init : GoodIn wsX9_init wsX2_init := goodIn_r _ [42, 43, 2, 3, 44, 45, 46, 25, 47, 48, 49, 50, 51, 52, 53, 54, 55, 85, 86, 87, 88, 89, 90, 91] (by decide +kernel) (by decide +kernel)
set_option maxRecDepth 20000 in
theorem gX9_init_X2_init : GoodIn wsX9_init (wsX2_init) := ggX9_init_X2_init
set_option maxRecDepth 20000 in
theorem ggX9_init_X6_init : GoodIn wsX9_init wsX6_init := goodIn_r _ [58, 59, 2, 3, 60, 61, 62, 25, 63, 64, 53, 54, 55, 92, 93, 94] (by decide +kernel) (by decide +kernel)
set_option maxRecDepth 20000 in
theorem gX9_init_X6_init : GoodIn wsX9_init (wsX6_init) := ggX9_init_X6_init
set_option maxRecDepth 20000 in
theorem ggX9_init_X0_init : GoodIn wsX9_init wsX0_init := goodIn_r _ [66, 67, 2, 3, 68, 69, 70, 71, 95, 96, 97] (by decide +kernel) (by decide +kernel)
set_option maxRecDepth 20000 in
theorem gX9_init_X0_init_n43 : GoodIn wsX9_init (wsX0_init) := ggX9_init_X0_init
theorem dX9_init_0 : decode cX9_init 0 = .ok (.aload_n 0, 1) := by decide +kernel
theorem dX9_init_1 : decode cX9_init 1 = .ok (.invokespecial 1, 3) := by decide +kernel
theorem dX9_init_4 : decode cX9_init 4 = .ok (.aload_n 0, 1) := by decide +kernel
theorem dX9_init_5 : decode cX9_init 5 = .ok (.iconst 0, 1) := by decide +kernel
theorem dX9_init_6 : decode cX9_init 6 = .ok (.putfield 7, 3) := by decide +kernel
theorem dX9_init_9 : decode cX9_init 9 = .ok (.aload_n 0, 1) := by decide +kernel
theorem dX9_init_10 : decode cX9_init 10 = .ok (.new 13, 3) := by decide +kernel
theorem dX9_init_13 : decode cX9_init 13 = .ok (.dup, 1) := by decide +kernel
theorem dX9_init_14 : decode cX9_init 14 = .ok (.invokespecial 15, 3) := by decide +kernel
theorem dX9_init_17 : decode cX9_init 17 = .ok (.putfield 16, 3) := by decide +kernel
theorem dX9_init_20 : decode cX9_init 20 = .ok (.aload_n 0, 1) := by decide +kernel
theorem dX9_init_21 : decode cX9_init 21 = .ok (.new 20, 3) := by decide +kernel
theorem dX9_init_24 : decode cX9_init 24 = .ok (.dup, 1) := by decide +kernel
theorem dX9_init_25 : decode cX9_init 25 = .ok (.invokespecial 22, 3) := by decide +kernel
theorem dX9_init_28 : decode cX9_init 28 = .ok (.putfield 23, 3) := by decide +kernel
theorem dX9_init_31 : decode cX9_init 31 = .ok (.aload_n 0, 1) := by decide +kernel
theorem dX9_init_32 : decode cX9_init 32 = .ok (.new 27, 3) := by decide +kernel
theorem dX9_init_35 : decode cX9_init 35 = .ok (.dup, 1) := by decide +kernel
theorem dX9_init_36 : decode cX9_init 36 = .ok (.invokespecial 29, 3) := by decide +kernel
theorem dX9_init_39 : decode cX9_init 39 = .ok (.putfield 30, 3) := by decide +kernel
theorem dX9_init_42 : decode cX9_init 42 = .ok (.aload_n 0, 1) := by decide +kernel
theorem dX9_init_43 : decode cX9_init 43 = .ok (.new 34, 3) := by decide +kernel
theorem dX9_init_46 : decode cX9_init 46 = .ok (.dup, 1) := by decide +kernel
theorem dX9_init_47 : decode cX9_init 47 = .ok (.invokespecial 36, 3) := by decide +kernel
theorem dX9_init_50 : decode cX9_init 50 = .ok (.putfield 37, 3) := by decide +kernel
theorem dX9_init_53 : decode cX9_init 53 = .ok (.aload_n 0, 1) := by decide +kernel
theorem dX9_init_54 : decode cX9_init 54 = .ok (.new 41, 3) := by decide +kernel
theorem dX9_init_57 : decode cX9_init 57 = .ok (.dup, 1) := by decide +kernel
theorem dX9_init_58 : decode cX9_init 58 = .ok (.invokespecial 43, 3) := by decide +kernel
theorem dX9_init_61 : decode cX9_init 61 = .ok (.putfield 44, 3) := by decide +kernel
theorem dX9_init_64 : decode cX9_init 64 = .ok (.aload_n 0, 1) := by decide +kernel
theorem dX9_init_65 : decode cX9_init 65 = .ok (.bipush 30, 2) := by decide +kernel
theorem dX9_init_67 : decode cX9_init 67 = .ok (.newarray .int, 2) := by decide +kernel
theorem dX9_init_69 : decode cX9_init 69 = .ok (.putfield 48, 3) := by decide +kernel
theorem dX9_init_72 : decode cX9_init 72 = .ok (.return_, 1) := by decide +kernel
set_option maxRecDepth 20000 in
theorem ggX9_go_X9_isBetween : GoodIn wsX9_go wsX9_isBetween := goodIn_r _ [9] (by decide +kernel) (by decide +kernel)
set_option maxRecDepth 20000 in
theorem gX9_go_X9_isBetween : GoodIn wsX9_go (va_wsS RX9 52 yX9_isBetween wsX9_isBetween) := goodIn_app (goodIn_of _ (by decide +kernel)) ggX9_go_X9_isBetween
theorem dX9_go_0 : decode cX9_go 0 = .ok (.iload_n 1, 1) := by decide +kernel
theorem dX9_go_1 : decode cX9_go 1 = .ok (.iconst 0, 1) := by decide +kernel
theorem dX9_go_2 : decode cX9_go 2 = .ok (.sipush 20000, 3) := by decide +kernel
theorem dX9_go_5 : decode cX9_go 5 = .ok (.invokestatic 52, 3) := by decide +kernel
theorem dX9_go_8 : decode cX9_go 8 = .ok (.ifCond .ne 5, 3) := by decide +kernel
theorem dX9_go_11 : decode cX9_go 11 = .ok (.iconst (-1), 1) := by decide +kernel
theorem dX9_go_12 : decode cX9_go 12 = .ok (.ireturn, 1) := by decide +kernel
theorem dX9_go_13 : decode cX9_go 13 = .ok (.aload_n 0, 1) := by decide +kernel
theorem dX9_go_14 : decode cX9_go 14 = .ok (.aload_n 0, 1) := by decide +kernel
theorem dX9_go_15 : decode cX9_go 15 = .ok (.getfield 7, 3) := by decide +kernel
theorem dX9_go_18 : decode cX9_go 18 = .ok (.iload_n 1, 1) := by decide +kernel
theorem dX9_go_19 : decode cX9_go 19 = .ok (.iadd, 1) := by decide +kernel
theorem dX9_go_20 : decode cX9_go 20 = .ok (.sipush 20000, 3) := by decide +kernel
theorem dX9_go_23 : decode cX9_go 23 = .ok (.invokestatic 56, 3) := by decide +kernel
theorem dX9_go_26 : decode cX9_go 26 = .ok (.putfield 7, 3) := by decide +kernel
theorem dX9_go_29 : decode cX9_go 29 = .ok (.aload_n 0, 1) := by decide +kernel
theorem dX9_go_30 : decode cX9_go 30 = .ok (.getfield 7, 3) := by decide +kernel
theorem dX9_go_33 : decode cX9_go 33 = .ok (.ireturn, 1) := by decide +kernel
set_option maxRecDepth 20000 in
theorem ggX9_law_X4_init : GoodIn wsX9_law wsX4_init := goodIn_r _ [7, 8, 9, 10, 11, 12, 13, 14, 15, 16, 41, 42, 43, 44, 45] (by decide +kernel) (by decide +kernel)
set_option maxRecDepth 20000 in
theorem gX9_law_X4_init : GoodIn wsX9_law (wsX4_init) := ggX9_law_X4_init
set_option maxRecDepth 20000 in
theorem ggX9_law_X5_enact : GoodIn wsX9_law wsX5_enact := goodIn_r _ [21, 22, 23, 24, 25, 26, 4, 27, 11, 13, 14, 15, 16, 28, 29, 30, 31, 32, 33, 46, 47, 41, 42, 43, 44, 45] (by decide +kernel) (by decide +kernel)
set_option maxRecDepth 20000 in
theorem gX9_law_X5_enact : GoodIn wsX9_law (wsV RX9 67 RX5 yX5_enact wsX5_enact) := goodIn_app (goodIn_of _ (by decide +kernel)) ggX9_law_X5_enact
theorem dX9_law_0 : decode cX9_law 0 = .ok (.aload_n 0, 1) := by decide +kernel
theorem dX9_law_1 : decode cX9_law 1 = .ok (.getfield 16, 3) := by decide +kernel
theorem dX9_law_4 : decode cX9_law 4 = .ok (.new 62, 3) := by decide +kernel
theorem dX9_law_7 : decode cX9_law 7 = .ok (.dup, 1) := by decide +kernel
theorem dX9_law_8 : decode cX9_law 8 = .ok (.iload_n 1, 1) := by decide +kernel
theorem dX9_law_9 : decode cX9_law 9 = .ok (.iload_n 2, 1) := by decide +kernel
theorem dX9_law_10 : decode cX9_law 10 = .ok (.iload_n 3, 1) := by decide +kernel
theorem dX9_law_11 : decode cX9_law 11 = .ok (.invokespecial 64, 3) := by decide +kernel
theorem dX9_law_14 : decode cX9_law 14 = .ok (.invokevirtual 67, 3) := by decide +kernel
theorem dX9_law_17 : decode cX9_law 17 = .ok (.ireturn, 1) := by decide +kernel
set_option maxRecDepth 20000 in
theorem ggX9_owner_X3_enter : GoodIn wsX9_owner wsX3_enter := goodIn_r _ [6, 7, 8, 9, 10, 11, 12, 13, 14, 15, 16, 17, 18, 26, 27, 28, 29] (by decide +kernel) (by decide +kernel)
set_option maxRecDepth 20000 in
theorem gX9_owner_X3_enter : GoodIn wsX9_owner (wsV RX9 71 RX3 yX3_enter wsX3_enter) := goodIn_app (goodIn_of _ (by decide +kernel)) ggX9_owner_X3_enter
theorem dX9_owner_0 : decode cX9_owner 0 = .ok (.aload_n 0, 1) := by decide +kernel
theorem dX9_owner_1 : decode cX9_owner 1 = .ok (.getfield 23, 3) := by decide +kernel
theorem dX9_owner_4 : decode cX9_owner 4 = .ok (.iload_n 1, 1) := by decide +kernel
theorem dX9_owner_5 : decode cX9_owner 5 = .ok (.iload_n 2, 1) := by decide +kernel
theorem dX9_owner_6 : decode cX9_owner 6 = .ok (.iload_n 3, 1) := by decide +kernel
theorem dX9_owner_7 : decode cX9_owner 7 = .ok (.invokevirtual 71, 3) := by decide +kernel
theorem dX9_owner_10 : decode cX9_owner 10 = .ok (.ireturn, 1) := by decide +kernel
set_option maxRecDepth 20000 in
theorem ggX9_find_X1_init : GoodIn wsX9_find wsX1_init := goodIn_r _ [8, 9, 10, 11, 12, 13, 14, 15, 16, 17, 18, 19, 20, 21, 22, 23, 50, 51, 52, 53, 54, 55, 56, 57, 58, 59, 60] (by decide +kernel) (by decide +kernel)
set_option maxRecDepth 20000 in
theorem gX9_find_X1_init : GoodIn wsX9_find (wsX1_init) := ggX9_find_X1_init
set_option maxRecDepth 20000 in
theorem ggX9_find_X2_enter : GoodIn wsX9_find wsX2_enter := goodIn_r _ [28, 29, 30, 31, 32, 33, 4, 34, 12, 13, 15, 16, 17, 18, 19, 20, 22, 21, 35, 36, 37, 38, 39, 40, 41, 42, 61, 62, 63, 64, 65, 66, 67, 50, 51, 52, 53, 54, 55, 56, 57, 58, 59, 60] (by decide +kernel) (by decide +kernel)
set_option maxRecDepth 20000 in
theorem gX9_find_X2_enter : GoodIn wsX9_find (wsV RX9 79 RX2 yX2_enter wsX2_enter) := goodIn_app (goodIn_of _ (by decide +kernel)) ggX9_find_X2_enter
theorem dX9_find_0 : decode cX9_find 0 = .ok (.aload_n 0, 1) := by decide +kernel
theorem dX9_find_1 : decode cX9_find 1 = .ok (.getfield 30, 3) := by decide +kernel
theorem dX9_find_4 : decode cX9_find 4 = .ok (.new 74, 3) := by decide +kernel
theorem dX9_find_7 : decode cX9_find 7 = .ok (.dup, 1) := by decide +kernel
theorem dX9_find_8 : decode cX9_find 8 = .ok (.iload_n 1, 1) := by decide +kernel
theorem dX9_find_9 : decode cX9_find 9 = .ok (.iload_n 2, 1) := by decide +kernel
theorem dX9_find_10 : decode cX9_find 10 = .ok (.iload_n 3, 1) := by decide +kernel
theorem dX9_find_11 : decode cX9_find 11 = .ok (.iload 4, 2) := by decide +kernel
theorem dX9_find_13 : decode cX9_find 13 = .ok (.aload_n 0, 1) := by decide +kernel
theorem dX9_find_14 : decode cX9_find 14 = .ok (.getfield 7, 3) := by decide +kernel
theorem dX9_find_17 : decode cX9_find 17 = .ok (.invokespecial 76, 3) := by decide +kernel
theorem dX9_find_20 : decode cX9_find 20 = .ok (.invokevirtual 79, 3) := by decide +kernel
theorem dX9_find_23 : decode cX9_find 23 = .ok (.ireturn, 1) := by decide +kernel
set_option maxRecDepth 20000 in
theorem ggX9_part_X2_separate : GoodIn wsX9_part wsX2_separate := goodIn_r _ [7, 8, 9, 10, 11, 12, 6, 13, 14, 15, 16, 17, 18, 19, 20, 21, 22, 23, 24, 25, 33, 34, 35, 36, 37, 38, 39] (by decide +kernel) (by decide +kernel)
set_option maxRecDepth 20000 in
theorem gX9_part_X2_separate : GoodIn wsX9_part (wsV RX9 82 RX2 yX2_separate wsX2_separate) := goodIn_app (goodIn_of _ (by decide +kernel)) ggX9_part_X2_separate
theorem dX9_part_0 : decode cX9_part 0 = .ok (.aload_n 0, 1) := by decide +kernel
theorem dX9_part_1 : decode cX9_part 1 = .ok (.getfield 30, 3) := by decide +kernel
theorem dX9_part_4 : decode cX9_part 4 = .ok (.iload_n 1, 1) := by decide +kernel
theorem dX9_part_5 : decode cX9_part 5 = .ok (.iload_n 2, 1) := by decide +kernel
theorem dX9_part_6 : decode cX9_part 6 = .ok (.aload_n 0, 1) := by decide +kernel
theorem dX9_part_7 : decode cX9_part 7 = .ok (.getfield 7, 3) := by decide +kernel
theorem dX9_part_10 : decode cX9_part 10 = .ok (.invokevirtual 82, 3) := by decide +kernel
theorem dX9_part_13 : decode cX9_part 13 = .ok (.ireturn, 1) := by decide +kernel
set_option maxRecDepth 20000 in
theorem ggX9_hoard_X2_gatherHoards : GoodIn wsX9_hoard wsX2_gatherHoards := goodIn_r _ [7, 8, 9, 10, 11, 12, 13, 14, 15, 16, 6, 17, 18, 19, 20, 21, 22, 23, 24, 25, 26, 27, 28, 29, 30, 31, 32, 33, 34, 35, 36, 37, 38, 39, 40, 41, 42, 43, 44, 45, 46, 47, 48, 49, 50, 51, 52, 53, 54, 55, 56, 57, 58, 59, 60, 61, 73, 74, 75, 76, 77, 78, 79, 80, 81, 82, 83, 84, 85, 86, 87, 88, 89, 90] (by decide +kernel) (by decide +kernel)
set_option maxRecDepth 20000 in
theorem gX9_hoard_X2_gatherHoards : GoodIn wsX9_hoard (wsV RX9 85 RX2 yX2_gatherHoards wsX2_gatherHoards) := goodIn_app (goodIn_of _ (by decide +kernel)) ggX9_hoard_X2_gatherHoards
set_option maxRecDepth 20000 in
theorem ggX9_hoard_X2_hoardNumber : GoodIn wsX9_hoard wsX2_hoardNumber := goodIn_r _ [65, 8, 25, 26, 27, 6, 28, 18, 73, 74, 75, 76, 77, 78, 79] (by decide +kernel) (by decide +kernel)
set_option maxRecDepth 20000 in
theorem gX9_hoard_X2_hoardNumber : GoodIn wsX9_hoard (wsV RX9 89 RX2 yX2_hoardNumber wsX2_hoardNumber) := goodIn_app (goodIn_of _ (by decide +kernel)) ggX9_hoard_X2_hoardNumber
theorem dX9_hoard_0 : decode cX9_hoard 0 = .ok (.aload_n 0, 1) := by decide +kernel
theorem dX9_hoard_1 : decode cX9_hoard 1 = .ok (.getfield 30, 3) := by decide +kernel
theorem dX9_hoard_4 : decode cX9_hoard 4 = .ok (.aload_n 0, 1) := by decide +kernel
theorem dX9_hoard_5 : decode cX9_hoard 5 = .ok (.getfield 7, 3) := by decide +kernel
theorem dX9_hoard_8 : decode cX9_hoard 8 = .ok (.invokevirtual 85, 3) := by decide +kernel
theorem dX9_hoard_11 : decode cX9_hoard 11 = .ok (.aload_n 0, 1) := by decide +kernel
theorem dX9_hoard_12 : decode cX9_hoard 12 = .ok (.getfield 30, 3) := by decide +kernel
theorem dX9_hoard_15 : decode cX9_hoard 15 = .ok (.iload_n 1, 1) := by decide +kernel
theorem dX9_hoard_16 : decode cX9_hoard 16 = .ok (.invokevirtual 89, 3) := by decide +kernel
theorem dX9_hoard_19 : decode cX9_hoard 19 = .ok (.ireturn, 1) := by decide +kernel
set_option maxRecDepth 20000 in
theorem ggX9_size_X9_isPast : GoodIn wsX9_size wsX9_isPast := goodIn_r _ [5, 6, 7, 8, 4, 9, 78, 79, 80, 81, 82, 83, 84] (by decide +kernel) (by decide +kernel)
set_option maxRecDepth 20000 in
theorem gX9_size_X9_isPast : GoodIn wsX9_size (wsV RX9 93 RX9 yX9_isPast wsX9_isPast) := goodIn_app (goodIn_of _ (by decide +kernel)) ggX9_size_X9_isPast
set_option maxRecDepth 20000 in
theorem ggX9_size_X9_hoardSizeOn : GoodIn wsX9_size wsX9_hoardSizeOn := goodIn_r _ [13, 14, 15, 16, 17, 18, 19, 20, 21, 22, 23, 24, 25, 26, 27, 28, 29, 30, 31, 32, 33, 34, 35, 36, 37, 38, 39, 40, 41, 42, 43, 44, 45, 46, 47, 48, 49, 50, 51, 52, 53, 54, 55, 56, 57, 58, 59, 60, 61, 62, 63, 64, 65, 66, 67, 68, 69, 70, 71, 72, 73, 74, 75, 76, 77, 78, 79, 80, 81, 82, 83, 84, 85, 86, 87, 88, 89, 90, 91, 92, 93, 94, 95, 96, 97, 98, 99, 100, 101, 102] (by decide +kernel) (by decide +kernel)
set_option maxRecDepth 20000 in
theorem gX9_size_X9_hoardSizeOn : GoodIn wsX9_size (wsV RX9 97 RX9 yX9_hoardSizeOn wsX9_hoardSizeOn) := goodIn_app (goodIn_of _ (by decide +kernel)) ggX9_size_X9_hoardSizeOn
theorem dX9_size_0 : decode cX9_size 0 = .ok (.aload_n 0, 1) := by decide +kernel
theorem dX9_size_1 : decode cX9_size 1 = .ok (.iload_n 2, 1) := by decide +kernel
theorem dX9_size_2 : decode cX9_size 2 = .ok (.invokevirtual 93, 3) := by decide +kernel
theorem dX9_size_5 : decode cX9_size 5 = .ok (.ifCond .eq 12, 3) := by decide +kernel
theorem dX9_size_8 : decode cX9_size 8 = .ok (.aload_n 0, 1) := by decide +kernel
theorem dX9_size_9 : decode cX9_size 9 = .ok (.iload_n 1, 1) := by decide +kernel
theorem dX9_size_10 : decode cX9_size 10 = .ok (.iload_n 2, 1) := by decide +kernel
theorem dX9_size_11 : decode cX9_size 11 = .ok (.invokevirtual 97, 3) := by decide +kernel
theorem dX9_size_14 : decode cX9_size 14 = .ok (.goto 4, 3) := by decide +kernel
theorem dX9_size_17 : decode cX9_size 17 = .ok (.iconst (-1), 1) := by decide +kernel
theorem dX9_size_18 : decode cX9_size 18 = .ok (.ireturn, 1) := by decide +kernel
set_option maxRecDepth 20000 in
theorem ggX9_counts_X9_isTreasureOn : GoodIn wsX9_counts wsX9_isTreasureOn := goodIn_r _ [6, 7, 8, 9, 10, 11, 12, 13, 14, 15, 16, 17, 18, 19, 20, 21, 22, 23, 24, 25, 26, 27, 28, 29, 30, 31, 32, 33, 34, 35, 36, 37, 38, 39, 40, 41, 42, 43, 44, 45, 46, 47, 48, 49, 50, 51, 52, 53, 54, 55, 56, 57, 58, 59, 60, 61, 62, 63, 64, 65, 66, 67, 68, 69, 5, 70, 71, 72, 73, 74, 75, 76, 77, 78, 79, 80, 81, 82, 83, 84, 85, 86, 87, 88, 89, 90, 91, 92, 93, 94, 95, 96, 97, 98, 99, 100, 101, 102, 103, 104, 105, 106, 107, 108, 109, 110, 111, 112, 113, 114, 115, 116, 117, 118, 119, 120, 121, 122, 123, 124, 125, 126, 127, 128, 129, 130, 131] (by decide +kernel) (by decide +kernel)
set_option maxRecDepth 20000 in
theorem gX9_counts_X9_isTreasureOn : GoodIn wsX9_counts (wsV RX9 100 RX9 yX9_isTreasureOn wsX9_isTreasureOn) := goodIn_app (goodIn_of _ (by decide +kernel)) ggX9_counts_X9_isTreasureOn
theorem dX9_counts_0 : decode cX9_counts 0 = .ok (.aload_n 0, 1) := by decide +kernel
theorem dX9_counts_1 : decode cX9_counts 1 = .ok (.iload_n 1, 1) := by decide +kernel
theorem dX9_counts_2 : decode cX9_counts 2 = .ok (.aload_n 0, 1) := by decide +kernel
theorem dX9_counts_3 : decode cX9_counts 3 = .ok (.getfield 7, 3) := by decide +kernel
theorem dX9_counts_6 : decode cX9_counts 6 = .ok (.invokevirtual 100, 3) := by decide +kernel
theorem dX9_counts_9 : decode cX9_counts 9 = .ok (.ireturn, 1) := by decide +kernel
set_option maxRecDepth 20000 in
theorem ggX9_counted_X9_isPast : GoodIn wsX9_counted wsX9_isPast := goodIn_r _ [5, 6, 7, 8, 4, 9, 107, 108, 109, 110, 111, 112, 113] (by decide +kernel) (by decide +kernel)
set_option maxRecDepth 20000 in
theorem gX9_counted_X9_isPast : GoodIn wsX9_counted (wsV RX9 93 RX9 yX9_isPast wsX9_isPast) := goodIn_app (goodIn_of _ (by decide +kernel)) ggX9_counted_X9_isPast
set_option maxRecDepth 20000 in
theorem ggX9_counted_X9_isTreasureOn : GoodIn wsX9_counted wsX9_isTreasureOn := goodIn_r _ [13, 14, 15, 16, 17, 18, 19, 20, 21, 22, 23, 24, 25, 26, 27, 28, 29, 30, 31, 32, 33, 34, 35, 36, 37, 38, 39, 40, 41, 42, 43, 44, 45, 46, 47, 48, 49, 50, 51, 52, 53, 54, 55, 56, 57, 58, 59, 60, 61, 62, 63, 64, 65, 66, 67, 68, 69, 70, 71, 72, 73, 74, 75, 76, 4, 77, 78, 79, 80, 81, 82, 83, 84, 85, 86, 87, 88, 89, 90, 91, 92, 93, 94, 95, 96, 97, 98, 99, 100, 101, 102, 103, 104, 105, 106, 107, 108, 109, 110, 111, 112, 113, 114, 115, 116, 117, 118, 119, 120, 121, 122, 123, 124, 125, 126, 127, 128, 129, 130, 131, 132, 133, 134, 135, 136, 137, 138] (by decide +kernel) (by decide +kernel)
set_option maxRecDepth 20000 in
theorem gX9_counted_X9_isTreasureOn : GoodIn wsX9_counted (wsV RX9 100 RX9 yX9_isTreasureOn wsX9_isTreasureOn) := goodIn_app (goodIn_of _ (by decide +kernel)) ggX9_counted_X9_isTreasureOn
theorem dX9_counted_0 : decode cX9_counted 0 = .ok (.aload_n 0, 1) := by decide +kernel
theorem dX9_counted_1 : decode cX9_counted 1 = .ok (.iload_n 2, 1) := by decide +kernel
theorem dX9_counted_2 : decode cX9_counted 2 = .ok (.invokevirtual 93, 3) := by decide +kernel
theorem dX9_counted_5 : decode cX9_counted 5 = .ok (.ifCond .eq 16, 3) := by decide +kernel
theorem dX9_counted_8 : decode cX9_counted 8 = .ok (.aload_n 0, 1) := by decide +kernel
theorem dX9_counted_9 : decode cX9_counted 9 = .ok (.iload_n 1, 1) := by decide +kernel
theorem dX9_counted_10 : decode cX9_counted 10 = .ok (.iload_n 2, 1) := by decide +kernel
theorem dX9_counted_11 : decode cX9_counted 11 = .ok (.invokevirtual 100, 3) := by decide +kernel
theorem dX9_counted_14 : decode cX9_counted 14 = .ok (.ifCond .eq 7, 3) := by decide +kernel
theorem dX9_counted_17 : decode cX9_counted 17 = .ok (.iconst 1, 1) := by decide +kernel
theorem dX9_counted_18 : decode cX9_counted 18 = .ok (.goto 4, 3) := by decide +kernel
theorem dX9_counted_21 : decode cX9_counted 21 = .ok (.iconst 0, 1) := by decide +kernel
theorem dX9_counted_22 : decode cX9_counted 22 = .ok (.ireturn, 1) := by decide +kernel
set_option maxRecDepth 20000 in
theorem ggX9_told_X2_numbered : GoodIn wsX9_told wsX2_numbered := goodIn_r _ [16, 17, 18, 19, 20, 15, 21, 22, 63, 64, 65, 66, 67, 68, 69] (by decide +kernel) (by decide +kernel)
set_option maxRecDepth 20000 in
theorem gX9_told_X2_numbered : GoodIn wsX9_told (wsV RX9 104 RX2 yX2_numbered wsX2_numbered) := goodIn_app (goodIn_of _ (by decide +kernel)) ggX9_told_X2_numbered
set_option maxRecDepth 20000 in
theorem ggX9_told_X9_landownerOf : GoodIn wsX9_told wsX9_landownerOf := goodIn_r _ [27, 28, 3, 29, 30, 31, 32, 33, 34, 35, 36, 37, 38, 39, 40, 41, 42, 43, 44, 45, 46, 47, 48, 49, 50, 51, 52, 53, 54, 55, 56, 57, 58, 59, 60, 61, 62, 70, 71, 72, 73] (by decide +kernel) (by decide +kernel)
set_option maxRecDepth 20000 in
theorem gX9_told_X9_landownerOf : GoodIn wsX9_told (wsV RX9 133 RX9 yX9_landownerOf wsX9_landownerOf) := goodIn_app (goodIn_of _ (by decide +kernel)) ggX9_told_X9_landownerOf
theorem dX9_told_0 : decode cX9_told 0 = .ok (.aload_n 0, 1) := by decide +kernel
theorem dX9_told_1 : decode cX9_told 1 = .ok (.getfield 30, 3) := by decide +kernel
theorem dX9_told_4 : decode cX9_told 4 = .ok (.iload_n 1, 1) := by decide +kernel
theorem dX9_told_5 : decode cX9_told 5 = .ok (.invokevirtual 104, 3) := by decide +kernel
theorem dX9_told_8 : decode cX9_told 8 = .ok (.astore_n 3, 1) := by decide +kernel
theorem dX9_told_9 : decode cX9_told 9 = .ok (.aload_n 3, 1) := by decide +kernel
theorem dX9_told_10 : decode cX9_told 10 = .ok (.ifnonnull 6, 3) := by decide +kernel
theorem dX9_told_13 : decode cX9_told 13 = .ok (.ldc 108, 2) := by decide +kernel
theorem dX9_told_15 : decode cX9_told 15 = .ok (.ireturn, 1) := by decide +kernel
theorem dX9_told_16 : decode cX9_told 16 = .ok (.iload_n 2, 1) := by decide +kernel
theorem dX9_told_17 : decode cX9_told 17 = .ok (.tableswitch 106 0 9 #[55, 60, 65, 70, 75, 80, 85, 90, 95, 101], 55) := by decide +kernel
theorem dX9_told_72 : decode cX9_told 72 = .ok (.aload_n 3, 1) := by decide +kernel
theorem dX9_told_73 : decode cX9_told 73 = .ok (.getfield 109, 3) := by decide +kernel
theorem dX9_told_76 : decode cX9_told 76 = .ok (.ireturn, 1) := by decide +kernel
theorem dX9_told_77 : decode cX9_told 77 = .ok (.aload_n 3, 1) := by decide +kernel
theorem dX9_told_78 : decode cX9_told 78 = .ok (.getfield 112, 3) := by decide +kernel
theorem dX9_told_81 : decode cX9_told 81 = .ok (.ireturn, 1) := by decide +kernel
theorem dX9_told_82 : decode cX9_told 82 = .ok (.aload_n 3, 1) := by decide +kernel
theorem dX9_told_83 : decode cX9_told 83 = .ok (.getfield 115, 3) := by decide +kernel
theorem dX9_told_86 : decode cX9_told 86 = .ok (.ireturn, 1) := by decide +kernel
theorem dX9_told_87 : decode cX9_told 87 = .ok (.aload_n 3, 1) := by decide +kernel
theorem dX9_told_88 : decode cX9_told 88 = .ok (.getfield 118, 3) := by decide +kernel
theorem dX9_told_91 : decode cX9_told 91 = .ok (.ireturn, 1) := by decide +kernel
theorem dX9_told_92 : decode cX9_told 92 = .ok (.aload_n 3, 1) := by decide +kernel
theorem dX9_told_93 : decode cX9_told 93 = .ok (.getfield 121, 3) := by decide +kernel
theorem dX9_told_96 : decode cX9_told 96 = .ok (.ireturn, 1) := by decide +kernel
theorem dX9_told_97 : decode cX9_told 97 = .ok (.aload_n 3, 1) := by decide +kernel
theorem dX9_told_98 : decode cX9_told 98 = .ok (.getfield 124, 3) := by decide +kernel
theorem dX9_told_101 : decode cX9_told 101 = .ok (.ireturn, 1) := by decide +kernel
theorem dX9_told_102 : decode cX9_told 102 = .ok (.aload_n 3, 1) := by decide +kernel
theorem dX9_told_103 : decode cX9_told 103 = .ok (.getfield 127, 3) := by decide +kernel
theorem dX9_told_106 : decode cX9_told 106 = .ok (.ireturn, 1) := by decide +kernel
theorem dX9_told_107 : decode cX9_told 107 = .ok (.aload_n 3, 1) := by decide +kernel
theorem dX9_told_108 : decode cX9_told 108 = .ok (.getfield 130, 3) := by decide +kernel
theorem dX9_told_111 : decode cX9_told 111 = .ok (.ireturn, 1) := by decide +kernel
theorem dX9_told_112 : decode cX9_told 112 = .ok (.aload_n 0, 1) := by decide +kernel
theorem dX9_told_113 : decode cX9_told 113 = .ok (.aload_n 3, 1) := by decide +kernel
theorem dX9_told_114 : decode cX9_told 114 = .ok (.invokevirtual 133, 3) := by decide +kernel
theorem dX9_told_117 : decode cX9_told 117 = .ok (.ireturn, 1) := by decide +kernel
theorem dX9_told_118 : decode cX9_told 118 = .ok (.aload_n 3, 1) := by decide +kernel
theorem dX9_told_119 : decode cX9_told 119 = .ok (.getfield 136, 3) := by decide +kernel
theorem dX9_told_122 : decode cX9_told 122 = .ok (.ireturn, 1) := by decide +kernel
theorem dX9_told_123 : decode cX9_told 123 = .ok (.ldc 108, 2) := by decide +kernel
theorem dX9_told_125 : decode cX9_told 125 = .ok (.ireturn, 1) := by decide +kernel
set_option maxRecDepth 20000 in
theorem ggX9_index_X6_setLevel : GoodIn wsX9_index wsX6_setLevel := goodIn_r _ [6, 7, 8, 9, 10, 18, 19, 20] (by decide +kernel) (by decide +kernel)
set_option maxRecDepth 20000 in
theorem gX9_index_X6_setLevel : GoodIn wsX9_index (wsV RX9 139 RX6 yX6_setLevel wsX6_setLevel) := goodIn_app (goodIn_of _ (by decide +kernel)) ggX9_index_X6_setLevel
theorem dX9_index_0 : decode cX9_index 0 = .ok (.aload_n 0, 1) := by decide +kernel
theorem dX9_index_1 : decode cX9_index 1 = .ok (.getfield 37, 3) := by decide +kernel
theorem dX9_index_4 : decode cX9_index 4 = .ok (.iload_n 1, 1) := by decide +kernel
theorem dX9_index_5 : decode cX9_index 5 = .ok (.iload_n 2, 1) := by decide +kernel
theorem dX9_index_6 : decode cX9_index 6 = .ok (.invokevirtual 139, 3) := by decide +kernel
theorem dX9_index_9 : decode cX9_index 9 = .ok (.ireturn, 1) := by decide +kernel
set_option maxRecDepth 20000 in
theorem ggX9_sale_X9_isPast : GoodIn wsX9_sale wsX9_isPast := goodIn_r _ [9, 10, 11, 12, 8, 13, 45, 46, 47, 48, 49, 50, 51] (by decide +kernel) (by decide +kernel)
set_option maxRecDepth 20000 in
theorem gX9_sale_X9_isPast : GoodIn wsX9_sale (wsV RX9 93 RX9 yX9_isPast wsX9_isPast) := goodIn_app (goodIn_of _ (by decide +kernel)) ggX9_sale_X9_isPast
set_option maxRecDepth 20000 in
theorem ggX9_sale_X8_init : GoodIn wsX9_sale wsX8_init := goodIn_r _ [16, 17, 18, 19, 20, 21, 22, 23, 52, 53, 54, 55] (by decide +kernel) (by decide +kernel)
set_option maxRecDepth 20000 in
theorem gX9_sale_X8_init : GoodIn wsX9_sale (wsX8_init) := ggX9_sale_X8_init
set_option maxRecDepth 20000 in
theorem ggX9_sale_X6_enter : GoodIn wsX9_sale wsX6_enter := goodIn_r _ [28, 29, 30, 31, 32, 33, 34, 4, 35, 20, 21, 22, 23, 36, 37, 8, 38, 11, 12, 13, 39, 40, 41, 42, 43, 27, 44, 56, 57, 58, 52, 53, 54, 55] (by decide +kernel) (by decide +kernel)
set_option maxRecDepth 20000 in
theorem gX9_sale_X6_enter : GoodIn wsX9_sale (wsV RX9 147 RX6 yX6_enter wsX6_enter) := goodIn_app (goodIn_of _ (by decide +kernel)) ggX9_sale_X6_enter
theorem dX9_sale_0 : decode cX9_sale 0 = .ok (.aload_n 0, 1) := by decide +kernel
theorem dX9_sale_1 : decode cX9_sale 1 = .ok (.iload_n 2, 1) := by decide +kernel
theorem dX9_sale_2 : decode cX9_sale 2 = .ok (.invokevirtual 93, 3) := by decide +kernel
theorem dX9_sale_5 : decode cX9_sale 5 = .ok (.ifCond .eq 25, 3) := by decide +kernel
theorem dX9_sale_8 : decode cX9_sale 8 = .ok (.aload_n 0, 1) := by decide +kernel
theorem dX9_sale_9 : decode cX9_sale 9 = .ok (.getfield 37, 3) := by decide +kernel
theorem dX9_sale_12 : decode cX9_sale 12 = .ok (.new 142, 3) := by decide +kernel
theorem dX9_sale_15 : decode cX9_sale 15 = .ok (.dup, 1) := by decide +kernel
theorem dX9_sale_16 : decode cX9_sale 16 = .ok (.iload_n 1, 1) := by decide +kernel
theorem dX9_sale_17 : decode cX9_sale 17 = .ok (.iload_n 2, 1) := by decide +kernel
theorem dX9_sale_18 : decode cX9_sale 18 = .ok (.iload_n 3, 1) := by decide +kernel
theorem dX9_sale_19 : decode cX9_sale 19 = .ok (.iload 4, 2) := by decide +kernel
theorem dX9_sale_21 : decode cX9_sale 21 = .ok (.invokespecial 144, 3) := by decide +kernel
theorem dX9_sale_24 : decode cX9_sale 24 = .ok (.invokevirtual 147, 3) := by decide +kernel
theorem dX9_sale_27 : decode cX9_sale 27 = .ok (.goto 4, 3) := by decide +kernel
theorem dX9_sale_30 : decode cX9_sale 30 = .ok (.iconst (-1), 1) := by decide +kernel
theorem dX9_sale_31 : decode cX9_sale 31 = .ok (.ireturn, 1) := by decide +kernel
set_option maxRecDepth 20000 in
theorem ggX9_worth_X2_numbered : GoodIn wsX9_worth wsX2_numbered := goodIn_r _ [6, 7, 8, 9, 10, 5, 11, 12, 57, 58, 59, 60, 61, 62, 63] (by decide +kernel) (by decide +kernel)
set_option maxRecDepth 20000 in
theorem gX9_worth_X2_numbered : GoodIn wsX9_worth (wsV RX9 104 RX2 yX2_numbered wsX2_numbered) := goodIn_app (goodIn_of _ (by decide +kernel)) ggX9_worth_X2_numbered
set_option maxRecDepth 20000 in
theorem ggX9_worth_X9_worthNow : GoodIn wsX9_worth wsX9_worthNow := goodIn_r _ [17, 18, 19, 20, 21, 22, 23, 16, 24, 25, 26, 27, 28, 29, 30, 31, 32, 33, 34, 35, 36, 37, 38, 39, 40, 41, 42, 43, 44, 45, 46, 47, 48, 49, 50, 51, 52, 53, 54, 55, 56, 64, 65, 66, 67, 68, 69, 70, 71, 72, 73, 74, 75, 76, 77, 78, 79, 80, 81] (by decide +kernel) (by decide +kernel)
set_option maxRecDepth 20000 in
theorem gX9_worth_X9_worthNow : GoodIn wsX9_worth (wsV RX9 150 RX9 yX9_worthNow wsX9_worthNow) := goodIn_app (goodIn_of _ (by decide +kernel)) ggX9_worth_X9_worthNow
theorem dX9_worth_0 : decode cX9_worth 0 = .ok (.aload_n 0, 1) := by decide +kernel
theorem dX9_worth_1 : decode cX9_worth 1 = .ok (.getfield 30, 3) := by decide +kernel
theorem dX9_worth_4 : decode cX9_worth 4 = .ok (.iload_n 1, 1) := by decide +kernel
theorem dX9_worth_5 : decode cX9_worth 5 = .ok (.invokevirtual 104, 3) := by decide +kernel
theorem dX9_worth_8 : decode cX9_worth 8 = .ok (.astore_n 2, 1) := by decide +kernel
theorem dX9_worth_9 : decode cX9_worth 9 = .ok (.aload_n 2, 1) := by decide +kernel
theorem dX9_worth_10 : decode cX9_worth 10 = .ok (.ifnonnull 7, 3) := by decide +kernel
theorem dX9_worth_13 : decode cX9_worth 13 = .ok (.iconst (-1), 1) := by decide +kernel
theorem dX9_worth_14 : decode cX9_worth 14 = .ok (.goto 8, 3) := by decide +kernel
theorem dX9_worth_17 : decode cX9_worth 17 = .ok (.aload_n 0, 1) := by decide +kernel
theorem dX9_worth_18 : decode cX9_worth 18 = .ok (.aload_n 2, 1) := by decide +kernel
theorem dX9_worth_19 : decode cX9_worth 19 = .ok (.invokevirtual 150, 3) := by decide +kernel
theorem dX9_worth_22 : decode cX9_worth 22 = .ok (.ireturn, 1) := by decide +kernel
set_option maxRecDepth 20000 in
theorem ggX9_share_X9_isPerson : GoodIn wsX9_share wsX9_isPerson := goodIn_r _ [6, 7, 8, 5, 9] (by decide +kernel) (by decide +kernel)
set_option maxRecDepth 20000 in
theorem gX9_share_X9_isPerson : GoodIn wsX9_share (va_wsS RX9 153 yX9_isPerson wsX9_isPerson) := goodIn_app (goodIn_of _ (by decide +kernel)) ggX9_share_X9_isPerson
set_option maxRecDepth 20000 in
theorem ggX9_share_X2_gatherHoards : GoodIn wsX9_share wsX2_gatherHoards := goodIn_r _ [14, 15, 16, 17, 18, 19, 20, 21, 22, 23, 13, 24, 25, 26, 27, 28, 29, 30, 31, 32, 33, 34, 35, 36, 37, 38, 39, 40, 41, 42, 43, 44, 45, 46, 47, 48, 49, 50, 51, 52, 53, 54, 55, 56, 57, 58, 59, 60, 61, 62, 63, 64, 65, 66, 67, 68, 165, 166, 167, 168, 169, 170, 171, 172, 173, 174, 175, 176, 177, 178, 179, 180, 181, 182] (by decide +kernel) (by decide +kernel)
set_option maxRecDepth 20000 in
theorem gX9_share_X2_gatherHoards : GoodIn wsX9_share (wsV RX9 85 RX2 yX2_gatherHoards wsX2_gatherHoards) := goodIn_app (goodIn_of _ (by decide +kernel)) ggX9_share_X2_gatherHoards
set_option maxRecDepth 20000 in
theorem ggX9_share_X9_rewardFor : GoodIn wsX9_share wsX9_rewardFor := goodIn_r _ [72, 1, 73, 74, 75, 28, 29, 13, 30, 31, 32, 33, 34, 35, 25, 76, 77, 78, 5, 79, 80, 81, 82, 83, 84, 85, 15, 16, 86, 87, 88, 89, 90, 91, 92, 93, 94, 95, 96, 97, 98, 99, 100, 101, 102, 103, 104, 105, 106, 107, 108, 109, 110, 111, 112, 113, 114, 2, 115, 116, 117, 118, 119, 120, 121, 122, 123, 124, 125, 126, 127, 54, 128, 129, 130, 131, 132, 133, 134, 135, 136, 137, 138, 139, 140, 141, 142, 143, 144, 145, 146, 147, 49, 148, 51, 56, 149, 150, 151, 152, 153, 154, 155, 156, 157, 158, 159, 160, 161, 162, 163, 164, 183, 184, 185, 186, 187, 172, 173, 174, 175, 176, 177, 178, 179, 180, 181, 182, 165, 166, 167, 168, 169, 170, 171, 188, 189, 190, 191, 192, 193, 194, 195, 196, 197, 198, 199, 200] (by decide +kernel) (by decide +kernel)
set_option maxRecDepth 20000 in
theorem gX9_share_X9_rewardFor : GoodIn wsX9_share (wsV RX9 156 RX9 yX9_rewardFor wsX9_rewardFor) := goodIn_app (goodIn_of _ (by decide +kernel)) ggX9_share_X9_rewardFor
theorem dX9_share_0 : decode cX9_share 0 = .ok (.iload_n 2, 1) := by decide +kernel
theorem dX9_share_1 : decode cX9_share 1 = .ok (.invokestatic 153, 3) := by decide +kernel
theorem dX9_share_4 : decode cX9_share 4 = .ok (.ifCond .ne 5, 3) := by decide +kernel
theorem dX9_share_7 : decode cX9_share 7 = .ok (.iconst 0, 1) := by decide +kernel
theorem dX9_share_8 : decode cX9_share 8 = .ok (.ireturn, 1) := by decide +kernel
theorem dX9_share_9 : decode cX9_share 9 = .ok (.aload_n 0, 1) := by decide +kernel
theorem dX9_share_10 : decode cX9_share 10 = .ok (.getfield 30, 3) := by decide +kernel
theorem dX9_share_13 : decode cX9_share 13 = .ok (.aload_n 0, 1) := by decide +kernel
theorem dX9_share_14 : decode cX9_share 14 = .ok (.getfield 7, 3) := by decide +kernel
theorem dX9_share_17 : decode cX9_share 17 = .ok (.invokevirtual 85, 3) := by decide +kernel
theorem dX9_share_20 : decode cX9_share 20 = .ok (.aload_n 0, 1) := by decide +kernel
theorem dX9_share_21 : decode cX9_share 21 = .ok (.iload_n 1, 1) := by decide +kernel
theorem dX9_share_22 : decode cX9_share 22 = .ok (.iload_n 2, 1) := by decide +kernel
theorem dX9_share_23 : decode cX9_share 23 = .ok (.invokevirtual 156, 3) := by decide +kernel
theorem dX9_share_26 : decode cX9_share 26 = .ok (.ireturn, 1) := by decide +kernel
set_option maxRecDepth 20000 in
theorem ggX9_due_X9_isPerson : GoodIn wsX9_due wsX9_isPerson := goodIn_r _ [4, 5, 6, 3, 7] (by decide +kernel) (by decide +kernel)
set_option maxRecDepth 20000 in
theorem gX9_due_X9_isPerson : GoodIn wsX9_due (va_wsS RX9 153 yX9_isPerson wsX9_isPerson) := goodIn_app (goodIn_of _ (by decide +kernel)) ggX9_due_X9_isPerson
set_option maxRecDepth 20000 in
theorem ggX9_due_X9_stillOpen : GoodIn wsX9_due wsX9_stillOpen := goodIn_r _ [11, 12, 13, 14, 15, 16, 17, 18, 19, 20, 21, 22, 23, 24, 25, 26, 27, 28, 29, 30, 31, 32, 33, 34, 35, 36, 37, 38, 39, 40, 41, 42, 43, 44, 45, 46, 47, 48, 49, 50, 51, 52, 53, 54, 55, 56, 57, 58, 59, 60, 61, 62, 63, 64, 65, 66, 67, 68, 69, 70, 71, 72, 73, 74, 1, 2, 3, 4, 5, 6, 7, 75, 76, 77, 78, 79, 80, 81, 82, 83, 84, 85, 86, 87, 88, 89, 90, 91, 92, 93, 94, 95, 96, 97, 98, 99, 100, 101, 102, 103, 104, 105, 106, 107, 108, 109, 110, 111, 112, 113, 114, 115, 116, 117, 118, 119, 120, 121, 122, 123, 124, 125, 126, 127, 128, 129, 130, 131, 132, 133, 134, 135, 136, 137, 138, 139, 140, 141, 142, 143, 144, 145, 146, 147, 148, 149, 150, 151, 152, 153, 154, 155, 156, 157, 158, 159, 160, 161, 162, 163, 164, 165, 166, 167, 168, 169, 170, 171, 172, 173, 174, 175, 176, 177, 178, 179, 180, 181, 182, 183, 184, 185, 186, 187, 188, 189, 190, 191, 192, 193, 194, 195, 196, 197, 198, 199, 200, 201, 202, 203, 204, 205, 206] (by decide +kernel) (by decide +kernel)
set_option maxRecDepth 20000 in
theorem gX9_due_X9_stillOpen : GoodIn wsX9_due (wsV RX9 159 RX9 yX9_stillOpen wsX9_stillOpen) := goodIn_app (goodIn_of _ (by decide +kernel)) ggX9_due_X9_stillOpen
theorem dX9_due_0 : decode cX9_due 0 = .ok (.iload_n 1, 1) := by decide +kernel
theorem dX9_due_1 : decode cX9_due 1 = .ok (.invokestatic 153, 3) := by decide +kernel
theorem dX9_due_4 : decode cX9_due 4 = .ok (.ifCond .eq 11, 3) := by decide +kernel
theorem dX9_due_7 : decode cX9_due 7 = .ok (.aload_n 0, 1) := by decide +kernel
theorem dX9_due_8 : decode cX9_due 8 = .ok (.iload_n 1, 1) := by decide +kernel
theorem dX9_due_9 : decode cX9_due 9 = .ok (.invokevirtual 159, 3) := by decide +kernel
theorem dX9_due_12 : decode cX9_due 12 = .ok (.goto 4, 3) := by decide +kernel
theorem dX9_due_15 : decode cX9_due 15 = .ok (.iconst 0, 1) := by decide +kernel
theorem dX9_due_16 : decode cX9_due 16 = .ok (.ireturn, 1) := by decide +kernel
set_option maxRecDepth 20000 in
theorem ggX9_settle_X9_isPerson : GoodIn wsX9_settle wsX9_isPerson := goodIn_r _ [5, 6, 7, 4, 8] (by decide +kernel) (by decide +kernel)
set_option maxRecDepth 20000 in
theorem gX9_settle_X9_isPerson : GoodIn wsX9_settle (va_wsS RX9 153 yX9_isPerson wsX9_isPerson) := goodIn_app (goodIn_of _ (by decide +kernel)) ggX9_settle_X9_isPerson
set_option maxRecDepth 20000 in
theorem ggX9_settle_X9_stillOpen : GoodIn wsX9_settle wsX9_stillOpen := goodIn_r _ [12, 13, 14, 1, 15, 16, 17, 18, 19, 20, 21, 22, 23, 24, 25, 26, 27, 28, 29, 30, 31, 32, 33, 34, 35, 36, 37, 38, 39, 40, 41, 42, 43, 44, 45, 46, 47, 48, 49, 50, 51, 52, 53, 54, 55, 56, 57, 58, 59, 60, 61, 62, 63, 64, 65, 66, 67, 68, 69, 70, 71, 72, 73, 74, 2, 3, 4, 5, 6, 7, 8, 75, 76, 77, 78, 79, 80, 81, 82, 83, 84, 85, 86, 87, 88, 89, 90, 91, 92, 93, 94, 95, 96, 97, 98, 99, 100, 101, 102, 103, 104, 105, 106, 107, 108, 109, 110, 111, 112, 113, 114, 115, 116, 117, 118, 119, 120, 121, 122, 123, 124, 125, 126, 127, 128, 129, 130, 131, 132, 133, 134, 135, 136, 137, 138, 139, 140, 141, 142, 143, 144, 145, 146, 147, 148, 149, 150, 151, 152, 153, 154, 155, 156, 157, 158, 159, 160, 161, 162, 163, 164, 165, 166, 167, 168, 169, 170, 171, 172, 173, 174, 175, 176, 177, 178, 179, 180, 181, 182, 183, 184, 185, 186, 187, 188, 189, 190, 191, 192, 193, 194, 195, 196, 197, 198, 199, 200, 201, 202, 203, 204, 205, 206] (by decide +kernel) (by decide +kernel)
set_option maxRecDepth 20000 in
theorem gX9_settle_X9_stillOpen : GoodIn wsX9_settle (wsV RX9 159 RX9 yX9_stillOpen wsX9_stillOpen) := goodIn_app (goodIn_of _ (by decide +kernel)) ggX9_settle_X9_stillOpen
theorem dX9_settle_0 : decode cX9_settle 0 = .ok (.iload_n 1, 1) := by decide +kernel
theorem dX9_settle_1 : decode cX9_settle 1 = .ok (.invokestatic 153, 3) := by decide +kernel
theorem dX9_settle_4 : decode cX9_settle 4 = .ok (.ifCond .ne 5, 3) := by decide +kernel
theorem dX9_settle_7 : decode cX9_settle 7 = .ok (.iconst 0, 1) := by decide +kernel
theorem dX9_settle_8 : decode cX9_settle 8 = .ok (.ireturn, 1) := by decide +kernel
theorem dX9_settle_9 : decode cX9_settle 9 = .ok (.aload_n 0, 1) := by decide +kernel
theorem dX9_settle_10 : decode cX9_settle 10 = .ok (.iload_n 1, 1) := by decide +kernel
theorem dX9_settle_11 : decode cX9_settle 11 = .ok (.invokevirtual 159, 3) := by decide +kernel
theorem dX9_settle_14 : decode cX9_settle 14 = .ok (.istore_n 2, 1) := by decide +kernel
theorem dX9_settle_15 : decode cX9_settle 15 = .ok (.aload_n 0, 1) := by decide +kernel
theorem dX9_settle_16 : decode cX9_settle 16 = .ok (.getfield 48, 3) := by decide +kernel
theorem dX9_settle_19 : decode cX9_settle 19 = .ok (.iload_n 1, 1) := by decide +kernel
theorem dX9_settle_20 : decode cX9_settle 20 = .ok (.dup2, 1) := by decide +kernel
theorem dX9_settle_21 : decode cX9_settle 21 = .ok (.iaload, 1) := by decide +kernel
theorem dX9_settle_22 : decode cX9_settle 22 = .ok (.iload_n 2, 1) := by decide +kernel
theorem dX9_settle_23 : decode cX9_settle 23 = .ok (.iadd, 1) := by decide +kernel
theorem dX9_settle_24 : decode cX9_settle 24 = .ok (.iastore, 1) := by decide +kernel
theorem dX9_settle_25 : decode cX9_settle 25 = .ok (.iload_n 2, 1) := by decide +kernel
theorem dX9_settle_26 : decode cX9_settle 26 = .ok (.ireturn, 1) := by decide +kernel
set_option maxRecDepth 20000 in
theorem ggX9_paid_X9_isPerson : GoodIn wsX9_paid wsX9_isPerson := goodIn_r _ [5, 6, 7, 4, 8] (by decide +kernel) (by decide +kernel)
set_option maxRecDepth 20000 in
theorem gX9_paid_X9_isPerson : GoodIn wsX9_paid (va_wsS RX9 153 yX9_isPerson wsX9_isPerson) := goodIn_app (goodIn_of _ (by decide +kernel)) ggX9_paid_X9_isPerson
theorem dX9_paid_0 : decode cX9_paid 0 = .ok (.iload_n 1, 1) := by decide +kernel
theorem dX9_paid_1 : decode cX9_paid 1 = .ok (.invokestatic 153, 3) := by decide +kernel
theorem dX9_paid_4 : decode cX9_paid 4 = .ok (.ifCond .eq 12, 3) := by decide +kernel
theorem dX9_paid_7 : decode cX9_paid 7 = .ok (.aload_n 0, 1) := by decide +kernel
theorem dX9_paid_8 : decode cX9_paid 8 = .ok (.getfield 48, 3) := by decide +kernel
theorem dX9_paid_11 : decode cX9_paid 11 = .ok (.iload_n 1, 1) := by decide +kernel
theorem dX9_paid_12 : decode cX9_paid 12 = .ok (.iaload, 1) := by decide +kernel
theorem dX9_paid_13 : decode cX9_paid 13 = .ok (.goto 4, 3) := by decide +kernel
theorem dX9_paid_16 : decode cX9_paid 16 = .ok (.iconst 0, 1) := by decide +kernel
theorem dX9_paid_17 : decode cX9_paid 17 = .ok (.ireturn, 1) := by decide +kernel
set_option maxRecDepth 20000 in
theorem ggX9_place_X2_numbered : GoodIn wsX9_place wsX2_numbered := goodIn_r _ [8, 9, 10, 11, 12, 7, 13, 14, 44, 45, 46, 47, 48, 49, 50] (by decide +kernel) (by decide +kernel)
set_option maxRecDepth 20000 in
theorem gX9_place_X2_numbered : GoodIn wsX9_place (wsV RX9 104 RX2 yX2_numbered wsX2_numbered) := goodIn_app (goodIn_of _ (by decide +kernel)) ggX9_place_X2_numbered
set_option maxRecDepth 20000 in
theorem ggX9_place_X9_isRank : GoodIn wsX9_place wsX9_isRank := goodIn_r _ [18, 19, 20, 21, 17, 22] (by decide +kernel) (by decide +kernel)
set_option maxRecDepth 20000 in
theorem gX9_place_X9_isRank : GoodIn wsX9_place (va_wsS RX9 162 yX9_isRank wsX9_isRank) := goodIn_app (goodIn_of _ (by decide +kernel)) ggX9_place_X9_isRank
set_option maxRecDepth 20000 in
theorem ggX9_place_X9_roundDown : GoodIn wsX9_place wsX9_roundDown := goodIn_r _ [25, 19, 15, 16, 17, 18, 20, 21, 22] (by decide +kernel) (by decide +kernel)
set_option maxRecDepth 20000 in
theorem gX9_place_X9_roundDown : GoodIn wsX9_place (va_wsS RX9 168 yX9_roundDown wsX9_roundDown) := goodIn_app (goodIn_of _ (by decide +kernel)) ggX9_place_X9_roundDown
theorem dX9_place_0 : decode cX9_place 0 = .ok (.aload_n 0, 1) := by decide +kernel
theorem dX9_place_1 : decode cX9_place 1 = .ok (.getfield 30, 3) := by decide +kernel
theorem dX9_place_4 : decode cX9_place 4 = .ok (.iload_n 1, 1) := by decide +kernel
theorem dX9_place_5 : decode cX9_place 5 = .ok (.invokevirtual 104, 3) := by decide +kernel
theorem dX9_place_8 : decode cX9_place 8 = .ok (.astore_n 3, 1) := by decide +kernel
theorem dX9_place_9 : decode cX9_place 9 = .ok (.aload_n 3, 1) := by decide +kernel
theorem dX9_place_10 : decode cX9_place 10 = .ok (.ifnull 10, 3) := by decide +kernel
theorem dX9_place_13 : decode cX9_place 13 = .ok (.iload_n 2, 1) := by decide +kernel
theorem dX9_place_14 : decode cX9_place 14 = .ok (.invokestatic 162, 3) := by decide +kernel
theorem dX9_place_17 : decode cX9_place 17 = .ok (.ifCond .ne 5, 3) := by decide +kernel
theorem dX9_place_20 : decode cX9_place 20 = .ok (.iconst (-1), 1) := by decide +kernel
theorem dX9_place_21 : decode cX9_place 21 = .ok (.ireturn, 1) := by decide +kernel
theorem dX9_place_22 : decode cX9_place 22 = .ok (.aload_n 3, 1) := by decide +kernel
theorem dX9_place_23 : decode cX9_place 23 = .ok (.getfield 165, 3) := by decide +kernel
theorem dX9_place_26 : decode cX9_place 26 = .ok (.iload_n 2, 1) := by decide +kernel
theorem dX9_place_27 : decode cX9_place 27 = .ok (.invokestatic 168, 3) := by decide +kernel
theorem dX9_place_30 : decode cX9_place 30 = .ok (.sipush 1000, 3) := by decide +kernel
theorem dX9_place_33 : decode cX9_place 33 = .ok (.imul, 1) := by decide +kernel
theorem dX9_place_34 : decode cX9_place 34 = .ok (.aload_n 3, 1) := by decide +kernel
theorem dX9_place_35 : decode cX9_place 35 = .ok (.getfield 171, 3) := by decide +kernel
theorem dX9_place_38 : decode cX9_place 38 = .ok (.iload_n 2, 1) := by decide +kernel
theorem dX9_place_39 : decode cX9_place 39 = .ok (.invokestatic 168, 3) := by decide +kernel
theorem dX9_place_42 : decode cX9_place 42 = .ok (.iadd, 1) := by decide +kernel
theorem dX9_place_43 : decode cX9_place 43 = .ok (.ireturn, 1) := by decide +kernel
set_option maxRecDepth 20000 in
theorem ggX9_within_X9_isRank : GoodIn wsX9_within wsX9_isRank := goodIn_r _ [5, 6, 7, 8, 4, 9] (by decide +kernel) (by decide +kernel)
set_option maxRecDepth 20000 in
theorem gX9_within_X9_isRank : GoodIn wsX9_within (va_wsS RX9 162 yX9_isRank wsX9_isRank) := goodIn_app (goodIn_of _ (by decide +kernel)) ggX9_within_X9_isRank
set_option maxRecDepth 20000 in
theorem ggX9_within_X9_isCorner : GoodIn wsX9_within wsX9_isCorner := goodIn_r _ [12, 13, 7, 8, 4, 9, 14, 15, 16, 6, 2, 3, 5] (by decide +kernel) (by decide +kernel)
set_option maxRecDepth 20000 in
theorem gX9_within_X9_isCorner : GoodIn wsX9_within (va_wsS RX9 174 yX9_isCorner wsX9_isCorner) := goodIn_app (goodIn_of _ (by decide +kernel)) ggX9_within_X9_isCorner
set_option maxRecDepth 20000 in
theorem ggX9_within_X2_tally : GoodIn wsX9_within wsX2_tally := goodIn_r _ [21, 22, 23, 24, 25, 26, 27, 20, 28, 29, 30, 31, 32, 33, 8, 4, 9, 41, 42, 43, 44, 45, 46, 47, 48, 49, 50, 51, 52, 53, 54, 55, 56, 57, 58] (by decide +kernel) (by decide +kernel)
set_option maxRecDepth 20000 in
theorem gX9_within_X2_tally : GoodIn wsX9_within (wsV RX9 177 RX2 yX2_tally wsX2_tally) := goodIn_app (goodIn_of _ (by decide +kernel)) ggX9_within_X2_tally
theorem dX9_within_0 : decode cX9_within 0 = .ok (.iload_n 3, 1) := by decide +kernel
theorem dX9_within_1 : decode cX9_within 1 = .ok (.invokestatic 162, 3) := by decide +kernel
theorem dX9_within_4 : decode cX9_within 4 = .ok (.ifCond .eq 19, 3) := by decide +kernel
theorem dX9_within_7 : decode cX9_within 7 = .ok (.iload_n 1, 1) := by decide +kernel
theorem dX9_within_8 : decode cX9_within 8 = .ok (.iload_n 3, 1) := by decide +kernel
theorem dX9_within_9 : decode cX9_within 9 = .ok (.invokestatic 174, 3) := by decide +kernel
theorem dX9_within_12 : decode cX9_within 12 = .ok (.ifCond .eq 11, 3) := by decide +kernel
theorem dX9_within_15 : decode cX9_within 15 = .ok (.iload_n 2, 1) := by decide +kernel
theorem dX9_within_16 : decode cX9_within 16 = .ok (.iload_n 3, 1) := by decide +kernel
theorem dX9_within_17 : decode cX9_within 17 = .ok (.invokestatic 174, 3) := by decide +kernel
theorem dX9_within_20 : decode cX9_within 20 = .ok (.ifCond .ne 5, 3) := by decide +kernel
theorem dX9_within_23 : decode cX9_within 23 = .ok (.iconst (-1), 1) := by decide +kernel
theorem dX9_within_24 : decode cX9_within 24 = .ok (.ireturn, 1) := by decide +kernel
theorem dX9_within_25 : decode cX9_within 25 = .ok (.iload_n 1, 1) := by decide +kernel
theorem dX9_within_26 : decode cX9_within 26 = .ok (.sipush 1001, 3) := by decide +kernel
theorem dX9_within_29 : decode cX9_within 29 = .ok (.idiv, 1) := by decide +kernel
theorem dX9_within_30 : decode cX9_within 30 = .ok (.istore 4, 2) := by decide +kernel
theorem dX9_within_32 : decode cX9_within 32 = .ok (.iload_n 1, 1) := by decide +kernel
theorem dX9_within_33 : decode cX9_within 33 = .ok (.sipush 1001, 3) := by decide +kernel
theorem dX9_within_36 : decode cX9_within 36 = .ok (.irem, 1) := by decide +kernel
theorem dX9_within_37 : decode cX9_within 37 = .ok (.istore 5, 2) := by decide +kernel
theorem dX9_within_39 : decode cX9_within 39 = .ok (.iload_n 2, 1) := by decide +kernel
theorem dX9_within_40 : decode cX9_within 40 = .ok (.sipush 1001, 3) := by decide +kernel
theorem dX9_within_43 : decode cX9_within 43 = .ok (.idiv, 1) := by decide +kernel
theorem dX9_within_44 : decode cX9_within 44 = .ok (.istore 6, 2) := by decide +kernel
theorem dX9_within_46 : decode cX9_within 46 = .ok (.iload_n 2, 1) := by decide +kernel
theorem dX9_within_47 : decode cX9_within 47 = .ok (.sipush 1001, 3) := by decide +kernel
theorem dX9_within_50 : decode cX9_within 50 = .ok (.irem, 1) := by decide +kernel
theorem dX9_within_51 : decode cX9_within 51 = .ok (.istore 7, 2) := by decide +kernel
theorem dX9_within_53 : decode cX9_within 53 = .ok (.iload 6, 2) := by decide +kernel
theorem dX9_within_55 : decode cX9_within 55 = .ok (.iload 4, 2) := by decide +kernel
theorem dX9_within_57 : decode cX9_within 57 = .ok (.if_icmp .le 10, 3) := by decide +kernel
theorem dX9_within_60 : decode cX9_within 60 = .ok (.iload 7, 2) := by decide +kernel
theorem dX9_within_62 : decode cX9_within 62 = .ok (.iload 5, 2) := by decide +kernel
theorem dX9_within_64 : decode cX9_within 64 = .ok (.if_icmp .gt 5, 3) := by decide +kernel
theorem dX9_within_67 : decode cX9_within 67 = .ok (.iconst (-1), 1) := by decide +kernel
theorem dX9_within_68 : decode cX9_within 68 = .ok (.ireturn, 1) := by decide +kernel
theorem dX9_within_69 : decode cX9_within 69 = .ok (.aload_n 0, 1) := by decide +kernel
theorem dX9_within_70 : decode cX9_within 70 = .ok (.getfield 30, 3) := by decide +kernel
theorem dX9_within_73 : decode cX9_within 73 = .ok (.iload 4, 2) := by decide +kernel
theorem dX9_within_75 : decode cX9_within 75 = .ok (.iload 6, 2) := by decide +kernel
theorem dX9_within_77 : decode cX9_within 77 = .ok (.iload 5, 2) := by decide +kernel
theorem dX9_within_79 : decode cX9_within 79 = .ok (.iload 7, 2) := by decide +kernel
theorem dX9_within_81 : decode cX9_within 81 = .ok (.invokevirtual 177, 3) := by decide +kernel
theorem dX9_within_84 : decode cX9_within 84 = .ok (.ireturn, 1) := by decide +kernel
set_option maxRecDepth 20000 in
theorem ggX9_museum_X7_init : GoodIn wsX9_museum wsX7_init := goodIn_r _ [7, 8, 9, 10, 11, 12, 13, 36, 37, 38] (by decide +kernel) (by decide +kernel)
set_option maxRecDepth 20000 in
theorem gX9_museum_X7_init : GoodIn wsX9_museum (wsX7_init) := ggX9_museum_X7_init
set_option maxRecDepth 20000 in
theorem ggX9_museum_X0_enter : GoodIn wsX9_museum wsX0_enter := goodIn_r _ [18, 19, 20, 21, 22, 23, 4, 24, 11, 12, 25, 26, 27, 28, 39, 40, 41, 36, 37, 38] (by decide +kernel) (by decide +kernel)
set_option maxRecDepth 20000 in
theorem gX9_museum_X0_enter : GoodIn wsX9_museum (wsV RX9 186 RX0 yX0_enter wsX0_enter) := goodIn_app (goodIn_of _ (by decide +kernel)) ggX9_museum_X0_enter
theorem dX9_museum_0 : decode cX9_museum 0 = .ok (.aload_n 0, 1) := by decide +kernel
theorem dX9_museum_1 : decode cX9_museum 1 = .ok (.getfield 44, 3) := by decide +kernel
theorem dX9_museum_4 : decode cX9_museum 4 = .ok (.new 181, 3) := by decide +kernel
theorem dX9_museum_7 : decode cX9_museum 7 = .ok (.dup, 1) := by decide +kernel
theorem dX9_museum_8 : decode cX9_museum 8 = .ok (.iload_n 1, 1) := by decide +kernel
theorem dX9_museum_9 : decode cX9_museum 9 = .ok (.iload_n 2, 1) := by decide +kernel
theorem dX9_museum_10 : decode cX9_museum 10 = .ok (.invokespecial 183, 3) := by decide +kernel
theorem dX9_museum_13 : decode cX9_museum 13 = .ok (.invokevirtual 186, 3) := by decide +kernel
theorem dX9_museum_16 : decode cX9_museum 16 = .ok (.ireturn, 1) := by decide +kernel
set_option maxRecDepth 20000 in
theorem ggX9_offer_X2_numbered : GoodIn wsX9_offer wsX2_numbered := goodIn_r _ [10, 11, 12, 13, 14, 9, 15, 16, 176, 177, 178, 179, 180, 181, 182] (by decide +kernel) (by decide +kernel)
set_option maxRecDepth 20000 in
theorem gX9_offer_X2_numbered : GoodIn wsX9_offer (wsV RX9 104 RX2 yX2_numbered wsX2_numbered) := goodIn_app (goodIn_of _ (by decide +kernel)) ggX9_offer_X2_numbered
set_option maxRecDepth 20000 in
theorem ggX9_offer_X9_isTreasureOn : GoodIn wsX9_offer wsX9_isTreasureOn := goodIn_r _ [21, 1, 22, 23, 24, 9, 25, 26, 27, 28, 29, 30, 31, 32, 33, 34, 35, 16, 36, 37, 7, 8, 10, 11, 12, 13, 14, 15, 38, 39, 40, 41, 42, 43, 44, 45, 46, 47, 48, 49, 50, 51, 52, 53, 54, 55, 56, 57, 58, 59, 60, 61, 62, 63, 64, 65, 66, 67, 68, 69, 70, 71, 72, 73, 20, 74, 75, 76, 6, 77, 78, 79, 80, 81, 82, 83, 84, 85, 86, 87, 88, 89, 90, 91, 92, 93, 94, 95, 96, 97, 98, 99, 100, 101, 102, 158, 159, 160, 161, 162, 163, 164, 176, 177, 178, 179, 180, 181, 182, 165, 166, 167, 168, 169, 170, 171, 172, 173, 174, 175, 183, 184, 185, 186, 187, 188, 189] (by decide +kernel) (by decide +kernel)
set_option maxRecDepth 20000 in
theorem gX9_offer_X9_isTreasureOn : GoodIn wsX9_offer (wsV RX9 100 RX9 yX9_isTreasureOn wsX9_isTreasureOn) := goodIn_app (goodIn_of _ (by decide +kernel)) ggX9_offer_X9_isTreasureOn
set_option maxRecDepth 20000 in
theorem ggX9_offer_X9_worthNow : GoodIn wsX9_offer wsX9_worthNow := goodIn_r _ [106, 107, 5, 108, 3, 109, 101, 20, 102, 110, 111, 112, 113, 114, 115, 116, 117, 118, 119, 120, 121, 56, 122, 123, 124, 125, 126, 127, 128, 129, 130, 131, 132, 133, 158, 159, 160, 161, 162, 163, 164, 165, 166, 167, 168, 169, 170, 171, 172, 173, 174, 175, 190, 191, 192, 193, 194, 195, 196] (by decide +kernel) (by decide +kernel)
set_option maxRecDepth 20000 in
theorem gX9_offer_X9_worthNow : GoodIn wsX9_offer (wsV RX9 150 RX9 yX9_worthNow wsX9_worthNow) := goodIn_app (goodIn_of _ (by decide +kernel)) ggX9_offer_X9_worthNow
set_option maxRecDepth 20000 in
theorem ggX9_offer_X0_sell : GoodIn wsX9_offer wsX0_sell := goodIn_r _ [138, 139, 140, 141, 142, 143, 144, 137, 145, 146, 147, 148, 149, 150, 151, 152, 153, 154, 155, 156, 157, 197, 198, 199, 200, 201, 202] (by decide +kernel) (by decide +kernel)
set_option maxRecDepth 20000 in
theorem gX9_offer_X0_sell : GoodIn wsX9_offer (wsV RX9 189 RX0 yX0_sell wsX0_sell) := goodIn_app (goodIn_of _ (by decide +kernel)) ggX9_offer_X0_sell
theorem dX9_offer_0 : decode cX9_offer 0 = .ok (.aload_n 0, 1) := by decide +kernel
theorem dX9_offer_1 : decode cX9_offer 1 = .ok (.getfield 30, 3) := by decide +kernel
theorem dX9_offer_4 : decode cX9_offer 4 = .ok (.iload_n 1, 1) := by decide +kernel
theorem dX9_offer_5 : decode cX9_offer 5 = .ok (.invokevirtual 104, 3) := by decide +kernel
theorem dX9_offer_8 : decode cX9_offer 8 = .ok (.astore_n 2, 1) := by decide +kernel
theorem dX9_offer_9 : decode cX9_offer 9 = .ok (.aload_n 2, 1) := by decide +kernel
theorem dX9_offer_10 : decode cX9_offer 10 = .ok (.ifnull 23, 3) := by decide +kernel
theorem dX9_offer_13 : decode cX9_offer 13 = .ok (.aload_n 2, 1) := by decide +kernel
theorem dX9_offer_14 : decode cX9_offer 14 = .ok (.getfield 136, 3) := by decide +kernel
theorem dX9_offer_17 : decode cX9_offer 17 = .ok (.iconst (-1), 1) := by decide +kernel
theorem dX9_offer_18 : decode cX9_offer 18 = .ok (.if_icmp .ne 15, 3) := by decide +kernel
theorem dX9_offer_21 : decode cX9_offer 21 = .ok (.aload_n 0, 1) := by decide +kernel
theorem dX9_offer_22 : decode cX9_offer 22 = .ok (.iload_n 1, 1) := by decide +kernel
theorem dX9_offer_23 : decode cX9_offer 23 = .ok (.aload_n 0, 1) := by decide +kernel
theorem dX9_offer_24 : decode cX9_offer 24 = .ok (.getfield 7, 3) := by decide +kernel
theorem dX9_offer_27 : decode cX9_offer 27 = .ok (.invokevirtual 100, 3) := by decide +kernel
theorem dX9_offer_30 : decode cX9_offer 30 = .ok (.ifCond .ne 5, 3) := by decide +kernel
theorem dX9_offer_33 : decode cX9_offer 33 = .ok (.iconst (-1), 1) := by decide +kernel
theorem dX9_offer_34 : decode cX9_offer 34 = .ok (.ireturn, 1) := by decide +kernel
theorem dX9_offer_35 : decode cX9_offer 35 = .ok (.aload_n 2, 1) := by decide +kernel
theorem dX9_offer_36 : decode cX9_offer 36 = .ok (.aload_n 0, 1) := by decide +kernel
theorem dX9_offer_37 : decode cX9_offer 37 = .ok (.getfield 44, 3) := by decide +kernel
theorem dX9_offer_40 : decode cX9_offer 40 = .ok (.aload_n 2, 1) := by decide +kernel
theorem dX9_offer_41 : decode cX9_offer 41 = .ok (.getfield 115, 3) := by decide +kernel
theorem dX9_offer_44 : decode cX9_offer 44 = .ok (.aload_n 0, 1) := by decide +kernel
theorem dX9_offer_45 : decode cX9_offer 45 = .ok (.aload_n 2, 1) := by decide +kernel
theorem dX9_offer_46 : decode cX9_offer 46 = .ok (.invokevirtual 150, 3) := by decide +kernel
theorem dX9_offer_49 : decode cX9_offer 49 = .ok (.invokevirtual 189, 3) := by decide +kernel
theorem dX9_offer_52 : decode cX9_offer 52 = .ok (.putfield 136, 3) := by decide +kernel
theorem dX9_offer_55 : decode cX9_offer 55 = .ok (.aload_n 2, 1) := by decide +kernel
theorem dX9_offer_56 : decode cX9_offer 56 = .ok (.getfield 136, 3) := by decide +kernel
theorem dX9_offer_59 : decode cX9_offer 59 = .ok (.ireturn, 1) := by decide +kernel
set_option maxRecDepth 20000 in
theorem ggX9_spent_X0_numbered : GoodIn wsX9_spent wsX0_numbered := goodIn_r _ [7, 8, 9, 20, 21, 22] (by decide +kernel) (by decide +kernel)
set_option maxRecDepth 20000 in
theorem gX9_spent_X0_numbered : GoodIn wsX9_spent (wsV RX9 192 RX0 yX0_numbered wsX0_numbered) := goodIn_app (goodIn_of _ (by decide +kernel)) ggX9_spent_X0_numbered
theorem dX9_spent_0 : decode cX9_spent 0 = .ok (.aload_n 0, 1) := by decide +kernel
theorem dX9_spent_1 : decode cX9_spent 1 = .ok (.getfield 44, 3) := by decide +kernel
theorem dX9_spent_4 : decode cX9_spent 4 = .ok (.iload_n 1, 1) := by decide +kernel
theorem dX9_spent_5 : decode cX9_spent 5 = .ok (.invokevirtual 192, 3) := by decide +kernel
theorem dX9_spent_8 : decode cX9_spent 8 = .ok (.astore_n 2, 1) := by decide +kernel
theorem dX9_spent_9 : decode cX9_spent 9 = .ok (.aload_n 2, 1) := by decide +kernel
theorem dX9_spent_10 : decode cX9_spent 10 = .ok (.ifnonnull 7, 3) := by decide +kernel
theorem dX9_spent_13 : decode cX9_spent 13 = .ok (.iconst (-1), 1) := by decide +kernel
theorem dX9_spent_14 : decode cX9_spent 14 = .ok (.goto 7, 3) := by decide +kernel
theorem dX9_spent_17 : decode cX9_spent 17 = .ok (.aload_n 2, 1) := by decide +kernel
theorem dX9_spent_18 : decode cX9_spent 18 = .ok (.getfield 195, 3) := by decide +kernel
theorem dX9_spent_21 : decode cX9_spent 21 = .ok (.ireturn, 1) := by decide +kernel
set_option maxRecDepth 20000 in
theorem ggX9_count_X9_hoardsNow : GoodIn wsX9_count wsX9_hoardsNow := goodIn_r _ [15, 2, 1, 3, 16, 17, 18, 19, 20, 21, 22, 23, 24, 25, 26, 27, 28, 29, 30, 31, 32, 33, 34, 35, 36, 37, 38, 39, 40, 41, 42, 43, 44, 45, 46, 47, 48, 49, 50, 51, 52, 53, 54, 55, 56, 57, 58, 59, 60, 61, 62, 63, 64, 65, 66, 67, 68, 69, 70, 71, 72, 73, 74, 75, 76, 77, 78, 122, 123, 124, 125, 126, 127, 128, 129, 130, 131, 132, 133, 134, 135, 144, 145, 146, 147, 148, 149, 150, 151, 152, 153, 154] (by decide +kernel) (by decide +kernel)
set_option maxRecDepth 20000 in
theorem gX9_count_X9_hoardsNow : GoodIn wsX9_count (wsV RX9 201 RX9 yX9_hoardsNow wsX9_hoardsNow) := goodIn_app (goodIn_of _ (by decide +kernel)) ggX9_count_X9_hoardsNow
set_option maxRecDepth 20000 in
theorem ggX9_count_X9_treasuresNow : GoodIn wsX9_count wsX9_treasuresNow := goodIn_r _ [82, 2, 1, 3, 16, 17, 18, 19, 20, 21, 22, 23, 24, 25, 26, 27, 28, 29, 30, 31, 32, 33, 34, 35, 36, 37, 38, 39, 40, 41, 42, 43, 44, 45, 46, 47, 48, 49, 50, 51, 52, 53, 54, 55, 56, 57, 58, 59, 60, 61, 62, 63, 64, 65, 66, 67, 68, 69, 70, 71, 72, 73, 74, 83, 84, 85, 14, 86, 4, 87, 88, 89, 90, 91, 92, 93, 94, 95, 96, 97, 98, 99, 100, 101, 102, 103, 104, 105, 106, 107, 108, 109, 110, 111, 112, 113, 114, 122, 123, 124, 125, 126, 127, 128, 129, 130, 131, 132, 133, 134, 135, 144, 145, 146, 147, 148, 149, 150, 151, 152, 153, 154, 136, 137, 155, 156, 157, 158, 159] (by decide +kernel) (by decide +kernel)
set_option maxRecDepth 20000 in
theorem gX9_count_X9_treasuresNow : GoodIn wsX9_count (wsV RX9 211 RX9 yX9_treasuresNow wsX9_treasuresNow) := goodIn_app (goodIn_of _ (by decide +kernel)) ggX9_count_X9_treasuresNow
set_option maxRecDepth 20000 in
theorem ggX9_count_X0_next : GoodIn wsX9_count wsX0_next := goodIn_r _ [119, 120, 121, 141, 142, 143] (by decide +kernel) (by decide +kernel)
set_option maxRecDepth 20000 in
theorem gX9_count_X0_next : GoodIn wsX9_count (wsV RX9 214 RX0 yX0_next wsX0_next) := goodIn_app (goodIn_of _ (by decide +kernel)) ggX9_count_X0_next
theorem dX9_count_0 : decode cX9_count 0 = .ok (.iload_n 1, 1) := by decide +kernel
theorem dX9_count_1 : decode cX9_count 1 = .ok (.tableswitch 114 0 8 #[51, 56, 64, 69, 77, 85, 93, 101, 106], 51) := by decide +kernel
theorem dX9_count_52 : decode cX9_count 52 = .ok (.aload_n 0, 1) := by decide +kernel
theorem dX9_count_53 : decode cX9_count 53 = .ok (.getfield 7, 3) := by decide +kernel
theorem dX9_count_56 : decode cX9_count 56 = .ok (.ireturn, 1) := by decide +kernel
theorem dX9_count_57 : decode cX9_count 57 = .ok (.aload_n 0, 1) := by decide +kernel
theorem dX9_count_58 : decode cX9_count 58 = .ok (.getfield 30, 3) := by decide +kernel
theorem dX9_count_61 : decode cX9_count 61 = .ok (.getfield 198, 3) := by decide +kernel
theorem dX9_count_64 : decode cX9_count 64 = .ok (.ireturn, 1) := by decide +kernel
theorem dX9_count_65 : decode cX9_count 65 = .ok (.aload_n 0, 1) := by decide +kernel
theorem dX9_count_66 : decode cX9_count 66 = .ok (.invokevirtual 201, 3) := by decide +kernel
theorem dX9_count_69 : decode cX9_count 69 = .ok (.ireturn, 1) := by decide +kernel
theorem dX9_count_70 : decode cX9_count 70 = .ok (.aload_n 0, 1) := by decide +kernel
theorem dX9_count_71 : decode cX9_count 71 = .ok (.getfield 16, 3) := by decide +kernel
theorem dX9_count_74 : decode cX9_count 74 = .ok (.getfield 205, 3) := by decide +kernel
theorem dX9_count_77 : decode cX9_count 77 = .ok (.ireturn, 1) := by decide +kernel
theorem dX9_count_78 : decode cX9_count 78 = .ok (.aload_n 0, 1) := by decide +kernel
theorem dX9_count_79 : decode cX9_count 79 = .ok (.getfield 37, 3) := by decide +kernel
theorem dX9_count_82 : decode cX9_count 82 = .ok (.getfield 206, 3) := by decide +kernel
theorem dX9_count_85 : decode cX9_count 85 = .ok (.ireturn, 1) := by decide +kernel
theorem dX9_count_86 : decode cX9_count 86 = .ok (.aload_n 0, 1) := by decide +kernel
theorem dX9_count_87 : decode cX9_count 87 = .ok (.getfield 44, 3) := by decide +kernel
theorem dX9_count_90 : decode cX9_count 90 = .ok (.getfield 207, 3) := by decide +kernel
theorem dX9_count_93 : decode cX9_count 93 = .ok (.ireturn, 1) := by decide +kernel
theorem dX9_count_94 : decode cX9_count 94 = .ok (.aload_n 0, 1) := by decide +kernel
theorem dX9_count_95 : decode cX9_count 95 = .ok (.getfield 30, 3) := by decide +kernel
theorem dX9_count_98 : decode cX9_count 98 = .ok (.getfield 208, 3) := by decide +kernel
theorem dX9_count_101 : decode cX9_count 101 = .ok (.ireturn, 1) := by decide +kernel
theorem dX9_count_102 : decode cX9_count 102 = .ok (.aload_n 0, 1) := by decide +kernel
theorem dX9_count_103 : decode cX9_count 103 = .ok (.invokevirtual 211, 3) := by decide +kernel
theorem dX9_count_106 : decode cX9_count 106 = .ok (.ireturn, 1) := by decide +kernel
theorem dX9_count_107 : decode cX9_count 107 = .ok (.aload_n 0, 1) := by decide +kernel
theorem dX9_count_108 : decode cX9_count 108 = .ok (.getfield 44, 3) := by decide +kernel
theorem dX9_count_111 : decode cX9_count 111 = .ok (.invokevirtual 214, 3) := by decide +kernel
theorem dX9_count_114 : decode cX9_count 114 = .ok (.ireturn, 1) := by decide +kernel
theorem dX9_count_115 : decode cX9_count 115 = .ok (.iconst (-1), 1) := by decide +kernel
theorem dX9_count_116 : decode cX9_count 116 = .ok (.ireturn, 1) := by decide +kernel
theorem dX9_isBetween_0 : decode cX9_isBetween 0 = .ok (.iload_n 0, 1) := by decide +kernel
theorem dX9_isBetween_1 : decode cX9_isBetween 1 = .ok (.iload_n 1, 1) := by decide +kernel
theorem dX9_isBetween_2 : decode cX9_isBetween 2 = .ok (.if_icmp .lt 12, 3) := by decide +kernel
theorem dX9_isBetween_5 : decode cX9_isBetween 5 = .ok (.iload_n 0, 1) := by decide +kernel
theorem dX9_isBetween_6 : decode cX9_isBetween 6 = .ok (.iload_n 2, 1) := by decide +kernel
theorem dX9_isBetween_7 : decode cX9_isBetween 7 = .ok (.if_icmp .gt 7, 3) := by decide +kernel
theorem dX9_isBetween_10 : decode cX9_isBetween 10 = .ok (.iconst 1, 1) := by decide +kernel
theorem dX9_isBetween_11 : decode cX9_isBetween 11 = .ok (.goto 4, 3) := by decide +kernel
theorem dX9_isBetween_14 : decode cX9_isBetween 14 = .ok (.iconst 0, 1) := by decide +kernel
theorem dX9_isBetween_15 : decode cX9_isBetween 15 = .ok (.ireturn, 1) := by decide +kernel
set_option maxRecDepth 20000 in
theorem ggX9_isDay_X9_isBetween : GoodIn wsX9_isDay wsX9_isBetween := goodIn_r _ [4] (by decide +kernel) (by decide +kernel)
set_option maxRecDepth 20000 in
theorem gX9_isDay_X9_isBetween : GoodIn wsX9_isDay (va_wsS RX9 52 yX9_isBetween wsX9_isBetween) := goodIn_app (goodIn_of _ (by decide +kernel)) ggX9_isDay_X9_isBetween
theorem dX9_isDay_0 : decode cX9_isDay 0 = .ok (.iload_n 0, 1) := by decide +kernel
theorem dX9_isDay_1 : decode cX9_isDay 1 = .ok (.iconst 0, 1) := by decide +kernel
theorem dX9_isDay_2 : decode cX9_isDay 2 = .ok (.sipush 20000, 3) := by decide +kernel
theorem dX9_isDay_5 : decode cX9_isDay 5 = .ok (.invokestatic 52, 3) := by decide +kernel
theorem dX9_isDay_8 : decode cX9_isDay 8 = .ok (.ireturn, 1) := by decide +kernel
set_option maxRecDepth 20000 in
theorem ggX9_isPerson_X9_isBetween : GoodIn wsX9_isPerson wsX9_isBetween := goodIn_r _ [4] (by decide +kernel) (by decide +kernel)
set_option maxRecDepth 20000 in
theorem gX9_isPerson_X9_isBetween : GoodIn wsX9_isPerson (va_wsS RX9 52 yX9_isBetween wsX9_isBetween) := goodIn_app (goodIn_of _ (by decide +kernel)) ggX9_isPerson_X9_isBetween
theorem dX9_isPerson_0 : decode cX9_isPerson 0 = .ok (.iload_n 0, 1) := by decide +kernel
theorem dX9_isPerson_1 : decode cX9_isPerson 1 = .ok (.iconst 0, 1) := by decide +kernel
theorem dX9_isPerson_2 : decode cX9_isPerson 2 = .ok (.bipush 29, 2) := by decide +kernel
theorem dX9_isPerson_4 : decode cX9_isPerson 4 = .ok (.invokestatic 52, 3) := by decide +kernel
theorem dX9_isPerson_7 : decode cX9_isPerson 7 = .ok (.ireturn, 1) := by decide +kernel
set_option maxRecDepth 20000 in
theorem ggX9_isMetal_X9_isBetween : GoodIn wsX9_isMetal wsX9_isBetween := goodIn_r _ [4] (by decide +kernel) (by decide +kernel)
set_option maxRecDepth 20000 in
theorem gX9_isMetal_X9_isBetween : GoodIn wsX9_isMetal (va_wsS RX9 52 yX9_isBetween wsX9_isBetween) := goodIn_app (goodIn_of _ (by decide +kernel)) ggX9_isMetal_X9_isBetween
theorem dX9_isMetal_0 : decode cX9_isMetal 0 = .ok (.iload_n 0, 1) := by decide +kernel
theorem dX9_isMetal_1 : decode cX9_isMetal 1 = .ok (.iconst 0, 1) := by decide +kernel
theorem dX9_isMetal_2 : decode cX9_isMetal 2 = .ok (.iconst 2, 1) := by decide +kernel
theorem dX9_isMetal_3 : decode cX9_isMetal 3 = .ok (.invokestatic 52, 3) := by decide +kernel
theorem dX9_isMetal_6 : decode cX9_isMetal 6 = .ok (.ireturn, 1) := by decide +kernel
set_option maxRecDepth 20000 in
theorem ggX9_isRank_X9_isBetween : GoodIn wsX9_isRank wsX9_isBetween := goodIn_r _ [5] (by decide +kernel) (by decide +kernel)
set_option maxRecDepth 20000 in
theorem gX9_isRank_X9_isBetween : GoodIn wsX9_isRank (va_wsS RX9 52 yX9_isBetween wsX9_isBetween) := goodIn_app (goodIn_of _ (by decide +kernel)) ggX9_isRank_X9_isBetween
theorem dX9_isRank_0 : decode cX9_isRank 0 = .ok (.iload_n 0, 1) := by decide +kernel
theorem dX9_isRank_1 : decode cX9_isRank 1 = .ok (.iconst 0, 1) := by decide +kernel

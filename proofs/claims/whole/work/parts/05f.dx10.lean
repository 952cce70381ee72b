theorem dX10_demandPiece_23 : decode cX10_demandPiece 23 = .ok (.dup, 1) := by decide +kernel
theorem dX10_demandPiece_24 : decode cX10_demandPiece 24 = .ok (.ldc_w 314, 3) := by decide +kernel
theorem dX10_demandPiece_27 : decode cX10_demandPiece 27 = .ok (.invokespecial 316, 3) := by decide +kernel
theorem dX10_demandPiece_30 : decode cX10_demandPiece 30 = .ok (.athrow, 1) := by decide +kernel
theorem dX10_demandPiece_31 : decode cX10_demandPiece 31 = .ok (.return_, 1) := by decide +kernel
set_option maxRecDepth 20000 in
theorem ggX10_demandBridge_X10_within : GoodIn wsX10_demandBridge wsX10_within := goodIn_r _ [9] (by decide +kernel) (by decide +kernel)
set_option maxRecDepth 20000 in
theorem gX10_demandBridge_X10_within : GoodIn wsX10_demandBridge (va_wsS RX10 63 yX10_within wsX10_within) := goodIn_app (goodIn_of _ (by decide +kernel)) ggX10_demandBridge_X10_within
theorem dX10_demandBridge_0 : decode cX10_demandBridge 0 = .ok (.iload_n 1, 1) := by decide +kernel
theorem dX10_demandBridge_1 : decode cX10_demandBridge 1 = .ok (.iconst 0, 1) := by decide +kernel
theorem dX10_demandBridge_2 : decode cX10_demandBridge 2 = .ok (.aload_n 0, 1) := by decide +kernel
theorem dX10_demandBridge_3 : decode cX10_demandBridge 3 = .ok (.getfield 38, 3) := by decide +kernel
theorem dX10_demandBridge_6 : decode cX10_demandBridge 6 = .ok (.getfield 265, 3) := by decide +kernel
theorem dX10_demandBridge_9 : decode cX10_demandBridge 9 = .ok (.getfield 305, 3) := by decide +kernel
theorem dX10_demandBridge_12 : decode cX10_demandBridge 12 = .ok (.iconst 1, 1) := by decide +kernel
theorem dX10_demandBridge_13 : decode cX10_demandBridge 13 = .ok (.isub, 1) := by decide +kernel
theorem dX10_demandBridge_14 : decode cX10_demandBridge 14 = .ok (.invokestatic 63, 3) := by decide +kernel
theorem dX10_demandBridge_17 : decode cX10_demandBridge 17 = .ok (.ifCond .ne 14, 3) := by decide +kernel
theorem dX10_demandBridge_20 : decode cX10_demandBridge 20 = .ok (.new 312, 3) := by decide +kernel
theorem dX10_demandBridge_23 : decode cX10_demandBridge 23 = .ok (.dup, 1) := by decide +kernel
theorem dX10_demandBridge_24 : decode cX10_demandBridge 24 = .ok (.ldc_w 317, 3) := by decide +kernel
theorem dX10_demandBridge_27 : decode cX10_demandBridge 27 = .ok (.invokespecial 316, 3) := by decide +kernel
theorem dX10_demandBridge_30 : decode cX10_demandBridge 30 = .ok (.athrow, 1) := by decide +kernel
theorem dX10_demandBridge_31 : decode cX10_demandBridge 31 = .ok (.return_, 1) := by decide +kernel
theorem dX10_lawNumbered_0 : decode cX10_lawNumbered 0 = .ok (.iload_n 1, 1) := by decide +kernel
theorem dX10_lawNumbered_1 : decode cX10_lawNumbered 1 = .ok (.ifCond .lt 29, 3) := by decide +kernel
theorem dX10_lawNumbered_4 : decode cX10_lawNumbered 4 = .ok (.iload_n 1, 1) := by decide +kernel
theorem dX10_lawNumbered_5 : decode cX10_lawNumbered 5 = .ok (.aload_n 0, 1) := by decide +kernel
theorem dX10_lawNumbered_6 : decode cX10_lawNumbered 6 = .ok (.getfield 71, 3) := by decide +kernel
theorem dX10_lawNumbered_9 : decode cX10_lawNumbered 9 = .ok (.if_icmp .ge 21, 3) := by decide +kernel
theorem dX10_lawNumbered_12 : decode cX10_lawNumbered 12 = .ok (.iload_n 1, 1) := by decide +kernel
theorem dX10_lawNumbered_13 : decode cX10_lawNumbered 13 = .ok (.aload_n 0, 1) := by decide +kernel
theorem dX10_lawNumbered_14 : decode cX10_lawNumbered 14 = .ok (.getfield 27, 3) := by decide +kernel
theorem dX10_lawNumbered_17 : decode cX10_lawNumbered 17 = .ok (.arraylength, 1) := by decide +kernel
theorem dX10_lawNumbered_18 : decode cX10_lawNumbered 18 = .ok (.if_icmp .ge 12, 3) := by decide +kernel
theorem dX10_lawNumbered_21 : decode cX10_lawNumbered 21 = .ok (.aload_n 0, 1) := by decide +kernel
theorem dX10_lawNumbered_22 : decode cX10_lawNumbered 22 = .ok (.getfield 27, 3) := by decide +kernel
theorem dX10_lawNumbered_25 : decode cX10_lawNumbered 25 = .ok (.iload_n 1, 1) := by decide +kernel
theorem dX10_lawNumbered_26 : decode cX10_lawNumbered 26 = .ok (.aaload, 1) := by decide +kernel
theorem dX10_lawNumbered_27 : decode cX10_lawNumbered 27 = .ok (.goto 4, 3) := by decide +kernel
theorem dX10_lawNumbered_30 : decode cX10_lawNumbered 30 = .ok (.aconst_null, 1) := by decide +kernel
theorem dX10_lawNumbered_31 : decode cX10_lawNumbered 31 = .ok (.astore_n 2, 1) := by decide +kernel
theorem dX10_lawNumbered_32 : decode cX10_lawNumbered 32 = .ok (.aload_n 2, 1) := by decide +kernel
theorem dX10_lawNumbered_33 : decode cX10_lawNumbered 33 = .ok (.ifnonnull 14, 3) := by decide +kernel
theorem dX10_lawNumbered_36 : decode cX10_lawNumbered 36 = .ok (.new 319, 3) := by decide +kernel
theorem dX10_lawNumbered_39 : decode cX10_lawNumbered 39 = .ok (.dup, 1) := by decide +kernel
theorem dX10_lawNumbered_40 : decode cX10_lawNumbered 40 = .ok (.ldc_w 321, 3) := by decide +kernel
theorem dX10_lawNumbered_43 : decode cX10_lawNumbered 43 = .ok (.invokespecial 323, 3) := by decide +kernel
theorem dX10_lawNumbered_46 : decode cX10_lawNumbered 46 = .ok (.athrow, 1) := by decide +kernel
theorem dX10_lawNumbered_47 : decode cX10_lawNumbered 47 = .ok (.aload_n 2, 1) := by decide +kernel
theorem dX10_lawNumbered_48 : decode cX10_lawNumbered 48 = .ok (.areturn, 1) := by decide +kernel
set_option maxRecDepth 20000 in
theorem ggX10_putOnTape_X8_put : GoodIn wsX10_putOnTape wsX8_put := goodIn_r _ [7, 8, 20] (by decide +kernel) (by decide +kernel)
set_option maxRecDepth 20000 in
theorem gX10_putOnTape_X8_put : GoodIn wsX10_putOnTape (wsV RX10 115 RX8 yX8_put wsX8_put) := goodIn_app (goodIn_of _ (by decide +kernel)) ggX10_putOnTape_X8_put
theorem dX10_putOnTape_0 : decode cX10_putOnTape 0 = .ok (.bipush 24, 2) := by decide +kernel
theorem dX10_putOnTape_2 : decode cX10_putOnTape 2 = .ok (.istore_n 2, 1) := by decide +kernel
theorem dX10_putOnTape_3 : decode cX10_putOnTape 3 = .ok (.iload_n 2, 1) := by decide +kernel
theorem dX10_putOnTape_4 : decode cX10_putOnTape 4 = .ok (.ifCond .lt 37, 3) := by decide +kernel
theorem dX10_putOnTape_7 : decode cX10_putOnTape 7 = .ok (.aload_n 0, 1) := by decide +kernel
theorem dX10_putOnTape_8 : decode cX10_putOnTape 8 = .ok (.getfield 14, 3) := by decide +kernel
theorem dX10_putOnTape_11 : decode cX10_putOnTape 11 = .ok (.aload_n 0, 1) := by decide +kernel
theorem dX10_putOnTape_12 : decode cX10_putOnTape 12 = .ok (.getfield 57, 3) := by decide +kernel
theorem dX10_putOnTape_15 : decode cX10_putOnTape 15 = .ok (.iload_n 1, 1) := by decide +kernel
theorem dX10_putOnTape_16 : decode cX10_putOnTape 16 = .ok (.iload_n 2, 1) := by decide +kernel
theorem dX10_putOnTape_17 : decode cX10_putOnTape 17 = .ok (.iushr, 1) := by decide +kernel
theorem dX10_putOnTape_18 : decode cX10_putOnTape 18 = .ok (.sipush 255, 3) := by decide +kernel
theorem dX10_putOnTape_21 : decode cX10_putOnTape 21 = .ok (.iand, 1) := by decide +kernel
theorem dX10_putOnTape_22 : decode cX10_putOnTape 22 = .ok (.invokevirtual 115, 3) := by decide +kernel
theorem dX10_putOnTape_25 : decode cX10_putOnTape 25 = .ok (.aload_n 0, 1) := by decide +kernel
theorem dX10_putOnTape_26 : decode cX10_putOnTape 26 = .ok (.dup, 1) := by decide +kernel
theorem dX10_putOnTape_27 : decode cX10_putOnTape 27 = .ok (.getfield 57, 3) := by decide +kernel
theorem dX10_putOnTape_30 : decode cX10_putOnTape 30 = .ok (.iconst 1, 1) := by decide +kernel
theorem dX10_putOnTape_31 : decode cX10_putOnTape 31 = .ok (.iadd, 1) := by decide +kernel
theorem dX10_putOnTape_32 : decode cX10_putOnTape 32 = .ok (.putfield 57, 3) := by decide +kernel
theorem dX10_putOnTape_35 : decode cX10_putOnTape 35 = .ok (.iinc 2 (-8), 3) := by decide +kernel
theorem dX10_putOnTape_38 : decode cX10_putOnTape 38 = .ok (.goto (-35), 3) := by decide +kernel
theorem dX10_putOnTape_41 : decode cX10_putOnTape 41 = .ok (.return_, 1) := by decide +kernel
set_option maxRecDepth 20000 in
theorem ggX10_trialGrows_X1_begin : GoodIn wsX10_trialGrows wsX1_begin := goodIn_r _ [10, 11, 12, 13, 14, 15, 16, 17, 18, 19, 20, 21, 22, 23, 24, 25, 26, 27, 28, 29, 30, 31, 9, 32, 33, 34, 35, 3, 4, 5, 36, 37, 38, 39, 40, 41, 114, 115, 116, 117, 118, 119, 120, 121, 122, 123, 124] (by decide +kernel) (by decide +kernel)
set_option maxRecDepth 20000 in
theorem gX10_trialGrows_X1_begin : GoodIn wsX10_trialGrows (wsV RX10 217 RX1 yX1_begin wsX1_begin) := goodIn_app (goodIn_of _ (by decide +kernel)) ggX10_trialGrows_X1_begin
set_option maxRecDepth 20000 in
theorem ggX10_trialGrows_X1_tick : GoodIn wsX10_trialGrows wsX1_tick := goodIn_r _ [45, 11, 12, 46, 33, 34, 40, 47, 41, 48, 14, 49, 50, 51, 9, 52, 53, 21, 22, 23, 18, 24, 20, 15, 16, 17, 19, 54, 55, 56, 57, 58, 59, 60, 61, 62, 63, 64, 65, 66, 67, 68, 69, 70, 71, 72, 4, 73, 74, 3, 5, 75, 76, 77, 78, 2, 79, 80, 81, 82, 13, 83, 84, 85, 86, 35, 87, 88, 89, 90, 91, 92, 93, 94, 95, 96, 97, 98, 114, 115, 116, 117, 118, 119, 120, 121, 122, 123, 125, 126, 127, 128, 129, 124] (by decide +kernel) (by decide +kernel)
set_option maxRecDepth 20000 in
theorem gX10_trialGrows_X1_tick : GoodIn wsX10_trialGrows (wsV RX10 142 RX1 yX1_tick wsX1_tick) := goodIn_app (goodIn_of _ (by decide +kernel)) ggX10_trialGrows_X1_tick
set_option maxRecDepth 20000 in
theorem ggX10_trialGrows_X1_size : GoodIn wsX10_trialGrows wsX1_size := goodIn_r _ [102, 33, 34, 11, 96, 97, 4, 98, 35, 3, 5, 15, 16, 17, 18, 19, 20, 114, 115, 116, 117, 118, 119, 120, 121, 122, 123, 124] (by decide +kernel) (by decide +kernel)
set_option maxRecDepth 20000 in
theorem gX10_trialGrows_X1_size : GoodIn wsX10_trialGrows (wsV RX10 132 RX1 yX1_size wsX1_size) := goodIn_app (goodIn_of _ (by decide +kernel)) ggX10_trialGrows_X1_size
theorem dX10_trialGrows_0 : decode cX10_trialGrows 0 = .ok (.aload_n 0, 1) := by decide +kernel
theorem dX10_trialGrows_1 : decode cX10_trialGrows 1 = .ok (.getfield 49, 3) := by decide +kernel
theorem dX10_trialGrows_4 : decode cX10_trialGrows 4 = .ok (.iload_n 3, 1) := by decide +kernel
theorem dX10_trialGrows_5 : decode cX10_trialGrows 5 = .ok (.iload 4, 2) := by decide +kernel
theorem dX10_trialGrows_7 : decode cX10_trialGrows 7 = .ok (.iload 5, 2) := by decide +kernel
theorem dX10_trialGrows_9 : decode cX10_trialGrows 9 = .ok (.invokevirtual 217, 3) := by decide +kernel
theorem dX10_trialGrows_12 : decode cX10_trialGrows 12 = .ok (.iconst 0, 1) := by decide +kernel
theorem dX10_trialGrows_13 : decode cX10_trialGrows 13 = .ok (.istore 7, 2) := by decide +kernel
theorem dX10_trialGrows_15 : decode cX10_trialGrows 15 = .ok (.iconst 1, 1) := by decide +kernel
theorem dX10_trialGrows_16 : decode cX10_trialGrows 16 = .ok (.istore 8, 2) := by decide +kernel
theorem dX10_trialGrows_18 : decode cX10_trialGrows 18 = .ok (.iload 8, 2) := by decide +kernel
theorem dX10_trialGrows_20 : decode cX10_trialGrows 20 = .ok (.bipush 60, 2) := by decide +kernel
theorem dX10_trialGrows_22 : decode cX10_trialGrows 22 = .ok (.if_icmp .gt 58, 3) := by decide +kernel
theorem dX10_trialGrows_25 : decode cX10_trialGrows 25 = .ok (.aload_n 0, 1) := by decide +kernel
theorem dX10_trialGrows_26 : decode cX10_trialGrows 26 = .ok (.getfield 49, 3) := by decide +kernel
theorem dX10_trialGrows_29 : decode cX10_trialGrows 29 = .ok (.aload_n 1, 1) := by decide +kernel
theorem dX10_trialGrows_30 : decode cX10_trialGrows 30 = .ok (.iload_n 2, 1) := by decide +kernel
theorem dX10_trialGrows_31 : decode cX10_trialGrows 31 = .ok (.iload 6, 2) := by decide +kernel
theorem dX10_trialGrows_33 : decode cX10_trialGrows 33 = .ok (.invokevirtual 142, 3) := by decide +kernel
theorem dX10_trialGrows_36 : decode cX10_trialGrows 36 = .ok (.aload_n 0, 1) := by decide +kernel
theorem dX10_trialGrows_37 : decode cX10_trialGrows 37 = .ok (.getfield 49, 3) := by decide +kernel
theorem dX10_trialGrows_40 : decode cX10_trialGrows 40 = .ok (.iload_n 3, 1) := by decide +kernel
theorem dX10_trialGrows_41 : decode cX10_trialGrows 41 = .ok (.invokevirtual 132, 3) := by decide +kernel
theorem dX10_trialGrows_44 : decode cX10_trialGrows 44 = .ok (.istore 9, 2) := by decide +kernel
theorem dX10_trialGrows_46 : decode cX10_trialGrows 46 = .ok (.iload 8, 2) := by decide +kernel
theorem dX10_trialGrows_48 : decode cX10_trialGrows 48 = .ok (.bipush 30, 2) := by decide +kernel
theorem dX10_trialGrows_50 : decode cX10_trialGrows 50 = .ok (.if_icmp .gt 15, 3) := by decide +kernel
theorem dX10_trialGrows_53 : decode cX10_trialGrows 53 = .ok (.iload 7, 2) := by decide +kernel
theorem dX10_trialGrows_55 : decode cX10_trialGrows 55 = .ok (.iload 9, 2) := by decide +kernel
theorem dX10_trialGrows_57 : decode cX10_trialGrows 57 = .ok (.invokestatic 256, 3) := by decide +kernel
theorem dX10_trialGrows_60 : decode cX10_trialGrows 60 = .ok (.istore 7, 2) := by decide +kernel
theorem dX10_trialGrows_62 : decode cX10_trialGrows 62 = .ok (.goto 12, 3) := by decide +kernel
theorem dX10_trialGrows_65 : decode cX10_trialGrows 65 = .ok (.iload 9, 2) := by decide +kernel
theorem dX10_trialGrows_67 : decode cX10_trialGrows 67 = .ok (.iload 7, 2) := by decide +kernel
theorem dX10_trialGrows_69 : decode cX10_trialGrows 69 = .ok (.if_icmp .le 5, 3) := by decide +kernel
theorem dX10_trialGrows_72 : decode cX10_trialGrows 72 = .ok (.iconst 1, 1) := by decide +kernel
theorem dX10_trialGrows_73 : decode cX10_trialGrows 73 = .ok (.ireturn, 1) := by decide +kernel
theorem dX10_trialGrows_74 : decode cX10_trialGrows 74 = .ok (.iinc 8 1, 3) := by decide +kernel
theorem dX10_trialGrows_77 : decode cX10_trialGrows 77 = .ok (.goto (-59), 3) := by decide +kernel
theorem dX10_trialGrows_80 : decode cX10_trialGrows 80 = .ok (.iconst 0, 1) := by decide +kernel
theorem dX10_trialGrows_81 : decode cX10_trialGrows 81 = .ok (.ireturn, 1) := by decide +kernel
set_option maxRecDepth 20000 in
theorem ggX10_lineBy_X10_trialGrows : GoodIn wsX10_lineBy wsX10_trialGrows := goodIn_r _ [5, 6, 7, 8, 9, 10, 11, 12, 13, 14, 15, 16, 17, 18, 19, 20, 21, 22, 23, 24, 25, 26, 27, 28, 29, 30, 31, 32, 33, 34, 35, 36, 37, 38, 39, 40, 41, 42, 43, 44, 45, 46, 47, 48, 49, 50, 51, 52, 53, 54, 55, 56, 57, 58, 59, 60, 61, 62, 63, 64, 65, 66, 67, 68, 69, 70, 71, 72, 73, 74, 75, 76, 77, 78, 79, 80, 4, 81, 82, 83, 84, 85, 86, 87, 88, 89, 90, 91, 92, 93, 94, 95, 96, 97, 98, 99, 100, 101, 102, 103, 104, 105, 106, 107, 108, 109, 110, 111, 112, 113, 114, 115, 116, 117, 118, 119, 120, 121, 122, 123, 124, 125, 126, 127, 128, 129, 130, 131, 132, 133] (by decide +kernel) (by decide +kernel)
set_option maxRecDepth 20000 in
theorem gX10_lineBy_X10_trialGrows : GoodIn wsX10_lineBy (wsV RX10 186 RX10 yX10_trialGrows wsX10_trialGrows) := goodIn_app (goodIn_of _ (by decide +kernel)) ggX10_lineBy_X10_trialGrows
theorem dX10_lineBy_0 : decode cX10_lineBy 0 = .ok (.iconst 0, 1) := by decide +kernel
theorem dX10_lineBy_1 : decode cX10_lineBy 1 = .ok (.istore 5, 2) := by decide +kernel
theorem dX10_lineBy_3 : decode cX10_lineBy 3 = .ok (.iload 5, 2) := by decide +kernel
theorem dX10_lineBy_5 : decode cX10_lineBy 5 = .ok (.bipush 60, 2) := by decide +kernel
theorem dX10_lineBy_7 : decode cX10_lineBy 7 = .ok (.if_icmp .gt 28, 3) := by decide +kernel
theorem dX10_lineBy_10 : decode cX10_lineBy 10 = .ok (.aload_n 0, 1) := by decide +kernel
theorem dX10_lineBy_11 : decode cX10_lineBy 11 = .ok (.aload_n 1, 1) := by decide +kernel
theorem dX10_lineBy_12 : decode cX10_lineBy 12 = .ok (.iload 5, 2) := by decide +kernel
theorem dX10_lineBy_14 : decode cX10_lineBy 14 = .ok (.iload_n 2, 1) := by decide +kernel
theorem dX10_lineBy_15 : decode cX10_lineBy 15 = .ok (.iload_n 3, 1) := by decide +kernel
theorem dX10_lineBy_16 : decode cX10_lineBy 16 = .ok (.bipush 100, 2) := by decide +kernel
theorem dX10_lineBy_18 : decode cX10_lineBy 18 = .ok (.iload 4, 2) := by decide +kernel
theorem dX10_lineBy_20 : decode cX10_lineBy 20 = .ok (.invokevirtual 186, 3) := by decide +kernel
theorem dX10_lineBy_23 : decode cX10_lineBy 23 = .ok (.ifCond .eq 6, 3) := by decide +kernel
theorem dX10_lineBy_26 : decode cX10_lineBy 26 = .ok (.iload 5, 2) := by decide +kernel
theorem dX10_lineBy_28 : decode cX10_lineBy 28 = .ok (.ireturn, 1) := by decide +kernel
theorem dX10_lineBy_29 : decode cX10_lineBy 29 = .ok (.iinc 5 1, 3) := by decide +kernel
theorem dX10_lineBy_32 : decode cX10_lineBy 32 = .ok (.goto (-29), 3) := by decide +kernel
theorem dX10_lineBy_35 : decode cX10_lineBy 35 = .ok (.iconst (-1), 1) := by decide +kernel
theorem dX10_lineBy_36 : decode cX10_lineBy 36 = .ok (.ireturn, 1) := by decide +kernel
theorem dX10_leastLine_0 : decode cX10_leastLine 0 = .ok (.iload_n 0, 1) := by decide +kernel
theorem dX10_leastLine_1 : decode cX10_leastLine 1 = .ok (.iconst (-1), 1) := by decide +kernel
theorem dX10_leastLine_2 : decode cX10_leastLine 2 = .ok (.if_icmp .eq 8, 3) := by decide +kernel
theorem dX10_leastLine_5 : decode cX10_leastLine 5 = .ok (.iload_n 1, 1) := by decide +kernel
theorem dX10_leastLine_6 : decode cX10_leastLine 6 = .ok (.iconst (-1), 1) := by decide +kernel
theorem dX10_leastLine_7 : decode cX10_leastLine 7 = .ok (.if_icmp .ne 9, 3) := by decide +kernel
theorem dX10_leastLine_10 : decode cX10_leastLine 10 = .ok (.iload_n 0, 1) := by decide +kernel
theorem dX10_leastLine_11 : decode cX10_leastLine 11 = .ok (.iload_n 1, 1) := by decide +kernel
theorem dX10_leastLine_12 : decode cX10_leastLine 12 = .ok (.invokestatic 256, 3) := by decide +kernel
theorem dX10_leastLine_15 : decode cX10_leastLine 15 = .ok (.ireturn, 1) := by decide +kernel
theorem dX10_leastLine_16 : decode cX10_leastLine 16 = .ok (.iload_n 0, 1) := by decide +kernel
theorem dX10_leastLine_17 : decode cX10_leastLine 17 = .ok (.iload_n 1, 1) := by decide +kernel
theorem dX10_leastLine_18 : decode cX10_leastLine 18 = .ok (.invokestatic 324, 3) := by decide +kernel
theorem dX10_leastLine_21 : decode cX10_leastLine 21 = .ok (.ireturn, 1) := by decide +kernel
set_option maxRecDepth 20000 in
theorem ggX10_runTillBroken_X1_copy : GoodIn wsX10_runTillBroken wsX1_copy := goodIn_r _ [8, 9, 10, 11, 12, 13, 14, 15, 16, 17, 18, 19, 20, 21, 22, 23, 133, 134, 135, 136, 137, 138, 139, 140, 141, 142, 143] (by decide +kernel) (by decide +kernel)
set_option maxRecDepth 20000 in
theorem gX10_runTillBroken_X1_copy : GoodIn wsX10_runTillBroken (wsV RX10 182 RX1 yX1_copy wsX1_copy) := goodIn_app (goodIn_of _ (by decide +kernel)) ggX10_runTillBroken_X1_copy
set_option maxRecDepth 20000 in
theorem ggX10_runTillBroken_X1_begin : GoodIn wsX10_runTillBroken wsX1_begin := goodIn_r _ [27, 9, 16, 17, 10, 28, 29, 30, 21, 31, 23, 32, 33, 34, 35, 36, 37, 38, 39, 40, 41, 42, 7, 43, 12, 13, 44, 45, 46, 47, 48, 49, 50, 51, 14, 15, 133, 134, 135, 136, 137, 138, 139, 140, 141, 142, 143] (by decide +kernel) (by decide +kernel)
set_option maxRecDepth 20000 in
theorem gX10_runTillBroken_X1_begin : GoodIn wsX10_runTillBroken (wsV RX10 217 RX1 yX1_begin wsX1_begin) := goodIn_app (goodIn_of _ (by decide +kernel)) ggX10_runTillBroken_X1_begin
set_option maxRecDepth 20000 in
theorem ggX10_runTillBroken_X1_tick : GoodIn wsX10_runTillBroken wsX1_tick := goodIn_r _ [55, 9, 16, 11, 12, 13, 14, 56, 15, 57, 10, 58, 59, 60, 7, 61, 62, 32, 33, 34, 21, 35, 23, 28, 29, 30, 31, 63, 64, 65, 66, 67, 68, 69, 70, 71, 72, 73, 74, 75, 76, 77, 78, 79, 80, 81, 46, 82, 83, 45, 47, 84, 85, 86, 87, 88, 89, 90, 91, 92, 17, 93, 94, 95, 96, 44, 97, 98, 99, 100, 101, 102, 103, 104, 105, 106, 107, 108, 133, 134, 135, 136, 137, 138, 139, 140, 141, 142, 144, 145, 146, 147, 148, 143] (by decide +kernel) (by decide +kernel)
set_option maxRecDepth 20000 in
theorem gX10_runTillBroken_X1_tick : GoodIn wsX10_runTillBroken (wsV RX10 142 RX1 yX1_tick wsX1_tick) := goodIn_app (goodIn_of _ (by decide +kernel)) ggX10_runTillBroken_X1_tick
set_option maxRecDepth 20000 in
theorem ggX10_runTillBroken_X1_leastBroken : GoodIn wsX10_runTillBroken wsX1_leastBroken := goodIn_r _ [112, 9, 113, 114, 115, 7, 116, 17, 16, 28, 29, 30, 21, 31, 23, 133, 134, 135, 136, 137, 138, 139, 140, 141, 142, 143] (by decide +kernel) (by decide +kernel)
set_option maxRecDepth 20000 in
theorem gX10_runTillBroken_X1_leastBroken : GoodIn wsX10_runTillBroken (wsV RX10 198 RX1 yX1_leastBroken wsX1_leastBroken) := goodIn_app (goodIn_of _ (by decide +kernel)) ggX10_runTillBroken_X1_leastBroken
theorem dX10_runTillBroken_0 : decode cX10_runTillBroken 0 = .ok (.aload_n 0, 1) := by decide +kernel
theorem dX10_runTillBroken_1 : decode cX10_runTillBroken 1 = .ok (.getfield 49, 3) := by decide +kernel
theorem dX10_runTillBroken_4 : decode cX10_runTillBroken 4 = .ok (.aload_n 0, 1) := by decide +kernel
theorem dX10_runTillBroken_5 : decode cX10_runTillBroken 5 = .ok (.getfield 38, 3) := by decide +kernel
theorem dX10_runTillBroken_8 : decode cX10_runTillBroken 8 = .ok (.getfield 93, 3) := by decide +kernel
theorem dX10_runTillBroken_11 : decode cX10_runTillBroken 11 = .ok (.invokevirtual 182, 3) := by decide +kernel
theorem dX10_runTillBroken_14 : decode cX10_runTillBroken 14 = .ok (.aload_n 0, 1) := by decide +kernel
theorem dX10_runTillBroken_15 : decode cX10_runTillBroken 15 = .ok (.getfield 49, 3) := by decide +kernel
theorem dX10_runTillBroken_18 : decode cX10_runTillBroken 18 = .ok (.iload_n 3, 1) := by decide +kernel
theorem dX10_runTillBroken_19 : decode cX10_runTillBroken 19 = .ok (.iload 4, 2) := by decide +kernel
theorem dX10_runTillBroken_21 : decode cX10_runTillBroken 21 = .ok (.bipush 100, 2) := by decide +kernel
theorem dX10_runTillBroken_23 : decode cX10_runTillBroken 23 = .ok (.invokevirtual 217, 3) := by decide +kernel
theorem dX10_runTillBroken_26 : decode cX10_runTillBroken 26 = .ok (.iconst 1, 1) := by decide +kernel
theorem dX10_runTillBroken_27 : decode cX10_runTillBroken 27 = .ok (.istore 6, 2) := by decide +kernel
theorem dX10_runTillBroken_29 : decode cX10_runTillBroken 29 = .ok (.iload 6, 2) := by decide +kernel
theorem dX10_runTillBroken_31 : decode cX10_runTillBroken 31 = .ok (.bipush 60, 2) := by decide +kernel
theorem dX10_runTillBroken_33 : decode cX10_runTillBroken 33 = .ok (.if_icmp .gt 36, 3) := by decide +kernel
theorem dX10_runTillBroken_36 : decode cX10_runTillBroken 36 = .ok (.aload_n 0, 1) := by decide +kernel
theorem dX10_runTillBroken_37 : decode cX10_runTillBroken 37 = .ok (.getfield 49, 3) := by decide +kernel
theorem dX10_runTillBroken_40 : decode cX10_runTillBroken 40 = .ok (.aload_n 1, 1) := by decide +kernel
theorem dX10_runTillBroken_41 : decode cX10_runTillBroken 41 = .ok (.iload_n 2, 1) := by decide +kernel
theorem dX10_runTillBroken_42 : decode cX10_runTillBroken 42 = .ok (.bipush 100, 2) := by decide +kernel
theorem dX10_runTillBroken_44 : decode cX10_runTillBroken 44 = .ok (.invokevirtual 142, 3) := by decide +kernel
theorem dX10_runTillBroken_47 : decode cX10_runTillBroken 47 = .ok (.aload_n 0, 1) := by decide +kernel
theorem dX10_runTillBroken_48 : decode cX10_runTillBroken 48 = .ok (.getfield 49, 3) := by decide +kernel
theorem dX10_runTillBroken_51 : decode cX10_runTillBroken 51 = .ok (.iload 5, 2) := by decide +kernel
theorem dX10_runTillBroken_53 : decode cX10_runTillBroken 53 = .ok (.invokevirtual 198, 3) := by decide +kernel
theorem dX10_runTillBroken_56 : decode cX10_runTillBroken 56 = .ok (.iconst (-1), 1) := by decide +kernel
theorem dX10_runTillBroken_57 : decode cX10_runTillBroken 57 = .ok (.if_icmp .eq 6, 3) := by decide +kernel
theorem dX10_runTillBroken_60 : decode cX10_runTillBroken 60 = .ok (.iload 6, 2) := by decide +kernel
theorem dX10_runTillBroken_62 : decode cX10_runTillBroken 62 = .ok (.ireturn, 1) := by decide +kernel
theorem dX10_runTillBroken_63 : decode cX10_runTillBroken 63 = .ok (.iinc 6 1, 3) := by decide +kernel
theorem dX10_runTillBroken_66 : decode cX10_runTillBroken 66 = .ok (.goto (-37), 3) := by decide +kernel
theorem dX10_runTillBroken_69 : decode cX10_runTillBroken 69 = .ok (.iconst (-1), 1) := by decide +kernel
theorem dX10_runTillBroken_70 : decode cX10_runTillBroken 70 = .ok (.ireturn, 1) := by decide +kernel
set_option maxRecDepth 20000 in
theorem ggX10_trialIsCalmUpTo_X10_trialGrows : GoodIn wsX10_trialIsCalmUpTo wsX10_trialGrows := goodIn_r _ [5, 6, 7, 8, 9, 10, 11, 12, 13, 14, 15, 16, 17, 18, 19, 20, 21, 22, 23, 24, 25, 26, 27, 28, 29, 30, 31, 32, 33, 34, 35, 36, 37, 38, 39, 40, 41, 42, 43, 44, 45, 46, 47, 48, 49, 50, 51, 52, 53, 54, 55, 56, 57, 58, 59, 60, 61, 62, 63, 64, 65, 66, 67, 68, 69, 70, 71, 72, 73, 74, 75, 76, 77, 78, 79, 80, 4, 81, 82, 83, 84, 85, 86, 87, 88, 89, 90, 91, 92, 93, 94, 95, 96, 97, 98, 99, 100, 101, 102, 103, 104, 105, 106, 107, 108, 109, 110, 111, 112, 113, 114, 115, 116, 117, 118, 119, 120, 121, 122, 123, 124, 125, 126, 127, 128, 129, 130, 131, 132, 133] (by decide +kernel) (by decide +kernel)
set_option maxRecDepth 20000 in
theorem gX10_trialIsCalmUpTo_X10_trialGrows : GoodIn wsX10_trialIsCalmUpTo (wsV RX10 186 RX10 yX10_trialGrows wsX10_trialGrows) := goodIn_app (goodIn_of _ (by decide +kernel)) ggX10_trialIsCalmUpTo_X10_trialGrows
theorem dX10_trialIsCalmUpTo_0 : decode cX10_trialIsCalmUpTo 0 = .ok (.iload_n 2, 1) := by decide +kernel
theorem dX10_trialIsCalmUpTo_1 : decode cX10_trialIsCalmUpTo 1 = .ok (.istore 4, 2) := by decide +kernel
theorem dX10_trialIsCalmUpTo_3 : decode cX10_trialIsCalmUpTo 3 = .ok (.iload 4, 2) := by decide +kernel
theorem dX10_trialIsCalmUpTo_5 : decode cX10_trialIsCalmUpTo 5 = .ok (.iload_n 3, 1) := by decide +kernel
theorem dX10_trialIsCalmUpTo_6 : decode cX10_trialIsCalmUpTo 6 = .ok (.if_icmp .gt 66, 3) := by decide +kernel
theorem dX10_trialIsCalmUpTo_9 : decode cX10_trialIsCalmUpTo 9 = .ok (.iconst 0, 1) := by decide +kernel
theorem dX10_trialIsCalmUpTo_10 : decode cX10_trialIsCalmUpTo 10 = .ok (.istore 5, 2) := by decide +kernel
theorem dX10_trialIsCalmUpTo_12 : decode cX10_trialIsCalmUpTo 12 = .ok (.iload 5, 2) := by decide +kernel
theorem dX10_trialIsCalmUpTo_14 : decode cX10_trialIsCalmUpTo 14 = .ok (.bipush 6, 2) := by decide +kernel
theorem dX10_trialIsCalmUpTo_16 : decode cX10_trialIsCalmUpTo 16 = .ok (.if_icmp .ge 50, 3) := by decide +kernel
theorem dX10_trialIsCalmUpTo_19 : decode cX10_trialIsCalmUpTo 19 = .ok (.iload 5, 2) := by decide +kernel
theorem dX10_trialIsCalmUpTo_21 : decode cX10_trialIsCalmUpTo 21 = .ok (.iconst 2, 1) := by decide +kernel
theorem dX10_trialIsCalmUpTo_22 : decode cX10_trialIsCalmUpTo 22 = .ok (.irem, 1) := by decide +kernel
theorem dX10_trialIsCalmUpTo_23 : decode cX10_trialIsCalmUpTo 23 = .ok (.ifCond .ne 7, 3) := by decide +kernel
theorem dX10_trialIsCalmUpTo_26 : decode cX10_trialIsCalmUpTo 26 = .ok (.iconst 0, 1) := by decide +kernel
theorem dX10_trialIsCalmUpTo_27 : decode cX10_trialIsCalmUpTo 27 = .ok (.goto 4, 3) := by decide +kernel
theorem dX10_trialIsCalmUpTo_30 : decode cX10_trialIsCalmUpTo 30 = .ok (.iconst 1, 1) := by decide +kernel
theorem dX10_trialIsCalmUpTo_31 : decode cX10_trialIsCalmUpTo 31 = .ok (.istore 6, 2) := by decide +kernel
theorem dX10_trialIsCalmUpTo_33 : decode cX10_trialIsCalmUpTo 33 = .ok (.aload_n 0, 1) := by decide +kernel
theorem dX10_trialIsCalmUpTo_34 : decode cX10_trialIsCalmUpTo 34 = .ok (.aload_n 1, 1) := by decide +kernel
theorem dX10_trialIsCalmUpTo_35 : decode cX10_trialIsCalmUpTo 35 = .ok (.iload 4, 2) := by decide +kernel
theorem dX10_trialIsCalmUpTo_37 : decode cX10_trialIsCalmUpTo 37 = .ok (.iload 6, 2) := by decide +kernel
theorem dX10_trialIsCalmUpTo_39 : decode cX10_trialIsCalmUpTo 39 = .ok (.iconst 1, 1) := by decide +kernel
theorem dX10_trialIsCalmUpTo_40 : decode cX10_trialIsCalmUpTo 40 = .ok (.iload 5, 2) := by decide +kernel
theorem dX10_trialIsCalmUpTo_42 : decode cX10_trialIsCalmUpTo 42 = .ok (.iconst 2, 1) := by decide +kernel
theorem dX10_trialIsCalmUpTo_43 : decode cX10_trialIsCalmUpTo 43 = .ok (.idiv, 1) := by decide +kernel
theorem dX10_trialIsCalmUpTo_44 : decode cX10_trialIsCalmUpTo 44 = .ok (.iadd, 1) := by decide +kernel
theorem dX10_trialIsCalmUpTo_45 : decode cX10_trialIsCalmUpTo 45 = .ok (.bipush 100, 2) := by decide +kernel
theorem dX10_trialIsCalmUpTo_47 : decode cX10_trialIsCalmUpTo 47 = .ok (.bipush 100, 2) := by decide +kernel
theorem dX10_trialIsCalmUpTo_49 : decode cX10_trialIsCalmUpTo 49 = .ok (.invokevirtual 186, 3) := by decide +kernel
theorem dX10_trialIsCalmUpTo_52 : decode cX10_trialIsCalmUpTo 52 = .ok (.ifCond .eq 8, 3) := by decide +kernel
theorem dX10_trialIsCalmUpTo_55 : decode cX10_trialIsCalmUpTo 55 = .ok (.iload 4, 2) := by decide +kernel
theorem dX10_trialIsCalmUpTo_57 : decode cX10_trialIsCalmUpTo 57 = .ok (.iconst 1, 1) := by decide +kernel
theorem dX10_trialIsCalmUpTo_58 : decode cX10_trialIsCalmUpTo 58 = .ok (.isub, 1) := by decide +kernel
theorem dX10_trialIsCalmUpTo_59 : decode cX10_trialIsCalmUpTo 59 = .ok (.ireturn, 1) := by decide +kernel
theorem dX10_trialIsCalmUpTo_60 : decode cX10_trialIsCalmUpTo 60 = .ok (.iinc 5 1, 3) := by decide +kernel
theorem dX10_trialIsCalmUpTo_63 : decode cX10_trialIsCalmUpTo 63 = .ok (.goto (-51), 3) := by decide +kernel
theorem dX10_trialIsCalmUpTo_66 : decode cX10_trialIsCalmUpTo 66 = .ok (.iinc 4 1, 3) := by decide +kernel
theorem dX10_trialIsCalmUpTo_69 : decode cX10_trialIsCalmUpTo 69 = .ok (.goto (-66), 3) := by decide +kernel
theorem dX10_trialIsCalmUpTo_72 : decode cX10_trialIsCalmUpTo 72 = .ok (.iload_n 3, 1) := by decide +kernel
theorem dX10_trialIsCalmUpTo_73 : decode cX10_trialIsCalmUpTo 73 = .ok (.ireturn, 1) := by decide +kernel
set_option maxRecDepth 20000 in
theorem ggX10_bestMend_X1_copy : GoodIn wsX10_bestMend wsX1_copy := goodIn_r _ [10, 11, 12, 13, 14, 15, 16, 17, 18, 19, 20, 21, 22, 23, 24, 25, 161, 162, 163, 164, 165, 166, 167, 168, 169, 170, 171] (by decide +kernel) (by decide +kernel)
set_option maxRecDepth 20000 in
theorem gX10_bestMend_X1_copy : GoodIn wsX10_bestMend (wsV RX10 182 RX1 yX1_copy wsX1_copy) := goodIn_app (goodIn_of _ (by decide +kernel)) ggX10_bestMend_X1_copy
set_option maxRecDepth 20000 in
theorem ggX10_bestMend_X4_make : GoodIn wsX10_bestMend wsX4_make := goodIn_r _ [30, 31, 32, 33, 34, 35, 23, 36, 25, 37, 38, 39, 9, 40, 13, 41, 42, 43, 44, 45, 46, 47, 48, 49, 50, 51, 52, 53, 54, 55, 56, 57, 58, 59, 60, 61, 157, 158, 159, 160, 171, 161, 162, 163, 164, 165, 166, 167, 168, 169, 170] (by decide +kernel) (by decide +kernel)
set_option maxRecDepth 20000 in
theorem gX10_bestMend_X4_make : GoodIn wsX10_bestMend (wsV RX10 253 RX4 yX4_make wsX4_make) := goodIn_app (goodIn_of _ (by decide +kernel)) ggX10_bestMend_X4_make
set_option maxRecDepth 20000 in
theorem ggX10_bestMend_X10_trialIsCalmUpTo : GoodIn wsX10_bestMend wsX10_trialIsCalmUpTo := goodIn_r _ [65, 66, 67, 68, 43, 69, 4, 55, 56, 53, 57, 70, 71, 72, 9, 73, 11, 18, 19, 12, 41, 34, 35, 23, 36, 25, 58, 59, 60, 61, 74, 75, 76, 77, 78, 79, 80, 81, 14, 15, 82, 83, 84, 85, 86, 16, 17, 87, 88, 89, 90, 13, 91, 92, 93, 94, 95, 96, 97, 98, 99, 100, 101, 102, 103, 104, 105, 106, 107, 108, 109, 110, 111, 112, 113, 114, 115, 52, 54, 116, 49, 50, 51, 117, 118, 119, 120, 121, 122, 123, 124, 125, 126, 127, 128, 129, 130, 131, 132, 133, 134, 135, 136, 137, 138, 139, 140, 141, 142, 143, 144, 145, 146, 147, 148, 149, 150, 151, 161, 162, 163, 164, 165, 166, 167, 168, 169, 170, 171, 172, 173, 174, 175, 176] (by decide +kernel) (by decide +kernel)
set_option maxRecDepth 20000 in
theorem gX10_bestMend_X10_trialIsCalmUpTo : GoodIn wsX10_bestMend (wsV RX10 235 RX10 yX10_trialIsCalmUpTo wsX10_trialIsCalmUpTo) := goodIn_app (goodIn_of _ (by decide +kernel)) ggX10_bestMend_X10_trialIsCalmUpTo
theorem dX10_bestMend_0 : decode cX10_bestMend 0 = .ok (.iconst (-1), 1) := by decide +kernel
theorem dX10_bestMend_1 : decode cX10_bestMend 1 = .ok (.istore_n 3, 1) := by decide +kernel
theorem dX10_bestMend_2 : decode cX10_bestMend 2 = .ok (.iconst (-1), 1) := by decide +kernel
theorem dX10_bestMend_3 : decode cX10_bestMend 3 = .ok (.istore 4, 2) := by decide +kernel
theorem dX10_bestMend_5 : decode cX10_bestMend 5 = .ok (.iconst 0, 1) := by decide +kernel
theorem dX10_bestMend_6 : decode cX10_bestMend 6 = .ok (.istore 5, 2) := by decide +kernel
theorem dX10_bestMend_8 : decode cX10_bestMend 8 = .ok (.iload 5, 2) := by decide +kernel
theorem dX10_bestMend_10 : decode cX10_bestMend 10 = .ok (.aload_n 0, 1) := by decide +kernel
theorem dX10_bestMend_11 : decode cX10_bestMend 11 = .ok (.getfield 38, 3) := by decide +kernel
theorem dX10_bestMend_14 : decode cX10_bestMend 14 = .ok (.getfield 226, 3) := by decide +kernel
theorem dX10_bestMend_17 : decode cX10_bestMend 17 = .ok (.getfield 239, 3) := by decide +kernel
theorem dX10_bestMend_20 : decode cX10_bestMend 20 = .ok (.if_icmp .ge 81, 3) := by decide +kernel
theorem dX10_bestMend_23 : decode cX10_bestMend 23 = .ok (.iload 4, 2) := by decide +kernel
theorem dX10_bestMend_25 : decode cX10_bestMend 25 = .ok (.bipush 12, 2) := by decide +kernel
theorem dX10_bestMend_27 : decode cX10_bestMend 27 = .ok (.if_icmp .ge 74, 3) := by decide +kernel
theorem dX10_bestMend_30 : decode cX10_bestMend 30 = .ok (.iload_n 2, 1) := by decide +kernel
theorem dX10_bestMend_31 : decode cX10_bestMend 31 = .ok (.iload 5, 2) := by decide +kernel
theorem dX10_bestMend_33 : decode cX10_bestMend 33 = .ok (.ishr, 1) := by decide +kernel
theorem dX10_bestMend_34 : decode cX10_bestMend 34 = .ok (.iconst 1, 1) := by decide +kernel
theorem dX10_bestMend_35 : decode cX10_bestMend 35 = .ok (.iand, 1) := by decide +kernel
theorem dX10_bestMend_36 : decode cX10_bestMend 36 = .ok (.ifCond .ne 59, 3) := by decide +kernel
theorem dX10_bestMend_39 : decode cX10_bestMend 39 = .ok (.aload_n 0, 1) := by decide +kernel
theorem dX10_bestMend_40 : decode cX10_bestMend 40 = .ok (.getfield 49, 3) := by decide +kernel
theorem dX10_bestMend_43 : decode cX10_bestMend 43 = .ok (.aload_n 0, 1) := by decide +kernel
theorem dX10_bestMend_44 : decode cX10_bestMend 44 = .ok (.getfield 53, 3) := by decide +kernel
theorem dX10_bestMend_47 : decode cX10_bestMend 47 = .ok (.invokevirtual 182, 3) := by decide +kernel
theorem dX10_bestMend_50 : decode cX10_bestMend 50 = .ok (.aload_n 0, 1) := by decide +kernel
theorem dX10_bestMend_51 : decode cX10_bestMend 51 = .ok (.getfield 38, 3) := by decide +kernel
theorem dX10_bestMend_54 : decode cX10_bestMend 54 = .ok (.getfield 226, 3) := by decide +kernel
theorem dX10_bestMend_57 : decode cX10_bestMend 57 = .ok (.iload 5, 2) := by decide +kernel
theorem dX10_bestMend_59 : decode cX10_bestMend 59 = .ok (.aload_n 0, 1) := by decide +kernel
theorem dX10_bestMend_60 : decode cX10_bestMend 60 = .ok (.getfield 49, 3) := by decide +kernel
theorem dX10_bestMend_63 : decode cX10_bestMend 63 = .ok (.invokevirtual 253, 3) := by decide +kernel
theorem dX10_bestMend_66 : decode cX10_bestMend 66 = .ok (.aload_n 0, 1) := by decide +kernel
theorem dX10_bestMend_67 : decode cX10_bestMend 67 = .ok (.aload_n 1, 1) := by decide +kernel
theorem dX10_bestMend_68 : decode cX10_bestMend 68 = .ok (.iconst 0, 1) := by decide +kernel
theorem dX10_bestMend_69 : decode cX10_bestMend 69 = .ok (.bipush 12, 2) := by decide +kernel
theorem dX10_bestMend_71 : decode cX10_bestMend 71 = .ok (.invokevirtual 235, 3) := by decide +kernel
theorem dX10_bestMend_74 : decode cX10_bestMend 74 = .ok (.istore 6, 2) := by decide +kernel
theorem dX10_bestMend_76 : decode cX10_bestMend 76 = .ok (.iload_n 3, 1) := by decide +kernel
theorem dX10_bestMend_77 : decode cX10_bestMend 77 = .ok (.iconst (-1), 1) := by decide +kernel
theorem dX10_bestMend_78 : decode cX10_bestMend 78 = .ok (.if_icmp .eq 10, 3) := by decide +kernel
theorem dX10_bestMend_81 : decode cX10_bestMend 81 = .ok (.iload 6, 2) := by decide +kernel
theorem dX10_bestMend_83 : decode cX10_bestMend 83 = .ok (.iload 4, 2) := by decide +kernel
theorem dX10_bestMend_85 : decode cX10_bestMend 85 = .ok (.if_icmp .le 10, 3) := by decide +kernel
theorem dX10_bestMend_88 : decode cX10_bestMend 88 = .ok (.iload 5, 2) := by decide +kernel
theorem dX10_bestMend_90 : decode cX10_bestMend 90 = .ok (.istore_n 3, 1) := by decide +kernel
theorem dX10_bestMend_91 : decode cX10_bestMend 91 = .ok (.iload 6, 2) := by decide +kernel
theorem dX10_bestMend_93 : decode cX10_bestMend 93 = .ok (.istore 4, 2) := by decide +kernel
theorem dX10_bestMend_95 : decode cX10_bestMend 95 = .ok (.iinc 5 1, 3) := by decide +kernel
theorem dX10_bestMend_98 : decode cX10_bestMend 98 = .ok (.goto (-90), 3) := by decide +kernel
theorem dX10_bestMend_101 : decode cX10_bestMend 101 = .ok (.iload_n 3, 1) := by decide +kernel
theorem dX10_bestMend_102 : decode cX10_bestMend 102 = .ok (.ireturn, 1) := by decide +kernel
theorem dX10_leastOf_0 : decode cX10_leastOf 0 = .ok (.iload_n 0, 1) := by decide +kernel
theorem dX10_leastOf_1 : decode cX10_leastOf 1 = .ok (.ifCond .lt 19, 3) := by decide +kernel
theorem dX10_leastOf_4 : decode cX10_leastOf 4 = .ok (.iload_n 0, 1) := by decide +kernel
theorem dX10_leastOf_5 : decode cX10_leastOf 5 = .ok (.getstatic 327, 3) := by decide +kernel
theorem dX10_leastOf_8 : decode cX10_leastOf 8 = .ok (.arraylength, 1) := by decide +kernel
theorem dX10_leastOf_9 : decode cX10_leastOf 9 = .ok (.if_icmp .ge 11, 3) := by decide +kernel
theorem dX10_leastOf_12 : decode cX10_leastOf 12 = .ok (.getstatic 327, 3) := by decide +kernel
theorem dX10_leastOf_15 : decode cX10_leastOf 15 = .ok (.iload_n 0, 1) := by decide +kernel
theorem dX10_leastOf_16 : decode cX10_leastOf 16 = .ok (.iaload, 1) := by decide +kernel
theorem dX10_leastOf_17 : decode cX10_leastOf 17 = .ok (.goto 4, 3) := by decide +kernel
theorem dX10_leastOf_20 : decode cX10_leastOf 20 = .ok (.iconst 0, 1) := by decide +kernel
theorem dX10_leastOf_21 : decode cX10_leastOf 21 = .ok (.ireturn, 1) := by decide +kernel
theorem dX10_mostOf_0 : decode cX10_mostOf 0 = .ok (.iload_n 0, 1) := by decide +kernel
theorem dX10_mostOf_1 : decode cX10_mostOf 1 = .ok (.ifCond .lt 19, 3) := by decide +kernel
theorem dX10_mostOf_4 : decode cX10_mostOf 4 = .ok (.iload_n 0, 1) := by decide +kernel
theorem dX10_mostOf_5 : decode cX10_mostOf 5 = .ok (.getstatic 331, 3) := by decide +kernel
theorem dX10_mostOf_8 : decode cX10_mostOf 8 = .ok (.arraylength, 1) := by decide +kernel
theorem dX10_mostOf_9 : decode cX10_mostOf 9 = .ok (.if_icmp .ge 11, 3) := by decide +kernel
theorem dX10_mostOf_12 : decode cX10_mostOf 12 = .ok (.getstatic 331, 3) := by decide +kernel
theorem dX10_mostOf_15 : decode cX10_mostOf 15 = .ok (.iload_n 0, 1) := by decide +kernel
theorem dX10_mostOf_16 : decode cX10_mostOf 16 = .ok (.iaload, 1) := by decide +kernel
theorem dX10_mostOf_17 : decode cX10_mostOf 17 = .ok (.goto 4, 3) := by decide +kernel
theorem dX10_mostOf_20 : decode cX10_mostOf 20 = .ok (.iconst 0, 1) := by decide +kernel
theorem dX10_mostOf_21 : decode cX10_mostOf 21 = .ok (.ireturn, 1) := by decide +kernel
theorem dX10_bounded_0 : decode cX10_bounded 0 = .ok (.iload_n 1, 1) := by decide +kernel
theorem dX10_bounded_1 : decode cX10_bounded 1 = .ok (.iload_n 2, 1) := by decide +kernel
theorem dX10_bounded_2 : decode cX10_bounded 2 = .ok (.iload_n 0, 1) := by decide +kernel
theorem dX10_bounded_3 : decode cX10_bounded 3 = .ok (.invokestatic 324, 3) := by decide +kernel
theorem dX10_bounded_6 : decode cX10_bounded 6 = .ok (.invokestatic 256, 3) := by decide +kernel
theorem dX10_bounded_9 : decode cX10_bounded 9 = .ok (.ireturn, 1) := by decide +kernel

set_option maxRecDepth 20000 in
theorem ggX10_init_X8_init : GoodIn wsX10_init wsX8_init := goodIn_r _ [29, 30, 2, 3, 31, 32, 33, 34, 35, 36, 146] (by decide +kernel) (by decide +kernel)
set_option maxRecDepth 20000 in
theorem gX10_init_X8_init : GoodIn wsX10_init (wsX8_init) := ggX10_init_X8_init
set_option maxRecDepth 20000 in
theorem ggX10_init_X6_init : GoodIn wsX10_init wsX6_init := goodIn_r _ [38, 39, 2, 3, 40, 5, 6, 41, 42, 43, 44, 45, 46, 28, 29, 30, 31, 32, 33, 34, 35, 36, 47, 48, 49, 50, 51, 52, 146, 158, 159, 160, 161, 162, 163, 164, 165, 166, 187, 188, 189, 190] (by decide +kernel) (by decide +kernel)
set_option maxRecDepth 20000 in
theorem gX10_init_X6_init_n20 : GoodIn wsX10_init (wsX6_init) := ggX10_init_X6_init
set_option maxRecDepth 20000 in
theorem ggX10_init_X7_init : GoodIn wsX10_init wsX7_init := goodIn_r _ [54, 55, 2, 3, 56, 21, 22, 57, 58, 59, 60, 61, 62, 63, 64, 65, 66, 67, 68, 69, 70, 71, 72, 73, 74, 75, 76, 77, 78, 5, 6, 79, 80, 81, 82, 83, 84, 85, 86, 87, 28, 29, 30, 31, 32, 33, 34, 35, 36, 88, 89, 90, 91, 92, 93, 94, 95, 96, 97, 98, 99, 100, 101, 102, 103, 104, 105, 106, 107, 108, 109, 110, 111, 112, 113, 114, 115, 116, 117, 118, 119, 120, 121, 122, 123, 124, 125, 126, 127, 128, 129, 130, 131, 132, 133, 134, 135, 136, 137, 172, 173, 174, 175, 176, 177, 178, 179, 180, 181, 167, 168, 169, 170, 171, 191, 192, 193, 194, 195, 196, 197, 198, 199, 200, 201, 202, 203, 204, 205, 206, 146] (by decide +kernel) (by decide +kernel)
set_option maxRecDepth 20000 in
theorem gX10_init_X7_init_n37 : GoodIn wsX10_init (wsX7_init) := ggX10_init_X7_init
set_option maxRecDepth 20000 in
theorem ggX10_init_X1_init : GoodIn wsX10_init wsX1_init := goodIn_r _ [76, 77, 2, 3, 78, 5, 6, 79, 80, 81, 82, 83, 84, 85, 86, 87, 28, 29, 30, 31, 32, 33, 34, 35, 36, 88, 89, 90, 91, 92, 93, 94, 22, 95, 96, 97, 98, 99, 100, 101, 102, 103, 104, 105, 146, 172, 173, 174, 175, 176, 177, 178, 179, 180, 181] (by decide +kernel) (by decide +kernel)
set_option maxRecDepth 20000 in
theorem gX10_init_X1_init : GoodIn wsX10_init (wsX1_init) := ggX10_init_X1_init
set_option maxRecDepth 20000 in
theorem ggX10_init_X3_init : GoodIn wsX10_init wsX3_init := goodIn_r _ [140, 141, 2, 3, 142, 5, 6, 143, 144, 145, 28, 29, 30, 31, 32, 33, 34, 35, 36, 146, 182, 183, 184, 185, 186] (by decide +kernel) (by decide +kernel)
set_option maxRecDepth 20000 in
theorem gX10_init_X3_init_n56 : GoodIn wsX10_init (wsX3_init) := ggX10_init_X3_init
theorem dX10_init_0 : decode cX10_init 0 = .ok (.aload_n 0, 1) := by decide +kernel
theorem dX10_init_1 : decode cX10_init 1 = .ok (.invokespecial 3, 3) := by decide +kernel
theorem dX10_init_4 : decode cX10_init 4 = .ok (.aload_n 0, 1) := by decide +kernel
theorem dX10_init_5 : decode cX10_init 5 = .ok (.new 9, 3) := by decide +kernel
theorem dX10_init_8 : decode cX10_init 8 = .ok (.dup, 1) := by decide +kernel
theorem dX10_init_9 : decode cX10_init 9 = .ok (.sipush 300, 3) := by decide +kernel
theorem dX10_init_12 : decode cX10_init 12 = .ok (.invokespecial 11, 3) := by decide +kernel
theorem dX10_init_15 : decode cX10_init 15 = .ok (.putfield 14, 3) := by decide +kernel
theorem dX10_init_18 : decode cX10_init 18 = .ok (.aload_n 0, 1) := by decide +kernel
theorem dX10_init_19 : decode cX10_init 19 = .ok (.new 18, 3) := by decide +kernel
theorem dX10_init_22 : decode cX10_init 22 = .ok (.dup, 1) := by decide +kernel
theorem dX10_init_23 : decode cX10_init 23 = .ok (.invokespecial 20, 3) := by decide +kernel
theorem dX10_init_26 : decode cX10_init 26 = .ok (.putfield 21, 3) := by decide +kernel
theorem dX10_init_29 : decode cX10_init 29 = .ok (.aload_n 0, 1) := by decide +kernel
theorem dX10_init_30 : decode cX10_init 30 = .ok (.iconst 4, 1) := by decide +kernel
theorem dX10_init_31 : decode cX10_init 31 = .ok (.anewarray 25, 3) := by decide +kernel
theorem dX10_init_34 : decode cX10_init 34 = .ok (.putfield 27, 3) := by decide +kernel
theorem dX10_init_37 : decode cX10_init 37 = .ok (.aload_n 0, 1) := by decide +kernel
theorem dX10_init_38 : decode cX10_init 38 = .ok (.iconst (-1), 1) := by decide +kernel
theorem dX10_init_39 : decode cX10_init 39 = .ok (.putfield 31, 3) := by decide +kernel
theorem dX10_init_42 : decode cX10_init 42 = .ok (.aload_n 0, 1) := by decide +kernel
theorem dX10_init_43 : decode cX10_init 43 = .ok (.new 35, 3) := by decide +kernel
theorem dX10_init_46 : decode cX10_init 46 = .ok (.dup, 1) := by decide +kernel
theorem dX10_init_47 : decode cX10_init 47 = .ok (.invokespecial 37, 3) := by decide +kernel
theorem dX10_init_50 : decode cX10_init 50 = .ok (.putfield 38, 3) := by decide +kernel
theorem dX10_init_53 : decode cX10_init 53 = .ok (.aload_n 0, 1) := by decide +kernel
theorem dX10_init_54 : decode cX10_init 54 = .ok (.iconst 3, 1) := by decide +kernel
theorem dX10_init_55 : decode cX10_init 55 = .ok (.anewarray 35, 3) := by decide +kernel
theorem dX10_init_58 : decode cX10_init 58 = .ok (.putfield 42, 3) := by decide +kernel
theorem dX10_init_61 : decode cX10_init 61 = .ok (.aload_n 0, 1) := by decide +kernel
theorem dX10_init_62 : decode cX10_init 62 = .ok (.new 46, 3) := by decide +kernel
theorem dX10_init_65 : decode cX10_init 65 = .ok (.dup, 1) := by decide +kernel
theorem dX10_init_66 : decode cX10_init 66 = .ok (.invokespecial 48, 3) := by decide +kernel
theorem dX10_init_69 : decode cX10_init 69 = .ok (.putfield 49, 3) := by decide +kernel
theorem dX10_init_72 : decode cX10_init 72 = .ok (.aload_n 0, 1) := by decide +kernel
theorem dX10_init_73 : decode cX10_init 73 = .ok (.new 46, 3) := by decide +kernel
theorem dX10_init_76 : decode cX10_init 76 = .ok (.dup, 1) := by decide +kernel
theorem dX10_init_77 : decode cX10_init 77 = .ok (.invokespecial 48, 3) := by decide +kernel
theorem dX10_init_80 : decode cX10_init 80 = .ok (.putfield 53, 3) := by decide +kernel
theorem dX10_init_83 : decode cX10_init 83 = .ok (.iconst 0, 1) := by decide +kernel
theorem dX10_init_84 : decode cX10_init 84 = .ok (.istore_n 1, 1) := by decide +kernel
theorem dX10_init_85 : decode cX10_init 85 = .ok (.iload_n 1, 1) := by decide +kernel
theorem dX10_init_86 : decode cX10_init 86 = .ok (.aload_n 0, 1) := by decide +kernel
theorem dX10_init_87 : decode cX10_init 87 = .ok (.getfield 27, 3) := by decide +kernel
theorem dX10_init_90 : decode cX10_init 90 = .ok (.arraylength, 1) := by decide +kernel
theorem dX10_init_91 : decode cX10_init 91 = .ok (.if_icmp .ge 22, 3) := by decide +kernel
theorem dX10_init_94 : decode cX10_init 94 = .ok (.aload_n 0, 1) := by decide +kernel
theorem dX10_init_95 : decode cX10_init 95 = .ok (.getfield 27, 3) := by decide +kernel
theorem dX10_init_98 : decode cX10_init 98 = .ok (.iload_n 1, 1) := by decide +kernel
theorem dX10_init_99 : decode cX10_init 99 = .ok (.new 25, 3) := by decide +kernel
theorem dX10_init_102 : decode cX10_init 102 = .ok (.dup, 1) := by decide +kernel
theorem dX10_init_103 : decode cX10_init 103 = .ok (.invokespecial 56, 3) := by decide +kernel
theorem dX10_init_106 : decode cX10_init 106 = .ok (.aastore, 1) := by decide +kernel
theorem dX10_init_107 : decode cX10_init 107 = .ok (.iinc 1 1, 3) := by decide +kernel
theorem dX10_init_110 : decode cX10_init 110 = .ok (.goto (-25), 3) := by decide +kernel
theorem dX10_init_113 : decode cX10_init 113 = .ok (.iconst 0, 1) := by decide +kernel
theorem dX10_init_114 : decode cX10_init 114 = .ok (.istore_n 1, 1) := by decide +kernel
theorem dX10_init_115 : decode cX10_init 115 = .ok (.iload_n 1, 1) := by decide +kernel
theorem dX10_init_116 : decode cX10_init 116 = .ok (.aload_n 0, 1) := by decide +kernel
theorem dX10_init_117 : decode cX10_init 117 = .ok (.getfield 42, 3) := by decide +kernel
theorem dX10_init_120 : decode cX10_init 120 = .ok (.arraylength, 1) := by decide +kernel
theorem dX10_init_121 : decode cX10_init 121 = .ok (.if_icmp .ge 22, 3) := by decide +kernel
theorem dX10_init_124 : decode cX10_init 124 = .ok (.aload_n 0, 1) := by decide +kernel
theorem dX10_init_125 : decode cX10_init 125 = .ok (.getfield 42, 3) := by decide +kernel
theorem dX10_init_128 : decode cX10_init 128 = .ok (.iload_n 1, 1) := by decide +kernel
theorem dX10_init_129 : decode cX10_init 129 = .ok (.new 35, 3) := by decide +kernel
theorem dX10_init_132 : decode cX10_init 132 = .ok (.dup, 1) := by decide +kernel
theorem dX10_init_133 : decode cX10_init 133 = .ok (.invokespecial 37, 3) := by decide +kernel
theorem dX10_init_136 : decode cX10_init 136 = .ok (.aastore, 1) := by decide +kernel
theorem dX10_init_137 : decode cX10_init 137 = .ok (.iinc 1 1, 3) := by decide +kernel
theorem dX10_init_140 : decode cX10_init 140 = .ok (.goto (-25), 3) := by decide +kernel
theorem dX10_init_143 : decode cX10_init 143 = .ok (.return_, 1) := by decide +kernel
set_option maxRecDepth 20000 in
theorem ggX10_feed_X10_putOnTape : GoodIn wsX10_feed wsX10_putOnTape := goodIn_r _ [6, 7, 1, 8, 9, 10, 11, 12, 13, 14, 15, 16, 17, 18, 19, 20, 21, 22, 23, 24, 25] (by decide +kernel) (by decide +kernel)
set_option maxRecDepth 20000 in
theorem gX10_feed_X10_putOnTape : GoodIn wsX10_feed (wsV RX10 60 RX10 yX10_putOnTape wsX10_putOnTape) := goodIn_app (goodIn_of _ (by decide +kernel)) ggX10_feed_X10_putOnTape
theorem dX10_feed_0 : decode cX10_feed 0 = .ok (.aload_n 0, 1) := by decide +kernel
theorem dX10_feed_1 : decode cX10_feed 1 = .ok (.getfield 57, 3) := by decide +kernel
theorem dX10_feed_4 : decode cX10_feed 4 = .ok (.bipush 20, 2) := by decide +kernel
theorem dX10_feed_6 : decode cX10_feed 6 = .ok (.iadd, 1) := by decide +kernel
theorem dX10_feed_7 : decode cX10_feed 7 = .ok (.sipush 300, 3) := by decide +kernel
theorem dX10_feed_10 : decode cX10_feed 10 = .ok (.if_icmp .le 5, 3) := by decide +kernel
theorem dX10_feed_13 : decode cX10_feed 13 = .ok (.iconst (-1), 1) := by decide +kernel
theorem dX10_feed_14 : decode cX10_feed 14 = .ok (.ireturn, 1) := by decide +kernel
theorem dX10_feed_15 : decode cX10_feed 15 = .ok (.aload_n 0, 1) := by decide +kernel
theorem dX10_feed_16 : decode cX10_feed 16 = .ok (.iload_n 1, 1) := by decide +kernel
theorem dX10_feed_17 : decode cX10_feed 17 = .ok (.invokevirtual 60, 3) := by decide +kernel
theorem dX10_feed_20 : decode cX10_feed 20 = .ok (.aload_n 0, 1) := by decide +kernel
theorem dX10_feed_21 : decode cX10_feed 21 = .ok (.iload_n 2, 1) := by decide +kernel
theorem dX10_feed_22 : decode cX10_feed 22 = .ok (.invokevirtual 60, 3) := by decide +kernel
theorem dX10_feed_25 : decode cX10_feed 25 = .ok (.aload_n 0, 1) := by decide +kernel
theorem dX10_feed_26 : decode cX10_feed 26 = .ok (.iload_n 3, 1) := by decide +kernel
theorem dX10_feed_27 : decode cX10_feed 27 = .ok (.invokevirtual 60, 3) := by decide +kernel
theorem dX10_feed_30 : decode cX10_feed 30 = .ok (.aload_n 0, 1) := by decide +kernel
theorem dX10_feed_31 : decode cX10_feed 31 = .ok (.iload 4, 2) := by decide +kernel
theorem dX10_feed_33 : decode cX10_feed 33 = .ok (.invokevirtual 60, 3) := by decide +kernel
theorem dX10_feed_36 : decode cX10_feed 36 = .ok (.aload_n 0, 1) := by decide +kernel
theorem dX10_feed_37 : decode cX10_feed 37 = .ok (.iload 5, 2) := by decide +kernel
theorem dX10_feed_39 : decode cX10_feed 39 = .ok (.invokevirtual 60, 3) := by decide +kernel
theorem dX10_feed_42 : decode cX10_feed 42 = .ok (.aload_n 0, 1) := by decide +kernel
theorem dX10_feed_43 : decode cX10_feed 43 = .ok (.getfield 57, 3) := by decide +kernel
theorem dX10_feed_46 : decode cX10_feed 46 = .ok (.ireturn, 1) := by decide +kernel
set_option maxRecDepth 20000 in
theorem ggX10_law_X10_within : GoodIn wsX10_law wsX10_within := goodIn_r _ [14] (by decide +kernel) (by decide +kernel)
set_option maxRecDepth 20000 in
theorem gX10_law_X10_within : GoodIn wsX10_law (va_wsS RX10 63 yX10_within wsX10_within) := goodIn_app (goodIn_of _ (by decide +kernel)) ggX10_law_X10_within
set_option maxRecDepth 20000 in
theorem ggX10_law_X10_demand : GoodIn wsX10_law wsX10_demand := goodIn_ca (goodIn_r _ [17, 18, 19] (by decide +kernel) (by decide +kernel)) (goodIn_sub (fun _ h => List.mem_cons_of_mem _ (List.mem_append_right _ h)) (by decide +kernel))
set_option maxRecDepth 20000 in
theorem gX10_law_X10_demand : GoodIn wsX10_law (va_wsS RX10 67 yX10_demand wsX10_demand) := goodIn_app (goodIn_of _ (by decide +kernel)) ggX10_law_X10_demand
set_option maxRecDepth 20000 in
theorem ggX10_law_X6_read : GoodIn wsX10_law wsX6_read := goodIn_r _ [24, 25, 26, 27, 28, 29, 30, 31, 32, 33, 34, 35, 36, 37, 38, 39, 40, 41, 42, 43, 44, 45, 46, 47, 48, 49, 50, 51, 52, 53, 54, 55, 56, 57, 58, 59, 60, 61, 62, 63, 64, 65, 66, 67, 68, 69, 70, 71, 72, 73, 74, 75, 76, 77, 78, 79, 80, 81, 82, 83, 84, 85, 86, 87, 88, 89, 90, 91, 92, 93, 94, 95, 96, 97, 98, 99, 100, 101, 102, 103, 104, 105, 106, 107, 108, 109, 110, 111, 112, 113, 114, 115, 116, 117, 118, 23, 119, 120, 121, 122, 123, 124, 125, 126, 127, 128, 129, 130, 131, 132, 133, 134, 135, 136, 137, 138, 139, 140, 141, 142, 143, 144, 145, 146, 147, 148, 149, 150, 151, 152, 153, 154, 155, 156, 157, 158, 159, 160, 161, 184, 185, 186, 187, 188, 189, 190, 191, 192, 193, 194, 195, 196, 197] (by decide +kernel) (by decide +kernel)
set_option maxRecDepth 20000 in
theorem gX10_law_X6_read : GoodIn wsX10_law (wsV RX10 74 RX6 yX6_read wsX6_read) := goodIn_app (goodIn_of _ (by decide +kernel)) ggX10_law_X6_read
set_option maxRecDepth 20000 in
theorem ggX10_law_X3_take : GoodIn wsX10_law wsX3_take := goodIn_r _ [166, 167, 168, 169, 170, 171, 40, 172, 42, 198, 199, 200, 201, 202, 197] (by decide +kernel) (by decide +kernel)
set_option maxRecDepth 20000 in
theorem gX10_law_X3_take : GoodIn wsX10_law (wsV RX10 90 RX3 yX3_take wsX3_take) := goodIn_app (goodIn_of _ (by decide +kernel)) ggX10_law_X3_take
theorem dX10_law_0 : decode cX10_law 0 = .ok (.iload_n 1, 1) := by decide +kernel
theorem dX10_law_1 : decode cX10_law 1 = .ok (.iconst 0, 1) := by decide +kernel
theorem dX10_law_2 : decode cX10_law 2 = .ok (.aload_n 0, 1) := by decide +kernel
theorem dX10_law_3 : decode cX10_law 3 = .ok (.getfield 57, 3) := by decide +kernel
theorem dX10_law_6 : decode cX10_law 6 = .ok (.invokestatic 63, 3) := by decide +kernel
theorem dX10_law_9 : decode cX10_law 9 = .ok (.invokestatic 67, 3) := by decide +kernel
theorem dX10_law_12 : decode cX10_law 12 = .ok (.aload_n 0, 1) := by decide +kernel
theorem dX10_law_13 : decode cX10_law 13 = .ok (.iconst 0, 1) := by decide +kernel
theorem dX10_law_14 : decode cX10_law 14 = .ok (.putfield 57, 3) := by decide +kernel
theorem dX10_law_17 : decode cX10_law 17 = .ok (.aload_n 0, 1) := by decide +kernel
theorem dX10_law_18 : decode cX10_law 18 = .ok (.iconst (-1), 1) := by decide +kernel
theorem dX10_law_19 : decode cX10_law 19 = .ok (.putfield 31, 3) := by decide +kernel
theorem dX10_law_22 : decode cX10_law 22 = .ok (.aload_n 0, 1) := by decide +kernel
theorem dX10_law_23 : decode cX10_law 23 = .ok (.getfield 71, 3) := by decide +kernel
theorem dX10_law_26 : decode cX10_law 26 = .ok (.ifCond .lt 27, 3) := by decide +kernel
theorem dX10_law_29 : decode cX10_law 29 = .ok (.aload_n 0, 1) := by decide +kernel
theorem dX10_law_30 : decode cX10_law 30 = .ok (.getfield 71, 3) := by decide +kernel
theorem dX10_law_33 : decode cX10_law 33 = .ok (.aload_n 0, 1) := by decide +kernel
theorem dX10_law_34 : decode cX10_law 34 = .ok (.getfield 27, 3) := by decide +kernel
theorem dX10_law_37 : decode cX10_law 37 = .ok (.arraylength, 1) := by decide +kernel
theorem dX10_law_38 : decode cX10_law 38 = .ok (.if_icmp .ge 15, 3) := by decide +kernel
theorem dX10_law_41 : decode cX10_law 41 = .ok (.aload_n 0, 1) := by decide +kernel
theorem dX10_law_42 : decode cX10_law 42 = .ok (.getfield 27, 3) := by decide +kernel
theorem dX10_law_45 : decode cX10_law 45 = .ok (.aload_n 0, 1) := by decide +kernel
theorem dX10_law_46 : decode cX10_law 46 = .ok (.getfield 71, 3) := by decide +kernel
theorem dX10_law_49 : decode cX10_law 49 = .ok (.aaload, 1) := by decide +kernel
theorem dX10_law_50 : decode cX10_law 50 = .ok (.goto 4, 3) := by decide +kernel
theorem dX10_law_53 : decode cX10_law 53 = .ok (.aconst_null, 1) := by decide +kernel
theorem dX10_law_54 : decode cX10_law 54 = .ok (.astore_n 2, 1) := by decide +kernel
theorem dX10_law_55 : decode cX10_law 55 = .ok (.aload_n 2, 1) := by decide +kernel
theorem dX10_law_56 : decode cX10_law 56 = .ok (.ifnonnull 5, 3) := by decide +kernel
theorem dX10_law_59 : decode cX10_law 59 = .ok (.iconst (-1), 1) := by decide +kernel
theorem dX10_law_60 : decode cX10_law 60 = .ok (.ireturn, 1) := by decide +kernel
theorem dX10_law_61 : decode cX10_law 61 = .ok (.aload_n 0, 1) := by decide +kernel
theorem dX10_law_62 : decode cX10_law 62 = .ok (.getfield 21, 3) := by decide +kernel
theorem dX10_law_65 : decode cX10_law 65 = .ok (.aload_n 0, 1) := by decide +kernel
theorem dX10_law_66 : decode cX10_law 66 = .ok (.getfield 14, 3) := by decide +kernel
theorem dX10_law_69 : decode cX10_law 69 = .ok (.iload_n 1, 1) := by decide +kernel
theorem dX10_law_70 : decode cX10_law 70 = .ok (.invokevirtual 74, 3) := by decide +kernel
theorem dX10_law_73 : decode cX10_law 73 = .ok (.aload_n 0, 1) := by decide +kernel
theorem dX10_law_74 : decode cX10_law 74 = .ok (.getfield 21, 3) := by decide +kernel
theorem dX10_law_77 : decode cX10_law 77 = .ok (.getfield 78, 3) := by decide +kernel
theorem dX10_law_80 : decode cX10_law 80 = .ok (.ifCond .eq 25, 3) := by decide +kernel
theorem dX10_law_83 : decode cX10_law 83 = .ok (.aload_n 0, 1) := by decide +kernel
theorem dX10_law_84 : decode cX10_law 84 = .ok (.aload_n 0, 1) := by decide +kernel
theorem dX10_law_85 : decode cX10_law 85 = .ok (.getfield 21, 3) := by decide +kernel
theorem dX10_law_88 : decode cX10_law 88 = .ok (.getfield 81, 3) := by decide +kernel
theorem dX10_law_91 : decode cX10_law 91 = .ok (.putfield 31, 3) := by decide +kernel
theorem dX10_law_94 : decode cX10_law 94 = .ok (.aload_n 0, 1) := by decide +kernel
theorem dX10_law_95 : decode cX10_law 95 = .ok (.getfield 21, 3) := by decide +kernel
theorem dX10_law_98 : decode cX10_law 98 = .ok (.getfield 78, 3) := by decide +kernel
theorem dX10_law_101 : decode cX10_law 101 = .ok (.bipush 10, 2) := by decide +kernel
theorem dX10_law_103 : decode cX10_law 103 = .ok (.isub, 1) := by decide +kernel
theorem dX10_law_104 : decode cX10_law 104 = .ok (.ireturn, 1) := by decide +kernel
theorem dX10_law_105 : decode cX10_law 105 = .ok (.aload_n 2, 1) := by decide +kernel
theorem dX10_law_106 : decode cX10_law 106 = .ok (.aload_n 0, 1) := by decide +kernel
theorem dX10_law_107 : decode cX10_law 107 = .ok (.getfield 21, 3) := by decide +kernel
theorem dX10_law_110 : decode cX10_law 110 = .ok (.getfield 84, 3) := by decide +kernel
theorem dX10_law_113 : decode cX10_law 113 = .ok (.aload_n 0, 1) := by decide +kernel
theorem dX10_law_114 : decode cX10_law 114 = .ok (.getfield 21, 3) := by decide +kernel
theorem dX10_law_117 : decode cX10_law 117 = .ok (.getfield 87, 3) := by decide +kernel
theorem dX10_law_120 : decode cX10_law 120 = .ok (.invokevirtual 90, 3) := by decide +kernel
theorem dX10_law_123 : decode cX10_law 123 = .ok (.aload_n 0, 1) := by decide +kernel
theorem dX10_law_124 : decode cX10_law 124 = .ok (.dup, 1) := by decide +kernel
theorem dX10_law_125 : decode cX10_law 125 = .ok (.getfield 71, 3) := by decide +kernel
theorem dX10_law_128 : decode cX10_law 128 = .ok (.iconst 1, 1) := by decide +kernel
theorem dX10_law_129 : decode cX10_law 129 = .ok (.iadd, 1) := by decide +kernel
theorem dX10_law_130 : decode cX10_law 130 = .ok (.putfield 71, 3) := by decide +kernel
theorem dX10_law_133 : decode cX10_law 133 = .ok (.aload_n 0, 1) := by decide +kernel
theorem dX10_law_134 : decode cX10_law 134 = .ok (.getfield 71, 3) := by decide +kernel
theorem dX10_law_137 : decode cX10_law 137 = .ok (.iconst 1, 1) := by decide +kernel
theorem dX10_law_138 : decode cX10_law 138 = .ok (.isub, 1) := by decide +kernel
theorem dX10_law_139 : decode cX10_law 139 = .ok (.ireturn, 1) := by decide +kernel
theorem dX10_fault_0 : decode cX10_fault 0 = .ok (.aload_n 0, 1) := by decide +kernel
theorem dX10_fault_1 : decode cX10_fault 1 = .ok (.getfield 31, 3) := by decide +kernel
theorem dX10_fault_4 : decode cX10_fault 4 = .ok (.ireturn, 1) := by decide +kernel
set_option maxRecDepth 20000 in
theorem ggX10_deck_X10_within : GoodIn wsX10_deck wsX10_within := goodIn_r _ [7] (by decide +kernel) (by decide +kernel)
set_option maxRecDepth 20000 in
theorem gX10_deck_X10_within : GoodIn wsX10_deck (va_wsS RX10 63 yX10_within wsX10_within) := goodIn_app (goodIn_of _ (by decide +kernel)) ggX10_deck_X10_within
set_option maxRecDepth 20000 in
theorem ggX10_deck_X10_demand : GoodIn wsX10_deck wsX10_demand := goodIn_ca (goodIn_r _ [10, 11, 12] (by decide +kernel) (by decide +kernel)) (goodIn_sub (fun _ h => List.mem_cons_of_mem _ (List.mem_append_right _ h)) (by decide +kernel))
set_option maxRecDepth 20000 in
theorem gX10_deck_X10_demand : GoodIn wsX10_deck (va_wsS RX10 67 yX10_demand wsX10_demand) := goodIn_app (goodIn_of _ (by decide +kernel)) ggX10_deck_X10_demand
set_option maxRecDepth 20000 in
theorem ggX10_deck_X1_lay : GoodIn wsX10_deck wsX1_lay := goodIn_r _ [17, 18, 19, 20, 21, 22, 23, 24, 16, 25, 26, 27, 28, 29, 30, 31, 32, 33, 34, 35, 52, 53, 54, 55, 56, 57, 58, 59, 60, 61, 62] (by decide +kernel) (by decide +kernel)
set_option maxRecDepth 20000 in
theorem gX10_deck_X1_lay : GoodIn wsX10_deck (wsV RX10 99 RX1 yX1_lay wsX1_lay) := goodIn_app (goodIn_of _ (by decide +kernel)) ggX10_deck_X1_lay
theorem dX10_deck_0 : decode cX10_deck 0 = .ok (.iload_n 1, 1) := by decide +kernel
theorem dX10_deck_1 : decode cX10_deck 1 = .ok (.iconst 2, 1) := by decide +kernel
theorem dX10_deck_2 : decode cX10_deck 2 = .ok (.bipush 8, 2) := by decide +kernel
theorem dX10_deck_4 : decode cX10_deck 4 = .ok (.invokestatic 63, 3) := by decide +kernel
theorem dX10_deck_7 : decode cX10_deck 7 = .ok (.invokestatic 67, 3) := by decide +kernel
theorem dX10_deck_10 : decode cX10_deck 10 = .ok (.aload_n 0, 1) := by decide +kernel
theorem dX10_deck_11 : decode cX10_deck 11 = .ok (.getfield 38, 3) := by decide +kernel
theorem dX10_deck_14 : decode cX10_deck 14 = .ok (.getfield 93, 3) := by decide +kernel
theorem dX10_deck_17 : decode cX10_deck 17 = .ok (.getfield 96, 3) := by decide +kernel
theorem dX10_deck_20 : decode cX10_deck 20 = .ok (.istore_n 2, 1) := by decide +kernel
theorem dX10_deck_21 : decode cX10_deck 21 = .ok (.aload_n 0, 1) := by decide +kernel
theorem dX10_deck_22 : decode cX10_deck 22 = .ok (.getfield 38, 3) := by decide +kernel
theorem dX10_deck_25 : decode cX10_deck 25 = .ok (.getfield 93, 3) := by decide +kernel
theorem dX10_deck_28 : decode cX10_deck 28 = .ok (.iload_n 1, 1) := by decide +kernel
theorem dX10_deck_29 : decode cX10_deck 29 = .ok (.invokevirtual 99, 3) := by decide +kernel
theorem dX10_deck_32 : decode cX10_deck 32 = .ok (.iload_n 2, 1) := by decide +kernel
theorem dX10_deck_33 : decode cX10_deck 33 = .ok (.ireturn, 1) := by decide +kernel
set_option maxRecDepth 20000 in
theorem ggX10_set_X10_within : GoodIn wsX10_set wsX10_within := goodIn_r _ [7] (by decide +kernel) (by decide +kernel)
set_option maxRecDepth 20000 in
theorem gX10_set_X10_within : GoodIn wsX10_set (va_wsS RX10 63 yX10_within wsX10_within) := goodIn_app (goodIn_of _ (by decide +kernel)) ggX10_set_X10_within
set_option maxRecDepth 20000 in
theorem ggX10_set_X10_leastOf : GoodIn wsX10_set wsX10_leastOf := goodIn_r _ [10, 11] (by decide +kernel) (by decide +kernel)
set_option maxRecDepth 20000 in
theorem gX10_set_X10_leastOf : GoodIn wsX10_set (va_wsS RX10 102 yX10_leastOf wsX10_leastOf) := goodIn_app (goodIn_of _ (by decide +kernel)) ggX10_set_X10_leastOf
set_option maxRecDepth 20000 in
theorem ggX10_set_X10_mostOf : GoodIn wsX10_set wsX10_mostOf := goodIn_r _ [14, 15] (by decide +kernel) (by decide +kernel)
set_option maxRecDepth 20000 in
theorem gX10_set_X10_mostOf : GoodIn wsX10_set (va_wsS RX10 106 yX10_mostOf wsX10_mostOf) := goodIn_app (goodIn_of _ (by decide +kernel)) ggX10_set_X10_mostOf
set_option maxRecDepth 20000 in
theorem ggX10_set_X10_demand : GoodIn wsX10_set wsX10_demand := goodIn_ca (goodIn_r _ [18, 19, 20] (by decide +kernel) (by decide +kernel)) (goodIn_sub (fun _ h => List.mem_cons_of_mem _ (List.mem_append_right _ h)) (by decide +kernel))
set_option maxRecDepth 20000 in
theorem gX10_set_X10_demand : GoodIn wsX10_set (va_wsS RX10 67 yX10_demand wsX10_demand) := goodIn_app (goodIn_of _ (by decide +kernel)) ggX10_set_X10_demand
set_option maxRecDepth 20000 in
theorem ggX10_set_X8_at : GoodIn wsX10_set wsX8_at := goodIn_r _ [25, 26, 57] (by decide +kernel) (by decide +kernel)
set_option maxRecDepth 20000 in
theorem gX10_set_X8_at : GoodIn wsX10_set (wsV RX10 112 RX8 yX8_at wsX8_at) := goodIn_app (goodIn_of _ (by decide +kernel)) ggX10_set_X8_at
set_option maxRecDepth 20000 in
theorem ggX10_set_X8_put : GoodIn wsX10_set wsX8_put := goodIn_r _ [30, 26, 57] (by decide +kernel) (by decide +kernel)
set_option maxRecDepth 20000 in
theorem gX10_set_X8_put : GoodIn wsX10_set (wsV RX10 115 RX8 yX8_put wsX8_put) := goodIn_app (goodIn_of _ (by decide +kernel)) ggX10_set_X8_put
theorem dX10_set_0 : decode cX10_set 0 = .ok (.iload_n 1, 1) := by decide +kernel
theorem dX10_set_1 : decode cX10_set 1 = .ok (.iconst 0, 1) := by decide +kernel
theorem dX10_set_2 : decode cX10_set 2 = .ok (.bipush 9, 2) := by decide +kernel
theorem dX10_set_4 : decode cX10_set 4 = .ok (.invokestatic 63, 3) := by decide +kernel
theorem dX10_set_7 : decode cX10_set 7 = .ok (.ifCond .eq 22, 3) := by decide +kernel
theorem dX10_set_10 : decode cX10_set 10 = .ok (.iload_n 2, 1) := by decide +kernel
theorem dX10_set_11 : decode cX10_set 11 = .ok (.iload_n 1, 1) := by decide +kernel
theorem dX10_set_12 : decode cX10_set 12 = .ok (.invokestatic 102, 3) := by decide +kernel
theorem dX10_set_15 : decode cX10_set 15 = .ok (.iload_n 1, 1) := by decide +kernel
theorem dX10_set_16 : decode cX10_set 16 = .ok (.invokestatic 106, 3) := by decide +kernel
theorem dX10_set_19 : decode cX10_set 19 = .ok (.invokestatic 63, 3) := by decide +kernel
theorem dX10_set_22 : decode cX10_set 22 = .ok (.ifCond .eq 7, 3) := by decide +kernel
theorem dX10_set_25 : decode cX10_set 25 = .ok (.iconst 1, 1) := by decide +kernel
theorem dX10_set_26 : decode cX10_set 26 = .ok (.goto 4, 3) := by decide +kernel
theorem dX10_set_29 : decode cX10_set 29 = .ok (.iconst 0, 1) := by decide +kernel
theorem dX10_set_30 : decode cX10_set 30 = .ok (.invokestatic 67, 3) := by decide +kernel
theorem dX10_set_33 : decode cX10_set 33 = .ok (.aload_n 0, 1) := by decide +kernel
theorem dX10_set_34 : decode cX10_set 34 = .ok (.getfield 38, 3) := by decide +kernel
theorem dX10_set_37 : decode cX10_set 37 = .ok (.getfield 93, 3) := by decide +kernel
theorem dX10_set_40 : decode cX10_set 40 = .ok (.getfield 109, 3) := by decide +kernel
theorem dX10_set_43 : decode cX10_set 43 = .ok (.iload_n 1, 1) := by decide +kernel
theorem dX10_set_44 : decode cX10_set 44 = .ok (.invokevirtual 112, 3) := by decide +kernel
theorem dX10_set_47 : decode cX10_set 47 = .ok (.istore_n 3, 1) := by decide +kernel
theorem dX10_set_48 : decode cX10_set 48 = .ok (.aload_n 0, 1) := by decide +kernel
theorem dX10_set_49 : decode cX10_set 49 = .ok (.getfield 38, 3) := by decide +kernel
theorem dX10_set_52 : decode cX10_set 52 = .ok (.getfield 93, 3) := by decide +kernel
theorem dX10_set_55 : decode cX10_set 55 = .ok (.getfield 109, 3) := by decide +kernel
theorem dX10_set_58 : decode cX10_set 58 = .ok (.iload_n 1, 1) := by decide +kernel
theorem dX10_set_59 : decode cX10_set 59 = .ok (.iload_n 2, 1) := by decide +kernel
theorem dX10_set_60 : decode cX10_set 60 = .ok (.invokevirtual 115, 3) := by decide +kernel
theorem dX10_set_63 : decode cX10_set 63 = .ok (.iload_n 3, 1) := by decide +kernel
theorem dX10_set_64 : decode cX10_set 64 = .ok (.ireturn, 1) := by decide +kernel
set_option maxRecDepth 20000 in
theorem ggX10_stay_X10_demandPiece : GoodIn wsX10_stay wsX10_demandPiece := goodIn_ca (goodIn_r _ [8, 9, 10, 1, 2, 11, 12, 13, 7, 14, 25, 26, 27, 28, 29, 30, 31, 32, 33, 34, 35, 36, 37, 38, 39, 40, 41, 42, 43, 44, 45, 46, 47, 48, 49, 50] (by decide +kernel) (by decide +kernel)) (goodIn_sub (fun _ h => List.mem_cons_of_mem _ (List.mem_append_right _ h)) (by decide +kernel))
set_option maxRecDepth 20000 in
theorem gX10_stay_X10_demandPiece : GoodIn wsX10_stay (wsV RX10 119 RX10 yX10_demandPiece wsX10_demandPiece) := goodIn_app (goodIn_of _ (by decide +kernel)) ggX10_stay_X10_demandPiece
set_option maxRecDepth 20000 in
theorem ggX10_stay_X8_at : GoodIn wsX10_stay wsX8_at := goodIn_r _ [19, 20, 51] (by decide +kernel) (by decide +kernel)
set_option maxRecDepth 20000 in
theorem gX10_stay_X8_at : GoodIn wsX10_stay (wsV RX10 112 RX8 yX8_at wsX8_at) := goodIn_app (goodIn_of _ (by decide +kernel)) ggX10_stay_X8_at
set_option maxRecDepth 20000 in
theorem ggX10_stay_X8_put : GoodIn wsX10_stay wsX8_put := goodIn_r _ [24, 20, 51] (by decide +kernel) (by decide +kernel)
set_option maxRecDepth 20000 in
theorem gX10_stay_X8_put : GoodIn wsX10_stay (wsV RX10 115 RX8 yX8_put wsX8_put) := goodIn_app (goodIn_of _ (by decide +kernel)) ggX10_stay_X8_put
theorem dX10_stay_0 : decode cX10_stay 0 = .ok (.aload_n 0, 1) := by decide +kernel
theorem dX10_stay_1 : decode cX10_stay 1 = .ok (.iload_n 1, 1) := by decide +kernel
theorem dX10_stay_2 : decode cX10_stay 2 = .ok (.invokevirtual 119, 3) := by decide +kernel
theorem dX10_stay_5 : decode cX10_stay 5 = .ok (.aload_n 0, 1) := by decide +kernel
theorem dX10_stay_6 : decode cX10_stay 6 = .ok (.getfield 38, 3) := by decide +kernel
theorem dX10_stay_9 : decode cX10_stay 9 = .ok (.getfield 93, 3) := by decide +kernel
theorem dX10_stay_12 : decode cX10_stay 12 = .ok (.getfield 122, 3) := by decide +kernel
theorem dX10_stay_15 : decode cX10_stay 15 = .ok (.iload_n 1, 1) := by decide +kernel
theorem dX10_stay_16 : decode cX10_stay 16 = .ok (.invokevirtual 112, 3) := by decide +kernel
theorem dX10_stay_19 : decode cX10_stay 19 = .ok (.istore_n 3, 1) := by decide +kernel
theorem dX10_stay_20 : decode cX10_stay 20 = .ok (.iload_n 2, 1) := by decide +kernel
theorem dX10_stay_21 : decode cX10_stay 21 = .ok (.ifCond .ne 21, 3) := by decide +kernel
theorem dX10_stay_24 : decode cX10_stay 24 = .ok (.aload_n 0, 1) := by decide +kernel
theorem dX10_stay_25 : decode cX10_stay 25 = .ok (.getfield 38, 3) := by decide +kernel
theorem dX10_stay_28 : decode cX10_stay 28 = .ok (.getfield 93, 3) := by decide +kernel
theorem dX10_stay_31 : decode cX10_stay 31 = .ok (.getfield 122, 3) := by decide +kernel
theorem dX10_stay_34 : decode cX10_stay 34 = .ok (.iload_n 1, 1) := by decide +kernel
theorem dX10_stay_35 : decode cX10_stay 35 = .ok (.iconst 0, 1) := by decide +kernel
theorem dX10_stay_36 : decode cX10_stay 36 = .ok (.invokevirtual 115, 3) := by decide +kernel
theorem dX10_stay_39 : decode cX10_stay 39 = .ok (.goto 22, 3) := by decide +kernel
theorem dX10_stay_42 : decode cX10_stay 42 = .ok (.iload_n 3, 1) := by decide +kernel
theorem dX10_stay_43 : decode cX10_stay 43 = .ok (.ifCond .ne 18, 3) := by decide +kernel
theorem dX10_stay_46 : decode cX10_stay 46 = .ok (.aload_n 0, 1) := by decide +kernel
theorem dX10_stay_47 : decode cX10_stay 47 = .ok (.getfield 38, 3) := by decide +kernel
theorem dX10_stay_50 : decode cX10_stay 50 = .ok (.getfield 93, 3) := by decide +kernel
theorem dX10_stay_53 : decode cX10_stay 53 = .ok (.getfield 122, 3) := by decide +kernel
theorem dX10_stay_56 : decode cX10_stay 56 = .ok (.iload_n 1, 1) := by decide +kernel
theorem dX10_stay_57 : decode cX10_stay 57 = .ok (.iconst 2, 1) := by decide +kernel
theorem dX10_stay_58 : decode cX10_stay 58 = .ok (.invokevirtual 115, 3) := by decide +kernel
theorem dX10_stay_61 : decode cX10_stay 61 = .ok (.iload_n 3, 1) := by decide +kernel
theorem dX10_stay_62 : decode cX10_stay 62 = .ok (.ireturn, 1) := by decide +kernel
set_option maxRecDepth 20000 in
theorem ggX10_shape_X10_demandShape : GoodIn wsX10_shape wsX10_demandShape := goodIn_ca (goodIn_r _ [6, 7, 8, 5, 9, 10, 11, 12, 13, 14] (by decide +kernel) (by decide +kernel)) (goodIn_sub (fun _ h => List.mem_cons_of_mem _ (List.mem_append_right _ h)) (by decide +kernel))
set_option maxRecDepth 20000 in
theorem gX10_shape_X10_demandShape : GoodIn wsX10_shape (va_wsS RX10 125 yX10_demandShape wsX10_demandShape) := goodIn_app (goodIn_of _ (by decide +kernel)) ggX10_shape_X10_demandShape
set_option maxRecDepth 20000 in
theorem ggX10_shape_X10_within : GoodIn wsX10_shape wsX10_within := goodIn_r _ [9] (by decide +kernel) (by decide +kernel)
set_option maxRecDepth 20000 in
theorem gX10_shape_X10_within : GoodIn wsX10_shape (va_wsS RX10 63 yX10_within wsX10_within) := goodIn_app (goodIn_of _ (by decide +kernel)) ggX10_shape_X10_within
set_option maxRecDepth 20000 in
theorem ggX10_shape_X10_demand : GoodIn wsX10_shape wsX10_demand := goodIn_ca (goodIn_r _ [12, 13, 14] (by decide +kernel) (by decide +kernel)) (goodIn_sub (fun _ h => List.mem_cons_of_mem _ (List.mem_append_right _ h)) (by decide +kernel))
set_option maxRecDepth 20000 in
theorem gX10_shape_X10_demand : GoodIn wsX10_shape (va_wsS RX10 67 yX10_demand wsX10_demand) := goodIn_app (goodIn_of _ (by decide +kernel)) ggX10_shape_X10_demand
set_option maxRecDepth 20000 in
theorem ggX10_shape_X1_takeShape : GoodIn wsX10_shape wsX1_takeShape := goodIn_r _ [19, 20, 21, 22, 23, 24, 25, 26, 27, 28, 29, 18, 30, 31, 32, 33, 34, 35, 36, 37, 38, 39, 40, 41, 42, 70, 71, 72, 73, 74, 75, 76, 77, 78, 79, 80] (by decide +kernel) (by decide +kernel)
set_option maxRecDepth 20000 in
theorem gX10_shape_X1_takeShape : GoodIn wsX10_shape (wsV RX10 128 RX1 yX1_takeShape wsX1_takeShape) := goodIn_app (goodIn_of _ (by decide +kernel)) ggX10_shape_X1_takeShape
set_option maxRecDepth 20000 in
theorem ggX10_shape_X1_size : GoodIn wsX10_shape wsX1_size := goodIn_r _ [46, 20, 21, 22, 47, 48, 25, 49, 23, 24, 26, 50, 51, 52, 36, 53, 38, 70, 71, 72, 73, 74, 75, 76, 77, 78, 79, 80] (by decide +kernel) (by decide +kernel)
set_option maxRecDepth 20000 in
theorem gX10_shape_X1_size : GoodIn wsX10_shape (wsV RX10 132 RX1 yX1_size wsX1_size) := goodIn_app (goodIn_of _ (by decide +kernel)) ggX10_shape_X1_size
theorem dX10_shape_0 : decode cX10_shape 0 = .ok (.iload_n 1, 1) := by decide +kernel
theorem dX10_shape_1 : decode cX10_shape 1 = .ok (.iload_n 2, 1) := by decide +kernel
theorem dX10_shape_2 : decode cX10_shape 2 = .ok (.invokestatic 125, 3) := by decide +kernel

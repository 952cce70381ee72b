set_option maxRecDepth 20000 in
theorem gX10_mended_X10_lawNumbered : GoodIn wsX10_mended (wsV RX10 135 RX10 yX10_lawNumbered wsX10_lawNumbered) := goodIn_app (goodIn_of _ (by decide +kernel)) ggX10_mended_X10_lawNumbered
set_option maxRecDepth 20000 in
theorem ggX10_mended_X10_demandWind : GoodIn wsX10_mended wsX10_demandWind := goodIn_ca (goodIn_r _ [17, 18, 19, 9, 20, 21, 22, 23, 24, 25] (by decide +kernel) (by decide +kernel)) (goodIn_sub (fun _ h => List.mem_cons_of_mem _ (List.mem_append_right _ h)) (by decide +kernel))
set_option maxRecDepth 20000 in
theorem gX10_mended_X10_demandWind : GoodIn wsX10_mended (va_wsS RX10 139 yX10_demandWind wsX10_demandWind) := goodIn_app (goodIn_of _ (by decide +kernel)) ggX10_mended_X10_demandWind
set_option maxRecDepth 20000 in
theorem ggX10_mended_X4_costOf : GoodIn wsX10_mended wsX4_costOf := goodIn_r _ [30, 31, 32, 33, 34, 35, 36, 37, 38, 186, 187, 188, 189, 190] (by decide +kernel) (by decide +kernel)
set_option maxRecDepth 20000 in
theorem gX10_mended_X4_costOf : GoodIn wsX10_mended (wsV RX10 242 RX4 yX4_costOf wsX4_costOf) := goodIn_app (goodIn_of _ (by decide +kernel)) ggX10_mended_X4_costOf
set_option maxRecDepth 20000 in
theorem ggX10_mended_X1_copy : GoodIn wsX10_mended wsX1_copy := goodIn_r _ [43, 44, 45, 46, 47, 48, 49, 50, 51, 52, 53, 54, 55, 36, 56, 38, 191, 192, 193, 194, 195, 196, 197, 198, 199, 200, 190] (by decide +kernel) (by decide +kernel)
set_option maxRecDepth 20000 in
theorem gX10_mended_X1_copy : GoodIn wsX10_mended (wsV RX10 182 RX1 yX1_copy wsX1_copy) := goodIn_app (goodIn_of _ (by decide +kernel)) ggX10_mended_X1_copy
set_option maxRecDepth 20000 in
theorem ggX10_mended_X4_makeAll : GoodIn wsX10_mended wsX4_makeAll := goodIn_r _ [60, 31, 61, 62, 63, 29, 64, 65, 66, 33, 34, 35, 36, 37, 38, 67, 68, 69, 42, 70, 46, 71, 72, 9, 73, 74, 75, 76, 77, 78, 79, 80, 81, 82, 83, 84, 85, 86, 87, 88, 89, 90, 186, 187, 188, 189, 190, 191, 192, 193, 194, 195, 196, 197, 198, 199, 200] (by decide +kernel) (by decide +kernel)
set_option maxRecDepth 20000 in
theorem gX10_mended_X4_makeAll : GoodIn wsX10_mended (wsV RX10 245 RX4 yX4_makeAll wsX4_makeAll) := goodIn_app (goodIn_of _ (by decide +kernel)) ggX10_mended_X4_makeAll
set_option maxRecDepth 20000 in
theorem ggX10_mended_X10_trialIsCalmUpTo : GoodIn wsX10_mended wsX10_trialIsCalmUpTo := goodIn_r _ [94, 95, 96, 97, 9, 98, 4, 84, 85, 82, 86, 99, 100, 101, 42, 102, 44, 51, 52, 45, 71, 34, 35, 36, 37, 38, 87, 88, 89, 90, 103, 104, 105, 106, 107, 108, 109, 110, 47, 48, 111, 112, 113, 114, 115, 49, 50, 116, 117, 118, 119, 46, 120, 121, 122, 123, 124, 125, 126, 127, 128, 129, 130, 131, 132, 133, 134, 135, 136, 137, 138, 139, 140, 141, 142, 143, 144, 81, 83, 145, 78, 79, 80, 146, 147, 148, 149, 150, 151, 152, 153, 154, 155, 156, 157, 158, 159, 160, 161, 162, 163, 164, 165, 166, 167, 168, 169, 170, 171, 172, 173, 174, 175, 176, 177, 178, 179, 180, 191, 192, 193, 194, 195, 196, 197, 198, 199, 200, 190, 201, 202, 203, 204, 205] (by decide +kernel) (by decide +kernel)
set_option maxRecDepth 20000 in
theorem gX10_mended_X10_trialIsCalmUpTo : GoodIn wsX10_mended (wsV RX10 235 RX10 yX10_trialIsCalmUpTo wsX10_trialIsCalmUpTo) := goodIn_app (goodIn_of _ (by decide +kernel)) ggX10_mended_X10_trialIsCalmUpTo
theorem dX10_mended_0 : decode cX10_mended 0 = .ok (.aload_n 0, 1) := by decide +kernel
theorem dX10_mended_1 : decode cX10_mended 1 = .ok (.iload_n 1, 1) := by decide +kernel
theorem dX10_mended_2 : decode cX10_mended 2 = .ok (.invokevirtual 135, 3) := by decide +kernel
theorem dX10_mended_5 : decode cX10_mended 5 = .ok (.astore_n 3, 1) := by decide +kernel
theorem dX10_mended_6 : decode cX10_mended 6 = .ok (.iload_n 2, 1) := by decide +kernel
theorem dX10_mended_7 : decode cX10_mended 7 = .ok (.invokestatic 139, 3) := by decide +kernel
theorem dX10_mended_10 : decode cX10_mended 10 = .ok (.iconst (-1), 1) := by decide +kernel
theorem dX10_mended_11 : decode cX10_mended 11 = .ok (.istore 4, 2) := by decide +kernel
theorem dX10_mended_13 : decode cX10_mended 13 = .ok (.iconst 0, 1) := by decide +kernel
theorem dX10_mended_14 : decode cX10_mended 14 = .ok (.istore 5, 2) := by decide +kernel
theorem dX10_mended_16 : decode cX10_mended 16 = .ok (.iconst 0, 1) := by decide +kernel
theorem dX10_mended_17 : decode cX10_mended 17 = .ok (.istore 6, 2) := by decide +kernel
theorem dX10_mended_19 : decode cX10_mended 19 = .ok (.iload 6, 2) := by decide +kernel
theorem dX10_mended_21 : decode cX10_mended 21 = .ok (.iconst 1, 1) := by decide +kernel
theorem dX10_mended_22 : decode cX10_mended 22 = .ok (.aload_n 0, 1) := by decide +kernel
theorem dX10_mended_23 : decode cX10_mended 23 = .ok (.getfield 38, 3) := by decide +kernel
theorem dX10_mended_26 : decode cX10_mended 26 = .ok (.getfield 226, 3) := by decide +kernel
theorem dX10_mended_29 : decode cX10_mended 29 = .ok (.getfield 239, 3) := by decide +kernel
theorem dX10_mended_32 : decode cX10_mended 32 = .ok (.ishl, 1) := by decide +kernel
theorem dX10_mended_33 : decode cX10_mended 33 = .ok (.if_icmp .ge 85, 3) := by decide +kernel
theorem dX10_mended_36 : decode cX10_mended 36 = .ok (.aload_n 0, 1) := by decide +kernel
theorem dX10_mended_37 : decode cX10_mended 37 = .ok (.getfield 38, 3) := by decide +kernel
theorem dX10_mended_40 : decode cX10_mended 40 = .ok (.getfield 226, 3) := by decide +kernel
theorem dX10_mended_43 : decode cX10_mended 43 = .ok (.iload 6, 2) := by decide +kernel
theorem dX10_mended_45 : decode cX10_mended 45 = .ok (.invokevirtual 242, 3) := by decide +kernel
theorem dX10_mended_48 : decode cX10_mended 48 = .ok (.istore 7, 2) := by decide +kernel
theorem dX10_mended_50 : decode cX10_mended 50 = .ok (.iload 4, 2) := by decide +kernel
theorem dX10_mended_52 : decode cX10_mended 52 = .ok (.iconst (-1), 1) := by decide +kernel
theorem dX10_mended_53 : decode cX10_mended 53 = .ok (.if_icmp .eq 10, 3) := by decide +kernel
theorem dX10_mended_56 : decode cX10_mended 56 = .ok (.iload 7, 2) := by decide +kernel
theorem dX10_mended_58 : decode cX10_mended 58 = .ok (.iload 5, 2) := by decide +kernel
theorem dX10_mended_60 : decode cX10_mended 60 = .ok (.if_icmp .ge 52, 3) := by decide +kernel
theorem dX10_mended_63 : decode cX10_mended 63 = .ok (.aload_n 0, 1) := by decide +kernel
theorem dX10_mended_64 : decode cX10_mended 64 = .ok (.getfield 49, 3) := by decide +kernel
theorem dX10_mended_67 : decode cX10_mended 67 = .ok (.aload_n 0, 1) := by decide +kernel
theorem dX10_mended_68 : decode cX10_mended 68 = .ok (.getfield 38, 3) := by decide +kernel
theorem dX10_mended_71 : decode cX10_mended 71 = .ok (.getfield 93, 3) := by decide +kernel
theorem dX10_mended_74 : decode cX10_mended 74 = .ok (.invokevirtual 182, 3) := by decide +kernel
theorem dX10_mended_77 : decode cX10_mended 77 = .ok (.aload_n 0, 1) := by decide +kernel
theorem dX10_mended_78 : decode cX10_mended 78 = .ok (.getfield 38, 3) := by decide +kernel
theorem dX10_mended_81 : decode cX10_mended 81 = .ok (.getfield 226, 3) := by decide +kernel
theorem dX10_mended_84 : decode cX10_mended 84 = .ok (.iload 6, 2) := by decide +kernel
theorem dX10_mended_86 : decode cX10_mended 86 = .ok (.aload_n 0, 1) := by decide +kernel
theorem dX10_mended_87 : decode cX10_mended 87 = .ok (.getfield 49, 3) := by decide +kernel
theorem dX10_mended_90 : decode cX10_mended 90 = .ok (.invokevirtual 245, 3) := by decide +kernel
theorem dX10_mended_93 : decode cX10_mended 93 = .ok (.aload_n 0, 1) := by decide +kernel
theorem dX10_mended_94 : decode cX10_mended 94 = .ok (.aload_n 3, 1) := by decide +kernel
theorem dX10_mended_95 : decode cX10_mended 95 = .ok (.iload_n 2, 1) := by decide +kernel
theorem dX10_mended_96 : decode cX10_mended 96 = .ok (.iload_n 2, 1) := by decide +kernel
theorem dX10_mended_97 : decode cX10_mended 97 = .ok (.invokevirtual 235, 3) := by decide +kernel
theorem dX10_mended_100 : decode cX10_mended 100 = .ok (.iload_n 2, 1) := by decide +kernel
theorem dX10_mended_101 : decode cX10_mended 101 = .ok (.if_icmp .ne 11, 3) := by decide +kernel
theorem dX10_mended_104 : decode cX10_mended 104 = .ok (.iload 6, 2) := by decide +kernel
theorem dX10_mended_106 : decode cX10_mended 106 = .ok (.istore 4, 2) := by decide +kernel
theorem dX10_mended_108 : decode cX10_mended 108 = .ok (.iload 7, 2) := by decide +kernel
theorem dX10_mended_110 : decode cX10_mended 110 = .ok (.istore 5, 2) := by decide +kernel
theorem dX10_mended_112 : decode cX10_mended 112 = .ok (.iinc 6 1, 3) := by decide +kernel
theorem dX10_mended_115 : decode cX10_mended 115 = .ok (.goto (-96), 3) := by decide +kernel
theorem dX10_mended_118 : decode cX10_mended 118 = .ok (.iload 4, 2) := by decide +kernel
theorem dX10_mended_120 : decode cX10_mended 120 = .ok (.ireturn, 1) := by decide +kernel
set_option maxRecDepth 20000 in
theorem ggX10_week_X10_lawNumbered : GoodIn wsX10_week wsX10_lawNumbered := goodIn_ca (goodIn_r _ [10, 11, 12, 13, 14, 159, 160, 161, 162, 163, 164, 165, 166, 167, 168, 169] (by decide +kernel) (by decide +kernel)) (goodIn_sub (fun _ h => List.mem_cons_of_mem _ (List.mem_append_left _ (List.mem_append_right _ h))) (by decide +kernel))
set_option maxRecDepth 20000 in
theorem gX10_week_X10_lawNumbered : GoodIn wsX10_week (wsV RX10 135 RX10 yX10_lawNumbered wsX10_lawNumbered) := goodIn_app (goodIn_of _ (by decide +kernel)) ggX10_week_X10_lawNumbered
set_option maxRecDepth 20000 in
theorem ggX10_week_X10_demand : GoodIn wsX10_week wsX10_demand := goodIn_ca (goodIn_r _ [17, 18, 19] (by decide +kernel) (by decide +kernel)) (goodIn_sub (fun _ h => List.mem_cons_of_mem _ (List.mem_append_right _ h)) (by decide +kernel))
set_option maxRecDepth 20000 in
theorem gX10_week_X10_demand : GoodIn wsX10_week (va_wsS RX10 67 yX10_demand wsX10_demand) := goodIn_app (goodIn_of _ (by decide +kernel)) ggX10_week_X10_demand
set_option maxRecDepth 20000 in
theorem ggX10_week_X1_copy : GoodIn wsX10_week wsX1_copy := goodIn_r _ [24, 25, 26, 27, 28, 29, 30, 31, 32, 33, 34, 35, 36, 37, 38, 39, 179, 180, 181, 182, 183, 184, 185, 186, 187, 188, 189] (by decide +kernel) (by decide +kernel)
set_option maxRecDepth 20000 in
theorem gX10_week_X1_copy : GoodIn wsX10_week (wsV RX10 182 RX1 yX1_copy wsX1_copy) := goodIn_app (goodIn_of _ (by decide +kernel)) ggX10_week_X1_copy
set_option maxRecDepth 20000 in
theorem ggX10_week_X10_bestMend : GoodIn wsX10_week wsX10_bestMend := goodIn_r _ [43, 1, 2, 3, 44, 4, 20, 21, 22, 23, 24, 25, 26, 27, 28, 29, 30, 31, 32, 33, 34, 35, 36, 37, 38, 39, 45, 46, 47, 48, 49, 50, 51, 52, 53, 54, 55, 56, 57, 58, 59, 60, 61, 9, 62, 63, 64, 65, 66, 67, 68, 69, 70, 71, 72, 73, 74, 75, 76, 77, 78, 79, 80, 81, 82, 83, 84, 85, 86, 87, 88, 89, 90, 91, 92, 93, 94, 95, 96, 97, 98, 99, 100, 101, 102, 103, 104, 105, 106, 107, 108, 109, 110, 111, 112, 113, 114, 115, 116, 117, 118, 119, 120, 121, 122, 123, 124, 125, 126, 127, 128, 129, 130, 131, 132, 133, 134, 135, 136, 137, 138, 139, 140, 141, 142, 143, 144, 145, 146, 147, 148, 149, 150, 151, 152, 153, 154, 155, 156, 157, 158, 159, 160, 161, 162, 163, 164, 165, 166, 167, 168, 169, 170, 171, 172, 173, 174, 175, 176, 177, 178, 179, 180, 181, 182, 183, 184, 185, 186, 187, 188, 189, 190, 191, 192, 193, 194] (by decide +kernel) (by decide +kernel)
set_option maxRecDepth 20000 in
theorem gX10_week_X10_bestMend : GoodIn wsX10_week (wsV RX10 249 RX10 yX10_bestMend wsX10_bestMend) := goodIn_app (goodIn_of _ (by decide +kernel)) ggX10_week_X10_bestMend
set_option maxRecDepth 20000 in
theorem ggX10_week_X4_make : GoodIn wsX10_week wsX4_make := goodIn_r _ [49, 50, 51, 52, 53, 54, 37, 55, 39, 56, 57, 58, 23, 59, 27, 60, 61, 9, 62, 63, 64, 65, 66, 67, 68, 69, 70, 71, 72, 73, 74, 75, 76, 77, 78, 79, 175, 176, 177, 178, 189, 179, 180, 181, 182, 183, 184, 185, 186, 187, 188] (by decide +kernel) (by decide +kernel)
set_option maxRecDepth 20000 in
theorem gX10_week_X4_make : GoodIn wsX10_week (wsV RX10 253 RX4 yX4_make wsX4_make) := goodIn_app (goodIn_of _ (by decide +kernel)) ggX10_week_X4_make
theorem dX10_week_0 : decode cX10_week 0 = .ok (.aload_n 0, 1) := by decide +kernel
theorem dX10_week_1 : decode cX10_week 1 = .ok (.iload_n 1, 1) := by decide +kernel
theorem dX10_week_2 : decode cX10_week 2 = .ok (.invokevirtual 135, 3) := by decide +kernel
theorem dX10_week_5 : decode cX10_week 5 = .ok (.astore_n 3, 1) := by decide +kernel
theorem dX10_week_6 : decode cX10_week 6 = .ok (.iload_n 2, 1) := by decide +kernel
theorem dX10_week_7 : decode cX10_week 7 = .ok (.ifCond .lt 7, 3) := by decide +kernel
theorem dX10_week_10 : decode cX10_week 10 = .ok (.iconst 1, 1) := by decide +kernel
theorem dX10_week_11 : decode cX10_week 11 = .ok (.goto 4, 3) := by decide +kernel
theorem dX10_week_14 : decode cX10_week 14 = .ok (.iconst 0, 1) := by decide +kernel
theorem dX10_week_15 : decode cX10_week 15 = .ok (.invokestatic 67, 3) := by decide +kernel
theorem dX10_week_18 : decode cX10_week 18 = .ok (.iload_n 2, 1) := by decide +kernel
theorem dX10_week_19 : decode cX10_week 19 = .ok (.aload_n 0, 1) := by decide +kernel
theorem dX10_week_20 : decode cX10_week 20 = .ok (.getfield 38, 3) := by decide +kernel
theorem dX10_week_23 : decode cX10_week 23 = .ok (.getfield 226, 3) := by decide +kernel
theorem dX10_week_26 : decode cX10_week 26 = .ok (.getfield 239, 3) := by decide +kernel
theorem dX10_week_29 : decode cX10_week 29 = .ok (.if_icmp .lt 5, 3) := by decide +kernel
theorem dX10_week_32 : decode cX10_week 32 = .ok (.iconst (-1), 1) := by decide +kernel
theorem dX10_week_33 : decode cX10_week 33 = .ok (.ireturn, 1) := by decide +kernel
theorem dX10_week_34 : decode cX10_week 34 = .ok (.aload_n 0, 1) := by decide +kernel
theorem dX10_week_35 : decode cX10_week 35 = .ok (.getfield 53, 3) := by decide +kernel
theorem dX10_week_38 : decode cX10_week 38 = .ok (.aload_n 0, 1) := by decide +kernel
theorem dX10_week_39 : decode cX10_week 39 = .ok (.getfield 38, 3) := by decide +kernel
theorem dX10_week_42 : decode cX10_week 42 = .ok (.getfield 93, 3) := by decide +kernel
theorem dX10_week_45 : decode cX10_week 45 = .ok (.invokevirtual 182, 3) := by decide +kernel
theorem dX10_week_48 : decode cX10_week 48 = .ok (.iconst 0, 1) := by decide +kernel
theorem dX10_week_49 : decode cX10_week 49 = .ok (.istore 4, 2) := by decide +kernel
theorem dX10_week_51 : decode cX10_week 51 = .ok (.iconst (-1), 1) := by decide +kernel
theorem dX10_week_52 : decode cX10_week 52 = .ok (.istore 5, 2) := by decide +kernel
theorem dX10_week_54 : decode cX10_week 54 = .ok (.iconst 0, 1) := by decide +kernel
theorem dX10_week_55 : decode cX10_week 55 = .ok (.istore 6, 2) := by decide +kernel
theorem dX10_week_57 : decode cX10_week 57 = .ok (.iload 6, 2) := by decide +kernel
theorem dX10_week_59 : decode cX10_week 59 = .ok (.iload_n 2, 1) := by decide +kernel
theorem dX10_week_60 : decode cX10_week 60 = .ok (.if_icmp .gt 43, 3) := by decide +kernel
theorem dX10_week_63 : decode cX10_week 63 = .ok (.aload_n 0, 1) := by decide +kernel
theorem dX10_week_64 : decode cX10_week 64 = .ok (.aload_n 3, 1) := by decide +kernel
theorem dX10_week_65 : decode cX10_week 65 = .ok (.iload 4, 2) := by decide +kernel
theorem dX10_week_67 : decode cX10_week 67 = .ok (.invokevirtual 249, 3) := by decide +kernel
theorem dX10_week_70 : decode cX10_week 70 = .ok (.istore 5, 2) := by decide +kernel
theorem dX10_week_72 : decode cX10_week 72 = .ok (.aload_n 0, 1) := by decide +kernel
theorem dX10_week_73 : decode cX10_week 73 = .ok (.getfield 38, 3) := by decide +kernel
theorem dX10_week_76 : decode cX10_week 76 = .ok (.getfield 226, 3) := by decide +kernel
theorem dX10_week_79 : decode cX10_week 79 = .ok (.iload 5, 2) := by decide +kernel
theorem dX10_week_81 : decode cX10_week 81 = .ok (.aload_n 0, 1) := by decide +kernel
theorem dX10_week_82 : decode cX10_week 82 = .ok (.getfield 53, 3) := by decide +kernel
theorem dX10_week_85 : decode cX10_week 85 = .ok (.invokevirtual 253, 3) := by decide +kernel
theorem dX10_week_88 : decode cX10_week 88 = .ok (.iload 4, 2) := by decide +kernel
theorem dX10_week_90 : decode cX10_week 90 = .ok (.iconst 1, 1) := by decide +kernel
theorem dX10_week_91 : decode cX10_week 91 = .ok (.iload 5, 2) := by decide +kernel
theorem dX10_week_93 : decode cX10_week 93 = .ok (.ishl, 1) := by decide +kernel
theorem dX10_week_94 : decode cX10_week 94 = .ok (.ior, 1) := by decide +kernel
theorem dX10_week_95 : decode cX10_week 95 = .ok (.istore 4, 2) := by decide +kernel
theorem dX10_week_97 : decode cX10_week 97 = .ok (.iinc 6 1, 3) := by decide +kernel
theorem dX10_week_100 : decode cX10_week 100 = .ok (.goto (-43), 3) := by decide +kernel
theorem dX10_week_103 : decode cX10_week 103 = .ok (.iload 5, 2) := by decide +kernel
theorem dX10_week_105 : decode cX10_week 105 = .ok (.ireturn, 1) := by decide +kernel
set_option maxRecDepth 20000 in
theorem ggX10_span_X10_lawNumbered : GoodIn wsX10_span wsX10_lawNumbered := goodIn_ca (goodIn_r _ [12, 13, 14, 15, 16, 143, 144, 145, 146, 147, 148, 149, 150, 151, 152, 153] (by decide +kernel) (by decide +kernel)) (goodIn_sub (fun _ h => List.mem_cons_of_mem _ (List.mem_append_left _ (List.mem_append_right _ h))) (by decide +kernel))
set_option maxRecDepth 20000 in
theorem gX10_span_X10_lawNumbered : GoodIn wsX10_span (wsV RX10 135 RX10 yX10_lawNumbered wsX10_lawNumbered) := goodIn_app (goodIn_of _ (by decide +kernel)) ggX10_span_X10_lawNumbered
set_option maxRecDepth 20000 in
theorem ggX10_span_X10_demandShape : GoodIn wsX10_span wsX10_demandShape := goodIn_ca (goodIn_r _ [19, 20, 21, 11, 22, 23, 24, 25, 26, 27] (by decide +kernel) (by decide +kernel)) (goodIn_sub (fun _ h => List.mem_cons_of_mem _ (List.mem_append_right _ h)) (by decide +kernel))
set_option maxRecDepth 20000 in
theorem gX10_span_X10_demandShape : GoodIn wsX10_span (va_wsS RX10 125 yX10_demandShape wsX10_demandShape) := goodIn_app (goodIn_of _ (by decide +kernel)) ggX10_span_X10_demandShape
set_option maxRecDepth 20000 in
theorem ggX10_span_X10_within : GoodIn wsX10_span wsX10_within := goodIn_r _ [22] (by decide +kernel) (by decide +kernel)
set_option maxRecDepth 20000 in
theorem gX10_span_X10_within : GoodIn wsX10_span (va_wsS RX10 63 yX10_within wsX10_within) := goodIn_app (goodIn_of _ (by decide +kernel)) ggX10_span_X10_within
set_option maxRecDepth 20000 in
theorem ggX10_span_X10_demand : GoodIn wsX10_span wsX10_demand := goodIn_ca (goodIn_r _ [25, 26, 27] (by decide +kernel) (by decide +kernel)) (goodIn_sub (fun _ h => List.mem_cons_of_mem _ (List.mem_append_right _ h)) (by decide +kernel))
set_option maxRecDepth 20000 in
theorem gX10_span_X10_demand : GoodIn wsX10_span (va_wsS RX10 67 yX10_demand wsX10_demand) := goodIn_app (goodIn_of _ (by decide +kernel)) ggX10_span_X10_demand
set_option maxRecDepth 20000 in
theorem ggX10_span_X1_copy : GoodIn wsX10_span wsX1_copy := goodIn_r _ [32, 33, 34, 35, 36, 37, 38, 39, 40, 41, 42, 43, 44, 45, 46, 47, 159, 160, 161, 162, 163, 164, 165, 166, 167, 168, 169] (by decide +kernel) (by decide +kernel)
set_option maxRecDepth 20000 in
theorem gX10_span_X1_copy : GoodIn wsX10_span (wsV RX10 182 RX1 yX1_copy wsX1_copy) := goodIn_app (goodIn_of _ (by decide +kernel)) ggX10_span_X1_copy
set_option maxRecDepth 20000 in
theorem ggX10_span_X10_lineBy : GoodIn wsX10_span wsX10_lineBy := goodIn_r _ [51, 52, 53, 54, 11, 55, 1, 4, 5, 6, 7, 56, 57, 58, 31, 59, 33, 40, 41, 34, 60, 61, 62, 45, 63, 47, 64, 65, 66, 67, 68, 69, 70, 71, 72, 73, 74, 75, 36, 37, 76, 77, 78, 79, 80, 38, 39, 81, 82, 83, 84, 35, 85, 86, 87, 88, 89, 90, 91, 92, 93, 94, 95, 96, 97, 98, 99, 100, 101, 102, 103, 104, 105, 106, 107, 108, 109, 110, 111, 112, 113, 114, 115, 116, 117, 118, 119, 120, 121, 122, 123, 124, 125, 126, 127, 128, 129, 130, 131, 132, 133, 134, 135, 136, 137, 138, 139, 143, 144, 145, 146, 147, 148, 149, 150, 151, 152, 153, 159, 160, 161, 162, 163, 164, 165, 166, 167, 168, 169, 170, 171, 172, 173, 174] (by decide +kernel) (by decide +kernel)
set_option maxRecDepth 20000 in
theorem gX10_span_X10_lineBy : GoodIn wsX10_span (wsV RX10 190 RX10 yX10_lineBy wsX10_lineBy) := goodIn_app (goodIn_of _ (by decide +kernel)) ggX10_span_X10_lineBy
set_option maxRecDepth 20000 in
theorem ggX10_span_X10_leastLine : GoodIn wsX10_span wsX10_leastLine := goodIn_r _ [142, 4, 5, 6, 7, 115, 110, 111] (by decide +kernel) (by decide +kernel)
set_option maxRecDepth 20000 in
theorem gX10_span_X10_leastLine : GoodIn wsX10_span (va_wsS RX10 262 yX10_leastLine wsX10_leastLine) := goodIn_app (goodIn_of _ (by decide +kernel)) ggX10_span_X10_leastLine
theorem dX10_span_0 : decode cX10_span 0 = .ok (.aload_n 0, 1) := by decide +kernel
theorem dX10_span_1 : decode cX10_span 1 = .ok (.iload_n 1, 1) := by decide +kernel
theorem dX10_span_2 : decode cX10_span 2 = .ok (.invokevirtual 135, 3) := by decide +kernel
theorem dX10_span_5 : decode cX10_span 5 = .ok (.astore 6, 2) := by decide +kernel
theorem dX10_span_7 : decode cX10_span 7 = .ok (.iload_n 2, 1) := by decide +kernel
theorem dX10_span_8 : decode cX10_span 8 = .ok (.iload_n 3, 1) := by decide +kernel
theorem dX10_span_9 : decode cX10_span 9 = .ok (.invokestatic 125, 3) := by decide +kernel
theorem dX10_span_12 : decode cX10_span 12 = .ok (.iload 4, 2) := by decide +kernel
theorem dX10_span_14 : decode cX10_span 14 = .ok (.iconst 0, 1) := by decide +kernel
theorem dX10_span_15 : decode cX10_span 15 = .ok (.bipush 50, 2) := by decide +kernel
theorem dX10_span_17 : decode cX10_span 17 = .ok (.invokestatic 63, 3) := by decide +kernel
theorem dX10_span_20 : decode cX10_span 20 = .ok (.invokestatic 67, 3) := by decide +kernel
theorem dX10_span_23 : decode cX10_span 23 = .ok (.aload_n 0, 1) := by decide +kernel
theorem dX10_span_24 : decode cX10_span 24 = .ok (.getfield 49, 3) := by decide +kernel
theorem dX10_span_27 : decode cX10_span 27 = .ok (.aload_n 0, 1) := by decide +kernel
theorem dX10_span_28 : decode cX10_span 28 = .ok (.getfield 38, 3) := by decide +kernel
theorem dX10_span_31 : decode cX10_span 31 = .ok (.getfield 93, 3) := by decide +kernel
theorem dX10_span_34 : decode cX10_span 34 = .ok (.invokevirtual 182, 3) := by decide +kernel
theorem dX10_span_37 : decode cX10_span 37 = .ok (.aload_n 0, 1) := by decide +kernel
theorem dX10_span_38 : decode cX10_span 38 = .ok (.aload 6, 2) := by decide +kernel
theorem dX10_span_40 : decode cX10_span 40 = .ok (.iload_n 2, 1) := by decide +kernel
theorem dX10_span_41 : decode cX10_span 41 = .ok (.iload_n 3, 1) := by decide +kernel
theorem dX10_span_42 : decode cX10_span 42 = .ok (.bipush 100, 2) := by decide +kernel
theorem dX10_span_44 : decode cX10_span 44 = .ok (.iload 4, 2) := by decide +kernel
theorem dX10_span_46 : decode cX10_span 46 = .ok (.isub, 1) := by decide +kernel
theorem dX10_span_47 : decode cX10_span 47 = .ok (.invokevirtual 190, 3) := by decide +kernel
theorem dX10_span_50 : decode cX10_span 50 = .ok (.istore 7, 2) := by decide +kernel
theorem dX10_span_52 : decode cX10_span 52 = .ok (.aload_n 0, 1) := by decide +kernel
theorem dX10_span_53 : decode cX10_span 53 = .ok (.aload 6, 2) := by decide +kernel
theorem dX10_span_55 : decode cX10_span 55 = .ok (.iload_n 2, 1) := by decide +kernel
theorem dX10_span_56 : decode cX10_span 56 = .ok (.iload_n 3, 1) := by decide +kernel
theorem dX10_span_57 : decode cX10_span 57 = .ok (.bipush 100, 2) := by decide +kernel
theorem dX10_span_59 : decode cX10_span 59 = .ok (.invokevirtual 190, 3) := by decide +kernel
theorem dX10_span_62 : decode cX10_span 62 = .ok (.istore 8, 2) := by decide +kernel
theorem dX10_span_64 : decode cX10_span 64 = .ok (.aload_n 0, 1) := by decide +kernel
theorem dX10_span_65 : decode cX10_span 65 = .ok (.aload 6, 2) := by decide +kernel
theorem dX10_span_67 : decode cX10_span 67 = .ok (.iload_n 2, 1) := by decide +kernel
theorem dX10_span_68 : decode cX10_span 68 = .ok (.iload_n 3, 1) := by decide +kernel
theorem dX10_span_69 : decode cX10_span 69 = .ok (.bipush 100, 2) := by decide +kernel
theorem dX10_span_71 : decode cX10_span 71 = .ok (.iload 4, 2) := by decide +kernel
theorem dX10_span_73 : decode cX10_span 73 = .ok (.iadd, 1) := by decide +kernel
theorem dX10_span_74 : decode cX10_span 74 = .ok (.invokevirtual 190, 3) := by decide +kernel
theorem dX10_span_77 : decode cX10_span 77 = .ok (.istore 9, 2) := by decide +kernel
theorem dX10_span_79 : decode cX10_span 79 = .ok (.iload 5, 2) := by decide +kernel
theorem dX10_span_81 : decode cX10_span 81 = .ok (.ifCond .eq 16, 3) := by decide +kernel
theorem dX10_span_84 : decode cX10_span 84 = .ok (.iload 7, 2) := by decide +kernel
theorem dX10_span_86 : decode cX10_span 86 = .ok (.iload 8, 2) := by decide +kernel
theorem dX10_span_88 : decode cX10_span 88 = .ok (.iload 9, 2) := by decide +kernel
theorem dX10_span_90 : decode cX10_span 90 = .ok (.invokestatic 256, 3) := by decide +kernel
theorem dX10_span_93 : decode cX10_span 93 = .ok (.invokestatic 256, 3) := by decide +kernel
theorem dX10_span_96 : decode cX10_span 96 = .ok (.ireturn, 1) := by decide +kernel
theorem dX10_span_97 : decode cX10_span 97 = .ok (.iload 7, 2) := by decide +kernel
theorem dX10_span_99 : decode cX10_span 99 = .ok (.iload 8, 2) := by decide +kernel
theorem dX10_span_101 : decode cX10_span 101 = .ok (.iload 9, 2) := by decide +kernel
theorem dX10_span_103 : decode cX10_span 103 = .ok (.invokestatic 262, 3) := by decide +kernel
theorem dX10_span_106 : decode cX10_span 106 = .ok (.invokestatic 262, 3) := by decide +kernel
theorem dX10_span_109 : decode cX10_span 109 = .ok (.ireturn, 1) := by decide +kernel
set_option maxRecDepth 20000 in
theorem ggX10_bridge_X10_within : GoodIn wsX10_bridge wsX10_within := goodIn_r _ [6] (by decide +kernel) (by decide +kernel)
set_option maxRecDepth 20000 in
theorem gX10_bridge_X10_within : GoodIn wsX10_bridge (va_wsS RX10 63 yX10_within wsX10_within) := goodIn_app (goodIn_of _ (by decide +kernel)) ggX10_bridge_X10_within
set_option maxRecDepth 20000 in
theorem ggX10_bridge_X10_demand : GoodIn wsX10_bridge wsX10_demand := goodIn_ca (goodIn_r _ [9, 10, 11] (by decide +kernel) (by decide +kernel)) (goodIn_sub (fun _ h => List.mem_cons_of_mem _ (List.mem_append_right _ h)) (by decide +kernel))
set_option maxRecDepth 20000 in
theorem gX10_bridge_X10_demand : GoodIn wsX10_bridge (va_wsS RX10 67 yX10_demand wsX10_demand) := goodIn_app (goodIn_of _ (by decide +kernel)) ggX10_bridge_X10_demand
set_option maxRecDepth 20000 in
theorem ggX10_bridge_X0_add : GoodIn wsX10_bridge wsX0_add := goodIn_r _ [16, 17, 18, 19, 20, 21, 22, 23, 24, 25, 42, 43, 44, 45] (by decide +kernel) (by decide +kernel)
set_option maxRecDepth 20000 in
theorem gX10_bridge_X0_add : GoodIn wsX10_bridge (wsV RX10 269 RX0 yX0_add wsX0_add) := goodIn_app (goodIn_of _ (by decide +kernel)) ggX10_bridge_X0_add
theorem dX10_bridge_0 : decode cX10_bridge 0 = .ok (.iload_n 1, 1) := by decide +kernel
theorem dX10_bridge_1 : decode cX10_bridge 1 = .ok (.iconst 0, 1) := by decide +kernel
theorem dX10_bridge_2 : decode cX10_bridge 2 = .ok (.bipush 60, 2) := by decide +kernel
theorem dX10_bridge_4 : decode cX10_bridge 4 = .ok (.invokestatic 63, 3) := by decide +kernel
theorem dX10_bridge_7 : decode cX10_bridge 7 = .ok (.invokestatic 67, 3) := by decide +kernel
theorem dX10_bridge_10 : decode cX10_bridge 10 = .ok (.aload_n 0, 1) := by decide +kernel
theorem dX10_bridge_11 : decode cX10_bridge 11 = .ok (.getfield 38, 3) := by decide +kernel
theorem dX10_bridge_14 : decode cX10_bridge 14 = .ok (.getfield 265, 3) := by decide +kernel
theorem dX10_bridge_17 : decode cX10_bridge 17 = .ok (.iload_n 1, 1) := by decide +kernel
theorem dX10_bridge_18 : decode cX10_bridge 18 = .ok (.invokevirtual 269, 3) := by decide +kernel
theorem dX10_bridge_21 : decode cX10_bridge 21 = .ok (.ireturn, 1) := by decide +kernel
set_option maxRecDepth 20000 in
theorem ggX10_blows_X10_demandBridge : GoodIn wsX10_blows wsX10_demandBridge := goodIn_ca (goodIn_r _ [7, 8, 9, 1, 2, 10, 11, 12, 6, 13, 35, 36, 37, 38, 39, 40, 41, 42, 43, 44, 45, 46, 47, 48, 49, 50, 51, 52, 53] (by decide +kernel) (by decide +kernel)) (goodIn_sub (fun _ h => List.mem_cons_of_mem _ (List.mem_append_left _ (List.mem_append_right _ h))) (by decide +kernel))
set_option maxRecDepth 20000 in
theorem gX10_blows_X10_demandBridge : GoodIn wsX10_blows (wsV RX10 273 RX10 yX10_demandBridge wsX10_demandBridge) := goodIn_app (goodIn_of _ (by decide +kernel)) ggX10_blows_X10_demandBridge
set_option maxRecDepth 20000 in
theorem ggX10_blows_X10_within : GoodIn wsX10_blows wsX10_within := goodIn_r _ [13] (by decide +kernel) (by decide +kernel)
set_option maxRecDepth 20000 in
theorem gX10_blows_X10_within : GoodIn wsX10_blows (va_wsS RX10 63 yX10_within wsX10_within) := goodIn_app (goodIn_of _ (by decide +kernel)) ggX10_blows_X10_within
set_option maxRecDepth 20000 in
theorem ggX10_blows_X10_demand : GoodIn wsX10_blows wsX10_demand := goodIn_ca (goodIn_r _ [16, 17, 18] (by decide +kernel) (by decide +kernel)) (goodIn_sub (fun _ h => List.mem_cons_of_mem _ (List.mem_append_right _ h)) (by decide +kernel))
set_option maxRecDepth 20000 in
theorem gX10_blows_X10_demand : GoodIn wsX10_blows (va_wsS RX10 67 yX10_demand wsX10_demand) := goodIn_app (goodIn_of _ (by decide +kernel)) ggX10_blows_X10_demand
set_option maxRecDepth 20000 in
theorem ggX10_blows_X0_change : GoodIn wsX10_blows wsX0_change := goodIn_r _ [23, 24, 25, 26, 27, 28, 29, 30, 31, 32, 33, 34, 51, 52, 53, 54] (by decide +kernel) (by decide +kernel)
set_option maxRecDepth 20000 in
theorem gX10_blows_X0_change : GoodIn wsX10_blows (wsV RX10 276 RX0 yX0_change wsX0_change) := goodIn_app (goodIn_of _ (by decide +kernel)) ggX10_blows_X0_change
theorem dX10_blows_0 : decode cX10_blows 0 = .ok (.aload_n 0, 1) := by decide +kernel
theorem dX10_blows_1 : decode cX10_blows 1 = .ok (.iload_n 1, 1) := by decide +kernel
theorem dX10_blows_2 : decode cX10_blows 2 = .ok (.invokevirtual 273, 3) := by decide +kernel
theorem dX10_blows_5 : decode cX10_blows 5 = .ok (.iload_n 2, 1) := by decide +kernel
theorem dX10_blows_6 : decode cX10_blows 6 = .ok (.iconst 0, 1) := by decide +kernel
theorem dX10_blows_7 : decode cX10_blows 7 = .ok (.bipush 9, 2) := by decide +kernel
theorem dX10_blows_9 : decode cX10_blows 9 = .ok (.invokestatic 63, 3) := by decide +kernel
theorem dX10_blows_12 : decode cX10_blows 12 = .ok (.ifCond .eq 18, 3) := by decide +kernel
theorem dX10_blows_15 : decode cX10_blows 15 = .ok (.iload_n 3, 1) := by decide +kernel
theorem dX10_blows_16 : decode cX10_blows 16 = .ok (.iconst 0, 1) := by decide +kernel
theorem dX10_blows_17 : decode cX10_blows 17 = .ok (.sipush 999, 3) := by decide +kernel
theorem dX10_blows_20 : decode cX10_blows 20 = .ok (.invokestatic 63, 3) := by decide +kernel
theorem dX10_blows_23 : decode cX10_blows 23 = .ok (.ifCond .eq 7, 3) := by decide +kernel
theorem dX10_blows_26 : decode cX10_blows 26 = .ok (.iconst 1, 1) := by decide +kernel
theorem dX10_blows_27 : decode cX10_blows 27 = .ok (.goto 4, 3) := by decide +kernel
theorem dX10_blows_30 : decode cX10_blows 30 = .ok (.iconst 0, 1) := by decide +kernel
theorem dX10_blows_31 : decode cX10_blows 31 = .ok (.invokestatic 67, 3) := by decide +kernel
theorem dX10_blows_34 : decode cX10_blows 34 = .ok (.aload_n 0, 1) := by decide +kernel
theorem dX10_blows_35 : decode cX10_blows 35 = .ok (.getfield 38, 3) := by decide +kernel
theorem dX10_blows_38 : decode cX10_blows 38 = .ok (.getfield 265, 3) := by decide +kernel
theorem dX10_blows_41 : decode cX10_blows 41 = .ok (.iload_n 1, 1) := by decide +kernel
theorem dX10_blows_42 : decode cX10_blows 42 = .ok (.iload_n 2, 1) := by decide +kernel
theorem dX10_blows_43 : decode cX10_blows 43 = .ok (.iload_n 3, 1) := by decide +kernel
theorem dX10_blows_44 : decode cX10_blows 44 = .ok (.invokevirtual 276, 3) := by decide +kernel
theorem dX10_blows_47 : decode cX10_blows 47 = .ok (.ireturn, 1) := by decide +kernel
set_option maxRecDepth 20000 in
theorem ggX10_hours_X10_demandBridge : GoodIn wsX10_hours wsX10_demandBridge := goodIn_ca (goodIn_r _ [7, 8, 9, 1, 2, 10, 11, 12, 6, 13, 27, 28, 29, 30, 31, 32, 33, 34, 35, 36, 37, 38, 39, 40, 41, 42, 43, 44, 45] (by decide +kernel) (by decide +kernel)) (goodIn_sub (fun _ h => List.mem_cons_of_mem _ (List.mem_append_right _ h)) (by decide +kernel))
set_option maxRecDepth 20000 in
theorem gX10_hours_X10_demandBridge : GoodIn wsX10_hours (wsV RX10 273 RX10 yX10_demandBridge wsX10_demandBridge) := goodIn_app (goodIn_of _ (by decide +kernel)) ggX10_hours_X10_demandBridge
set_option maxRecDepth 20000 in
theorem ggX10_hours_X0_hoursOf : GoodIn wsX10_hours wsX0_hoursOf := goodIn_r _ [18, 19, 20, 21, 22, 23, 24, 25, 26, 43, 44, 45, 46] (by decide +kernel) (by decide +kernel)
set_option maxRecDepth 20000 in
theorem gX10_hours_X0_hoursOf : GoodIn wsX10_hours (wsV RX10 279 RX0 yX0_hoursOf wsX0_hoursOf) := goodIn_app (goodIn_of _ (by decide +kernel)) ggX10_hours_X0_hoursOf
theorem dX10_hours_0 : decode cX10_hours 0 = .ok (.aload_n 0, 1) := by decide +kernel
theorem dX10_hours_1 : decode cX10_hours 1 = .ok (.iload_n 1, 1) := by decide +kernel
theorem dX10_hours_2 : decode cX10_hours 2 = .ok (.invokevirtual 273, 3) := by decide +kernel
theorem dX10_hours_5 : decode cX10_hours 5 = .ok (.aload_n 0, 1) := by decide +kernel
theorem dX10_hours_6 : decode cX10_hours 6 = .ok (.getfield 38, 3) := by decide +kernel
theorem dX10_hours_9 : decode cX10_hours 9 = .ok (.getfield 265, 3) := by decide +kernel
theorem dX10_hours_12 : decode cX10_hours 12 = .ok (.iload_n 1, 1) := by decide +kernel
theorem dX10_hours_13 : decode cX10_hours 13 = .ok (.invokevirtual 279, 3) := by decide +kernel
theorem dX10_hours_16 : decode cX10_hours 16 = .ok (.ireturn, 1) := by decide +kernel
set_option maxRecDepth 20000 in
theorem ggX10_paper_X10_within : GoodIn wsX10_paper wsX10_within := goodIn_r _ [6] (by decide +kernel) (by decide +kernel)
set_option maxRecDepth 20000 in
theorem gX10_paper_X10_within : GoodIn wsX10_paper (va_wsS RX10 63 yX10_within wsX10_within) := goodIn_app (goodIn_of _ (by decide +kernel)) ggX10_paper_X10_within
set_option maxRecDepth 20000 in
theorem ggX10_paper_X10_demand : GoodIn wsX10_paper wsX10_demand := goodIn_ca (goodIn_r _ [9, 10, 11] (by decide +kernel) (by decide +kernel)) (goodIn_sub (fun _ h => List.mem_cons_of_mem _ (List.mem_append_right _ h)) (by decide +kernel))
set_option maxRecDepth 20000 in
theorem gX10_paper_X10_demand : GoodIn wsX10_paper (va_wsS RX10 67 yX10_demand wsX10_demand) := goodIn_app (goodIn_of _ (by decide +kernel)) ggX10_paper_X10_demand
set_option maxRecDepth 20000 in
theorem ggX10_paper_X5_add : GoodIn wsX10_paper wsX5_add := goodIn_r _ [16, 17, 18, 19, 20, 21, 22, 23, 24, 25, 26, 43, 44, 45, 46, 47] (by decide +kernel) (by decide +kernel)
set_option maxRecDepth 20000 in
theorem gX10_paper_X5_add : GoodIn wsX10_paper (wsV RX10 286 RX5 yX5_add wsX5_add) := goodIn_app (goodIn_of _ (by decide +kernel)) ggX10_paper_X5_add
theorem dX10_paper_0 : decode cX10_paper 0 = .ok (.iload_n 1, 1) := by decide +kernel
theorem dX10_paper_1 : decode cX10_paper 1 = .ok (.iconst 0, 1) := by decide +kernel
theorem dX10_paper_2 : decode cX10_paper 2 = .ok (.sipush 999, 3) := by decide +kernel
theorem dX10_paper_5 : decode cX10_paper 5 = .ok (.invokestatic 63, 3) := by decide +kernel
theorem dX10_paper_8 : decode cX10_paper 8 = .ok (.ifCond .eq 29, 3) := by decide +kernel
theorem dX10_paper_11 : decode cX10_paper 11 = .ok (.iload_n 2, 1) := by decide +kernel
theorem dX10_paper_12 : decode cX10_paper 12 = .ok (.iconst 0, 1) := by decide +kernel
theorem dX10_paper_13 : decode cX10_paper 13 = .ok (.sipush 255, 3) := by decide +kernel
theorem dX10_paper_16 : decode cX10_paper 16 = .ok (.invokestatic 63, 3) := by decide +kernel
theorem dX10_paper_19 : decode cX10_paper 19 = .ok (.ifCond .eq 18, 3) := by decide +kernel
theorem dX10_paper_22 : decode cX10_paper 22 = .ok (.iload_n 3, 1) := by decide +kernel
theorem dX10_paper_23 : decode cX10_paper 23 = .ok (.iconst 0, 1) := by decide +kernel
theorem dX10_paper_24 : decode cX10_paper 24 = .ok (.sipush 255, 3) := by decide +kernel
theorem dX10_paper_27 : decode cX10_paper 27 = .ok (.invokestatic 63, 3) := by decide +kernel
theorem dX10_paper_30 : decode cX10_paper 30 = .ok (.ifCond .eq 7, 3) := by decide +kernel
theorem dX10_paper_33 : decode cX10_paper 33 = .ok (.iconst 1, 1) := by decide +kernel
theorem dX10_paper_34 : decode cX10_paper 34 = .ok (.goto 4, 3) := by decide +kernel
theorem dX10_paper_37 : decode cX10_paper 37 = .ok (.iconst 0, 1) := by decide +kernel
theorem dX10_paper_38 : decode cX10_paper 38 = .ok (.invokestatic 67, 3) := by decide +kernel
theorem dX10_paper_41 : decode cX10_paper 41 = .ok (.aload_n 0, 1) := by decide +kernel
theorem dX10_paper_42 : decode cX10_paper 42 = .ok (.getfield 38, 3) := by decide +kernel
theorem dX10_paper_45 : decode cX10_paper 45 = .ok (.getfield 282, 3) := by decide +kernel
theorem dX10_paper_48 : decode cX10_paper 48 = .ok (.iload_n 1, 1) := by decide +kernel
theorem dX10_paper_49 : decode cX10_paper 49 = .ok (.iload_n 2, 1) := by decide +kernel
theorem dX10_paper_50 : decode cX10_paper 50 = .ok (.iload_n 3, 1) := by decide +kernel
theorem dX10_paper_51 : decode cX10_paper 51 = .ok (.invokevirtual 286, 3) := by decide +kernel
theorem dX10_paper_54 : decode cX10_paper 54 = .ok (.ireturn, 1) := by decide +kernel
set_option maxRecDepth 20000 in
theorem ggX10_known_X10_within : GoodIn wsX10_known wsX10_within := goodIn_r _ [6] (by decide +kernel) (by decide +kernel)
set_option maxRecDepth 20000 in
theorem gX10_known_X10_within : GoodIn wsX10_known (va_wsS RX10 63 yX10_within wsX10_within) := goodIn_app (goodIn_of _ (by decide +kernel)) ggX10_known_X10_within

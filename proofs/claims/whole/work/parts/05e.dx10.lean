set_option maxRecDepth 20000 in
theorem ggX10_known_X10_demand : GoodIn wsX10_known wsX10_demand := goodIn_ca (goodIn_r _ [9, 10, 11] (by decide +kernel) (by decide +kernel)) (goodIn_sub (fun _ h => List.mem_cons_of_mem _ (List.mem_append_right _ h)) (by decide +kernel))
set_option maxRecDepth 20000 in
theorem gX10_known_X10_demand : GoodIn wsX10_known (va_wsS RX10 67 yX10_demand wsX10_demand) := goodIn_app (goodIn_of _ (by decide +kernel)) ggX10_known_X10_demand
set_option maxRecDepth 20000 in
theorem ggX10_known_X5_knownOn : GoodIn wsX10_known wsX5_knownOn := goodIn_r _ [16, 17, 18, 19, 20, 21, 22, 23, 24, 25, 26, 43, 44, 45, 46, 47] (by decide +kernel) (by decide +kernel)
set_option maxRecDepth 20000 in
theorem gX10_known_X5_knownOn : GoodIn wsX10_known (wsV RX10 289 RX5 yX5_knownOn wsX5_knownOn) := goodIn_app (goodIn_of _ (by decide +kernel)) ggX10_known_X5_knownOn
theorem dX10_known_0 : decode cX10_known 0 = .ok (.iload_n 1, 1) := by decide +kernel
theorem dX10_known_1 : decode cX10_known 1 = .ok (.iconst 0, 1) := by decide +kernel
theorem dX10_known_2 : decode cX10_known 2 = .ok (.sipush 999, 3) := by decide +kernel
theorem dX10_known_5 : decode cX10_known 5 = .ok (.invokestatic 63, 3) := by decide +kernel
theorem dX10_known_8 : decode cX10_known 8 = .ok (.invokestatic 67, 3) := by decide +kernel
theorem dX10_known_11 : decode cX10_known 11 = .ok (.aload_n 0, 1) := by decide +kernel
theorem dX10_known_12 : decode cX10_known 12 = .ok (.getfield 38, 3) := by decide +kernel
theorem dX10_known_15 : decode cX10_known 15 = .ok (.getfield 282, 3) := by decide +kernel
theorem dX10_known_18 : decode cX10_known 18 = .ok (.iload_n 1, 1) := by decide +kernel
theorem dX10_known_19 : decode cX10_known 19 = .ok (.invokevirtual 289, 3) := by decide +kernel
theorem dX10_known_22 : decode cX10_known 22 = .ok (.ireturn, 1) := by decide +kernel
set_option maxRecDepth 20000 in
theorem ggX10_could_X10_within : GoodIn wsX10_could wsX10_within := goodIn_r _ [6] (by decide +kernel) (by decide +kernel)
set_option maxRecDepth 20000 in
theorem gX10_could_X10_within : GoodIn wsX10_could (va_wsS RX10 63 yX10_within wsX10_within) := goodIn_app (goodIn_of _ (by decide +kernel)) ggX10_could_X10_within
set_option maxRecDepth 20000 in
theorem ggX10_could_X10_demand : GoodIn wsX10_could wsX10_demand := goodIn_ca (goodIn_r _ [9, 10, 11] (by decide +kernel) (by decide +kernel)) (goodIn_sub (fun _ h => List.mem_cons_of_mem _ (List.mem_append_right _ h)) (by decide +kernel))
set_option maxRecDepth 20000 in
theorem gX10_could_X10_demand : GoodIn wsX10_could (va_wsS RX10 67 yX10_demand wsX10_demand) := goodIn_app (goodIn_of _ (by decide +kernel)) ggX10_could_X10_demand
set_option maxRecDepth 20000 in
theorem ggX10_could_X5_firstDayOf : GoodIn wsX10_could wsX5_firstDayOf := goodIn_r _ [16, 17, 18, 19, 20, 21, 15, 22, 23, 24, 25, 26, 27, 28, 29, 30, 47, 48, 49, 50, 51] (by decide +kernel) (by decide +kernel)
set_option maxRecDepth 20000 in
theorem gX10_could_X5_firstDayOf : GoodIn wsX10_could (wsV RX10 292 RX5 yX5_firstDayOf wsX5_firstDayOf) := goodIn_app (goodIn_of _ (by decide +kernel)) ggX10_could_X5_firstDayOf
theorem dX10_could_0 : decode cX10_could 0 = .ok (.iload_n 1, 1) := by decide +kernel
theorem dX10_could_1 : decode cX10_could 1 = .ok (.iconst 0, 1) := by decide +kernel
theorem dX10_could_2 : decode cX10_could 2 = .ok (.sipush 255, 3) := by decide +kernel
theorem dX10_could_5 : decode cX10_could 5 = .ok (.invokestatic 63, 3) := by decide +kernel
theorem dX10_could_8 : decode cX10_could 8 = .ok (.invokestatic 67, 3) := by decide +kernel
theorem dX10_could_11 : decode cX10_could 11 = .ok (.aload_n 0, 1) := by decide +kernel
theorem dX10_could_12 : decode cX10_could 12 = .ok (.getfield 38, 3) := by decide +kernel
theorem dX10_could_15 : decode cX10_could 15 = .ok (.getfield 282, 3) := by decide +kernel
theorem dX10_could_18 : decode cX10_could 18 = .ok (.iload_n 1, 1) := by decide +kernel
theorem dX10_could_19 : decode cX10_could 19 = .ok (.invokevirtual 292, 3) := by decide +kernel
theorem dX10_could_22 : decode cX10_could 22 = .ok (.ireturn, 1) := by decide +kernel
set_option maxRecDepth 20000 in
theorem ggX10_shut_X10_lawNumbered : GoodIn wsX10_shut wsX10_lawNumbered := goodIn_ca (goodIn_r _ [9, 10, 11, 12, 13, 136, 137, 138, 139, 140, 141, 142, 143, 144, 145, 146] (by decide +kernel) (by decide +kernel)) (goodIn_sub (fun _ h => List.mem_cons_of_mem _ (List.mem_append_left _ (List.mem_append_right _ h))) (by decide +kernel))
set_option maxRecDepth 20000 in
theorem gX10_shut_X10_lawNumbered : GoodIn wsX10_shut (wsV RX10 135 RX10 yX10_lawNumbered wsX10_lawNumbered) := goodIn_app (goodIn_of _ (by decide +kernel)) ggX10_shut_X10_lawNumbered
set_option maxRecDepth 20000 in
theorem ggX10_shut_X10_demandWind : GoodIn wsX10_shut wsX10_demandWind := goodIn_ca (goodIn_r _ [16, 17, 18, 8, 19, 20, 21, 22, 23, 24] (by decide +kernel) (by decide +kernel)) (goodIn_sub (fun _ h => List.mem_cons_of_mem _ (List.mem_append_right _ h)) (by decide +kernel))
set_option maxRecDepth 20000 in
theorem gX10_shut_X10_demandWind : GoodIn wsX10_shut (va_wsS RX10 139 yX10_demandWind wsX10_demandWind) := goodIn_app (goodIn_of _ (by decide +kernel)) ggX10_shut_X10_demandWind
set_option maxRecDepth 20000 in
theorem ggX10_shut_X10_demandShape : GoodIn wsX10_shut wsX10_demandShape := goodIn_ca (goodIn_r _ [27, 17, 18, 8, 19, 20, 21, 22, 23, 24] (by decide +kernel) (by decide +kernel)) (goodIn_sub (fun _ h => List.mem_cons_of_mem _ (List.mem_append_right _ h)) (by decide +kernel))
set_option maxRecDepth 20000 in
theorem gX10_shut_X10_demandShape : GoodIn wsX10_shut (va_wsS RX10 125 yX10_demandShape wsX10_demandShape) := goodIn_app (goodIn_of _ (by decide +kernel)) ggX10_shut_X10_demandShape
set_option maxRecDepth 20000 in
theorem ggX10_shut_X10_within : GoodIn wsX10_shut wsX10_within := goodIn_r _ [19] (by decide +kernel) (by decide +kernel)
set_option maxRecDepth 20000 in
theorem gX10_shut_X10_within : GoodIn wsX10_shut (va_wsS RX10 63 yX10_within wsX10_within) := goodIn_app (goodIn_of _ (by decide +kernel)) ggX10_shut_X10_within
set_option maxRecDepth 20000 in
theorem ggX10_shut_X10_demand : GoodIn wsX10_shut wsX10_demand := goodIn_ca (goodIn_r _ [22, 23, 24] (by decide +kernel) (by decide +kernel)) (goodIn_sub (fun _ h => List.mem_cons_of_mem _ (List.mem_append_right _ h)) (by decide +kernel))
set_option maxRecDepth 20000 in
theorem gX10_shut_X10_demand : GoodIn wsX10_shut (va_wsS RX10 67 yX10_demand wsX10_demand) := goodIn_app (goodIn_of _ (by decide +kernel)) ggX10_shut_X10_demand
set_option maxRecDepth 20000 in
theorem ggX10_shut_X1_copy : GoodIn wsX10_shut wsX1_copy := goodIn_r _ [32, 33, 34, 35, 36, 37, 38, 39, 40, 41, 42, 43, 44, 45, 46, 47, 152, 153, 154, 155, 156, 157, 158, 159, 160, 161, 162] (by decide +kernel) (by decide +kernel)
set_option maxRecDepth 20000 in
theorem gX10_shut_X1_copy : GoodIn wsX10_shut (wsV RX10 182 RX1 yX1_copy wsX1_copy) := goodIn_app (goodIn_of _ (by decide +kernel)) ggX10_shut_X1_copy
set_option maxRecDepth 20000 in
theorem ggX10_shut_X1_begin : GoodIn wsX10_shut wsX1_begin := goodIn_r _ [51, 33, 40, 41, 34, 52, 53, 54, 45, 55, 47, 56, 57, 58, 59, 60, 61, 62, 63, 64, 65, 66, 31, 67, 36, 37, 68, 69, 70, 71, 72, 73, 74, 75, 38, 39, 152, 153, 154, 155, 156, 157, 158, 159, 160, 161, 162] (by decide +kernel) (by decide +kernel)
set_option maxRecDepth 20000 in
theorem gX10_shut_X1_begin : GoodIn wsX10_shut (wsV RX10 217 RX1 yX1_begin wsX1_begin) := goodIn_app (goodIn_of _ (by decide +kernel)) ggX10_shut_X1_begin
set_option maxRecDepth 20000 in
theorem ggX10_shut_X1_tick : GoodIn wsX10_shut wsX1_tick := goodIn_r _ [79, 33, 40, 35, 36, 37, 38, 80, 39, 81, 34, 82, 83, 84, 31, 85, 86, 56, 57, 58, 45, 59, 47, 52, 53, 54, 55, 87, 88, 89, 90, 91, 92, 93, 94, 95, 96, 97, 98, 99, 100, 101, 102, 103, 104, 105, 70, 106, 107, 69, 71, 108, 8, 109, 110, 111, 112, 113, 114, 115, 41, 116, 117, 118, 119, 68, 120, 121, 122, 123, 124, 125, 126, 127, 128, 129, 130, 131, 152, 153, 154, 155, 156, 157, 158, 159, 160, 161, 163, 164, 165, 166, 167, 162] (by decide +kernel) (by decide +kernel)
set_option maxRecDepth 20000 in
theorem gX10_shut_X1_tick : GoodIn wsX10_shut (wsV RX10 142 RX1 yX1_tick wsX1_tick) := goodIn_app (goodIn_of _ (by decide +kernel)) ggX10_shut_X1_tick
set_option maxRecDepth 20000 in
theorem ggX10_shut_X1_size : GoodIn wsX10_shut wsX1_size := goodIn_r _ [135, 36, 37, 33, 129, 130, 70, 131, 68, 69, 71, 52, 53, 54, 45, 55, 47, 152, 153, 154, 155, 156, 157, 158, 159, 160, 161, 162] (by decide +kernel) (by decide +kernel)
set_option maxRecDepth 20000 in
theorem gX10_shut_X1_size : GoodIn wsX10_shut (wsV RX10 132 RX1 yX1_size wsX1_size) := goodIn_app (goodIn_of _ (by decide +kernel)) ggX10_shut_X1_size
theorem dX10_shut_0 : decode cX10_shut 0 = .ok (.aload_n 0, 1) := by decide +kernel
theorem dX10_shut_1 : decode cX10_shut 1 = .ok (.iload_n 1, 1) := by decide +kernel
theorem dX10_shut_2 : decode cX10_shut 2 = .ok (.invokevirtual 135, 3) := by decide +kernel
theorem dX10_shut_5 : decode cX10_shut 5 = .ok (.astore 7, 2) := by decide +kernel
theorem dX10_shut_7 : decode cX10_shut 7 = .ok (.iload_n 2, 1) := by decide +kernel
theorem dX10_shut_8 : decode cX10_shut 8 = .ok (.invokestatic 139, 3) := by decide +kernel
theorem dX10_shut_11 : decode cX10_shut 11 = .ok (.iload_n 3, 1) := by decide +kernel
theorem dX10_shut_12 : decode cX10_shut 12 = .ok (.iload 4, 2) := by decide +kernel
theorem dX10_shut_14 : decode cX10_shut 14 = .ok (.invokestatic 125, 3) := by decide +kernel
theorem dX10_shut_17 : decode cX10_shut 17 = .ok (.iload 5, 2) := by decide +kernel
theorem dX10_shut_19 : decode cX10_shut 19 = .ok (.iconst 1, 1) := by decide +kernel
theorem dX10_shut_20 : decode cX10_shut 20 = .ok (.sipush 9999, 3) := by decide +kernel
theorem dX10_shut_23 : decode cX10_shut 23 = .ok (.invokestatic 63, 3) := by decide +kernel
theorem dX10_shut_26 : decode cX10_shut 26 = .ok (.ifCond .eq 18, 3) := by decide +kernel
theorem dX10_shut_29 : decode cX10_shut 29 = .ok (.iload 6, 2) := by decide +kernel
theorem dX10_shut_31 : decode cX10_shut 31 = .ok (.iconst 0, 1) := by decide +kernel
theorem dX10_shut_32 : decode cX10_shut 32 = .ok (.ldc 206, 2) := by decide +kernel
theorem dX10_shut_34 : decode cX10_shut 34 = .ok (.invokestatic 63, 3) := by decide +kernel
theorem dX10_shut_37 : decode cX10_shut 37 = .ok (.ifCond .eq 7, 3) := by decide +kernel
theorem dX10_shut_40 : decode cX10_shut 40 = .ok (.iconst 1, 1) := by decide +kernel
theorem dX10_shut_41 : decode cX10_shut 41 = .ok (.goto 4, 3) := by decide +kernel
theorem dX10_shut_44 : decode cX10_shut 44 = .ok (.iconst 0, 1) := by decide +kernel
theorem dX10_shut_45 : decode cX10_shut 45 = .ok (.invokestatic 67, 3) := by decide +kernel
theorem dX10_shut_48 : decode cX10_shut 48 = .ok (.aload_n 0, 1) := by decide +kernel
theorem dX10_shut_49 : decode cX10_shut 49 = .ok (.getfield 49, 3) := by decide +kernel
theorem dX10_shut_52 : decode cX10_shut 52 = .ok (.aload_n 0, 1) := by decide +kernel
theorem dX10_shut_53 : decode cX10_shut 53 = .ok (.getfield 38, 3) := by decide +kernel
theorem dX10_shut_56 : decode cX10_shut 56 = .ok (.getfield 93, 3) := by decide +kernel
theorem dX10_shut_59 : decode cX10_shut 59 = .ok (.invokevirtual 182, 3) := by decide +kernel
theorem dX10_shut_62 : decode cX10_shut 62 = .ok (.aload_n 0, 1) := by decide +kernel
theorem dX10_shut_63 : decode cX10_shut 63 = .ok (.getfield 49, 3) := by decide +kernel
theorem dX10_shut_66 : decode cX10_shut 66 = .ok (.iload_n 3, 1) := by decide +kernel
theorem dX10_shut_67 : decode cX10_shut 67 = .ok (.iload 4, 2) := by decide +kernel
theorem dX10_shut_69 : decode cX10_shut 69 = .ok (.iload 5, 2) := by decide +kernel
theorem dX10_shut_71 : decode cX10_shut 71 = .ok (.invokevirtual 217, 3) := by decide +kernel
theorem dX10_shut_74 : decode cX10_shut 74 = .ok (.iconst 1, 1) := by decide +kernel
theorem dX10_shut_75 : decode cX10_shut 75 = .ok (.istore 8, 2) := by decide +kernel
theorem dX10_shut_77 : decode cX10_shut 77 = .ok (.iload 8, 2) := by decide +kernel
theorem dX10_shut_79 : decode cX10_shut 79 = .ok (.bipush 100, 2) := by decide +kernel
theorem dX10_shut_81 : decode cX10_shut 81 = .ok (.if_icmp .gt 37, 3) := by decide +kernel
theorem dX10_shut_84 : decode cX10_shut 84 = .ok (.aload_n 0, 1) := by decide +kernel
theorem dX10_shut_85 : decode cX10_shut 85 = .ok (.getfield 49, 3) := by decide +kernel
theorem dX10_shut_88 : decode cX10_shut 88 = .ok (.aload 7, 2) := by decide +kernel
theorem dX10_shut_90 : decode cX10_shut 90 = .ok (.iload_n 2, 1) := by decide +kernel
theorem dX10_shut_91 : decode cX10_shut 91 = .ok (.bipush 100, 2) := by decide +kernel
theorem dX10_shut_93 : decode cX10_shut 93 = .ok (.invokevirtual 142, 3) := by decide +kernel
theorem dX10_shut_96 : decode cX10_shut 96 = .ok (.aload_n 0, 1) := by decide +kernel
theorem dX10_shut_97 : decode cX10_shut 97 = .ok (.getfield 49, 3) := by decide +kernel
theorem dX10_shut_100 : decode cX10_shut 100 = .ok (.iload_n 3, 1) := by decide +kernel
theorem dX10_shut_101 : decode cX10_shut 101 = .ok (.invokevirtual 132, 3) := by decide +kernel
theorem dX10_shut_104 : decode cX10_shut 104 = .ok (.iload 6, 2) := by decide +kernel
theorem dX10_shut_106 : decode cX10_shut 106 = .ok (.if_icmp .le 6, 3) := by decide +kernel
theorem dX10_shut_109 : decode cX10_shut 109 = .ok (.iload 8, 2) := by decide +kernel
theorem dX10_shut_111 : decode cX10_shut 111 = .ok (.ireturn, 1) := by decide +kernel
theorem dX10_shut_112 : decode cX10_shut 112 = .ok (.iinc 8 1, 3) := by decide +kernel
theorem dX10_shut_115 : decode cX10_shut 115 = .ok (.goto (-38), 3) := by decide +kernel
theorem dX10_shut_118 : decode cX10_shut 118 = .ok (.iconst (-1), 1) := by decide +kernel
theorem dX10_shut_119 : decode cX10_shut 119 = .ok (.ireturn, 1) := by decide +kernel
set_option maxRecDepth 20000 in
theorem ggX10_image_X7_copy : GoodIn wsX10_image wsX7_copy := goodIn_r _ [8, 9, 10, 11, 12, 13, 14, 15, 16, 17, 18, 19, 20, 21, 22, 23, 24, 25, 26, 27, 28, 29, 30, 31, 32, 33, 34, 35, 36, 37, 38, 39, 40, 41, 42, 43, 44, 45, 46, 47, 48, 49, 50, 51, 52, 53, 54, 55, 56, 57, 58, 59, 60, 61, 62, 63, 64, 65, 66, 67, 68, 69, 70, 71, 72, 73, 85, 86, 87, 88, 89, 90, 91, 92, 93, 94, 95, 96, 97, 98, 99, 100, 101, 102, 103, 104, 105, 106, 107, 108, 109, 110, 111, 112, 113, 114, 115, 116] (by decide +kernel) (by decide +kernel)
set_option maxRecDepth 20000 in
theorem gX10_image_X7_copy : GoodIn wsX10_image (wsV RX10 298 RX7 yX7_copy wsX7_copy) := goodIn_app (goodIn_of _ (by decide +kernel)) ggX10_image_X7_copy
theorem dX10_image_0 : decode cX10_image 0 = .ok (.aload_n 0, 1) := by decide +kernel
theorem dX10_image_1 : decode cX10_image 1 = .ok (.getfield 295, 3) := by decide +kernel
theorem dX10_image_4 : decode cX10_image 4 = .ok (.ifCond .lt 27, 3) := by decide +kernel
theorem dX10_image_7 : decode cX10_image 7 = .ok (.aload_n 0, 1) := by decide +kernel
theorem dX10_image_8 : decode cX10_image 8 = .ok (.getfield 295, 3) := by decide +kernel
theorem dX10_image_11 : decode cX10_image 11 = .ok (.aload_n 0, 1) := by decide +kernel
theorem dX10_image_12 : decode cX10_image 12 = .ok (.getfield 42, 3) := by decide +kernel
theorem dX10_image_15 : decode cX10_image 15 = .ok (.arraylength, 1) := by decide +kernel
theorem dX10_image_16 : decode cX10_image 16 = .ok (.if_icmp .ge 15, 3) := by decide +kernel
theorem dX10_image_19 : decode cX10_image 19 = .ok (.aload_n 0, 1) := by decide +kernel
theorem dX10_image_20 : decode cX10_image 20 = .ok (.getfield 42, 3) := by decide +kernel
theorem dX10_image_23 : decode cX10_image 23 = .ok (.aload_n 0, 1) := by decide +kernel
theorem dX10_image_24 : decode cX10_image 24 = .ok (.getfield 295, 3) := by decide +kernel
theorem dX10_image_27 : decode cX10_image 27 = .ok (.aaload, 1) := by decide +kernel
theorem dX10_image_28 : decode cX10_image 28 = .ok (.goto 4, 3) := by decide +kernel
theorem dX10_image_31 : decode cX10_image 31 = .ok (.aconst_null, 1) := by decide +kernel
theorem dX10_image_32 : decode cX10_image 32 = .ok (.astore_n 1, 1) := by decide +kernel
theorem dX10_image_33 : decode cX10_image 33 = .ok (.aload_n 1, 1) := by decide +kernel
theorem dX10_image_34 : decode cX10_image 34 = .ok (.ifnonnull 5, 3) := by decide +kernel
theorem dX10_image_37 : decode cX10_image 37 = .ok (.iconst (-1), 1) := by decide +kernel
theorem dX10_image_38 : decode cX10_image 38 = .ok (.ireturn, 1) := by decide +kernel
theorem dX10_image_39 : decode cX10_image 39 = .ok (.aload_n 1, 1) := by decide +kernel
theorem dX10_image_40 : decode cX10_image 40 = .ok (.aload_n 0, 1) := by decide +kernel
theorem dX10_image_41 : decode cX10_image 41 = .ok (.getfield 38, 3) := by decide +kernel
theorem dX10_image_44 : decode cX10_image 44 = .ok (.invokevirtual 298, 3) := by decide +kernel
theorem dX10_image_47 : decode cX10_image 47 = .ok (.aload_n 0, 1) := by decide +kernel
theorem dX10_image_48 : decode cX10_image 48 = .ok (.dup, 1) := by decide +kernel
theorem dX10_image_49 : decode cX10_image 49 = .ok (.getfield 295, 3) := by decide +kernel
theorem dX10_image_52 : decode cX10_image 52 = .ok (.iconst 1, 1) := by decide +kernel
theorem dX10_image_53 : decode cX10_image 53 = .ok (.iadd, 1) := by decide +kernel
theorem dX10_image_54 : decode cX10_image 54 = .ok (.putfield 295, 3) := by decide +kernel
theorem dX10_image_57 : decode cX10_image 57 = .ok (.aload_n 0, 1) := by decide +kernel
theorem dX10_image_58 : decode cX10_image 58 = .ok (.getfield 295, 3) := by decide +kernel
theorem dX10_image_61 : decode cX10_image 61 = .ok (.ireturn, 1) := by decide +kernel
set_option maxRecDepth 20000 in
theorem ggX10_restore_X7_copy : GoodIn wsX10_restore wsX7_copy := goodIn_r _ [8, 9, 10, 11, 12, 13, 14, 15, 16, 17, 18, 19, 20, 21, 22, 23, 24, 25, 26, 27, 28, 29, 30, 31, 32, 33, 34, 35, 36, 37, 38, 39, 40, 41, 42, 43, 44, 45, 46, 47, 48, 49, 50, 51, 52, 53, 54, 55, 56, 57, 58, 59, 60, 61, 62, 63, 64, 65, 66, 67, 68, 69, 70, 71, 72, 73, 85, 86, 87, 88, 89, 90, 91, 92, 93, 94, 95, 96, 97, 98, 99, 100, 101, 102, 103, 104, 105, 106, 107, 108, 109, 110, 111, 112, 113, 114, 115, 116] (by decide +kernel) (by decide +kernel)
set_option maxRecDepth 20000 in
theorem gX10_restore_X7_copy : GoodIn wsX10_restore (wsV RX10 298 RX7 yX7_copy wsX7_copy) := goodIn_app (goodIn_of _ (by decide +kernel)) ggX10_restore_X7_copy
theorem dX10_restore_0 : decode cX10_restore 0 = .ok (.aload_n 0, 1) := by decide +kernel
theorem dX10_restore_1 : decode cX10_restore 1 = .ok (.getfield 295, 3) := by decide +kernel
theorem dX10_restore_4 : decode cX10_restore 4 = .ok (.ifCond .le 29, 3) := by decide +kernel
theorem dX10_restore_7 : decode cX10_restore 7 = .ok (.aload_n 0, 1) := by decide +kernel
theorem dX10_restore_8 : decode cX10_restore 8 = .ok (.getfield 295, 3) := by decide +kernel
theorem dX10_restore_11 : decode cX10_restore 11 = .ok (.aload_n 0, 1) := by decide +kernel
theorem dX10_restore_12 : decode cX10_restore 12 = .ok (.getfield 42, 3) := by decide +kernel
theorem dX10_restore_15 : decode cX10_restore 15 = .ok (.arraylength, 1) := by decide +kernel
theorem dX10_restore_16 : decode cX10_restore 16 = .ok (.if_icmp .gt 17, 3) := by decide +kernel
theorem dX10_restore_19 : decode cX10_restore 19 = .ok (.aload_n 0, 1) := by decide +kernel
theorem dX10_restore_20 : decode cX10_restore 20 = .ok (.getfield 42, 3) := by decide +kernel
theorem dX10_restore_23 : decode cX10_restore 23 = .ok (.aload_n 0, 1) := by decide +kernel
theorem dX10_restore_24 : decode cX10_restore 24 = .ok (.getfield 295, 3) := by decide +kernel
theorem dX10_restore_27 : decode cX10_restore 27 = .ok (.iconst 1, 1) := by decide +kernel
theorem dX10_restore_28 : decode cX10_restore 28 = .ok (.isub, 1) := by decide +kernel
theorem dX10_restore_29 : decode cX10_restore 29 = .ok (.aaload, 1) := by decide +kernel
theorem dX10_restore_30 : decode cX10_restore 30 = .ok (.goto 4, 3) := by decide +kernel
theorem dX10_restore_33 : decode cX10_restore 33 = .ok (.aconst_null, 1) := by decide +kernel
theorem dX10_restore_34 : decode cX10_restore 34 = .ok (.astore_n 1, 1) := by decide +kernel
theorem dX10_restore_35 : decode cX10_restore 35 = .ok (.aload_n 1, 1) := by decide +kernel
theorem dX10_restore_36 : decode cX10_restore 36 = .ok (.ifnonnull 5, 3) := by decide +kernel
theorem dX10_restore_39 : decode cX10_restore 39 = .ok (.iconst (-1), 1) := by decide +kernel
theorem dX10_restore_40 : decode cX10_restore 40 = .ok (.ireturn, 1) := by decide +kernel
theorem dX10_restore_41 : decode cX10_restore 41 = .ok (.aload_n 0, 1) := by decide +kernel
theorem dX10_restore_42 : decode cX10_restore 42 = .ok (.getfield 38, 3) := by decide +kernel
theorem dX10_restore_45 : decode cX10_restore 45 = .ok (.aload_n 1, 1) := by decide +kernel
theorem dX10_restore_46 : decode cX10_restore 46 = .ok (.invokevirtual 298, 3) := by decide +kernel
theorem dX10_restore_49 : decode cX10_restore 49 = .ok (.aload_n 0, 1) := by decide +kernel
theorem dX10_restore_50 : decode cX10_restore 50 = .ok (.dup, 1) := by decide +kernel
theorem dX10_restore_51 : decode cX10_restore 51 = .ok (.getfield 295, 3) := by decide +kernel
theorem dX10_restore_54 : decode cX10_restore 54 = .ok (.iconst 1, 1) := by decide +kernel
theorem dX10_restore_55 : decode cX10_restore 55 = .ok (.isub, 1) := by decide +kernel
theorem dX10_restore_56 : decode cX10_restore 56 = .ok (.putfield 295, 3) := by decide +kernel
theorem dX10_restore_59 : decode cX10_restore 59 = .ok (.aload_n 0, 1) := by decide +kernel
theorem dX10_restore_60 : decode cX10_restore 60 = .ok (.getfield 295, 3) := by decide +kernel
theorem dX10_restore_63 : decode cX10_restore 63 = .ok (.ireturn, 1) := by decide +kernel
set_option maxRecDepth 20000 in
theorem ggX10_count_X10_within : GoodIn wsX10_count wsX10_within := goodIn_r _ [20] (by decide +kernel) (by decide +kernel)
set_option maxRecDepth 20000 in
theorem gX10_count_X10_within : GoodIn wsX10_count (va_wsS RX10 63 yX10_within wsX10_within) := goodIn_app (goodIn_of _ (by decide +kernel)) ggX10_count_X10_within
set_option maxRecDepth 20000 in
theorem ggX10_count_X8_at : GoodIn wsX10_count wsX8_at := goodIn_r _ [25, 26, 82] (by decide +kernel) (by decide +kernel)
set_option maxRecDepth 20000 in
theorem gX10_count_X8_at : GoodIn wsX10_count (wsV RX10 112 RX8 yX8_at wsX8_at) := goodIn_app (goodIn_of _ (by decide +kernel)) ggX10_count_X8_at
set_option maxRecDepth 20000 in
theorem ggX10_count_X1_broken : GoodIn wsX10_count wsX1_broken := goodIn_r _ [31, 32, 33, 34, 35, 30, 36, 37, 38, 39, 22, 23, 24, 25, 26, 56, 57, 58, 59, 60, 61, 62, 63, 64, 65, 82] (by decide +kernel) (by decide +kernel)
set_option maxRecDepth 20000 in
theorem gX10_count_X1_broken : GoodIn wsX10_count (wsV RX10 307 RX1 yX1_broken wsX1_broken) := goodIn_app (goodIn_of _ (by decide +kernel)) ggX10_count_X1_broken
theorem dX10_count_0 : decode cX10_count 0 = .ok (.iload_n 1, 1) := by decide +kernel
theorem dX10_count_1 : decode cX10_count 1 = .ok (.bipush 20, 2) := by decide +kernel
theorem dX10_count_3 : decode cX10_count 3 = .ok (.bipush 29, 2) := by decide +kernel
theorem dX10_count_5 : decode cX10_count 5 = .ok (.invokestatic 63, 3) := by decide +kernel
theorem dX10_count_8 : decode cX10_count 8 = .ok (.ifCond .eq 21, 3) := by decide +kernel
theorem dX10_count_11 : decode cX10_count 11 = .ok (.aload_n 0, 1) := by decide +kernel
theorem dX10_count_12 : decode cX10_count 12 = .ok (.getfield 38, 3) := by decide +kernel
theorem dX10_count_15 : decode cX10_count 15 = .ok (.getfield 93, 3) := by decide +kernel
theorem dX10_count_18 : decode cX10_count 18 = .ok (.getfield 109, 3) := by decide +kernel
theorem dX10_count_21 : decode cX10_count 21 = .ok (.iload_n 1, 1) := by decide +kernel
theorem dX10_count_22 : decode cX10_count 22 = .ok (.bipush 20, 2) := by decide +kernel
theorem dX10_count_24 : decode cX10_count 24 = .ok (.isub, 1) := by decide +kernel
theorem dX10_count_25 : decode cX10_count 25 = .ok (.invokevirtual 112, 3) := by decide +kernel
theorem dX10_count_28 : decode cX10_count 28 = .ok (.ireturn, 1) := by decide +kernel
theorem dX10_count_29 : decode cX10_count 29 = .ok (.iload_n 1, 1) := by decide +kernel
theorem dX10_count_30 : decode cX10_count 30 = .ok (.tableswitch 163 0 10 #[58, 69, 74, 85, 96, 107, 118, 129, 134, 139, 151], 58) := by decide +kernel
theorem dX10_count_88 : decode cX10_count 88 = .ok (.aload_n 0, 1) := by decide +kernel
theorem dX10_count_89 : decode cX10_count 89 = .ok (.getfield 38, 3) := by decide +kernel
theorem dX10_count_92 : decode cX10_count 92 = .ok (.getfield 93, 3) := by decide +kernel
theorem dX10_count_95 : decode cX10_count 95 = .ok (.getfield 96, 3) := by decide +kernel
theorem dX10_count_98 : decode cX10_count 98 = .ok (.ireturn, 1) := by decide +kernel
theorem dX10_count_99 : decode cX10_count 99 = .ok (.aload_n 0, 1) := by decide +kernel
theorem dX10_count_100 : decode cX10_count 100 = .ok (.getfield 71, 3) := by decide +kernel
theorem dX10_count_103 : decode cX10_count 103 = .ok (.ireturn, 1) := by decide +kernel
theorem dX10_count_104 : decode cX10_count 104 = .ok (.aload_n 0, 1) := by decide +kernel
theorem dX10_count_105 : decode cX10_count 105 = .ok (.getfield 38, 3) := by decide +kernel
theorem dX10_count_108 : decode cX10_count 108 = .ok (.getfield 93, 3) := by decide +kernel
theorem dX10_count_111 : decode cX10_count 111 = .ok (.getfield 301, 3) := by decide +kernel
theorem dX10_count_114 : decode cX10_count 114 = .ok (.ireturn, 1) := by decide +kernel
theorem dX10_count_115 : decode cX10_count 115 = .ok (.aload_n 0, 1) := by decide +kernel
theorem dX10_count_116 : decode cX10_count 116 = .ok (.getfield 38, 3) := by decide +kernel
theorem dX10_count_119 : decode cX10_count 119 = .ok (.getfield 207, 3) := by decide +kernel
theorem dX10_count_122 : decode cX10_count 122 = .ok (.getfield 304, 3) := by decide +kernel
theorem dX10_count_125 : decode cX10_count 125 = .ok (.ireturn, 1) := by decide +kernel
theorem dX10_count_126 : decode cX10_count 126 = .ok (.aload_n 0, 1) := by decide +kernel
theorem dX10_count_127 : decode cX10_count 127 = .ok (.getfield 38, 3) := by decide +kernel
theorem dX10_count_130 : decode cX10_count 130 = .ok (.getfield 226, 3) := by decide +kernel
theorem dX10_count_133 : decode cX10_count 133 = .ok (.getfield 239, 3) := by decide +kernel
theorem dX10_count_136 : decode cX10_count 136 = .ok (.ireturn, 1) := by decide +kernel
theorem dX10_count_137 : decode cX10_count 137 = .ok (.aload_n 0, 1) := by decide +kernel
theorem dX10_count_138 : decode cX10_count 138 = .ok (.getfield 38, 3) := by decide +kernel
theorem dX10_count_141 : decode cX10_count 141 = .ok (.getfield 265, 3) := by decide +kernel
theorem dX10_count_144 : decode cX10_count 144 = .ok (.getfield 305, 3) := by decide +kernel
theorem dX10_count_147 : decode cX10_count 147 = .ok (.ireturn, 1) := by decide +kernel
theorem dX10_count_148 : decode cX10_count 148 = .ok (.aload_n 0, 1) := by decide +kernel
theorem dX10_count_149 : decode cX10_count 149 = .ok (.getfield 38, 3) := by decide +kernel
theorem dX10_count_152 : decode cX10_count 152 = .ok (.getfield 282, 3) := by decide +kernel
theorem dX10_count_155 : decode cX10_count 155 = .ok (.getfield 306, 3) := by decide +kernel
theorem dX10_count_158 : decode cX10_count 158 = .ok (.ireturn, 1) := by decide +kernel
theorem dX10_count_159 : decode cX10_count 159 = .ok (.aload_n 0, 1) := by decide +kernel
theorem dX10_count_160 : decode cX10_count 160 = .ok (.getfield 295, 3) := by decide +kernel
theorem dX10_count_163 : decode cX10_count 163 = .ok (.ireturn, 1) := by decide +kernel
theorem dX10_count_164 : decode cX10_count 164 = .ok (.aload_n 0, 1) := by decide +kernel
theorem dX10_count_165 : decode cX10_count 165 = .ok (.getfield 57, 3) := by decide +kernel
theorem dX10_count_168 : decode cX10_count 168 = .ok (.ireturn, 1) := by decide +kernel
theorem dX10_count_169 : decode cX10_count 169 = .ok (.aload_n 0, 1) := by decide +kernel
theorem dX10_count_170 : decode cX10_count 170 = .ok (.getfield 38, 3) := by decide +kernel
theorem dX10_count_173 : decode cX10_count 173 = .ok (.getfield 93, 3) := by decide +kernel
theorem dX10_count_176 : decode cX10_count 176 = .ok (.iconst 0, 1) := by decide +kernel
theorem dX10_count_177 : decode cX10_count 177 = .ok (.invokevirtual 307, 3) := by decide +kernel
theorem dX10_count_180 : decode cX10_count 180 = .ok (.ireturn, 1) := by decide +kernel
theorem dX10_count_181 : decode cX10_count 181 = .ok (.aload_n 0, 1) := by decide +kernel
theorem dX10_count_182 : decode cX10_count 182 = .ok (.getfield 38, 3) := by decide +kernel
theorem dX10_count_185 : decode cX10_count 185 = .ok (.getfield 93, 3) := by decide +kernel
theorem dX10_count_188 : decode cX10_count 188 = .ok (.iconst 1, 1) := by decide +kernel
theorem dX10_count_189 : decode cX10_count 189 = .ok (.invokevirtual 307, 3) := by decide +kernel
theorem dX10_count_192 : decode cX10_count 192 = .ok (.ireturn, 1) := by decide +kernel
theorem dX10_count_193 : decode cX10_count 193 = .ok (.iconst (-1), 1) := by decide +kernel
theorem dX10_count_194 : decode cX10_count 194 = .ok (.ireturn, 1) := by decide +kernel
theorem dX10_within_0 : decode cX10_within 0 = .ok (.iload_n 0, 1) := by decide +kernel
theorem dX10_within_1 : decode cX10_within 1 = .ok (.iload_n 1, 1) := by decide +kernel
theorem dX10_within_2 : decode cX10_within 2 = .ok (.if_icmp .lt 12, 3) := by decide +kernel
theorem dX10_within_5 : decode cX10_within 5 = .ok (.iload_n 0, 1) := by decide +kernel
theorem dX10_within_6 : decode cX10_within 6 = .ok (.iload_n 2, 1) := by decide +kernel
theorem dX10_within_7 : decode cX10_within 7 = .ok (.if_icmp .gt 7, 3) := by decide +kernel
theorem dX10_within_10 : decode cX10_within 10 = .ok (.iconst 1, 1) := by decide +kernel
theorem dX10_within_11 : decode cX10_within 11 = .ok (.goto 4, 3) := by decide +kernel
theorem dX10_within_14 : decode cX10_within 14 = .ok (.iconst 0, 1) := by decide +kernel
theorem dX10_within_15 : decode cX10_within 15 = .ok (.ireturn, 1) := by decide +kernel
theorem dX10_demand_0 : decode cX10_demand 0 = .ok (.iload_n 0, 1) := by decide +kernel
theorem dX10_demand_1 : decode cX10_demand 1 = .ok (.ifCond .ne 14, 3) := by decide +kernel
theorem dX10_demand_4 : decode cX10_demand 4 = .ok (.new 161, 3) := by decide +kernel
theorem dX10_demand_7 : decode cX10_demand 7 = .ok (.dup, 1) := by decide +kernel
theorem dX10_demand_8 : decode cX10_demand 8 = .ok (.ldc_w 310, 3) := by decide +kernel
theorem dX10_demand_11 : decode cX10_demand 11 = .ok (.invokespecial 165, 3) := by decide +kernel
theorem dX10_demand_14 : decode cX10_demand 14 = .ok (.athrow, 1) := by decide +kernel
theorem dX10_demand_15 : decode cX10_demand 15 = .ok (.return_, 1) := by decide +kernel
set_option maxRecDepth 20000 in
theorem ggX10_demandWind_X10_within : GoodIn wsX10_demandWind wsX10_within := goodIn_r _ [4] (by decide +kernel) (by decide +kernel)
set_option maxRecDepth 20000 in
theorem gX10_demandWind_X10_within : GoodIn wsX10_demandWind (va_wsS RX10 63 yX10_within wsX10_within) := goodIn_app (goodIn_of _ (by decide +kernel)) ggX10_demandWind_X10_within
set_option maxRecDepth 20000 in
theorem ggX10_demandWind_X10_demand : GoodIn wsX10_demandWind wsX10_demand := goodIn_ca (goodIn_r _ [7, 8, 9] (by decide +kernel) (by decide +kernel)) (goodIn_sub (fun _ h => List.mem_cons_of_mem _ (List.mem_append_right _ h)) (by decide +kernel))
set_option maxRecDepth 20000 in
theorem gX10_demandWind_X10_demand : GoodIn wsX10_demandWind (va_wsS RX10 67 yX10_demand wsX10_demand) := goodIn_app (goodIn_of _ (by decide +kernel)) ggX10_demandWind_X10_demand
theorem dX10_demandWind_0 : decode cX10_demandWind 0 = .ok (.iload_n 0, 1) := by decide +kernel
theorem dX10_demandWind_1 : decode cX10_demandWind 1 = .ok (.iconst 0, 1) := by decide +kernel
theorem dX10_demandWind_2 : decode cX10_demandWind 2 = .ok (.bipush 99, 2) := by decide +kernel
theorem dX10_demandWind_4 : decode cX10_demandWind 4 = .ok (.invokestatic 63, 3) := by decide +kernel
theorem dX10_demandWind_7 : decode cX10_demandWind 7 = .ok (.invokestatic 67, 3) := by decide +kernel
theorem dX10_demandWind_10 : decode cX10_demandWind 10 = .ok (.return_, 1) := by decide +kernel
set_option maxRecDepth 20000 in
theorem ggX10_demandShape_X10_within : GoodIn wsX10_demandShape wsX10_within := goodIn_r _ [4] (by decide +kernel) (by decide +kernel)
set_option maxRecDepth 20000 in
theorem gX10_demandShape_X10_within : GoodIn wsX10_demandShape (va_wsS RX10 63 yX10_within wsX10_within) := goodIn_app (goodIn_of _ (by decide +kernel)) ggX10_demandShape_X10_within
set_option maxRecDepth 20000 in
theorem ggX10_demandShape_X10_demand : GoodIn wsX10_demandShape wsX10_demand := goodIn_ca (goodIn_r _ [7, 8, 9] (by decide +kernel) (by decide +kernel)) (goodIn_sub (fun _ h => List.mem_cons_of_mem _ (List.mem_append_right _ h)) (by decide +kernel))
set_option maxRecDepth 20000 in
theorem gX10_demandShape_X10_demand : GoodIn wsX10_demandShape (va_wsS RX10 67 yX10_demand wsX10_demand) := goodIn_app (goodIn_of _ (by decide +kernel)) ggX10_demandShape_X10_demand
theorem dX10_demandShape_0 : decode cX10_demandShape 0 = .ok (.iload_n 0, 1) := by decide +kernel
theorem dX10_demandShape_1 : decode cX10_demandShape 1 = .ok (.iconst 0, 1) := by decide +kernel
theorem dX10_demandShape_2 : decode cX10_demandShape 2 = .ok (.iconst 1, 1) := by decide +kernel
theorem dX10_demandShape_3 : decode cX10_demandShape 3 = .ok (.invokestatic 63, 3) := by decide +kernel
theorem dX10_demandShape_6 : decode cX10_demandShape 6 = .ok (.ifCond .eq 16, 3) := by decide +kernel
theorem dX10_demandShape_9 : decode cX10_demandShape 9 = .ok (.iload_n 1, 1) := by decide +kernel
theorem dX10_demandShape_10 : decode cX10_demandShape 10 = .ok (.iconst 1, 1) := by decide +kernel
theorem dX10_demandShape_11 : decode cX10_demandShape 11 = .ok (.iconst 4, 1) := by decide +kernel
theorem dX10_demandShape_12 : decode cX10_demandShape 12 = .ok (.invokestatic 63, 3) := by decide +kernel
theorem dX10_demandShape_15 : decode cX10_demandShape 15 = .ok (.ifCond .eq 7, 3) := by decide +kernel
theorem dX10_demandShape_18 : decode cX10_demandShape 18 = .ok (.iconst 1, 1) := by decide +kernel
theorem dX10_demandShape_19 : decode cX10_demandShape 19 = .ok (.goto 4, 3) := by decide +kernel
theorem dX10_demandShape_22 : decode cX10_demandShape 22 = .ok (.iconst 0, 1) := by decide +kernel
theorem dX10_demandShape_23 : decode cX10_demandShape 23 = .ok (.invokestatic 67, 3) := by decide +kernel
theorem dX10_demandShape_26 : decode cX10_demandShape 26 = .ok (.return_, 1) := by decide +kernel
set_option maxRecDepth 20000 in
theorem ggX10_demandPiece_X10_within : GoodIn wsX10_demandPiece wsX10_within := goodIn_r _ [9] (by decide +kernel) (by decide +kernel)
set_option maxRecDepth 20000 in
theorem gX10_demandPiece_X10_within : GoodIn wsX10_demandPiece (va_wsS RX10 63 yX10_within wsX10_within) := goodIn_app (goodIn_of _ (by decide +kernel)) ggX10_demandPiece_X10_within
theorem dX10_demandPiece_0 : decode cX10_demandPiece 0 = .ok (.iload_n 1, 1) := by decide +kernel
theorem dX10_demandPiece_1 : decode cX10_demandPiece 1 = .ok (.iconst 0, 1) := by decide +kernel
theorem dX10_demandPiece_2 : decode cX10_demandPiece 2 = .ok (.aload_n 0, 1) := by decide +kernel
theorem dX10_demandPiece_3 : decode cX10_demandPiece 3 = .ok (.getfield 38, 3) := by decide +kernel
theorem dX10_demandPiece_6 : decode cX10_demandPiece 6 = .ok (.getfield 93, 3) := by decide +kernel
theorem dX10_demandPiece_9 : decode cX10_demandPiece 9 = .ok (.getfield 96, 3) := by decide +kernel
theorem dX10_demandPiece_12 : decode cX10_demandPiece 12 = .ok (.iconst 1, 1) := by decide +kernel
theorem dX10_demandPiece_13 : decode cX10_demandPiece 13 = .ok (.isub, 1) := by decide +kernel
theorem dX10_demandPiece_14 : decode cX10_demandPiece 14 = .ok (.invokestatic 63, 3) := by decide +kernel
theorem dX10_demandPiece_17 : decode cX10_demandPiece 17 = .ok (.ifCond .ne 14, 3) := by decide +kernel
theorem dX10_demandPiece_20 : decode cX10_demandPiece 20 = .ok (.new 312, 3) := by decide +kernel

theorem dX10_first_0 : decode cX10_first 0 = .ok (.aload_n 0, 1) := by decide +kernel
theorem dX10_first_1 : decode cX10_first 1 = .ok (.iload_n 1, 1) := by decide +kernel
theorem dX10_first_2 : decode cX10_first 2 = .ok (.invokevirtual 135, 3) := by decide +kernel
theorem dX10_first_5 : decode cX10_first 5 = .ok (.astore 6, 2) := by decide +kernel
theorem dX10_first_7 : decode cX10_first 7 = .ok (.iload_n 2, 1) := by decide +kernel
theorem dX10_first_8 : decode cX10_first 8 = .ok (.invokestatic 139, 3) := by decide +kernel
theorem dX10_first_11 : decode cX10_first 11 = .ok (.iload_n 3, 1) := by decide +kernel
theorem dX10_first_12 : decode cX10_first 12 = .ok (.iload 4, 2) := by decide +kernel
theorem dX10_first_14 : decode cX10_first 14 = .ok (.invokestatic 125, 3) := by decide +kernel
theorem dX10_first_17 : decode cX10_first 17 = .ok (.aload_n 0, 1) := by decide +kernel
theorem dX10_first_18 : decode cX10_first 18 = .ok (.aload 6, 2) := by decide +kernel
theorem dX10_first_20 : decode cX10_first 20 = .ok (.iload_n 2, 1) := by decide +kernel
theorem dX10_first_21 : decode cX10_first 21 = .ok (.iload_n 3, 1) := by decide +kernel
theorem dX10_first_22 : decode cX10_first 22 = .ok (.iload 4, 2) := by decide +kernel
theorem dX10_first_24 : decode cX10_first 24 = .ok (.iload 5, 2) := by decide +kernel
theorem dX10_first_26 : decode cX10_first 26 = .ok (.invokevirtual 194, 3) := by decide +kernel
theorem dX10_first_29 : decode cX10_first 29 = .ok (.ireturn, 1) := by decide +kernel
set_option maxRecDepth 20000 in
theorem ggX10_where_X10_lawNumbered : GoodIn wsX10_where wsX10_lawNumbered := goodIn_ca (goodIn_r _ [6, 7, 8, 9, 10, 143, 144, 145, 146, 147, 148, 149, 150, 151, 152, 153] (by decide +kernel) (by decide +kernel)) (goodIn_sub (fun _ h => List.mem_cons_of_mem _ (List.mem_append_left _ (List.mem_append_right _ h))) (by decide +kernel))
set_option maxRecDepth 20000 in
theorem gX10_where_X10_lawNumbered : GoodIn wsX10_where (wsV RX10 135 RX10 yX10_lawNumbered wsX10_lawNumbered) := goodIn_app (goodIn_of _ (by decide +kernel)) ggX10_where_X10_lawNumbered
set_option maxRecDepth 20000 in
theorem ggX10_where_X10_demandWind : GoodIn wsX10_where wsX10_demandWind := goodIn_ca (goodIn_r _ [13, 14, 15, 5, 16, 17, 18, 19, 20, 21] (by decide +kernel) (by decide +kernel)) (goodIn_sub (fun _ h => List.mem_cons_of_mem _ (List.mem_append_right _ h)) (by decide +kernel))
set_option maxRecDepth 20000 in
theorem gX10_where_X10_demandWind : GoodIn wsX10_where (va_wsS RX10 139 yX10_demandWind wsX10_demandWind) := goodIn_app (goodIn_of _ (by decide +kernel)) ggX10_where_X10_demandWind
set_option maxRecDepth 20000 in
theorem ggX10_where_X10_demandShape : GoodIn wsX10_where wsX10_demandShape := goodIn_ca (goodIn_r _ [24, 14, 15, 5, 16, 17, 18, 19, 20, 21] (by decide +kernel) (by decide +kernel)) (goodIn_sub (fun _ h => List.mem_cons_of_mem _ (List.mem_append_right _ h)) (by decide +kernel))
set_option maxRecDepth 20000 in
theorem gX10_where_X10_demandShape : GoodIn wsX10_where (va_wsS RX10 125 yX10_demandShape wsX10_demandShape) := goodIn_app (goodIn_of _ (by decide +kernel)) ggX10_where_X10_demandShape
set_option maxRecDepth 20000 in
theorem ggX10_where_X10_runTillBroken : GoodIn wsX10_where wsX10_runTillBroken := goodIn_r _ [28, 1, 29, 30, 31, 32, 33, 34, 35, 36, 37, 38, 39, 40, 41, 42, 43, 44, 45, 46, 47, 48, 49, 50, 51, 52, 53, 54, 55, 56, 57, 58, 59, 60, 61, 62, 63, 64, 65, 66, 67, 68, 69, 70, 71, 72, 73, 74, 75, 76, 77, 78, 79, 80, 81, 82, 83, 84, 85, 86, 87, 88, 89, 90, 91, 92, 93, 94, 95, 96, 97, 98, 99, 100, 101, 102, 103, 104, 105, 106, 107, 108, 109, 110, 111, 5, 112, 113, 114, 115, 116, 117, 118, 119, 120, 121, 122, 123, 124, 125, 126, 127, 128, 129, 130, 131, 132, 133, 134, 135, 136, 137, 138, 139, 140, 141, 142, 143, 144, 145, 146, 147, 148, 149, 150, 151, 152, 153, 154, 155, 156, 157, 158, 159, 160, 161, 162, 163, 164, 165, 166, 167, 168, 169, 170, 171, 172, 173, 174] (by decide +kernel) (by decide +kernel)
set_option maxRecDepth 20000 in
theorem gX10_where_X10_runTillBroken : GoodIn wsX10_where (wsV RX10 194 RX10 yX10_runTillBroken wsX10_runTillBroken) := goodIn_app (goodIn_of _ (by decide +kernel)) ggX10_where_X10_runTillBroken
set_option maxRecDepth 20000 in
theorem ggX10_where_X1_leastBroken : GoodIn wsX10_where wsX1_leastBroken := goodIn_r _ [138, 36, 139, 140, 141, 34, 142, 44, 43, 55, 56, 57, 48, 58, 50, 159, 160, 161, 162, 163, 164, 165, 166, 167, 168, 169] (by decide +kernel) (by decide +kernel)
set_option maxRecDepth 20000 in
theorem gX10_where_X1_leastBroken : GoodIn wsX10_where (wsV RX10 198 RX1 yX1_leastBroken wsX1_leastBroken) := goodIn_app (goodIn_of _ (by decide +kernel)) ggX10_where_X1_leastBroken
theorem dX10_where_0 : decode cX10_where 0 = .ok (.aload_n 0, 1) := by decide +kernel
theorem dX10_where_1 : decode cX10_where 1 = .ok (.iload_n 1, 1) := by decide +kernel
theorem dX10_where_2 : decode cX10_where 2 = .ok (.invokevirtual 135, 3) := by decide +kernel
theorem dX10_where_5 : decode cX10_where 5 = .ok (.astore 6, 2) := by decide +kernel
theorem dX10_where_7 : decode cX10_where 7 = .ok (.iload_n 2, 1) := by decide +kernel
theorem dX10_where_8 : decode cX10_where 8 = .ok (.invokestatic 139, 3) := by decide +kernel
theorem dX10_where_11 : decode cX10_where 11 = .ok (.iload_n 3, 1) := by decide +kernel
theorem dX10_where_12 : decode cX10_where 12 = .ok (.iload 4, 2) := by decide +kernel
theorem dX10_where_14 : decode cX10_where 14 = .ok (.invokestatic 125, 3) := by decide +kernel
theorem dX10_where_17 : decode cX10_where 17 = .ok (.aload_n 0, 1) := by decide +kernel
theorem dX10_where_18 : decode cX10_where 18 = .ok (.aload 6, 2) := by decide +kernel
theorem dX10_where_20 : decode cX10_where 20 = .ok (.iload_n 2, 1) := by decide +kernel
theorem dX10_where_21 : decode cX10_where 21 = .ok (.iload_n 3, 1) := by decide +kernel
theorem dX10_where_22 : decode cX10_where 22 = .ok (.iload 4, 2) := by decide +kernel
theorem dX10_where_24 : decode cX10_where 24 = .ok (.iload 5, 2) := by decide +kernel
theorem dX10_where_26 : decode cX10_where 26 = .ok (.invokevirtual 194, 3) := by decide +kernel
theorem dX10_where_29 : decode cX10_where 29 = .ok (.pop, 1) := by decide +kernel
theorem dX10_where_30 : decode cX10_where 30 = .ok (.aload_n 0, 1) := by decide +kernel
theorem dX10_where_31 : decode cX10_where 31 = .ok (.getfield 49, 3) := by decide +kernel
theorem dX10_where_34 : decode cX10_where 34 = .ok (.iload 5, 2) := by decide +kernel
theorem dX10_where_36 : decode cX10_where 36 = .ok (.invokevirtual 198, 3) := by decide +kernel
theorem dX10_where_39 : decode cX10_where 39 = .ok (.ireturn, 1) := by decide +kernel
set_option maxRecDepth 20000 in
theorem ggX10_slip_X10_lawNumbered : GoodIn wsX10_slip wsX10_lawNumbered := goodIn_ca (goodIn_r _ [8, 9, 10, 11, 12, 143, 144, 145, 146, 147, 148, 149, 150, 151, 152, 153] (by decide +kernel) (by decide +kernel)) (goodIn_sub (fun _ h => List.mem_cons_of_mem _ (List.mem_append_left _ (List.mem_append_right _ h))) (by decide +kernel))
set_option maxRecDepth 20000 in
theorem gX10_slip_X10_lawNumbered : GoodIn wsX10_slip (wsV RX10 135 RX10 yX10_lawNumbered wsX10_lawNumbered) := goodIn_app (goodIn_of _ (by decide +kernel)) ggX10_slip_X10_lawNumbered
set_option maxRecDepth 20000 in
theorem ggX10_slip_X10_demandWind : GoodIn wsX10_slip wsX10_demandWind := goodIn_ca (goodIn_r _ [15, 16, 17, 7, 18, 19, 20, 21, 22, 23] (by decide +kernel) (by decide +kernel)) (goodIn_sub (fun _ h => List.mem_cons_of_mem _ (List.mem_append_right _ h)) (by decide +kernel))
set_option maxRecDepth 20000 in
theorem gX10_slip_X10_demandWind : GoodIn wsX10_slip (va_wsS RX10 139 yX10_demandWind wsX10_demandWind) := goodIn_app (goodIn_of _ (by decide +kernel)) ggX10_slip_X10_demandWind
set_option maxRecDepth 20000 in
theorem ggX10_slip_X10_demandShape : GoodIn wsX10_slip wsX10_demandShape := goodIn_ca (goodIn_r _ [26, 16, 17, 7, 18, 19, 20, 21, 22, 23] (by decide +kernel) (by decide +kernel)) (goodIn_sub (fun _ h => List.mem_cons_of_mem _ (List.mem_append_right _ h)) (by decide +kernel))
set_option maxRecDepth 20000 in
theorem gX10_slip_X10_demandShape : GoodIn wsX10_slip (va_wsS RX10 125 yX10_demandShape wsX10_demandShape) := goodIn_app (goodIn_of _ (by decide +kernel)) ggX10_slip_X10_demandShape
set_option maxRecDepth 20000 in
theorem ggX10_slip_X1_copy : GoodIn wsX10_slip wsX1_copy := goodIn_r _ [31, 32, 33, 34, 35, 36, 37, 38, 39, 40, 41, 42, 43, 44, 45, 46, 159, 160, 161, 162, 163, 164, 165, 166, 167, 168, 169] (by decide +kernel) (by decide +kernel)
set_option maxRecDepth 20000 in
theorem gX10_slip_X1_copy : GoodIn wsX10_slip (wsV RX10 182 RX1 yX1_copy wsX1_copy) := goodIn_app (goodIn_of _ (by decide +kernel)) ggX10_slip_X1_copy
set_option maxRecDepth 20000 in
theorem ggX10_slip_X10_trialGrows : GoodIn wsX10_slip wsX10_trialGrows := goodIn_r _ [50, 1, 51, 52, 53, 54, 55, 56, 57, 30, 58, 32, 39, 40, 33, 59, 60, 61, 44, 62, 46, 63, 64, 65, 66, 67, 68, 69, 70, 71, 72, 73, 74, 35, 36, 75, 76, 77, 78, 79, 37, 38, 80, 81, 82, 83, 34, 84, 85, 86, 87, 88, 89, 90, 91, 92, 93, 94, 95, 96, 97, 98, 99, 100, 101, 102, 103, 104, 105, 106, 107, 108, 109, 110, 111, 112, 7, 113, 114, 115, 116, 117, 118, 119, 120, 121, 122, 123, 124, 125, 126, 127, 128, 129, 130, 131, 132, 133, 134, 135, 136, 137, 138, 143, 144, 145, 146, 147, 148, 149, 150, 151, 152, 153, 159, 160, 161, 162, 163, 164, 165, 166, 167, 168, 169, 170, 171, 172, 173, 174] (by decide +kernel) (by decide +kernel)
set_option maxRecDepth 20000 in
theorem gX10_slip_X10_trialGrows : GoodIn wsX10_slip (wsV RX10 186 RX10 yX10_trialGrows wsX10_trialGrows) := goodIn_app (goodIn_of _ (by decide +kernel)) ggX10_slip_X10_trialGrows
set_option maxRecDepth 20000 in
theorem ggX10_slip_X1_dropStays : GoodIn wsX10_slip wsX1_dropStays := goodIn_r _ [142, 39, 67, 68, 69, 44, 70, 46, 159, 160, 161, 162, 163, 164, 165, 166, 167, 168, 169] (by decide +kernel) (by decide +kernel)
set_option maxRecDepth 20000 in
theorem gX10_slip_X1_dropStays : GoodIn wsX10_slip (wsV RX10 202 RX1 yX1_dropStays wsX1_dropStays) := goodIn_app (goodIn_of _ (by decide +kernel)) ggX10_slip_X1_dropStays
theorem dX10_slip_0 : decode cX10_slip 0 = .ok (.aload_n 0, 1) := by decide +kernel
theorem dX10_slip_1 : decode cX10_slip 1 = .ok (.iload_n 1, 1) := by decide +kernel
theorem dX10_slip_2 : decode cX10_slip 2 = .ok (.invokevirtual 135, 3) := by decide +kernel
theorem dX10_slip_5 : decode cX10_slip 5 = .ok (.astore 4, 2) := by decide +kernel
theorem dX10_slip_7 : decode cX10_slip 7 = .ok (.iload_n 2, 1) := by decide +kernel
theorem dX10_slip_8 : decode cX10_slip 8 = .ok (.invokestatic 139, 3) := by decide +kernel
theorem dX10_slip_11 : decode cX10_slip 11 = .ok (.iconst 1, 1) := by decide +kernel
theorem dX10_slip_12 : decode cX10_slip 12 = .ok (.iload_n 3, 1) := by decide +kernel
theorem dX10_slip_13 : decode cX10_slip 13 = .ok (.invokestatic 125, 3) := by decide +kernel
theorem dX10_slip_16 : decode cX10_slip 16 = .ok (.aload_n 0, 1) := by decide +kernel
theorem dX10_slip_17 : decode cX10_slip 17 = .ok (.getfield 49, 3) := by decide +kernel
theorem dX10_slip_20 : decode cX10_slip 20 = .ok (.aload_n 0, 1) := by decide +kernel
theorem dX10_slip_21 : decode cX10_slip 21 = .ok (.getfield 38, 3) := by decide +kernel
theorem dX10_slip_24 : decode cX10_slip 24 = .ok (.getfield 93, 3) := by decide +kernel
theorem dX10_slip_27 : decode cX10_slip 27 = .ok (.invokevirtual 182, 3) := by decide +kernel
theorem dX10_slip_30 : decode cX10_slip 30 = .ok (.aload_n 0, 1) := by decide +kernel
theorem dX10_slip_31 : decode cX10_slip 31 = .ok (.aload 4, 2) := by decide +kernel
theorem dX10_slip_33 : decode cX10_slip 33 = .ok (.iload_n 2, 1) := by decide +kernel
theorem dX10_slip_34 : decode cX10_slip 34 = .ok (.iconst 1, 1) := by decide +kernel
theorem dX10_slip_35 : decode cX10_slip 35 = .ok (.iload_n 3, 1) := by decide +kernel
theorem dX10_slip_36 : decode cX10_slip 36 = .ok (.bipush 100, 2) := by decide +kernel
theorem dX10_slip_38 : decode cX10_slip 38 = .ok (.bipush 100, 2) := by decide +kernel
theorem dX10_slip_40 : decode cX10_slip 40 = .ok (.invokevirtual 186, 3) := by decide +kernel
theorem dX10_slip_43 : decode cX10_slip 43 = .ok (.istore 5, 2) := by decide +kernel
theorem dX10_slip_45 : decode cX10_slip 45 = .ok (.aload_n 0, 1) := by decide +kernel
theorem dX10_slip_46 : decode cX10_slip 46 = .ok (.getfield 49, 3) := by decide +kernel
theorem dX10_slip_49 : decode cX10_slip 49 = .ok (.invokevirtual 202, 3) := by decide +kernel
theorem dX10_slip_52 : decode cX10_slip 52 = .ok (.aload_n 0, 1) := by decide +kernel
theorem dX10_slip_53 : decode cX10_slip 53 = .ok (.aload 4, 2) := by decide +kernel
theorem dX10_slip_55 : decode cX10_slip 55 = .ok (.iload_n 2, 1) := by decide +kernel
theorem dX10_slip_56 : decode cX10_slip 56 = .ok (.iconst 1, 1) := by decide +kernel
theorem dX10_slip_57 : decode cX10_slip 57 = .ok (.iload_n 3, 1) := by decide +kernel
theorem dX10_slip_58 : decode cX10_slip 58 = .ok (.bipush 100, 2) := by decide +kernel
theorem dX10_slip_60 : decode cX10_slip 60 = .ok (.bipush 100, 2) := by decide +kernel
theorem dX10_slip_62 : decode cX10_slip 62 = .ok (.invokevirtual 186, 3) := by decide +kernel
theorem dX10_slip_65 : decode cX10_slip 65 = .ok (.istore 6, 2) := by decide +kernel
theorem dX10_slip_67 : decode cX10_slip 67 = .ok (.iload 5, 2) := by decide +kernel
theorem dX10_slip_69 : decode cX10_slip 69 = .ok (.ifCond .eq 7, 3) := by decide +kernel
theorem dX10_slip_72 : decode cX10_slip 72 = .ok (.iconst 1, 1) := by decide +kernel
theorem dX10_slip_73 : decode cX10_slip 73 = .ok (.goto 4, 3) := by decide +kernel
theorem dX10_slip_76 : decode cX10_slip 76 = .ok (.iconst 0, 1) := by decide +kernel
theorem dX10_slip_77 : decode cX10_slip 77 = .ok (.iload 6, 2) := by decide +kernel
theorem dX10_slip_79 : decode cX10_slip 79 = .ok (.ifCond .eq 7, 3) := by decide +kernel
theorem dX10_slip_82 : decode cX10_slip 82 = .ok (.iconst 2, 1) := by decide +kernel
theorem dX10_slip_83 : decode cX10_slip 83 = .ok (.goto 4, 3) := by decide +kernel
theorem dX10_slip_86 : decode cX10_slip 86 = .ok (.iconst 0, 1) := by decide +kernel
theorem dX10_slip_87 : decode cX10_slip 87 = .ok (.iadd, 1) := by decide +kernel
theorem dX10_slip_88 : decode cX10_slip 88 = .ok (.ireturn, 1) := by decide +kernel
set_option maxRecDepth 20000 in
theorem ggX10_film_X10_demandPiece : GoodIn wsX10_film wsX10_demandPiece := goodIn_ca (goodIn_r _ [9, 10, 11, 3, 12, 13, 14, 15, 8, 16, 38, 39, 40, 41, 42, 43, 44, 45, 46, 47, 48, 49, 50, 51, 52, 53, 54, 55, 56, 57, 58, 59, 60, 61, 62, 63] (by decide +kernel) (by decide +kernel)) (goodIn_sub (fun _ h => List.mem_cons_of_mem _ (List.mem_append_left _ (List.mem_append_right _ h))) (by decide +kernel))
set_option maxRecDepth 20000 in
theorem gX10_film_X10_demandPiece : GoodIn wsX10_film (wsV RX10 119 RX10 yX10_demandPiece wsX10_demandPiece) := goodIn_app (goodIn_of _ (by decide +kernel)) ggX10_film_X10_demandPiece
set_option maxRecDepth 20000 in
theorem ggX10_film_X10_within : GoodIn wsX10_film wsX10_within := goodIn_r _ [16] (by decide +kernel) (by decide +kernel)
set_option maxRecDepth 20000 in
theorem gX10_film_X10_within : GoodIn wsX10_film (va_wsS RX10 63 yX10_within wsX10_within) := goodIn_app (goodIn_of _ (by decide +kernel)) ggX10_film_X10_within
set_option maxRecDepth 20000 in
theorem ggX10_film_X10_demand : GoodIn wsX10_film wsX10_demand := goodIn_ca (goodIn_r _ [19, 20, 21] (by decide +kernel) (by decide +kernel)) (goodIn_sub (fun _ h => List.mem_cons_of_mem _ (List.mem_append_right _ h)) (by decide +kernel))
set_option maxRecDepth 20000 in
theorem gX10_film_X10_demand : GoodIn wsX10_film (va_wsS RX10 67 yX10_demand wsX10_demand) := goodIn_app (goodIn_of _ (by decide +kernel)) ggX10_film_X10_demand
set_option maxRecDepth 20000 in
theorem ggX10_film_X2_add : GoodIn wsX10_film wsX2_add := goodIn_r _ [26, 27, 28, 29, 30, 31, 32, 33, 34, 35, 36, 37, 64, 65, 66, 67, 68, 69] (by decide +kernel) (by decide +kernel)
set_option maxRecDepth 20000 in
theorem gX10_film_X2_add : GoodIn wsX10_film (wsV RX10 211 RX2 yX2_add wsX2_add) := goodIn_app (goodIn_of _ (by decide +kernel)) ggX10_film_X2_add
theorem dX10_film_0 : decode cX10_film 0 = .ok (.aload_n 0, 1) := by decide +kernel
theorem dX10_film_1 : decode cX10_film 1 = .ok (.iload_n 2, 1) := by decide +kernel
theorem dX10_film_2 : decode cX10_film 2 = .ok (.invokevirtual 119, 3) := by decide +kernel
theorem dX10_film_5 : decode cX10_film 5 = .ok (.iload_n 1, 1) := by decide +kernel
theorem dX10_film_6 : decode cX10_film 6 = .ok (.iconst 1, 1) := by decide +kernel
theorem dX10_film_7 : decode cX10_film 7 = .ok (.bipush 100, 2) := by decide +kernel
theorem dX10_film_9 : decode cX10_film 9 = .ok (.invokestatic 63, 3) := by decide +kernel
theorem dX10_film_12 : decode cX10_film 12 = .ok (.invokestatic 67, 3) := by decide +kernel
theorem dX10_film_15 : decode cX10_film 15 = .ok (.iload_n 3, 1) := by decide +kernel
theorem dX10_film_16 : decode cX10_film 16 = .ok (.ldc 205, 2) := by decide +kernel
theorem dX10_film_18 : decode cX10_film 18 = .ok (.ldc 206, 2) := by decide +kernel
theorem dX10_film_20 : decode cX10_film 20 = .ok (.invokestatic 63, 3) := by decide +kernel
theorem dX10_film_23 : decode cX10_film 23 = .ok (.ifCond .eq 19, 3) := by decide +kernel
theorem dX10_film_26 : decode cX10_film 26 = .ok (.iload 4, 2) := by decide +kernel
theorem dX10_film_28 : decode cX10_film 28 = .ok (.ldc 205, 2) := by decide +kernel
theorem dX10_film_30 : decode cX10_film 30 = .ok (.ldc 206, 2) := by decide +kernel
theorem dX10_film_32 : decode cX10_film 32 = .ok (.invokestatic 63, 3) := by decide +kernel
theorem dX10_film_35 : decode cX10_film 35 = .ok (.ifCond .eq 7, 3) := by decide +kernel
theorem dX10_film_38 : decode cX10_film 38 = .ok (.iconst 1, 1) := by decide +kernel
theorem dX10_film_39 : decode cX10_film 39 = .ok (.goto 4, 3) := by decide +kernel
theorem dX10_film_42 : decode cX10_film 42 = .ok (.iconst 0, 1) := by decide +kernel
theorem dX10_film_43 : decode cX10_film 43 = .ok (.invokestatic 67, 3) := by decide +kernel
theorem dX10_film_46 : decode cX10_film 46 = .ok (.aload_n 0, 1) := by decide +kernel
theorem dX10_film_47 : decode cX10_film 47 = .ok (.getfield 38, 3) := by decide +kernel
theorem dX10_film_50 : decode cX10_film 50 = .ok (.getfield 207, 3) := by decide +kernel
theorem dX10_film_53 : decode cX10_film 53 = .ok (.iload_n 1, 1) := by decide +kernel
theorem dX10_film_54 : decode cX10_film 54 = .ok (.iload_n 2, 1) := by decide +kernel
theorem dX10_film_55 : decode cX10_film 55 = .ok (.iload_n 3, 1) := by decide +kernel
theorem dX10_film_56 : decode cX10_film 56 = .ok (.iload 4, 2) := by decide +kernel
theorem dX10_film_58 : decode cX10_film 58 = .ok (.invokevirtual 211, 3) := by decide +kernel
theorem dX10_film_61 : decode cX10_film 61 = .ok (.ireturn, 1) := by decide +kernel
set_option maxRecDepth 20000 in
theorem ggX10_barred_X10_lawNumbered : GoodIn wsX10_barred wsX10_lawNumbered := goodIn_ca (goodIn_r _ [10, 11, 12, 13, 14, 148, 149, 150, 151, 152, 153, 154, 155, 156, 157, 158] (by decide +kernel) (by decide +kernel)) (goodIn_sub (fun _ h => List.mem_cons_of_mem _ (List.mem_append_left _ (List.mem_append_right _ h))) (by decide +kernel))
set_option maxRecDepth 20000 in
theorem gX10_barred_X10_lawNumbered : GoodIn wsX10_barred (wsV RX10 135 RX10 yX10_lawNumbered wsX10_lawNumbered) := goodIn_app (goodIn_of _ (by decide +kernel)) ggX10_barred_X10_lawNumbered
set_option maxRecDepth 20000 in
theorem ggX10_barred_X10_demandWind : GoodIn wsX10_barred wsX10_demandWind := goodIn_ca (goodIn_r _ [17, 18, 19, 9, 20, 21, 22, 23, 24, 25] (by decide +kernel) (by decide +kernel)) (goodIn_sub (fun _ h => List.mem_cons_of_mem _ (List.mem_append_right _ h)) (by decide +kernel))
set_option maxRecDepth 20000 in
theorem gX10_barred_X10_demandWind : GoodIn wsX10_barred (va_wsS RX10 139 yX10_demandWind wsX10_demandWind) := goodIn_app (goodIn_of _ (by decide +kernel)) ggX10_barred_X10_demandWind
set_option maxRecDepth 20000 in
theorem ggX10_barred_X10_demandShape : GoodIn wsX10_barred wsX10_demandShape := goodIn_ca (goodIn_r _ [28, 18, 19, 9, 20, 21, 22, 23, 24, 25] (by decide +kernel) (by decide +kernel)) (goodIn_sub (fun _ h => List.mem_cons_of_mem _ (List.mem_append_right _ h)) (by decide +kernel))
set_option maxRecDepth 20000 in
theorem gX10_barred_X10_demandShape : GoodIn wsX10_barred (va_wsS RX10 125 yX10_demandShape wsX10_demandShape) := goodIn_app (goodIn_of _ (by decide +kernel)) ggX10_barred_X10_demandShape
set_option maxRecDepth 20000 in
theorem ggX10_barred_X10_within : GoodIn wsX10_barred wsX10_within := goodIn_r _ [20] (by decide +kernel) (by decide +kernel)
set_option maxRecDepth 20000 in
theorem gX10_barred_X10_within : GoodIn wsX10_barred (va_wsS RX10 63 yX10_within wsX10_within) := goodIn_app (goodIn_of _ (by decide +kernel)) ggX10_barred_X10_within
set_option maxRecDepth 20000 in
theorem ggX10_barred_X10_demand : GoodIn wsX10_barred wsX10_demand := goodIn_ca (goodIn_r _ [23, 24, 25] (by decide +kernel) (by decide +kernel)) (goodIn_sub (fun _ h => List.mem_cons_of_mem _ (List.mem_append_right _ h)) (by decide +kernel))
set_option maxRecDepth 20000 in
theorem gX10_barred_X10_demand : GoodIn wsX10_barred (va_wsS RX10 67 yX10_demand wsX10_demand) := goodIn_app (goodIn_of _ (by decide +kernel)) ggX10_barred_X10_demand
set_option maxRecDepth 20000 in
theorem ggX10_barred_X1_copy : GoodIn wsX10_barred wsX1_copy := goodIn_r _ [33, 34, 35, 36, 37, 38, 39, 40, 41, 42, 43, 44, 45, 46, 47, 48, 164, 165, 166, 167, 168, 169, 170, 171, 172, 173, 174] (by decide +kernel) (by decide +kernel)
set_option maxRecDepth 20000 in
theorem gX10_barred_X1_copy : GoodIn wsX10_barred (wsV RX10 182 RX1 yX1_copy wsX1_copy) := goodIn_app (goodIn_of _ (by decide +kernel)) ggX10_barred_X1_copy
set_option maxRecDepth 20000 in
theorem ggX10_barred_X1_begin : GoodIn wsX10_barred wsX1_begin := goodIn_r _ [52, 34, 41, 42, 35, 53, 54, 55, 46, 56, 48, 57, 58, 59, 60, 61, 62, 63, 64, 65, 66, 67, 32, 68, 37, 38, 69, 70, 71, 72, 73, 74, 75, 76, 39, 40, 164, 165, 166, 167, 168, 169, 170, 171, 172, 173, 174] (by decide +kernel) (by decide +kernel)
set_option maxRecDepth 20000 in
theorem gX10_barred_X1_begin : GoodIn wsX10_barred (wsV RX10 217 RX1 yX1_begin wsX1_begin) := goodIn_app (goodIn_of _ (by decide +kernel)) ggX10_barred_X1_begin
set_option maxRecDepth 20000 in
theorem ggX10_barred_X1_tick : GoodIn wsX10_barred wsX1_tick := goodIn_r _ [80, 34, 41, 36, 37, 38, 39, 81, 40, 82, 35, 83, 84, 85, 32, 86, 87, 57, 58, 59, 46, 60, 48, 53, 54, 55, 56, 88, 89, 90, 91, 92, 93, 94, 95, 96, 97, 98, 99, 100, 101, 102, 103, 104, 105, 106, 71, 107, 108, 70, 72, 109, 9, 110, 111, 112, 113, 114, 115, 116, 42, 117, 118, 119, 120, 69, 121, 122, 123, 124, 125, 126, 127, 128, 129, 130, 131, 132, 164, 165, 166, 167, 168, 169, 170, 171, 172, 173, 175, 176, 177, 178, 179, 174] (by decide +kernel) (by decide +kernel)
set_option maxRecDepth 20000 in
theorem gX10_barred_X1_tick : GoodIn wsX10_barred (wsV RX10 142 RX1 yX1_tick wsX1_tick) := goodIn_app (goodIn_of _ (by decide +kernel)) ggX10_barred_X1_tick
set_option maxRecDepth 20000 in
theorem ggX10_barred_X2_firstRowOff : GoodIn wsX10_barred wsX2_firstRowOff := goodIn_r _ [137, 138, 139, 140, 141, 142, 143, 144, 131, 71, 132, 145, 146, 147, 54, 55, 46, 56, 48, 180, 181, 182, 183, 184, 164, 165, 166, 167, 168, 169, 170, 171, 172, 173, 174] (by decide +kernel) (by decide +kernel)
set_option maxRecDepth 20000 in
theorem gX10_barred_X2_firstRowOff : GoodIn wsX10_barred (wsV RX10 220 RX2 yX2_firstRowOff wsX2_firstRowOff) := goodIn_app (goodIn_of _ (by decide +kernel)) ggX10_barred_X2_firstRowOff
theorem dX10_barred_0 : decode cX10_barred 0 = .ok (.aload_n 0, 1) := by decide +kernel
theorem dX10_barred_1 : decode cX10_barred 1 = .ok (.iload_n 1, 1) := by decide +kernel
theorem dX10_barred_2 : decode cX10_barred 2 = .ok (.invokevirtual 135, 3) := by decide +kernel
theorem dX10_barred_5 : decode cX10_barred 5 = .ok (.astore 7, 2) := by decide +kernel
theorem dX10_barred_7 : decode cX10_barred 7 = .ok (.iload_n 2, 1) := by decide +kernel
theorem dX10_barred_8 : decode cX10_barred 8 = .ok (.invokestatic 139, 3) := by decide +kernel
theorem dX10_barred_11 : decode cX10_barred 11 = .ok (.iload_n 3, 1) := by decide +kernel
theorem dX10_barred_12 : decode cX10_barred 12 = .ok (.iload 4, 2) := by decide +kernel
theorem dX10_barred_14 : decode cX10_barred 14 = .ok (.invokestatic 125, 3) := by decide +kernel
theorem dX10_barred_17 : decode cX10_barred 17 = .ok (.iload 5, 2) := by decide +kernel
theorem dX10_barred_19 : decode cX10_barred 19 = .ok (.iconst 1, 1) := by decide +kernel
theorem dX10_barred_20 : decode cX10_barred 20 = .ok (.sipush 9999, 3) := by decide +kernel
theorem dX10_barred_23 : decode cX10_barred 23 = .ok (.invokestatic 63, 3) := by decide +kernel
theorem dX10_barred_26 : decode cX10_barred 26 = .ok (.ifCond .eq 18, 3) := by decide +kernel
theorem dX10_barred_29 : decode cX10_barred 29 = .ok (.iload 6, 2) := by decide +kernel
theorem dX10_barred_31 : decode cX10_barred 31 = .ok (.iconst 0, 1) := by decide +kernel
theorem dX10_barred_32 : decode cX10_barred 32 = .ok (.ldc 206, 2) := by decide +kernel
theorem dX10_barred_34 : decode cX10_barred 34 = .ok (.invokestatic 63, 3) := by decide +kernel
theorem dX10_barred_37 : decode cX10_barred 37 = .ok (.ifCond .eq 7, 3) := by decide +kernel
theorem dX10_barred_40 : decode cX10_barred 40 = .ok (.iconst 1, 1) := by decide +kernel
theorem dX10_barred_41 : decode cX10_barred 41 = .ok (.goto 4, 3) := by decide +kernel
theorem dX10_barred_44 : decode cX10_barred 44 = .ok (.iconst 0, 1) := by decide +kernel
theorem dX10_barred_45 : decode cX10_barred 45 = .ok (.invokestatic 67, 3) := by decide +kernel
theorem dX10_barred_48 : decode cX10_barred 48 = .ok (.aload_n 0, 1) := by decide +kernel
theorem dX10_barred_49 : decode cX10_barred 49 = .ok (.getfield 49, 3) := by decide +kernel
theorem dX10_barred_52 : decode cX10_barred 52 = .ok (.aload_n 0, 1) := by decide +kernel
theorem dX10_barred_53 : decode cX10_barred 53 = .ok (.getfield 38, 3) := by decide +kernel
theorem dX10_barred_56 : decode cX10_barred 56 = .ok (.getfield 93, 3) := by decide +kernel
theorem dX10_barred_59 : decode cX10_barred 59 = .ok (.invokevirtual 182, 3) := by decide +kernel
theorem dX10_barred_62 : decode cX10_barred 62 = .ok (.aload_n 0, 1) := by decide +kernel
theorem dX10_barred_63 : decode cX10_barred 63 = .ok (.getfield 49, 3) := by decide +kernel
theorem dX10_barred_66 : decode cX10_barred 66 = .ok (.iload_n 3, 1) := by decide +kernel
theorem dX10_barred_67 : decode cX10_barred 67 = .ok (.iload 4, 2) := by decide +kernel
theorem dX10_barred_69 : decode cX10_barred 69 = .ok (.iload 5, 2) := by decide +kernel
theorem dX10_barred_71 : decode cX10_barred 71 = .ok (.invokevirtual 217, 3) := by decide +kernel
theorem dX10_barred_74 : decode cX10_barred 74 = .ok (.iconst (-1), 1) := by decide +kernel
theorem dX10_barred_75 : decode cX10_barred 75 = .ok (.istore 8, 2) := by decide +kernel
theorem dX10_barred_77 : decode cX10_barred 77 = .ok (.iconst 1, 1) := by decide +kernel
theorem dX10_barred_78 : decode cX10_barred 78 = .ok (.istore 9, 2) := by decide +kernel
theorem dX10_barred_80 : decode cX10_barred 80 = .ok (.iload 9, 2) := by decide +kernel
theorem dX10_barred_82 : decode cX10_barred 82 = .ok (.bipush 100, 2) := by decide +kernel
theorem dX10_barred_84 : decode cX10_barred 84 = .ok (.if_icmp .gt 64, 3) := by decide +kernel
theorem dX10_barred_87 : decode cX10_barred 87 = .ok (.aload_n 0, 1) := by decide +kernel
theorem dX10_barred_88 : decode cX10_barred 88 = .ok (.getfield 49, 3) := by decide +kernel
theorem dX10_barred_91 : decode cX10_barred 91 = .ok (.aload 7, 2) := by decide +kernel
theorem dX10_barred_93 : decode cX10_barred 93 = .ok (.iload_n 2, 1) := by decide +kernel
theorem dX10_barred_94 : decode cX10_barred 94 = .ok (.bipush 100, 2) := by decide +kernel
theorem dX10_barred_96 : decode cX10_barred 96 = .ok (.invokevirtual 142, 3) := by decide +kernel
theorem dX10_barred_99 : decode cX10_barred 99 = .ok (.aload_n 0, 1) := by decide +kernel
theorem dX10_barred_100 : decode cX10_barred 100 = .ok (.getfield 38, 3) := by decide +kernel
theorem dX10_barred_103 : decode cX10_barred 103 = .ok (.getfield 207, 3) := by decide +kernel
theorem dX10_barred_106 : decode cX10_barred 106 = .ok (.iload 9, 2) := by decide +kernel
theorem dX10_barred_108 : decode cX10_barred 108 = .ok (.aload_n 0, 1) := by decide +kernel
theorem dX10_barred_109 : decode cX10_barred 109 = .ok (.getfield 49, 3) := by decide +kernel
theorem dX10_barred_112 : decode cX10_barred 112 = .ok (.iload 6, 2) := by decide +kernel
theorem dX10_barred_114 : decode cX10_barred 114 = .ok (.invokevirtual 220, 3) := by decide +kernel
theorem dX10_barred_117 : decode cX10_barred 117 = .ok (.istore 10, 2) := by decide +kernel
theorem dX10_barred_119 : decode cX10_barred 119 = .ok (.iload 10, 2) := by decide +kernel
theorem dX10_barred_121 : decode cX10_barred 121 = .ok (.iconst (-1), 1) := by decide +kernel
theorem dX10_barred_122 : decode cX10_barred 122 = .ok (.if_icmp .eq 20, 3) := by decide +kernel
theorem dX10_barred_125 : decode cX10_barred 125 = .ok (.iload 8, 2) := by decide +kernel
theorem dX10_barred_127 : decode cX10_barred 127 = .ok (.iconst (-1), 1) := by decide +kernel
theorem dX10_barred_128 : decode cX10_barred 128 = .ok (.if_icmp .eq 10, 3) := by decide +kernel
theorem dX10_barred_131 : decode cX10_barred 131 = .ok (.iload 10, 2) := by decide +kernel
theorem dX10_barred_133 : decode cX10_barred 133 = .ok (.iload 8, 2) := by decide +kernel
theorem dX10_barred_135 : decode cX10_barred 135 = .ok (.if_icmp .ge 7, 3) := by decide +kernel
theorem dX10_barred_138 : decode cX10_barred 138 = .ok (.iload 10, 2) := by decide +kernel
theorem dX10_barred_140 : decode cX10_barred 140 = .ok (.istore 8, 2) := by decide +kernel
theorem dX10_barred_142 : decode cX10_barred 142 = .ok (.iinc 9 1, 3) := by decide +kernel
theorem dX10_barred_145 : decode cX10_barred 145 = .ok (.goto (-65), 3) := by decide +kernel
theorem dX10_barred_148 : decode cX10_barred 148 = .ok (.iload 8, 2) := by decide +kernel
theorem dX10_barred_150 : decode cX10_barred 150 = .ok (.ireturn, 1) := by decide +kernel
set_option maxRecDepth 20000 in
theorem ggX10_mend_X10_within : GoodIn wsX10_mend wsX10_within := goodIn_r _ [8] (by decide +kernel) (by decide +kernel)
set_option maxRecDepth 20000 in
theorem gX10_mend_X10_within : GoodIn wsX10_mend (va_wsS RX10 63 yX10_within wsX10_within) := goodIn_app (goodIn_of _ (by decide +kernel)) ggX10_mend_X10_within
set_option maxRecDepth 20000 in
theorem ggX10_mend_X10_demand : GoodIn wsX10_mend wsX10_demand := goodIn_ca (goodIn_r _ [11, 12, 13] (by decide +kernel) (by decide +kernel)) (goodIn_sub (fun _ h => List.mem_cons_of_mem _ (List.mem_append_right _ h)) (by decide +kernel))
set_option maxRecDepth 20000 in
theorem gX10_mend_X10_demand : GoodIn wsX10_mend (va_wsS RX10 67 yX10_demand wsX10_demand) := goodIn_app (goodIn_of _ (by decide +kernel)) ggX10_mend_X10_demand
set_option maxRecDepth 20000 in
theorem ggX10_mend_X4_add : GoodIn wsX10_mend wsX4_add := goodIn_r _ [18, 19, 20, 21, 22, 23, 24, 25, 26, 27, 28, 45, 46, 47, 48, 49] (by decide +kernel) (by decide +kernel)
set_option maxRecDepth 20000 in
theorem gX10_mend_X4_add : GoodIn wsX10_mend (wsV RX10 230 RX4 yX4_add wsX4_add) := goodIn_app (goodIn_of _ (by decide +kernel)) ggX10_mend_X4_add
theorem dX10_mend_0 : decode cX10_mend 0 = .ok (.iload_n 1, 1) := by decide +kernel
theorem dX10_mend_1 : decode cX10_mend 1 = .ok (.iconst 0, 1) := by decide +kernel
theorem dX10_mend_2 : decode cX10_mend 2 = .ok (.bipush 9, 2) := by decide +kernel
theorem dX10_mend_4 : decode cX10_mend 4 = .ok (.invokestatic 63, 3) := by decide +kernel
theorem dX10_mend_7 : decode cX10_mend 7 = .ok (.invokestatic 67, 3) := by decide +kernel
theorem dX10_mend_10 : decode cX10_mend 10 = .ok (.iload_n 2, 1) := by decide +kernel
theorem dX10_mend_11 : decode cX10_mend 11 = .ok (.ldc 224, 2) := by decide +kernel
theorem dX10_mend_13 : decode cX10_mend 13 = .ok (.ldc 225, 2) := by decide +kernel
theorem dX10_mend_15 : decode cX10_mend 15 = .ok (.invokestatic 63, 3) := by decide +kernel
theorem dX10_mend_18 : decode cX10_mend 18 = .ok (.ifCond .eq 18, 3) := by decide +kernel
theorem dX10_mend_21 : decode cX10_mend 21 = .ok (.iload_n 3, 1) := by decide +kernel
theorem dX10_mend_22 : decode cX10_mend 22 = .ok (.iconst 0, 1) := by decide +kernel
theorem dX10_mend_23 : decode cX10_mend 23 = .ok (.sipush 999, 3) := by decide +kernel
theorem dX10_mend_26 : decode cX10_mend 26 = .ok (.invokestatic 63, 3) := by decide +kernel
theorem dX10_mend_29 : decode cX10_mend 29 = .ok (.ifCond .eq 7, 3) := by decide +kernel
theorem dX10_mend_32 : decode cX10_mend 32 = .ok (.iconst 1, 1) := by decide +kernel
theorem dX10_mend_33 : decode cX10_mend 33 = .ok (.goto 4, 3) := by decide +kernel
theorem dX10_mend_36 : decode cX10_mend 36 = .ok (.iconst 0, 1) := by decide +kernel
theorem dX10_mend_37 : decode cX10_mend 37 = .ok (.invokestatic 67, 3) := by decide +kernel
theorem dX10_mend_40 : decode cX10_mend 40 = .ok (.aload_n 0, 1) := by decide +kernel
theorem dX10_mend_41 : decode cX10_mend 41 = .ok (.getfield 38, 3) := by decide +kernel
theorem dX10_mend_44 : decode cX10_mend 44 = .ok (.getfield 226, 3) := by decide +kernel
theorem dX10_mend_47 : decode cX10_mend 47 = .ok (.iload_n 1, 1) := by decide +kernel
theorem dX10_mend_48 : decode cX10_mend 48 = .ok (.iload_n 2, 1) := by decide +kernel
theorem dX10_mend_49 : decode cX10_mend 49 = .ok (.iload_n 3, 1) := by decide +kernel
theorem dX10_mend_50 : decode cX10_mend 50 = .ok (.invokevirtual 230, 3) := by decide +kernel
theorem dX10_mend_53 : decode cX10_mend 53 = .ok (.ireturn, 1) := by decide +kernel
set_option maxRecDepth 20000 in
theorem ggX10_calm_X10_lawNumbered : GoodIn wsX10_calm wsX10_lawNumbered := goodIn_ca (goodIn_r _ [8, 9, 10, 11, 12, 140, 141, 142, 143, 144, 145, 146, 147, 148, 149, 150] (by decide +kernel) (by decide +kernel)) (goodIn_sub (fun _ h => List.mem_cons_of_mem _ (List.mem_append_left _ (List.mem_append_right _ h))) (by decide +kernel))
set_option maxRecDepth 20000 in
theorem gX10_calm_X10_lawNumbered : GoodIn wsX10_calm (wsV RX10 135 RX10 yX10_lawNumbered wsX10_lawNumbered) := goodIn_app (goodIn_of _ (by decide +kernel)) ggX10_calm_X10_lawNumbered
set_option maxRecDepth 20000 in
theorem ggX10_calm_X10_demandWind : GoodIn wsX10_calm wsX10_demandWind := goodIn_ca (goodIn_r _ [15, 16, 17, 7, 18, 19, 20, 21, 22, 23] (by decide +kernel) (by decide +kernel)) (goodIn_sub (fun _ h => List.mem_cons_of_mem _ (List.mem_append_right _ h)) (by decide +kernel))
set_option maxRecDepth 20000 in
theorem gX10_calm_X10_demandWind : GoodIn wsX10_calm (va_wsS RX10 139 yX10_demandWind wsX10_demandWind) := goodIn_app (goodIn_of _ (by decide +kernel)) ggX10_calm_X10_demandWind
set_option maxRecDepth 20000 in
theorem ggX10_calm_X1_copy : GoodIn wsX10_calm wsX1_copy := goodIn_r _ [28, 29, 30, 31, 32, 33, 34, 35, 36, 37, 38, 39, 40, 41, 42, 43, 156, 157, 158, 159, 160, 161, 162, 163, 164, 165, 166] (by decide +kernel) (by decide +kernel)
set_option maxRecDepth 20000 in
theorem gX10_calm_X1_copy : GoodIn wsX10_calm (wsV RX10 182 RX1 yX1_copy wsX1_copy) := goodIn_app (goodIn_of _ (by decide +kernel)) ggX10_calm_X1_copy
set_option maxRecDepth 20000 in
theorem ggX10_calm_X10_trialIsCalmUpTo : GoodIn wsX10_calm wsX10_trialIsCalmUpTo := goodIn_r _ [47, 48, 49, 50, 7, 51, 1, 52, 53, 54, 55, 56, 57, 58, 27, 59, 29, 36, 37, 30, 60, 61, 62, 41, 63, 43, 64, 65, 66, 67, 68, 69, 70, 71, 72, 73, 74, 75, 32, 33, 76, 77, 78, 79, 80, 34, 35, 81, 82, 83, 84, 31, 85, 86, 87, 88, 89, 90, 91, 92, 93, 94, 95, 96, 97, 98, 99, 100, 101, 102, 103, 104, 105, 106, 107, 108, 109, 110, 111, 112, 113, 114, 115, 116, 117, 118, 119, 120, 121, 122, 123, 124, 125, 126, 127, 128, 129, 130, 131, 132, 133, 134, 135, 136, 137, 138, 139, 140, 141, 142, 143, 144, 145, 146, 147, 148, 149, 150, 156, 157, 158, 159, 160, 161, 162, 163, 164, 165, 166, 167, 168, 169, 170, 171] (by decide +kernel) (by decide +kernel)
set_option maxRecDepth 20000 in
theorem gX10_calm_X10_trialIsCalmUpTo : GoodIn wsX10_calm (wsV RX10 235 RX10 yX10_trialIsCalmUpTo wsX10_trialIsCalmUpTo) := goodIn_app (goodIn_of _ (by decide +kernel)) ggX10_calm_X10_trialIsCalmUpTo
theorem dX10_calm_0 : decode cX10_calm 0 = .ok (.aload_n 0, 1) := by decide +kernel
theorem dX10_calm_1 : decode cX10_calm 1 = .ok (.iload_n 1, 1) := by decide +kernel
theorem dX10_calm_2 : decode cX10_calm 2 = .ok (.invokevirtual 135, 3) := by decide +kernel
theorem dX10_calm_5 : decode cX10_calm 5 = .ok (.astore_n 3, 1) := by decide +kernel
theorem dX10_calm_6 : decode cX10_calm 6 = .ok (.iload_n 2, 1) := by decide +kernel
theorem dX10_calm_7 : decode cX10_calm 7 = .ok (.invokestatic 139, 3) := by decide +kernel
theorem dX10_calm_10 : decode cX10_calm 10 = .ok (.aload_n 0, 1) := by decide +kernel
theorem dX10_calm_11 : decode cX10_calm 11 = .ok (.getfield 49, 3) := by decide +kernel
theorem dX10_calm_14 : decode cX10_calm 14 = .ok (.aload_n 0, 1) := by decide +kernel
theorem dX10_calm_15 : decode cX10_calm 15 = .ok (.getfield 38, 3) := by decide +kernel
theorem dX10_calm_18 : decode cX10_calm 18 = .ok (.getfield 93, 3) := by decide +kernel
theorem dX10_calm_21 : decode cX10_calm 21 = .ok (.invokevirtual 182, 3) := by decide +kernel
theorem dX10_calm_24 : decode cX10_calm 24 = .ok (.aload_n 0, 1) := by decide +kernel
theorem dX10_calm_25 : decode cX10_calm 25 = .ok (.aload_n 3, 1) := by decide +kernel
theorem dX10_calm_26 : decode cX10_calm 26 = .ok (.iload_n 2, 1) := by decide +kernel
theorem dX10_calm_27 : decode cX10_calm 27 = .ok (.iload_n 2, 1) := by decide +kernel
theorem dX10_calm_28 : decode cX10_calm 28 = .ok (.invokevirtual 235, 3) := by decide +kernel
theorem dX10_calm_31 : decode cX10_calm 31 = .ok (.iload_n 2, 1) := by decide +kernel
theorem dX10_calm_32 : decode cX10_calm 32 = .ok (.if_icmp .ne 7, 3) := by decide +kernel
theorem dX10_calm_35 : decode cX10_calm 35 = .ok (.iconst 1, 1) := by decide +kernel
theorem dX10_calm_36 : decode cX10_calm 36 = .ok (.goto 4, 3) := by decide +kernel
theorem dX10_calm_39 : decode cX10_calm 39 = .ok (.iconst 0, 1) := by decide +kernel
theorem dX10_calm_40 : decode cX10_calm 40 = .ok (.ireturn, 1) := by decide +kernel
set_option maxRecDepth 20000 in
theorem ggX10_mended_X10_lawNumbered : GoodIn wsX10_mended wsX10_lawNumbered := goodIn_ca (goodIn_r _ [10, 11, 12, 13, 14, 170, 171, 172, 173, 174, 175, 176, 177, 178, 179, 180] (by decide +kernel) (by decide +kernel)) (goodIn_sub (fun _ h => List.mem_cons_of_mem _ (List.mem_append_left _ (List.mem_append_right _ h))) (by decide +kernel))

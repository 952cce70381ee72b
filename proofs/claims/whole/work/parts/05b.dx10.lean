theorem dX10_shape_5 : decode cX10_shape 5 = .ok (.iload_n 3, 1) := by decide +kernel
theorem dX10_shape_6 : decode cX10_shape 6 = .ok (.iconst 1, 1) := by decide +kernel
theorem dX10_shape_7 : decode cX10_shape 7 = .ok (.sipush 9999, 3) := by decide +kernel
theorem dX10_shape_10 : decode cX10_shape 10 = .ok (.invokestatic 63, 3) := by decide +kernel
theorem dX10_shape_13 : decode cX10_shape 13 = .ok (.invokestatic 67, 3) := by decide +kernel
theorem dX10_shape_16 : decode cX10_shape 16 = .ok (.aload_n 0, 1) := by decide +kernel
theorem dX10_shape_17 : decode cX10_shape 17 = .ok (.getfield 38, 3) := by decide +kernel
theorem dX10_shape_20 : decode cX10_shape 20 = .ok (.getfield 93, 3) := by decide +kernel
theorem dX10_shape_23 : decode cX10_shape 23 = .ok (.iload_n 1, 1) := by decide +kernel
theorem dX10_shape_24 : decode cX10_shape 24 = .ok (.iload_n 2, 1) := by decide +kernel
theorem dX10_shape_25 : decode cX10_shape 25 = .ok (.iload_n 3, 1) := by decide +kernel
theorem dX10_shape_26 : decode cX10_shape 26 = .ok (.invokevirtual 128, 3) := by decide +kernel
theorem dX10_shape_29 : decode cX10_shape 29 = .ok (.aload_n 0, 1) := by decide +kernel
theorem dX10_shape_30 : decode cX10_shape 30 = .ok (.getfield 38, 3) := by decide +kernel
theorem dX10_shape_33 : decode cX10_shape 33 = .ok (.getfield 93, 3) := by decide +kernel
theorem dX10_shape_36 : decode cX10_shape 36 = .ok (.iload_n 1, 1) := by decide +kernel
theorem dX10_shape_37 : decode cX10_shape 37 = .ok (.invokevirtual 132, 3) := by decide +kernel
theorem dX10_shape_40 : decode cX10_shape 40 = .ok (.ireturn, 1) := by decide +kernel
set_option maxRecDepth 20000 in
theorem ggX10_go_X10_lawNumbered : GoodIn wsX10_go wsX10_lawNumbered := goodIn_ca (goodIn_r _ [7, 8, 9, 10, 11, 107, 108, 109, 110, 111, 112, 113, 114, 115, 116, 117] (by decide +kernel) (by decide +kernel)) (goodIn_sub (fun _ h => List.mem_cons_of_mem _ (List.mem_append_left _ (List.mem_append_right _ h))) (by decide +kernel))
set_option maxRecDepth 20000 in
theorem gX10_go_X10_lawNumbered : GoodIn wsX10_go (wsV RX10 135 RX10 yX10_lawNumbered wsX10_lawNumbered) := goodIn_app (goodIn_of _ (by decide +kernel)) ggX10_go_X10_lawNumbered
set_option maxRecDepth 20000 in
theorem ggX10_go_X10_demandWind : GoodIn wsX10_go wsX10_demandWind := goodIn_ca (goodIn_r _ [14, 15, 16, 6, 17, 18, 19, 20, 21, 22] (by decide +kernel) (by decide +kernel)) (goodIn_sub (fun _ h => List.mem_cons_of_mem _ (List.mem_append_right _ h)) (by decide +kernel))
set_option maxRecDepth 20000 in
theorem gX10_go_X10_demandWind : GoodIn wsX10_go (va_wsS RX10 139 yX10_demandWind wsX10_demandWind) := goodIn_app (goodIn_of _ (by decide +kernel)) ggX10_go_X10_demandWind
set_option maxRecDepth 20000 in
theorem ggX10_go_X10_within : GoodIn wsX10_go wsX10_within := goodIn_r _ [17] (by decide +kernel) (by decide +kernel)
set_option maxRecDepth 20000 in
theorem gX10_go_X10_within : GoodIn wsX10_go (va_wsS RX10 63 yX10_within wsX10_within) := goodIn_app (goodIn_of _ (by decide +kernel)) ggX10_go_X10_within
set_option maxRecDepth 20000 in
theorem ggX10_go_X10_demand : GoodIn wsX10_go wsX10_demand := goodIn_ca (goodIn_r _ [20, 21, 22] (by decide +kernel) (by decide +kernel)) (goodIn_sub (fun _ h => List.mem_cons_of_mem _ (List.mem_append_right _ h)) (by decide +kernel))
set_option maxRecDepth 20000 in
theorem gX10_go_X10_demand : GoodIn wsX10_go (va_wsS RX10 67 yX10_demand wsX10_demand) := goodIn_app (goodIn_of _ (by decide +kernel)) ggX10_go_X10_demand
set_option maxRecDepth 20000 in
theorem ggX10_go_X1_tick : GoodIn wsX10_go wsX1_tick := goodIn_r _ [27, 28, 29, 30, 31, 32, 33, 34, 35, 36, 37, 38, 39, 40, 26, 41, 42, 43, 44, 45, 46, 47, 48, 49, 50, 51, 52, 53, 54, 55, 56, 57, 58, 59, 60, 61, 62, 63, 64, 65, 66, 67, 68, 69, 70, 71, 72, 73, 74, 75, 76, 77, 6, 78, 79, 80, 81, 82, 83, 84, 85, 86, 87, 88, 89, 90, 91, 92, 93, 94, 95, 96, 97, 98, 99, 100, 101, 102, 123, 124, 125, 126, 127, 128, 129, 130, 131, 132, 133, 134, 135, 136, 137, 138] (by decide +kernel) (by decide +kernel)
set_option maxRecDepth 20000 in
theorem gX10_go_X1_tick : GoodIn wsX10_go (wsV RX10 142 RX1 yX1_tick wsX1_tick) := goodIn_app (goodIn_of _ (by decide +kernel)) ggX10_go_X1_tick
set_option maxRecDepth 20000 in
theorem ggX10_go_X1_size : GoodIn wsX10_go wsX1_size := goodIn_r _ [106, 31, 32, 28, 100, 101, 72, 102, 90, 75, 76, 49, 50, 51, 46, 52, 48, 123, 124, 125, 126, 127, 128, 129, 130, 131, 132, 138] (by decide +kernel) (by decide +kernel)
set_option maxRecDepth 20000 in
theorem gX10_go_X1_size : GoodIn wsX10_go (wsV RX10 132 RX1 yX1_size wsX1_size) := goodIn_app (goodIn_of _ (by decide +kernel)) ggX10_go_X1_size
theorem dX10_go_0 : decode cX10_go 0 = .ok (.aload_n 0, 1) := by decide +kernel
theorem dX10_go_1 : decode cX10_go 1 = .ok (.iload_n 1, 1) := by decide +kernel
theorem dX10_go_2 : decode cX10_go 2 = .ok (.invokevirtual 135, 3) := by decide +kernel
theorem dX10_go_5 : decode cX10_go 5 = .ok (.astore 4, 2) := by decide +kernel
theorem dX10_go_7 : decode cX10_go 7 = .ok (.iload_n 2, 1) := by decide +kernel
theorem dX10_go_8 : decode cX10_go 8 = .ok (.invokestatic 139, 3) := by decide +kernel
theorem dX10_go_11 : decode cX10_go 11 = .ok (.iload_n 3, 1) := by decide +kernel
theorem dX10_go_12 : decode cX10_go 12 = .ok (.iconst 0, 1) := by decide +kernel
theorem dX10_go_13 : decode cX10_go 13 = .ok (.bipush 100, 2) := by decide +kernel
theorem dX10_go_15 : decode cX10_go 15 = .ok (.invokestatic 63, 3) := by decide +kernel
theorem dX10_go_18 : decode cX10_go 18 = .ok (.invokestatic 67, 3) := by decide +kernel
theorem dX10_go_21 : decode cX10_go 21 = .ok (.iconst 0, 1) := by decide +kernel
theorem dX10_go_22 : decode cX10_go 22 = .ok (.istore 5, 2) := by decide +kernel
theorem dX10_go_24 : decode cX10_go 24 = .ok (.iload 5, 2) := by decide +kernel
theorem dX10_go_26 : decode cX10_go 26 = .ok (.iload_n 3, 1) := by decide +kernel
theorem dX10_go_27 : decode cX10_go 27 = .ok (.if_icmp .ge 24, 3) := by decide +kernel
theorem dX10_go_30 : decode cX10_go 30 = .ok (.aload_n 0, 1) := by decide +kernel
theorem dX10_go_31 : decode cX10_go 31 = .ok (.getfield 38, 3) := by decide +kernel
theorem dX10_go_34 : decode cX10_go 34 = .ok (.getfield 93, 3) := by decide +kernel
theorem dX10_go_37 : decode cX10_go 37 = .ok (.aload 4, 2) := by decide +kernel
theorem dX10_go_39 : decode cX10_go 39 = .ok (.iload_n 2, 1) := by decide +kernel
theorem dX10_go_40 : decode cX10_go 40 = .ok (.bipush 100, 2) := by decide +kernel
theorem dX10_go_42 : decode cX10_go 42 = .ok (.invokevirtual 142, 3) := by decide +kernel
theorem dX10_go_45 : decode cX10_go 45 = .ok (.iinc 5 1, 3) := by decide +kernel
theorem dX10_go_48 : decode cX10_go 48 = .ok (.goto (-24), 3) := by decide +kernel
theorem dX10_go_51 : decode cX10_go 51 = .ok (.aload_n 0, 1) := by decide +kernel
theorem dX10_go_52 : decode cX10_go 52 = .ok (.getfield 38, 3) := by decide +kernel
theorem dX10_go_55 : decode cX10_go 55 = .ok (.getfield 93, 3) := by decide +kernel
theorem dX10_go_58 : decode cX10_go 58 = .ok (.iconst 1, 1) := by decide +kernel
theorem dX10_go_59 : decode cX10_go 59 = .ok (.invokevirtual 132, 3) := by decide +kernel
theorem dX10_go_62 : decode cX10_go 62 = .ok (.ireturn, 1) := by decide +kernel
set_option maxRecDepth 20000 in
theorem ggX10_piece_X10_demandPiece : GoodIn wsX10_piece wsX10_demandPiece := goodIn_ca (goodIn_r _ [15, 16, 17, 3, 4, 18, 19, 20, 14, 21, 28, 29, 30, 31, 32, 33, 34, 35, 36, 37, 38, 39, 40, 41, 42, 43, 44, 45, 46, 47, 48, 49, 50, 51, 52, 53] (by decide +kernel) (by decide +kernel)) (goodIn_sub (fun _ h => List.mem_cons_of_mem _ (List.mem_append_right _ h)) (by decide +kernel))
set_option maxRecDepth 20000 in
theorem gX10_piece_X10_demandPiece : GoodIn wsX10_piece (wsV RX10 119 RX10 yX10_demandPiece wsX10_demandPiece) := goodIn_app (goodIn_of _ (by decide +kernel)) ggX10_piece_X10_demandPiece
set_option maxRecDepth 20000 in
theorem ggX10_piece_X8_at : GoodIn wsX10_piece wsX8_at := goodIn_r _ [26, 27, 54] (by decide +kernel) (by decide +kernel)
set_option maxRecDepth 20000 in
theorem gX10_piece_X8_at : GoodIn wsX10_piece (wsV RX10 112 RX8 yX8_at wsX8_at) := goodIn_app (goodIn_of _ (by decide +kernel)) ggX10_piece_X8_at
theorem dX10_piece_0 : decode cX10_piece 0 = .ok (.aload_n 0, 1) := by decide +kernel
theorem dX10_piece_1 : decode cX10_piece 1 = .ok (.iload_n 1, 1) := by decide +kernel
theorem dX10_piece_2 : decode cX10_piece 2 = .ok (.invokevirtual 119, 3) := by decide +kernel
theorem dX10_piece_5 : decode cX10_piece 5 = .ok (.iload_n 2, 1) := by decide +kernel
theorem dX10_piece_6 : decode cX10_piece 6 = .ok (.tableswitch 128 0 5 #[38, 53, 68, 83, 98, 113], 38) := by decide +kernel
theorem dX10_piece_44 : decode cX10_piece 44 = .ok (.aload_n 0, 1) := by decide +kernel
theorem dX10_piece_45 : decode cX10_piece 45 = .ok (.getfield 38, 3) := by decide +kernel
theorem dX10_piece_48 : decode cX10_piece 48 = .ok (.getfield 93, 3) := by decide +kernel
theorem dX10_piece_51 : decode cX10_piece 51 = .ok (.getfield 146, 3) := by decide +kernel
theorem dX10_piece_54 : decode cX10_piece 54 = .ok (.iload_n 1, 1) := by decide +kernel
theorem dX10_piece_55 : decode cX10_piece 55 = .ok (.invokevirtual 112, 3) := by decide +kernel
theorem dX10_piece_58 : decode cX10_piece 58 = .ok (.ireturn, 1) := by decide +kernel
theorem dX10_piece_59 : decode cX10_piece 59 = .ok (.aload_n 0, 1) := by decide +kernel
theorem dX10_piece_60 : decode cX10_piece 60 = .ok (.getfield 38, 3) := by decide +kernel
theorem dX10_piece_63 : decode cX10_piece 63 = .ok (.getfield 93, 3) := by decide +kernel
theorem dX10_piece_66 : decode cX10_piece 66 = .ok (.getfield 149, 3) := by decide +kernel
theorem dX10_piece_69 : decode cX10_piece 69 = .ok (.iload_n 1, 1) := by decide +kernel
theorem dX10_piece_70 : decode cX10_piece 70 = .ok (.invokevirtual 112, 3) := by decide +kernel
theorem dX10_piece_73 : decode cX10_piece 73 = .ok (.ireturn, 1) := by decide +kernel
theorem dX10_piece_74 : decode cX10_piece 74 = .ok (.aload_n 0, 1) := by decide +kernel
theorem dX10_piece_75 : decode cX10_piece 75 = .ok (.getfield 38, 3) := by decide +kernel
theorem dX10_piece_78 : decode cX10_piece 78 = .ok (.getfield 93, 3) := by decide +kernel
theorem dX10_piece_81 : decode cX10_piece 81 = .ok (.getfield 152, 3) := by decide +kernel
theorem dX10_piece_84 : decode cX10_piece 84 = .ok (.iload_n 1, 1) := by decide +kernel
theorem dX10_piece_85 : decode cX10_piece 85 = .ok (.invokevirtual 112, 3) := by decide +kernel
theorem dX10_piece_88 : decode cX10_piece 88 = .ok (.ireturn, 1) := by decide +kernel
theorem dX10_piece_89 : decode cX10_piece 89 = .ok (.aload_n 0, 1) := by decide +kernel
theorem dX10_piece_90 : decode cX10_piece 90 = .ok (.getfield 38, 3) := by decide +kernel
theorem dX10_piece_93 : decode cX10_piece 93 = .ok (.getfield 93, 3) := by decide +kernel
theorem dX10_piece_96 : decode cX10_piece 96 = .ok (.getfield 155, 3) := by decide +kernel
theorem dX10_piece_99 : decode cX10_piece 99 = .ok (.iload_n 1, 1) := by decide +kernel
theorem dX10_piece_100 : decode cX10_piece 100 = .ok (.invokevirtual 112, 3) := by decide +kernel
theorem dX10_piece_103 : decode cX10_piece 103 = .ok (.ireturn, 1) := by decide +kernel
theorem dX10_piece_104 : decode cX10_piece 104 = .ok (.aload_n 0, 1) := by decide +kernel
theorem dX10_piece_105 : decode cX10_piece 105 = .ok (.getfield 38, 3) := by decide +kernel
theorem dX10_piece_108 : decode cX10_piece 108 = .ok (.getfield 93, 3) := by decide +kernel
theorem dX10_piece_111 : decode cX10_piece 111 = .ok (.getfield 122, 3) := by decide +kernel
theorem dX10_piece_114 : decode cX10_piece 114 = .ok (.iload_n 1, 1) := by decide +kernel
theorem dX10_piece_115 : decode cX10_piece 115 = .ok (.invokevirtual 112, 3) := by decide +kernel
theorem dX10_piece_118 : decode cX10_piece 118 = .ok (.ireturn, 1) := by decide +kernel
theorem dX10_piece_119 : decode cX10_piece 119 = .ok (.aload_n 0, 1) := by decide +kernel
theorem dX10_piece_120 : decode cX10_piece 120 = .ok (.getfield 38, 3) := by decide +kernel
theorem dX10_piece_123 : decode cX10_piece 123 = .ok (.getfield 93, 3) := by decide +kernel
theorem dX10_piece_126 : decode cX10_piece 126 = .ok (.getfield 158, 3) := by decide +kernel
theorem dX10_piece_129 : decode cX10_piece 129 = .ok (.iload_n 1, 1) := by decide +kernel
theorem dX10_piece_130 : decode cX10_piece 130 = .ok (.invokevirtual 112, 3) := by decide +kernel
theorem dX10_piece_133 : decode cX10_piece 133 = .ok (.ireturn, 1) := by decide +kernel
theorem dX10_piece_134 : decode cX10_piece 134 = .ok (.new 161, 3) := by decide +kernel
theorem dX10_piece_137 : decode cX10_piece 137 = .ok (.dup, 1) := by decide +kernel
theorem dX10_piece_138 : decode cX10_piece 138 = .ok (.ldc 163, 2) := by decide +kernel
theorem dX10_piece_140 : decode cX10_piece 140 = .ok (.invokespecial 165, 3) := by decide +kernel
theorem dX10_piece_143 : decode cX10_piece 143 = .ok (.athrow, 1) := by decide +kernel
set_option maxRecDepth 20000 in
theorem ggX10_push_X10_lawNumbered : GoodIn wsX10_push wsX10_lawNumbered := goodIn_ca (goodIn_r _ [9, 10, 11, 12, 13, 82, 83, 84, 85, 86, 87, 88, 89, 90, 91, 92] (by decide +kernel) (by decide +kernel)) (goodIn_sub (fun _ h => List.mem_cons_of_mem _ (List.mem_append_left _ (List.mem_append_left _ (List.mem_append_right _ h)))) (by decide +kernel))
set_option maxRecDepth 20000 in
theorem gX10_push_X10_lawNumbered : GoodIn wsX10_push (wsV RX10 135 RX10 yX10_lawNumbered wsX10_lawNumbered) := goodIn_app (goodIn_of _ (by decide +kernel)) ggX10_push_X10_lawNumbered
set_option maxRecDepth 20000 in
theorem ggX10_push_X10_demandPiece : GoodIn wsX10_push wsX10_demandPiece := goodIn_ca (goodIn_r _ [17, 18, 19, 1, 2, 20, 21, 22, 8, 23, 82, 83, 84, 85, 86, 87, 88, 89, 90, 91, 92, 93, 94, 95, 96, 97, 103, 104, 105, 106, 107, 108, 109, 110, 111, 112] (by decide +kernel) (by decide +kernel)) (goodIn_sub (fun _ h => List.mem_cons_of_mem _ (List.mem_append_left _ (List.mem_append_right _ h))) (by decide +kernel))
set_option maxRecDepth 20000 in
theorem gX10_push_X10_demandPiece : GoodIn wsX10_push (wsV RX10 119 RX10 yX10_demandPiece wsX10_demandPiece) := goodIn_app (goodIn_of _ (by decide +kernel)) ggX10_push_X10_demandPiece
set_option maxRecDepth 20000 in
theorem ggX10_push_X10_demandWind : GoodIn wsX10_push wsX10_demandWind := goodIn_ca (goodIn_r _ [26, 21, 22, 8, 23, 27, 28, 29, 30, 31] (by decide +kernel) (by decide +kernel)) (goodIn_sub (fun _ h => List.mem_cons_of_mem _ (List.mem_append_right _ h)) (by decide +kernel))
set_option maxRecDepth 20000 in
theorem gX10_push_X10_demandWind : GoodIn wsX10_push (va_wsS RX10 139 yX10_demandWind wsX10_demandWind) := goodIn_app (goodIn_of _ (by decide +kernel)) ggX10_push_X10_demandWind
set_option maxRecDepth 20000 in
theorem ggX10_push_X1_namesOf : GoodIn wsX10_push wsX1_namesOf := goodIn_r _ [36, 37, 38, 39, 40, 41, 42, 43, 44, 45, 46, 47, 48, 49, 50, 51, 52, 53, 103, 104, 105, 106, 107, 108, 109, 110, 111, 112, 113] (by decide +kernel) (by decide +kernel)
set_option maxRecDepth 20000 in
theorem gX10_push_X1_namesOf : GoodIn wsX10_push (wsV RX10 168 RX1 yX1_namesOf wsX1_namesOf) := goodIn_app (goodIn_of _ (by decide +kernel)) ggX10_push_X1_namesOf
set_option maxRecDepth 20000 in
theorem ggX10_push_X3_work : GoodIn wsX10_push wsX3_work := goodIn_r _ [58, 59, 60, 61, 62, 63, 64, 65, 66, 51, 52, 47, 53, 49, 67, 45, 46, 48, 68, 69, 57, 70, 71, 72, 73, 74, 75, 76, 77, 78, 8, 79, 80, 81, 98, 99, 100, 101, 102, 113] (by decide +kernel) (by decide +kernel)
set_option maxRecDepth 20000 in
theorem gX10_push_X3_work : GoodIn wsX10_push (wsV RX10 172 RX3 yX3_work wsX3_work) := goodIn_app (goodIn_of _ (by decide +kernel)) ggX10_push_X3_work
theorem dX10_push_0 : decode cX10_push 0 = .ok (.aload_n 0, 1) := by decide +kernel
theorem dX10_push_1 : decode cX10_push 1 = .ok (.iload_n 1, 1) := by decide +kernel
theorem dX10_push_2 : decode cX10_push 2 = .ok (.invokevirtual 135, 3) := by decide +kernel
theorem dX10_push_5 : decode cX10_push 5 = .ok (.astore 5, 2) := by decide +kernel
theorem dX10_push_7 : decode cX10_push 7 = .ok (.aload_n 0, 1) := by decide +kernel
theorem dX10_push_8 : decode cX10_push 8 = .ok (.iload_n 3, 1) := by decide +kernel
theorem dX10_push_9 : decode cX10_push 9 = .ok (.invokevirtual 119, 3) := by decide +kernel
theorem dX10_push_12 : decode cX10_push 12 = .ok (.iload_n 2, 1) := by decide +kernel
theorem dX10_push_13 : decode cX10_push 13 = .ok (.invokestatic 139, 3) := by decide +kernel
theorem dX10_push_16 : decode cX10_push 16 = .ok (.aload 5, 2) := by decide +kernel
theorem dX10_push_18 : decode cX10_push 18 = .ok (.aload_n 0, 1) := by decide +kernel
theorem dX10_push_19 : decode cX10_push 19 = .ok (.getfield 38, 3) := by decide +kernel
theorem dX10_push_22 : decode cX10_push 22 = .ok (.getfield 93, 3) := by decide +kernel
theorem dX10_push_25 : decode cX10_push 25 = .ok (.iload_n 3, 1) := by decide +kernel
theorem dX10_push_26 : decode cX10_push 26 = .ok (.iload_n 2, 1) := by decide +kernel
theorem dX10_push_27 : decode cX10_push 27 = .ok (.invokevirtual 168, 3) := by decide +kernel
theorem dX10_push_30 : decode cX10_push 30 = .ok (.invokevirtual 172, 3) := by decide +kernel
theorem dX10_push_33 : decode cX10_push 33 = .ok (.iload 4, 2) := by decide +kernel
theorem dX10_push_35 : decode cX10_push 35 = .ok (.ifCond .eq 11, 3) := by decide +kernel
theorem dX10_push_38 : decode cX10_push 38 = .ok (.aload 5, 2) := by decide +kernel
theorem dX10_push_40 : decode cX10_push 40 = .ok (.getfield 176, 3) := by decide +kernel
theorem dX10_push_43 : decode cX10_push 43 = .ok (.goto 8, 3) := by decide +kernel
theorem dX10_push_46 : decode cX10_push 46 = .ok (.aload 5, 2) := by decide +kernel
theorem dX10_push_48 : decode cX10_push 48 = .ok (.getfield 179, 3) := by decide +kernel
theorem dX10_push_51 : decode cX10_push 51 = .ok (.ireturn, 1) := by decide +kernel
set_option maxRecDepth 20000 in
theorem ggX10_grows_X10_lawNumbered : GoodIn wsX10_grows wsX10_lawNumbered := goodIn_ca (goodIn_r _ [8, 9, 10, 11, 12, 139, 140, 141, 142, 143, 144, 145, 146, 147, 148, 149] (by decide +kernel) (by decide +kernel)) (goodIn_sub (fun _ h => List.mem_cons_of_mem _ (List.mem_append_left _ (List.mem_append_right _ h))) (by decide +kernel))
set_option maxRecDepth 20000 in
theorem gX10_grows_X10_lawNumbered : GoodIn wsX10_grows (wsV RX10 135 RX10 yX10_lawNumbered wsX10_lawNumbered) := goodIn_app (goodIn_of _ (by decide +kernel)) ggX10_grows_X10_lawNumbered
set_option maxRecDepth 20000 in
theorem ggX10_grows_X10_demandWind : GoodIn wsX10_grows wsX10_demandWind := goodIn_ca (goodIn_r _ [15, 16, 17, 7, 18, 19, 20, 21, 22, 23] (by decide +kernel) (by decide +kernel)) (goodIn_sub (fun _ h => List.mem_cons_of_mem _ (List.mem_append_right _ h)) (by decide +kernel))
set_option maxRecDepth 20000 in
theorem gX10_grows_X10_demandWind : GoodIn wsX10_grows (va_wsS RX10 139 yX10_demandWind wsX10_demandWind) := goodIn_app (goodIn_of _ (by decide +kernel)) ggX10_grows_X10_demandWind
set_option maxRecDepth 20000 in
theorem ggX10_grows_X10_demandShape : GoodIn wsX10_grows wsX10_demandShape := goodIn_ca (goodIn_r _ [26, 16, 17, 7, 18, 19, 20, 21, 22, 23] (by decide +kernel) (by decide +kernel)) (goodIn_sub (fun _ h => List.mem_cons_of_mem _ (List.mem_append_right _ h)) (by decide +kernel))
set_option maxRecDepth 20000 in
theorem gX10_grows_X10_demandShape : GoodIn wsX10_grows (va_wsS RX10 125 yX10_demandShape wsX10_demandShape) := goodIn_app (goodIn_of _ (by decide +kernel)) ggX10_grows_X10_demandShape
set_option maxRecDepth 20000 in
theorem ggX10_grows_X1_copy : GoodIn wsX10_grows wsX1_copy := goodIn_r _ [31, 32, 33, 34, 35, 36, 37, 38, 39, 40, 41, 42, 43, 44, 45, 46, 155, 156, 157, 158, 159, 160, 161, 162, 163, 164, 165] (by decide +kernel) (by decide +kernel)
set_option maxRecDepth 20000 in
theorem gX10_grows_X1_copy : GoodIn wsX10_grows (wsV RX10 182 RX1 yX1_copy wsX1_copy) := goodIn_app (goodIn_of _ (by decide +kernel)) ggX10_grows_X1_copy
set_option maxRecDepth 20000 in
theorem ggX10_grows_X10_trialGrows : GoodIn wsX10_grows wsX10_trialGrows := goodIn_r _ [50, 1, 51, 52, 53, 54, 55, 56, 57, 30, 58, 32, 39, 40, 33, 59, 60, 61, 44, 62, 46, 63, 64, 65, 66, 67, 68, 69, 70, 71, 72, 73, 74, 35, 36, 75, 76, 77, 78, 79, 37, 38, 80, 81, 82, 83, 34, 84, 85, 86, 87, 88, 89, 90, 91, 92, 93, 94, 95, 96, 97, 98, 99, 100, 101, 102, 103, 104, 105, 106, 107, 108, 109, 110, 111, 112, 7, 113, 114, 115, 116, 117, 118, 119, 120, 121, 122, 123, 124, 125, 126, 127, 128, 129, 130, 131, 132, 133, 134, 135, 136, 137, 138, 139, 140, 141, 142, 143, 144, 145, 146, 147, 148, 149, 155, 156, 157, 158, 159, 160, 161, 162, 163, 164, 165, 166, 167, 168, 169, 170] (by decide +kernel) (by decide +kernel)
set_option maxRecDepth 20000 in
theorem gX10_grows_X10_trialGrows : GoodIn wsX10_grows (wsV RX10 186 RX10 yX10_trialGrows wsX10_trialGrows) := goodIn_app (goodIn_of _ (by decide +kernel)) ggX10_grows_X10_trialGrows
theorem dX10_grows_0 : decode cX10_grows 0 = .ok (.aload_n 0, 1) := by decide +kernel
theorem dX10_grows_1 : decode cX10_grows 1 = .ok (.iload_n 1, 1) := by decide +kernel
theorem dX10_grows_2 : decode cX10_grows 2 = .ok (.invokevirtual 135, 3) := by decide +kernel
theorem dX10_grows_5 : decode cX10_grows 5 = .ok (.astore 5, 2) := by decide +kernel
theorem dX10_grows_7 : decode cX10_grows 7 = .ok (.iload_n 2, 1) := by decide +kernel
theorem dX10_grows_8 : decode cX10_grows 8 = .ok (.invokestatic 139, 3) := by decide +kernel
theorem dX10_grows_11 : decode cX10_grows 11 = .ok (.iload_n 3, 1) := by decide +kernel
theorem dX10_grows_12 : decode cX10_grows 12 = .ok (.iload 4, 2) := by decide +kernel
theorem dX10_grows_14 : decode cX10_grows 14 = .ok (.invokestatic 125, 3) := by decide +kernel
theorem dX10_grows_17 : decode cX10_grows 17 = .ok (.aload_n 0, 1) := by decide +kernel
theorem dX10_grows_18 : decode cX10_grows 18 = .ok (.getfield 49, 3) := by decide +kernel
theorem dX10_grows_21 : decode cX10_grows 21 = .ok (.aload_n 0, 1) := by decide +kernel
theorem dX10_grows_22 : decode cX10_grows 22 = .ok (.getfield 38, 3) := by decide +kernel
theorem dX10_grows_25 : decode cX10_grows 25 = .ok (.getfield 93, 3) := by decide +kernel
theorem dX10_grows_28 : decode cX10_grows 28 = .ok (.invokevirtual 182, 3) := by decide +kernel
theorem dX10_grows_31 : decode cX10_grows 31 = .ok (.aload_n 0, 1) := by decide +kernel
theorem dX10_grows_32 : decode cX10_grows 32 = .ok (.aload 5, 2) := by decide +kernel
theorem dX10_grows_34 : decode cX10_grows 34 = .ok (.iload_n 2, 1) := by decide +kernel
theorem dX10_grows_35 : decode cX10_grows 35 = .ok (.iload_n 3, 1) := by decide +kernel
theorem dX10_grows_36 : decode cX10_grows 36 = .ok (.iload 4, 2) := by decide +kernel
theorem dX10_grows_38 : decode cX10_grows 38 = .ok (.bipush 100, 2) := by decide +kernel
theorem dX10_grows_40 : decode cX10_grows 40 = .ok (.bipush 100, 2) := by decide +kernel
theorem dX10_grows_42 : decode cX10_grows 42 = .ok (.invokevirtual 186, 3) := by decide +kernel
theorem dX10_grows_45 : decode cX10_grows 45 = .ok (.ireturn, 1) := by decide +kernel
set_option maxRecDepth 20000 in
theorem ggX10_line_X10_lawNumbered : GoodIn wsX10_line wsX10_lawNumbered := goodIn_ca (goodIn_r _ [8, 9, 10, 11, 12, 140, 141, 142, 143, 144, 145, 146, 147, 148, 149, 150] (by decide +kernel) (by decide +kernel)) (goodIn_sub (fun _ h => List.mem_cons_of_mem _ (List.mem_append_left _ (List.mem_append_right _ h))) (by decide +kernel))
set_option maxRecDepth 20000 in
theorem gX10_line_X10_lawNumbered : GoodIn wsX10_line (wsV RX10 135 RX10 yX10_lawNumbered wsX10_lawNumbered) := goodIn_app (goodIn_of _ (by decide +kernel)) ggX10_line_X10_lawNumbered
set_option maxRecDepth 20000 in
theorem ggX10_line_X10_demandShape : GoodIn wsX10_line wsX10_demandShape := goodIn_ca (goodIn_r _ [15, 16, 17, 7, 18, 19, 20, 21, 22, 23] (by decide +kernel) (by decide +kernel)) (goodIn_sub (fun _ h => List.mem_cons_of_mem _ (List.mem_append_right _ h)) (by decide +kernel))
set_option maxRecDepth 20000 in
theorem gX10_line_X10_demandShape : GoodIn wsX10_line (va_wsS RX10 125 yX10_demandShape wsX10_demandShape) := goodIn_app (goodIn_of _ (by decide +kernel)) ggX10_line_X10_demandShape
set_option maxRecDepth 20000 in
theorem ggX10_line_X1_copy : GoodIn wsX10_line wsX1_copy := goodIn_r _ [28, 29, 30, 31, 32, 33, 34, 35, 36, 37, 38, 39, 40, 41, 42, 43, 156, 157, 158, 159, 160, 161, 162, 163, 164, 165, 166] (by decide +kernel) (by decide +kernel)
set_option maxRecDepth 20000 in
theorem gX10_line_X1_copy : GoodIn wsX10_line (wsV RX10 182 RX1 yX1_copy wsX1_copy) := goodIn_app (goodIn_of _ (by decide +kernel)) ggX10_line_X1_copy
set_option maxRecDepth 20000 in
theorem ggX10_line_X10_lineBy : GoodIn wsX10_line wsX10_lineBy := goodIn_r _ [47, 48, 49, 50, 7, 51, 1, 52, 53, 54, 55, 56, 57, 58, 27, 59, 29, 36, 37, 30, 60, 61, 62, 41, 63, 43, 64, 65, 66, 67, 68, 69, 70, 71, 72, 73, 74, 75, 32, 33, 76, 77, 78, 79, 80, 34, 35, 81, 82, 83, 84, 31, 85, 86, 87, 88, 89, 90, 91, 92, 93, 94, 95, 96, 97, 98, 99, 100, 101, 102, 103, 104, 105, 106, 107, 108, 109, 110, 111, 112, 113, 114, 115, 116, 117, 118, 119, 120, 121, 122, 123, 124, 125, 126, 127, 128, 129, 130, 131, 132, 133, 134, 135, 136, 137, 138, 139, 140, 141, 142, 143, 144, 145, 146, 147, 148, 149, 150, 156, 157, 158, 159, 160, 161, 162, 163, 164, 165, 166, 167, 168, 169, 170, 171] (by decide +kernel) (by decide +kernel)
set_option maxRecDepth 20000 in
theorem gX10_line_X10_lineBy : GoodIn wsX10_line (wsV RX10 190 RX10 yX10_lineBy wsX10_lineBy) := goodIn_app (goodIn_of _ (by decide +kernel)) ggX10_line_X10_lineBy
theorem dX10_line_0 : decode cX10_line 0 = .ok (.aload_n 0, 1) := by decide +kernel
theorem dX10_line_1 : decode cX10_line 1 = .ok (.iload_n 1, 1) := by decide +kernel
theorem dX10_line_2 : decode cX10_line 2 = .ok (.invokevirtual 135, 3) := by decide +kernel
theorem dX10_line_5 : decode cX10_line 5 = .ok (.astore 4, 2) := by decide +kernel
theorem dX10_line_7 : decode cX10_line 7 = .ok (.iload_n 2, 1) := by decide +kernel
theorem dX10_line_8 : decode cX10_line 8 = .ok (.iload_n 3, 1) := by decide +kernel
theorem dX10_line_9 : decode cX10_line 9 = .ok (.invokestatic 125, 3) := by decide +kernel
theorem dX10_line_12 : decode cX10_line 12 = .ok (.aload_n 0, 1) := by decide +kernel
theorem dX10_line_13 : decode cX10_line 13 = .ok (.getfield 49, 3) := by decide +kernel
theorem dX10_line_16 : decode cX10_line 16 = .ok (.aload_n 0, 1) := by decide +kernel
theorem dX10_line_17 : decode cX10_line 17 = .ok (.getfield 38, 3) := by decide +kernel
theorem dX10_line_20 : decode cX10_line 20 = .ok (.getfield 93, 3) := by decide +kernel
theorem dX10_line_23 : decode cX10_line 23 = .ok (.invokevirtual 182, 3) := by decide +kernel
theorem dX10_line_26 : decode cX10_line 26 = .ok (.aload_n 0, 1) := by decide +kernel
theorem dX10_line_27 : decode cX10_line 27 = .ok (.aload 4, 2) := by decide +kernel
theorem dX10_line_29 : decode cX10_line 29 = .ok (.iload_n 2, 1) := by decide +kernel
theorem dX10_line_30 : decode cX10_line 30 = .ok (.iload_n 3, 1) := by decide +kernel
theorem dX10_line_31 : decode cX10_line 31 = .ok (.bipush 100, 2) := by decide +kernel
theorem dX10_line_33 : decode cX10_line 33 = .ok (.invokevirtual 190, 3) := by decide +kernel
theorem dX10_line_36 : decode cX10_line 36 = .ok (.ireturn, 1) := by decide +kernel
set_option maxRecDepth 20000 in
theorem ggX10_why_X10_lawNumbered : GoodIn wsX10_why wsX10_lawNumbered := goodIn_ca (goodIn_r _ [8, 9, 10, 11, 12, 139, 140, 141, 142, 143, 144, 145, 146, 147, 148, 149] (by decide +kernel) (by decide +kernel)) (goodIn_sub (fun _ h => List.mem_cons_of_mem _ (List.mem_append_left _ (List.mem_append_right _ h))) (by decide +kernel))
set_option maxRecDepth 20000 in
theorem gX10_why_X10_lawNumbered : GoodIn wsX10_why (wsV RX10 135 RX10 yX10_lawNumbered wsX10_lawNumbered) := goodIn_app (goodIn_of _ (by decide +kernel)) ggX10_why_X10_lawNumbered
set_option maxRecDepth 20000 in
theorem ggX10_why_X10_demandWind : GoodIn wsX10_why wsX10_demandWind := goodIn_ca (goodIn_r _ [15, 16, 17, 7, 18, 19, 20, 21, 22, 23] (by decide +kernel) (by decide +kernel)) (goodIn_sub (fun _ h => List.mem_cons_of_mem _ (List.mem_append_right _ h)) (by decide +kernel))
set_option maxRecDepth 20000 in
theorem gX10_why_X10_demandWind : GoodIn wsX10_why (va_wsS RX10 139 yX10_demandWind wsX10_demandWind) := goodIn_app (goodIn_of _ (by decide +kernel)) ggX10_why_X10_demandWind
set_option maxRecDepth 20000 in
theorem ggX10_why_X10_demandShape : GoodIn wsX10_why wsX10_demandShape := goodIn_ca (goodIn_r _ [26, 16, 17, 7, 18, 19, 20, 21, 22, 23] (by decide +kernel) (by decide +kernel)) (goodIn_sub (fun _ h => List.mem_cons_of_mem _ (List.mem_append_right _ h)) (by decide +kernel))
set_option maxRecDepth 20000 in
theorem gX10_why_X10_demandShape : GoodIn wsX10_why (va_wsS RX10 125 yX10_demandShape wsX10_demandShape) := goodIn_app (goodIn_of _ (by decide +kernel)) ggX10_why_X10_demandShape
set_option maxRecDepth 20000 in
theorem ggX10_why_X1_copy : GoodIn wsX10_why wsX1_copy := goodIn_r _ [31, 32, 33, 34, 35, 36, 37, 38, 39, 40, 41, 42, 43, 44, 45, 46, 155, 156, 157, 158, 159, 160, 161, 162, 163, 164, 165] (by decide +kernel) (by decide +kernel)
set_option maxRecDepth 20000 in
theorem gX10_why_X1_copy : GoodIn wsX10_why (wsV RX10 182 RX1 yX1_copy wsX1_copy) := goodIn_app (goodIn_of _ (by decide +kernel)) ggX10_why_X1_copy
set_option maxRecDepth 20000 in
theorem ggX10_why_X10_trialGrows : GoodIn wsX10_why wsX10_trialGrows := goodIn_r _ [50, 1, 51, 52, 53, 54, 55, 56, 57, 30, 58, 32, 39, 40, 33, 59, 60, 61, 44, 62, 46, 63, 64, 65, 66, 67, 68, 69, 70, 71, 72, 73, 74, 35, 36, 75, 76, 77, 78, 79, 37, 38, 80, 81, 82, 83, 34, 84, 85, 86, 87, 88, 89, 90, 91, 92, 93, 94, 95, 96, 97, 98, 99, 100, 101, 102, 103, 104, 105, 106, 107, 108, 109, 110, 111, 112, 7, 113, 114, 115, 116, 117, 118, 119, 120, 121, 122, 123, 124, 125, 126, 127, 128, 129, 130, 131, 132, 133, 134, 135, 136, 137, 138, 139, 140, 141, 142, 143, 144, 145, 146, 147, 148, 149, 155, 156, 157, 158, 159, 160, 161, 162, 163, 164, 165, 166, 167, 168, 169, 170] (by decide +kernel) (by decide +kernel)
set_option maxRecDepth 20000 in
theorem gX10_why_X10_trialGrows : GoodIn wsX10_why (wsV RX10 186 RX10 yX10_trialGrows wsX10_trialGrows) := goodIn_app (goodIn_of _ (by decide +kernel)) ggX10_why_X10_trialGrows
theorem dX10_why_0 : decode cX10_why 0 = .ok (.aload_n 0, 1) := by decide +kernel
theorem dX10_why_1 : decode cX10_why 1 = .ok (.iload_n 1, 1) := by decide +kernel
theorem dX10_why_2 : decode cX10_why 2 = .ok (.invokevirtual 135, 3) := by decide +kernel
theorem dX10_why_5 : decode cX10_why 5 = .ok (.astore 5, 2) := by decide +kernel
theorem dX10_why_7 : decode cX10_why 7 = .ok (.iload_n 2, 1) := by decide +kernel
theorem dX10_why_8 : decode cX10_why 8 = .ok (.invokestatic 139, 3) := by decide +kernel
theorem dX10_why_11 : decode cX10_why 11 = .ok (.iload_n 3, 1) := by decide +kernel
theorem dX10_why_12 : decode cX10_why 12 = .ok (.iload 4, 2) := by decide +kernel
theorem dX10_why_14 : decode cX10_why 14 = .ok (.invokestatic 125, 3) := by decide +kernel
theorem dX10_why_17 : decode cX10_why 17 = .ok (.aload_n 0, 1) := by decide +kernel
theorem dX10_why_18 : decode cX10_why 18 = .ok (.getfield 49, 3) := by decide +kernel
theorem dX10_why_21 : decode cX10_why 21 = .ok (.aload_n 0, 1) := by decide +kernel
theorem dX10_why_22 : decode cX10_why 22 = .ok (.getfield 38, 3) := by decide +kernel
theorem dX10_why_25 : decode cX10_why 25 = .ok (.getfield 93, 3) := by decide +kernel
theorem dX10_why_28 : decode cX10_why 28 = .ok (.invokevirtual 182, 3) := by decide +kernel
theorem dX10_why_31 : decode cX10_why 31 = .ok (.aload_n 0, 1) := by decide +kernel
theorem dX10_why_32 : decode cX10_why 32 = .ok (.aload 5, 2) := by decide +kernel
theorem dX10_why_34 : decode cX10_why 34 = .ok (.iload_n 2, 1) := by decide +kernel
theorem dX10_why_35 : decode cX10_why 35 = .ok (.iload_n 3, 1) := by decide +kernel
theorem dX10_why_36 : decode cX10_why 36 = .ok (.iload 4, 2) := by decide +kernel
theorem dX10_why_38 : decode cX10_why 38 = .ok (.bipush 100, 2) := by decide +kernel
theorem dX10_why_40 : decode cX10_why 40 = .ok (.bipush 100, 2) := by decide +kernel
theorem dX10_why_42 : decode cX10_why 42 = .ok (.invokevirtual 186, 3) := by decide +kernel
theorem dX10_why_45 : decode cX10_why 45 = .ok (.ifCond .eq 25, 3) := by decide +kernel
theorem dX10_why_48 : decode cX10_why 48 = .ok (.aload_n 0, 1) := by decide +kernel
theorem dX10_why_49 : decode cX10_why 49 = .ok (.aload 5, 2) := by decide +kernel
theorem dX10_why_51 : decode cX10_why 51 = .ok (.iload_n 2, 1) := by decide +kernel
theorem dX10_why_52 : decode cX10_why 52 = .ok (.iload_n 3, 1) := by decide +kernel
theorem dX10_why_53 : decode cX10_why 53 = .ok (.iload 4, 2) := by decide +kernel
theorem dX10_why_55 : decode cX10_why 55 = .ok (.sipush 200, 3) := by decide +kernel
theorem dX10_why_58 : decode cX10_why 58 = .ok (.bipush 100, 2) := by decide +kernel
theorem dX10_why_60 : decode cX10_why 60 = .ok (.invokevirtual 186, 3) := by decide +kernel
theorem dX10_why_63 : decode cX10_why 63 = .ok (.ifCond .eq 7, 3) := by decide +kernel
theorem dX10_why_66 : decode cX10_why 66 = .ok (.iconst 1, 1) := by decide +kernel
theorem dX10_why_67 : decode cX10_why 67 = .ok (.goto 4, 3) := by decide +kernel
theorem dX10_why_70 : decode cX10_why 70 = .ok (.iconst 0, 1) := by decide +kernel
theorem dX10_why_71 : decode cX10_why 71 = .ok (.istore 6, 2) := by decide +kernel
theorem dX10_why_73 : decode cX10_why 73 = .ok (.aload_n 0, 1) := by decide +kernel
theorem dX10_why_74 : decode cX10_why 74 = .ok (.aload 5, 2) := by decide +kernel
theorem dX10_why_76 : decode cX10_why 76 = .ok (.iload_n 2, 1) := by decide +kernel
theorem dX10_why_77 : decode cX10_why 77 = .ok (.iload_n 3, 1) := by decide +kernel
theorem dX10_why_78 : decode cX10_why 78 = .ok (.iload 4, 2) := by decide +kernel
theorem dX10_why_80 : decode cX10_why 80 = .ok (.iconst 1, 1) := by decide +kernel
theorem dX10_why_81 : decode cX10_why 81 = .ok (.bipush 100, 2) := by decide +kernel
theorem dX10_why_83 : decode cX10_why 83 = .ok (.invokevirtual 186, 3) := by decide +kernel
theorem dX10_why_86 : decode cX10_why 86 = .ok (.ifCond .eq 25, 3) := by decide +kernel
theorem dX10_why_89 : decode cX10_why 89 = .ok (.aload_n 0, 1) := by decide +kernel
theorem dX10_why_90 : decode cX10_why 90 = .ok (.aload 5, 2) := by decide +kernel
theorem dX10_why_92 : decode cX10_why 92 = .ok (.iload_n 2, 1) := by decide +kernel
theorem dX10_why_93 : decode cX10_why 93 = .ok (.iload_n 3, 1) := by decide +kernel
theorem dX10_why_94 : decode cX10_why 94 = .ok (.iload 4, 2) := by decide +kernel
theorem dX10_why_96 : decode cX10_why 96 = .ok (.sipush 1000, 3) := by decide +kernel
theorem dX10_why_99 : decode cX10_why 99 = .ok (.bipush 100, 2) := by decide +kernel
theorem dX10_why_101 : decode cX10_why 101 = .ok (.invokevirtual 186, 3) := by decide +kernel
theorem dX10_why_104 : decode cX10_why 104 = .ok (.ifCond .ne 7, 3) := by decide +kernel
theorem dX10_why_107 : decode cX10_why 107 = .ok (.iconst 1, 1) := by decide +kernel
theorem dX10_why_108 : decode cX10_why 108 = .ok (.goto 4, 3) := by decide +kernel
theorem dX10_why_111 : decode cX10_why 111 = .ok (.iconst 0, 1) := by decide +kernel
theorem dX10_why_112 : decode cX10_why 112 = .ok (.istore 7, 2) := by decide +kernel
theorem dX10_why_114 : decode cX10_why 114 = .ok (.iload 6, 2) := by decide +kernel
theorem dX10_why_116 : decode cX10_why 116 = .ok (.ifCond .eq 7, 3) := by decide +kernel
theorem dX10_why_119 : decode cX10_why 119 = .ok (.iconst 1, 1) := by decide +kernel
theorem dX10_why_120 : decode cX10_why 120 = .ok (.goto 4, 3) := by decide +kernel
theorem dX10_why_123 : decode cX10_why 123 = .ok (.iconst 0, 1) := by decide +kernel
theorem dX10_why_124 : decode cX10_why 124 = .ok (.iload 7, 2) := by decide +kernel
theorem dX10_why_126 : decode cX10_why 126 = .ok (.ifCond .eq 7, 3) := by decide +kernel
theorem dX10_why_129 : decode cX10_why 129 = .ok (.iconst 2, 1) := by decide +kernel
theorem dX10_why_130 : decode cX10_why 130 = .ok (.goto 4, 3) := by decide +kernel
theorem dX10_why_133 : decode cX10_why 133 = .ok (.iconst 0, 1) := by decide +kernel
theorem dX10_why_134 : decode cX10_why 134 = .ok (.iadd, 1) := by decide +kernel
theorem dX10_why_135 : decode cX10_why 135 = .ok (.ireturn, 1) := by decide +kernel
set_option maxRecDepth 20000 in
theorem ggX10_first_X10_lawNumbered : GoodIn wsX10_first wsX10_lawNumbered := goodIn_ca (goodIn_r _ [5, 6, 7, 8, 9, 143, 144, 145, 146, 147, 148, 149, 150, 151, 152, 153] (by decide +kernel) (by decide +kernel)) (goodIn_sub (fun _ h => List.mem_cons_of_mem _ (List.mem_append_left _ (List.mem_append_right _ h))) (by decide +kernel))
set_option maxRecDepth 20000 in
theorem gX10_first_X10_lawNumbered : GoodIn wsX10_first (wsV RX10 135 RX10 yX10_lawNumbered wsX10_lawNumbered) := goodIn_app (goodIn_of _ (by decide +kernel)) ggX10_first_X10_lawNumbered
set_option maxRecDepth 20000 in
theorem ggX10_first_X10_demandWind : GoodIn wsX10_first wsX10_demandWind := goodIn_ca (goodIn_r _ [12, 13, 14, 4, 15, 16, 17, 18, 19, 20] (by decide +kernel) (by decide +kernel)) (goodIn_sub (fun _ h => List.mem_cons_of_mem _ (List.mem_append_right _ h)) (by decide +kernel))
set_option maxRecDepth 20000 in
theorem gX10_first_X10_demandWind : GoodIn wsX10_first (va_wsS RX10 139 yX10_demandWind wsX10_demandWind) := goodIn_app (goodIn_of _ (by decide +kernel)) ggX10_first_X10_demandWind
set_option maxRecDepth 20000 in
theorem ggX10_first_X10_demandShape : GoodIn wsX10_first wsX10_demandShape := goodIn_ca (goodIn_r _ [23, 13, 14, 4, 15, 16, 17, 18, 19, 20] (by decide +kernel) (by decide +kernel)) (goodIn_sub (fun _ h => List.mem_cons_of_mem _ (List.mem_append_right _ h)) (by decide +kernel))
set_option maxRecDepth 20000 in
theorem gX10_first_X10_demandShape : GoodIn wsX10_first (va_wsS RX10 125 yX10_demandShape wsX10_demandShape) := goodIn_app (goodIn_of _ (by decide +kernel)) ggX10_first_X10_demandShape
set_option maxRecDepth 20000 in
theorem ggX10_first_X10_runTillBroken : GoodIn wsX10_first wsX10_runTillBroken := goodIn_r _ [27, 28, 29, 30, 31, 32, 33, 34, 35, 36, 37, 38, 39, 40, 41, 42, 43, 44, 45, 46, 47, 48, 49, 50, 51, 52, 53, 54, 55, 56, 57, 58, 59, 60, 61, 62, 63, 64, 65, 66, 67, 68, 69, 70, 71, 72, 73, 74, 75, 76, 77, 78, 79, 80, 81, 82, 83, 84, 85, 86, 87, 88, 89, 90, 91, 92, 93, 94, 95, 96, 97, 98, 99, 100, 101, 102, 103, 104, 105, 106, 107, 108, 109, 110, 111, 4, 112, 113, 114, 115, 116, 117, 118, 119, 120, 121, 122, 123, 124, 125, 126, 127, 128, 129, 130, 131, 132, 133, 134, 135, 136, 137, 138, 139, 140, 141, 142, 143, 144, 145, 146, 147, 148, 149, 150, 151, 152, 153, 154, 155, 156, 157, 158, 159, 160, 161, 162, 163, 164, 165, 166, 167, 168, 169, 170, 171, 172, 173, 174] (by decide +kernel) (by decide +kernel)
set_option maxRecDepth 20000 in
theorem gX10_first_X10_runTillBroken : GoodIn wsX10_first (wsV RX10 194 RX10 yX10_runTillBroken wsX10_runTillBroken) := goodIn_app (goodIn_of _ (by decide +kernel)) ggX10_first_X10_runTillBroken

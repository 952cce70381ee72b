theorem dL_week_17 : decode cL_week 17 = .ok (.astore 4, 2) := by decide +kernel
theorem dL_week_19 : decode cL_week 19 = .ok (.iconst 2, 1) := by decide +kernel
theorem dL_week_20 : decode cL_week 20 = .ok (.ireturn, 1) := by decide +kernel
theorem dL_week_21 : decode cL_week 21 = .ok (.iconst 0, 1) := by decide +kernel
theorem dL_week_22 : decode cL_week 22 = .ok (.ireturn, 1) := by decide +kernel
set_option maxRecDepth 20000 in
theorem ggL_span_X10_span : GoodIn wsL_span wsX10_span := goodIn_ca (goodIn_ca (goodIn_r _ [7, 8, 9, 10, 11, 12, 13, 14, 15, 16, 17, 6, 18, 19, 20, 21, 22, 23, 24, 25, 26, 27, 28, 29, 30, 31, 32, 33, 34, 35, 36, 37, 38, 39, 40, 41, 42, 43, 44, 45, 46, 47, 48, 49, 50, 51, 52, 53, 54, 55, 56, 57, 58, 59, 60, 61, 62, 63, 64, 65, 66, 67, 68, 69, 70, 71, 72, 73, 74, 75, 76, 77, 78, 79, 80, 81, 82, 83, 84, 85, 86, 87, 88, 89, 90, 91, 92, 93, 94, 95, 96, 97, 98, 99, 100, 101, 102, 103, 104, 105, 106, 107, 108, 109, 110, 111, 112, 113, 114, 115, 116, 117, 118, 119, 120, 121, 122, 123, 124, 125, 126, 127, 128, 129, 130, 131, 132, 133, 134, 135, 136, 137, 138, 139, 140, 141, 142, 143, 144, 145, 146, 147, 148, 149, 150, 151, 152, 153, 154, 155, 156, 157, 158, 159, 160, 161, 162, 163, 164, 165, 166, 167, 168, 169, 170, 171, 172, 173, 174, 175, 176, 177, 178, 179, 180] (by decide +kernel) (by decide +kernel)) (goodIn_sub (fun _ h => List.mem_cons_of_mem _ (List.mem_append_left _ (List.mem_append_right _ h))) (by decide +kernel))) (goodIn_sub (fun _ h => List.mem_cons_of_mem _ (List.mem_append_right _ h)) (by decide +kernel))
set_option maxRecDepth 20000 in
theorem gL_span_X10_span : GoodIn wsL_span (wsV RL 85 RX10 yX10_span wsX10_span) := goodIn_app (goodIn_of _ (by decide +kernel)) ggL_span_X10_span
theorem dL_span_0 : decode cL_span 0 = .ok (.aload 6, 2) := by decide +kernel
theorem dL_span_2 : decode cL_span 2 = .ok (.iconst 0, 1) := by decide +kernel
theorem dL_span_3 : decode cL_span 3 = .ok (.aload_n 0, 1) := by decide +kernel
theorem dL_span_4 : decode cL_span 4 = .ok (.iload_n 1, 1) := by decide +kernel
theorem dL_span_5 : decode cL_span 5 = .ok (.iload_n 2, 1) := by decide +kernel
theorem dL_span_6 : decode cL_span 6 = .ok (.iload_n 3, 1) := by decide +kernel
theorem dL_span_7 : decode cL_span 7 = .ok (.iload 4, 2) := by decide +kernel
theorem dL_span_9 : decode cL_span 9 = .ok (.iload 5, 2) := by decide +kernel
theorem dL_span_11 : decode cL_span 11 = .ok (.invokevirtual 85, 3) := by decide +kernel
theorem dL_span_14 : decode cL_span 14 = .ok (.i2l, 1) := by decide +kernel
theorem dL_span_15 : decode cL_span 15 = .ok (.lastore, 1) := by decide +kernel
theorem dL_span_16 : decode cL_span 16 = .ok (.goto 11, 3) := by decide +kernel
theorem dL_span_19 : decode cL_span 19 = .ok (.astore 7, 2) := by decide +kernel
theorem dL_span_21 : decode cL_span 21 = .ok (.iconst 1, 1) := by decide +kernel
theorem dL_span_22 : decode cL_span 22 = .ok (.ireturn, 1) := by decide +kernel
theorem dL_span_23 : decode cL_span 23 = .ok (.astore 7, 2) := by decide +kernel
theorem dL_span_25 : decode cL_span 25 = .ok (.iconst 2, 1) := by decide +kernel
theorem dL_span_26 : decode cL_span 26 = .ok (.ireturn, 1) := by decide +kernel
theorem dL_span_27 : decode cL_span 27 = .ok (.iconst 0, 1) := by decide +kernel
theorem dL_span_28 : decode cL_span 28 = .ok (.ireturn, 1) := by decide +kernel
set_option maxRecDepth 20000 in
theorem ggL_bridge_X10_bridge : GoodIn wsL_bridge wsX10_bridge := goodIn_ca (goodIn_r _ [6, 7, 8, 9, 10, 5, 11, 12, 13, 14, 15, 16, 17, 18, 19, 20, 21, 22, 23, 24, 25, 26, 27, 28, 29, 30, 31, 32, 33, 34, 35, 36, 37, 38, 39, 40, 41, 42, 43, 44, 45, 46, 47, 48, 49, 50] (by decide +kernel) (by decide +kernel)) (goodIn_sub (fun _ h => List.mem_cons_of_mem _ (List.mem_append_right _ h)) (by decide +kernel))
set_option maxRecDepth 20000 in
theorem gL_bridge_X10_bridge : GoodIn wsL_bridge (wsV RL 88 RX10 yX10_bridge wsX10_bridge) := goodIn_app (goodIn_of _ (by decide +kernel)) ggL_bridge_X10_bridge
theorem dL_bridge_0 : decode cL_bridge 0 = .ok (.aload_n 2, 1) := by decide +kernel
theorem dL_bridge_1 : decode cL_bridge 1 = .ok (.iconst 0, 1) := by decide +kernel
theorem dL_bridge_2 : decode cL_bridge 2 = .ok (.aload_n 0, 1) := by decide +kernel
theorem dL_bridge_3 : decode cL_bridge 3 = .ok (.iload_n 1, 1) := by decide +kernel
theorem dL_bridge_4 : decode cL_bridge 4 = .ok (.invokevirtual 88, 3) := by decide +kernel
theorem dL_bridge_7 : decode cL_bridge 7 = .ok (.i2l, 1) := by decide +kernel
theorem dL_bridge_8 : decode cL_bridge 8 = .ok (.lastore, 1) := by decide +kernel
theorem dL_bridge_9 : decode cL_bridge 9 = .ok (.goto 6, 3) := by decide +kernel
theorem dL_bridge_12 : decode cL_bridge 12 = .ok (.astore_n 3, 1) := by decide +kernel
theorem dL_bridge_13 : decode cL_bridge 13 = .ok (.iconst 1, 1) := by decide +kernel
theorem dL_bridge_14 : decode cL_bridge 14 = .ok (.ireturn, 1) := by decide +kernel
theorem dL_bridge_15 : decode cL_bridge 15 = .ok (.iconst 0, 1) := by decide +kernel
theorem dL_bridge_16 : decode cL_bridge 16 = .ok (.ireturn, 1) := by decide +kernel
set_option maxRecDepth 20000 in
theorem ggL_blows_X10_blows : GoodIn wsL_blows wsX10_blows := goodIn_ca (goodIn_ca (goodIn_r _ [7, 8, 9, 10, 11, 12, 6, 13, 14, 15, 16, 17, 18, 19, 20, 21, 22, 23, 24, 25, 26, 27, 28, 29, 30, 31, 32, 33, 34, 35, 36, 37, 38, 39, 40, 41, 42, 43, 44, 45, 46, 47, 48, 49, 50, 51, 52, 53, 54, 55, 56, 57, 58, 59, 60] (by decide +kernel) (by decide +kernel)) (goodIn_sub (fun _ h => List.mem_cons_of_mem _ (List.mem_append_left _ (List.mem_append_right _ h))) (by decide +kernel))) (goodIn_sub (fun _ h => List.mem_cons_of_mem _ (List.mem_append_right _ h)) (by decide +kernel))
set_option maxRecDepth 20000 in
theorem gL_blows_X10_blows : GoodIn wsL_blows (wsV RL 91 RX10 yX10_blows wsX10_blows) := goodIn_app (goodIn_of _ (by decide +kernel)) ggL_blows_X10_blows
theorem dL_blows_0 : decode cL_blows 0 = .ok (.aload 4, 2) := by decide +kernel
theorem dL_blows_2 : decode cL_blows 2 = .ok (.iconst 0, 1) := by decide +kernel
theorem dL_blows_3 : decode cL_blows 3 = .ok (.aload_n 0, 1) := by decide +kernel
theorem dL_blows_4 : decode cL_blows 4 = .ok (.iload_n 1, 1) := by decide +kernel
theorem dL_blows_5 : decode cL_blows 5 = .ok (.iload_n 2, 1) := by decide +kernel
theorem dL_blows_6 : decode cL_blows 6 = .ok (.iload_n 3, 1) := by decide +kernel
theorem dL_blows_7 : decode cL_blows 7 = .ok (.invokevirtual 91, 3) := by decide +kernel
theorem dL_blows_10 : decode cL_blows 10 = .ok (.i2l, 1) := by decide +kernel
theorem dL_blows_11 : decode cL_blows 11 = .ok (.lastore, 1) := by decide +kernel
theorem dL_blows_12 : decode cL_blows 12 = .ok (.goto 11, 3) := by decide +kernel
theorem dL_blows_15 : decode cL_blows 15 = .ok (.astore 5, 2) := by decide +kernel
theorem dL_blows_17 : decode cL_blows 17 = .ok (.iconst 1, 1) := by decide +kernel
theorem dL_blows_18 : decode cL_blows 18 = .ok (.ireturn, 1) := by decide +kernel
theorem dL_blows_19 : decode cL_blows 19 = .ok (.astore 5, 2) := by decide +kernel
theorem dL_blows_21 : decode cL_blows 21 = .ok (.iconst 2, 1) := by decide +kernel
theorem dL_blows_22 : decode cL_blows 22 = .ok (.ireturn, 1) := by decide +kernel
theorem dL_blows_23 : decode cL_blows 23 = .ok (.iconst 0, 1) := by decide +kernel
theorem dL_blows_24 : decode cL_blows 24 = .ok (.ireturn, 1) := by decide +kernel
set_option maxRecDepth 20000 in
theorem ggL_hours_X10_hours : GoodIn wsL_hours wsX10_hours := goodIn_ca (goodIn_r _ [6, 7, 8, 9, 10, 11, 5, 12, 13, 14, 15, 16, 17, 18, 19, 20, 21, 22, 23, 24, 25, 26, 27, 28, 29, 30, 31, 32, 33, 34, 35, 36, 37, 38, 39, 40, 41, 42, 43, 44, 45, 46, 47, 48, 49, 50, 51] (by decide +kernel) (by decide +kernel)) (goodIn_sub (fun _ h => List.mem_cons_of_mem _ (List.mem_append_right _ h)) (by decide +kernel))
set_option maxRecDepth 20000 in
theorem gL_hours_X10_hours : GoodIn wsL_hours (wsV RL 94 RX10 yX10_hours wsX10_hours) := goodIn_app (goodIn_of _ (by decide +kernel)) ggL_hours_X10_hours
theorem dL_hours_0 : decode cL_hours 0 = .ok (.aload_n 2, 1) := by decide +kernel
theorem dL_hours_1 : decode cL_hours 1 = .ok (.iconst 0, 1) := by decide +kernel
theorem dL_hours_2 : decode cL_hours 2 = .ok (.aload_n 0, 1) := by decide +kernel
theorem dL_hours_3 : decode cL_hours 3 = .ok (.iload_n 1, 1) := by decide +kernel
theorem dL_hours_4 : decode cL_hours 4 = .ok (.invokevirtual 94, 3) := by decide +kernel
theorem dL_hours_7 : decode cL_hours 7 = .ok (.i2l, 1) := by decide +kernel
theorem dL_hours_8 : decode cL_hours 8 = .ok (.lastore, 1) := by decide +kernel
theorem dL_hours_9 : decode cL_hours 9 = .ok (.goto 6, 3) := by decide +kernel
theorem dL_hours_12 : decode cL_hours 12 = .ok (.astore_n 3, 1) := by decide +kernel
theorem dL_hours_13 : decode cL_hours 13 = .ok (.iconst 1, 1) := by decide +kernel
theorem dL_hours_14 : decode cL_hours 14 = .ok (.ireturn, 1) := by decide +kernel
theorem dL_hours_15 : decode cL_hours 15 = .ok (.iconst 0, 1) := by decide +kernel
theorem dL_hours_16 : decode cL_hours 16 = .ok (.ireturn, 1) := by decide +kernel
set_option maxRecDepth 20000 in
theorem ggL_paper_X10_paper : GoodIn wsL_paper wsX10_paper := goodIn_ca (goodIn_r _ [6, 7, 8, 9, 10, 5, 11, 12, 13, 14, 15, 16, 17, 18, 19, 20, 21, 22, 23, 24, 25, 26, 27, 28, 29, 30, 31, 32, 33, 34, 35, 36, 37, 38, 39, 40, 41, 42, 43, 44, 45, 46, 47, 48, 49, 50, 51, 52] (by decide +kernel) (by decide +kernel)) (goodIn_sub (fun _ h => List.mem_cons_of_mem _ (List.mem_append_right _ h)) (by decide +kernel))
set_option maxRecDepth 20000 in
theorem gL_paper_X10_paper : GoodIn wsL_paper (wsV RL 97 RX10 yX10_paper wsX10_paper) := goodIn_app (goodIn_of _ (by decide +kernel)) ggL_paper_X10_paper
theorem dL_paper_0 : decode cL_paper 0 = .ok (.aload 4, 2) := by decide +kernel
theorem dL_paper_2 : decode cL_paper 2 = .ok (.iconst 0, 1) := by decide +kernel
theorem dL_paper_3 : decode cL_paper 3 = .ok (.aload_n 0, 1) := by decide +kernel
theorem dL_paper_4 : decode cL_paper 4 = .ok (.iload_n 1, 1) := by decide +kernel
theorem dL_paper_5 : decode cL_paper 5 = .ok (.iload_n 2, 1) := by decide +kernel
theorem dL_paper_6 : decode cL_paper 6 = .ok (.iload_n 3, 1) := by decide +kernel
theorem dL_paper_7 : decode cL_paper 7 = .ok (.invokevirtual 97, 3) := by decide +kernel
theorem dL_paper_10 : decode cL_paper 10 = .ok (.i2l, 1) := by decide +kernel
theorem dL_paper_11 : decode cL_paper 11 = .ok (.lastore, 1) := by decide +kernel
theorem dL_paper_12 : decode cL_paper 12 = .ok (.goto 7, 3) := by decide +kernel
theorem dL_paper_15 : decode cL_paper 15 = .ok (.astore 5, 2) := by decide +kernel
theorem dL_paper_17 : decode cL_paper 17 = .ok (.iconst 1, 1) := by decide +kernel
theorem dL_paper_18 : decode cL_paper 18 = .ok (.ireturn, 1) := by decide +kernel
theorem dL_paper_19 : decode cL_paper 19 = .ok (.iconst 0, 1) := by decide +kernel
theorem dL_paper_20 : decode cL_paper 20 = .ok (.ireturn, 1) := by decide +kernel
set_option maxRecDepth 20000 in
theorem ggL_known_X10_known : GoodIn wsL_known wsX10_known := goodIn_ca (goodIn_r _ [6, 7, 8, 9, 10, 5, 11, 12, 13, 14, 15, 16, 17, 18, 19, 20, 21, 22, 23, 24, 25, 26, 27, 28, 29, 30, 31, 32, 33, 34, 35, 36, 37, 38, 39, 40, 41, 42, 43, 44, 45, 46, 47, 48, 49, 50, 51, 52] (by decide +kernel) (by decide +kernel)) (goodIn_sub (fun _ h => List.mem_cons_of_mem _ (List.mem_append_right _ h)) (by decide +kernel))
set_option maxRecDepth 20000 in
theorem gL_known_X10_known : GoodIn wsL_known (wsV RL 100 RX10 yX10_known wsX10_known) := goodIn_app (goodIn_of _ (by decide +kernel)) ggL_known_X10_known
theorem dL_known_0 : decode cL_known 0 = .ok (.aload_n 2, 1) := by decide +kernel
theorem dL_known_1 : decode cL_known 1 = .ok (.iconst 0, 1) := by decide +kernel
theorem dL_known_2 : decode cL_known 2 = .ok (.aload_n 0, 1) := by decide +kernel
theorem dL_known_3 : decode cL_known 3 = .ok (.iload_n 1, 1) := by decide +kernel
theorem dL_known_4 : decode cL_known 4 = .ok (.invokevirtual 100, 3) := by decide +kernel
theorem dL_known_7 : decode cL_known 7 = .ok (.i2l, 1) := by decide +kernel
theorem dL_known_8 : decode cL_known 8 = .ok (.lastore, 1) := by decide +kernel
theorem dL_known_9 : decode cL_known 9 = .ok (.goto 6, 3) := by decide +kernel
theorem dL_known_12 : decode cL_known 12 = .ok (.astore_n 3, 1) := by decide +kernel
theorem dL_known_13 : decode cL_known 13 = .ok (.iconst 1, 1) := by decide +kernel
theorem dL_known_14 : decode cL_known 14 = .ok (.ireturn, 1) := by decide +kernel
theorem dL_known_15 : decode cL_known 15 = .ok (.iconst 0, 1) := by decide +kernel
theorem dL_known_16 : decode cL_known 16 = .ok (.ireturn, 1) := by decide +kernel
set_option maxRecDepth 20000 in
theorem ggL_could_X10_could : GoodIn wsL_could wsX10_could := goodIn_ca (goodIn_r _ [6, 7, 8, 9, 10, 5, 11, 12, 13, 14, 15, 16, 17, 18, 19, 20, 21, 22, 23, 24, 25, 26, 27, 28, 29, 30, 31, 32, 33, 34, 35, 36, 37, 38, 39, 40, 41, 42, 43, 44, 45, 46, 47, 48, 49, 50, 51, 52, 53, 54, 55, 56] (by decide +kernel) (by decide +kernel)) (goodIn_sub (fun _ h => List.mem_cons_of_mem _ (List.mem_append_right _ h)) (by decide +kernel))
set_option maxRecDepth 20000 in
theorem gL_could_X10_could : GoodIn wsL_could (wsV RL 103 RX10 yX10_could wsX10_could) := goodIn_app (goodIn_of _ (by decide +kernel)) ggL_could_X10_could
theorem dL_could_0 : decode cL_could 0 = .ok (.aload_n 2, 1) := by decide +kernel
theorem dL_could_1 : decode cL_could 1 = .ok (.iconst 0, 1) := by decide +kernel
theorem dL_could_2 : decode cL_could 2 = .ok (.aload_n 0, 1) := by decide +kernel
theorem dL_could_3 : decode cL_could 3 = .ok (.iload_n 1, 1) := by decide +kernel
theorem dL_could_4 : decode cL_could 4 = .ok (.invokevirtual 103, 3) := by decide +kernel
theorem dL_could_7 : decode cL_could 7 = .ok (.i2l, 1) := by decide +kernel
theorem dL_could_8 : decode cL_could 8 = .ok (.lastore, 1) := by decide +kernel
theorem dL_could_9 : decode cL_could 9 = .ok (.goto 6, 3) := by decide +kernel
theorem dL_could_12 : decode cL_could 12 = .ok (.astore_n 3, 1) := by decide +kernel
theorem dL_could_13 : decode cL_could 13 = .ok (.iconst 1, 1) := by decide +kernel
theorem dL_could_14 : decode cL_could 14 = .ok (.ireturn, 1) := by decide +kernel
theorem dL_could_15 : decode cL_could 15 = .ok (.iconst 0, 1) := by decide +kernel
theorem dL_could_16 : decode cL_could 16 = .ok (.ireturn, 1) := by decide +kernel
set_option maxRecDepth 20000 in
theorem ggL_shut_X10_shut : GoodIn wsL_shut wsX10_shut := goodIn_ca (goodIn_ca (goodIn_r _ [7, 8, 9, 10, 11, 12, 13, 14, 6, 15, 16, 17, 18, 19, 20, 21, 22, 23, 24, 25, 26, 27, 28, 29, 30, 31, 32, 33, 34, 35, 36, 37, 38, 39, 40, 41, 42, 43, 44, 45, 46, 47, 48, 49, 50, 51, 52, 53, 54, 55, 56, 57, 58, 59, 60, 61, 62, 63, 64, 65, 66, 67, 68, 69, 70, 71, 72, 73, 74, 75, 76, 77, 78, 79, 80, 81, 82, 83, 84, 85, 86, 87, 88, 89, 90, 91, 92, 93, 94, 95, 96, 97, 98, 99, 100, 101, 102, 103, 104, 105, 106, 107, 108, 109, 110, 111, 112, 113, 114, 115, 116, 117, 118, 119, 120, 121, 122, 123, 124, 125, 126, 127, 128, 129, 130, 131, 132, 133, 134, 135, 136, 137, 138, 139, 140, 141, 142, 143, 144, 145, 146, 147, 148, 149, 150, 151, 152, 153, 154, 155, 156, 157, 158, 159, 160, 161, 162, 163, 164, 165, 166, 167, 168, 169, 170, 171, 172, 173] (by decide +kernel) (by decide +kernel)) (goodIn_sub (fun _ h => List.mem_cons_of_mem _ (List.mem_append_left _ (List.mem_append_right _ h))) (by decide +kernel))) (goodIn_sub (fun _ h => List.mem_cons_of_mem _ (List.mem_append_right _ h)) (by decide +kernel))
set_option maxRecDepth 20000 in
theorem gL_shut_X10_shut : GoodIn wsL_shut (wsV RL 106 RX10 yX10_shut wsX10_shut) := goodIn_app (goodIn_of _ (by decide +kernel)) ggL_shut_X10_shut
theorem dL_shut_0 : decode cL_shut 0 = .ok (.aload 7, 2) := by decide +kernel
theorem dL_shut_2 : decode cL_shut 2 = .ok (.iconst 0, 1) := by decide +kernel
theorem dL_shut_3 : decode cL_shut 3 = .ok (.aload_n 0, 1) := by decide +kernel
theorem dL_shut_4 : decode cL_shut 4 = .ok (.iload_n 1, 1) := by decide +kernel
theorem dL_shut_5 : decode cL_shut 5 = .ok (.iload_n 2, 1) := by decide +kernel
theorem dL_shut_6 : decode cL_shut 6 = .ok (.iload_n 3, 1) := by decide +kernel
theorem dL_shut_7 : decode cL_shut 7 = .ok (.iload 4, 2) := by decide +kernel
theorem dL_shut_9 : decode cL_shut 9 = .ok (.iload 5, 2) := by decide +kernel
theorem dL_shut_11 : decode cL_shut 11 = .ok (.iload 6, 2) := by decide +kernel
theorem dL_shut_13 : decode cL_shut 13 = .ok (.invokevirtual 106, 3) := by decide +kernel
theorem dL_shut_16 : decode cL_shut 16 = .ok (.i2l, 1) := by decide +kernel
theorem dL_shut_17 : decode cL_shut 17 = .ok (.lastore, 1) := by decide +kernel
theorem dL_shut_18 : decode cL_shut 18 = .ok (.goto 11, 3) := by decide +kernel
theorem dL_shut_21 : decode cL_shut 21 = .ok (.astore 8, 2) := by decide +kernel
theorem dL_shut_23 : decode cL_shut 23 = .ok (.iconst 1, 1) := by decide +kernel
theorem dL_shut_24 : decode cL_shut 24 = .ok (.ireturn, 1) := by decide +kernel
theorem dL_shut_25 : decode cL_shut 25 = .ok (.astore 8, 2) := by decide +kernel
theorem dL_shut_27 : decode cL_shut 27 = .ok (.iconst 2, 1) := by decide +kernel
theorem dL_shut_28 : decode cL_shut 28 = .ok (.ireturn, 1) := by decide +kernel
theorem dL_shut_29 : decode cL_shut 29 = .ok (.iconst 0, 1) := by decide +kernel
theorem dL_shut_30 : decode cL_shut 30 = .ok (.ireturn, 1) := by decide +kernel
set_option maxRecDepth 20000 in
theorem ggL_law__X10_init : GoodIn wsL_law_ wsX10_init := goodIn_r _ [9, 10, 11, 12, 13, 14, 15, 16, 17, 18, 19, 20, 21, 22, 23, 24, 25, 26, 27, 28, 29, 30, 31, 32, 33, 34, 35, 36, 37, 38, 39, 40, 41, 42, 43, 44, 45, 46, 47, 48, 49, 50, 51, 52, 53, 54, 55, 56, 57, 58, 59, 60, 61, 62, 63, 64, 65, 66, 67, 68, 69, 70, 71, 72, 73, 74, 75, 76, 77, 78, 79, 80, 81, 82, 83, 84, 85, 86, 87, 88, 89, 90, 91, 92, 93, 94, 95, 96, 97, 98, 99, 100, 101, 102, 103, 104, 105, 106, 107, 108, 109, 110, 111, 112, 113, 114, 115, 116, 117, 118, 119, 120, 121, 122, 123, 124, 125, 126, 127, 128, 129, 130, 131, 132, 133, 134, 135, 136, 137, 138, 139, 140, 141, 142, 143, 144, 145, 146, 147, 148, 149, 150, 151, 152, 153, 154, 1240, 1187, 1188, 1189, 1190, 1191, 1192, 1193, 1194, 1195, 1196, 1197, 1241, 1242, 1243, 1244, 1245, 1246, 1247, 1248, 1249, 1250, 1251, 1252, 1253, 1254, 1255, 1256, 1257, 1258, 1259, 1260, 1261, 1262, 1263, 1264, 1265, 1266, 1267, 1268, 1269, 1270, 1271, 1272, 1273, 1274, 1275, 1276, 1277, 1278, 1279, 1280, 1281, 1282, 1283, 1284, 1285, 1286, 1287, 1288, 1289] (by decide +kernel) (by decide +kernel)
set_option maxRecDepth 20000 in
theorem gL_law__X10_init : GoodIn wsL_law_ (wsX10_init) := ggL_law__X10_init
set_option maxRecDepth 20000 in
theorem ggL_law__X11_init : GoodIn wsL_law_ wsX11_init := goodIn_r _ [157, 158, 11, 12, 159, 44, 160, 161, 162, 163, 164, 165, 166, 167, 168, 169, 170, 171, 172, 173, 174, 175, 176, 177, 178, 179, 180, 181, 182, 183, 1198, 1199, 1200, 1201, 1202, 1203, 1204, 1205, 1206, 1207, 1208, 1209, 1210, 1211, 1212, 1213, 1214, 1215, 1216, 1217, 1218, 1219, 1220, 1221, 1222, 1223, 1224, 1225, 1226, 1227, 1228, 1229, 1230, 1231, 1232, 1233, 1234, 1235, 1236, 1237, 1238, 1239] (by decide +kernel) (by decide +kernel)
set_option maxRecDepth 20000 in
theorem gL_law__X11_init : GoodIn wsL_law_ (wsX11_init) := ggL_law__X11_init
set_option maxRecDepth 20000 in
theorem ggL_law__X10_feed : GoodIn wsL_law_ wsX10_feed := goodIn_r _ [187, 188, 189, 190, 191, 2, 192, 16, 193, 98, 99, 15, 100, 45, 1187, 1188, 1189, 1190, 1191, 1192, 1193, 1194, 1195, 1196, 1197, 1240] (by decide +kernel) (by decide +kernel)
set_option maxRecDepth 20000 in
theorem gL_law__X10_feed : GoodIn wsL_law_ (wsV RL 113 RX10 yX10_feed wsX10_feed) := goodIn_app (goodIn_of _ (by decide +kernel)) ggL_law__X10_feed
set_option maxRecDepth 20000 in
theorem ggL_law__X11_feed : GoodIn wsL_law_ wsX11_feed := goodIn_r _ [197, 198, 199, 160, 1198, 1199, 1200, 1201, 1202, 1203, 1204, 1205, 1206, 1207, 1208, 1209, 1210, 1211, 1212, 1213, 1214, 1215, 1216, 1217, 1218, 1219, 1220, 1221, 1222, 1223, 1224, 1225, 1226, 1227, 1228, 1229, 1230, 1231, 1232, 1233, 1234, 1235, 1236, 1237, 1238, 1239] (by decide +kernel) (by decide +kernel)
set_option maxRecDepth 20000 in
theorem gL_law__X11_feed : GoodIn wsL_law_ (wsV RL 117 RX11 yX11_feed wsX11_feed) := goodIn_app (goodIn_of _ (by decide +kernel)) ggL_law__X11_feed
set_option maxRecDepth 20000 in
theorem ggL_law__L_law : GoodIn wsL_law_ wsL_law := goodIn_ca (goodIn_r _ [203, 204, 205, 206, 207, 2, 208, 188, 23, 209, 22, 20, 16, 210, 211, 212, 213, 214, 215, 216, 217, 218, 219, 220, 221, 222, 223, 224, 19, 225, 54, 226, 227, 228, 229, 230, 231, 232, 233, 53, 234, 235, 236, 237, 238, 15, 239, 45, 240, 241, 242, 243, 244, 245, 42, 246, 247, 248, 249, 250, 251, 252, 253, 254, 255, 256, 257, 258, 259, 260, 261, 262, 263, 264, 265, 266, 267, 268, 269, 270, 271, 272, 273, 274, 275, 276, 277, 278, 279, 280, 281, 282, 283, 284, 285, 286, 287, 288, 289, 290, 291, 292, 293, 294, 295, 296, 297, 298, 299, 300, 301, 302, 303, 304, 305, 306, 307, 308, 59, 60, 61, 309, 310, 311, 312, 313, 314, 315, 316, 317, 318, 319, 320, 321, 322, 323, 324, 325, 326, 327, 328, 329, 330, 331, 332, 50, 333, 98, 99, 100, 334, 335, 336, 337, 338, 339, 340, 341, 342, 343, 344, 345, 346, 347, 348, 349, 350, 351, 352, 353, 35, 354, 152, 355, 356, 357, 358, 359, 1187, 1188, 1189, 1190, 1191, 1192, 1193, 1194, 1195, 1196, 1197, 1241, 1242, 1243, 1244, 1245, 1246, 1247, 1248, 1249, 1270, 1271, 1272, 1273, 1240, 1265, 1266, 1267, 1268, 1269] (by decide +kernel) (by decide +kernel)) (goodIn_sub (fun _ h => List.mem_append_left _ (List.mem_append_left _ (List.mem_append_right _ h))) (by decide +kernel))
set_option maxRecDepth 20000 in
theorem gL_law__L_law : GoodIn wsL_law_ (va_wsS RL 118 yL_law wsL_law) := goodIn_app (goodIn_of _ (by decide +kernel)) ggL_law__L_law
set_option maxRecDepth 20000 in
theorem ggL_law__X11_law : GoodIn wsL_law_ wsX11_law := goodIn_r _ [363, 198, 199, 159, 364, 365, 366, 367, 368, 369, 370, 163, 161, 164, 371, 372, 5, 373, 374, 375, 376, 377, 378, 379, 380, 381, 382, 383, 384, 385, 160, 386, 387, 388, 389, 390, 391, 392, 393, 394, 395, 396, 397, 398, 399, 400, 401, 402, 403, 404, 405, 406, 407, 408, 409, 410, 411, 412, 413, 414, 415, 416, 417, 418, 419, 420, 421, 422, 423, 424, 425, 426, 427, 428, 429, 430, 431, 432, 433, 434, 435, 436, 437, 438, 439, 440, 441, 442, 443, 444, 445, 446, 447, 448, 449, 450, 451, 452, 453, 454, 455, 456, 1198, 1199, 1200, 1201, 1202, 1203, 1204, 1205, 1206, 1207, 1208, 1209, 1210, 1211, 1212, 1213, 1214, 1215, 1216, 1217, 1218, 1219, 1220, 1221, 1222, 1223, 1224, 1225, 1226, 1227, 1228, 1229, 1230, 1231, 1232, 1233, 1234, 1235, 1236, 1237, 1238, 1239] (by decide +kernel) (by decide +kernel)
set_option maxRecDepth 20000 in
theorem gL_law__X11_law : GoodIn wsL_law_ (wsV RL 123 RX11 yX11_law wsX11_law) := goodIn_app (goodIn_of _ (by decide +kernel)) ggL_law__X11_law
set_option maxRecDepth 20000 in
theorem ggL_law__X11_thrown : GoodIn wsL_law_ wsX11_thrown := goodIn_r _ [460, 198, 1198, 1199, 1200, 1201, 1202, 1203, 1204, 1205, 1206, 1207, 1208, 1209, 1210, 1211, 1212, 1213, 1214, 1215, 1216, 1217, 1218, 1219, 1220, 1221, 1222, 1223, 1224, 1225, 1226, 1227, 1228, 1229, 1230, 1231, 1232, 1233, 1234, 1235, 1236, 1237, 1238, 1239] (by decide +kernel) (by decide +kernel)
set_option maxRecDepth 20000 in
theorem gL_law__X11_thrown : GoodIn wsL_law_ (wsV RL 124 RX11 yX11_thrown wsX11_thrown) := goodIn_app (goodIn_of _ (by decide +kernel)) ggL_law__X11_thrown
set_option maxRecDepth 20000 in
theorem ggL_law__X10_fault : GoodIn wsL_law_ wsX10_fault := goodIn_r _ [464, 23, 1187, 1188, 1189, 1190, 1191, 1192, 1193, 1194, 1195, 1196, 1197] (by decide +kernel) (by decide +kernel)
set_option maxRecDepth 20000 in
theorem gL_law__X10_fault : GoodIn wsL_law_ (wsV RL 128 RX10 yX10_fault wsX10_fault) := goodIn_app (goodIn_of _ (by decide +kernel)) ggL_law__X10_fault
set_option maxRecDepth 20000 in
theorem ggL_law__X11_fault : GoodIn wsL_law_ wsX11_fault := goodIn_r _ [468, 198, 159, 1198, 1199, 1200, 1201, 1202, 1203, 1204, 1205, 1206, 1207, 1208, 1209, 1210, 1211, 1212, 1213, 1214, 1215, 1216, 1217, 1218, 1219, 1220, 1221, 1222, 1223, 1224, 1225, 1226, 1227, 1228, 1229, 1230, 1231, 1232, 1233, 1234, 1235, 1236, 1237, 1238, 1239] (by decide +kernel) (by decide +kernel)
set_option maxRecDepth 20000 in
theorem gL_law__X11_fault : GoodIn wsL_law_ (wsV RL 131 RX11 yX11_fault wsX11_fault) := goodIn_app (goodIn_of _ (by decide +kernel)) ggL_law__X11_fault
set_option maxRecDepth 20000 in
theorem ggL_law__L_deck : GoodIn wsL_law_ wsL_deck := goodIn_ca (goodIn_r _ [471, 204, 472, 473, 474, 2, 475, 27, 476, 477, 214, 215, 216, 217, 218, 219, 220, 221, 478, 102, 103, 31, 104, 105, 106, 93, 94, 107, 108, 109, 110, 89, 90, 91, 92, 111, 112, 113, 15, 114, 45, 1187, 1188, 1189, 1190, 1191, 1192, 1193, 1194, 1195, 1196, 1197, 1250, 1251, 1252, 1253, 1254, 1255, 1256, 1257, 1258, 1259, 1260, 1261, 1262, 1263, 1264, 1240] (by decide +kernel) (by decide +kernel)) (goodIn_sub (fun _ h => List.mem_append_left _ (List.mem_append_left _ (List.mem_append_right _ h))) (by decide +kernel))
set_option maxRecDepth 20000 in
theorem gL_law__L_deck : GoodIn wsL_law_ (va_wsS RL 132 yL_deck wsL_deck) := goodIn_app (goodIn_of _ (by decide +kernel)) ggL_law__L_deck
set_option maxRecDepth 20000 in
theorem ggL_law__X11_deck : GoodIn wsL_law_ wsX11_deck := goodIn_r _ [482, 198, 168, 483, 170, 172, 174, 371, 372, 5, 373, 374, 375, 376, 377, 1198, 1199, 1200, 1201, 1202, 1203, 1204, 1205, 1206, 1207, 1208, 1209, 1210, 1211, 1212, 1213, 1214, 1215, 1216, 1217, 1218, 1219, 1220, 1221, 1222, 1223, 1224, 1225, 1226, 1227, 1228, 1229, 1230, 1231, 1232, 1233, 1234, 1235, 1236, 1237, 1238, 1239] (by decide +kernel) (by decide +kernel)
set_option maxRecDepth 20000 in
theorem gL_law__X11_deck : GoodIn wsL_law_ (wsV RL 134 RX11 yX11_deck wsX11_deck) := goodIn_app (goodIn_of _ (by decide +kernel)) ggL_law__X11_deck
set_option maxRecDepth 20000 in
theorem ggL_law__L_set : GoodIn wsL_law_ wsL_set := goodIn_ca (goodIn_r _ [486, 204, 487, 488, 489, 2, 490, 27, 476, 491, 214, 215, 216, 492, 493, 494, 495, 496, 497, 498, 499, 217, 218, 219, 220, 221, 500, 237, 238, 15, 239, 45, 193, 98, 99, 100, 1187, 1188, 1189, 1190, 1191, 1192, 1193, 1194, 1195, 1196, 1197, 1250, 1251, 1252, 1253, 1254, 1255, 1256, 1257, 1258, 1259, 1260, 1261, 1262, 1263, 1264, 1240] (by decide +kernel) (by decide +kernel)) (goodIn_sub (fun _ h => List.mem_append_left _ (List.mem_append_left _ (List.mem_append_right _ h))) (by decide +kernel))
set_option maxRecDepth 20000 in
theorem gL_law__L_set : GoodIn wsL_law_ (va_wsS RL 135 yL_set wsL_set) := goodIn_app (goodIn_of _ (by decide +kernel)) ggL_law__L_set
set_option maxRecDepth 20000 in
theorem ggL_law__X11_set : GoodIn wsL_law_ wsX11_set := goodIn_r _ [504, 198, 169, 371, 372, 5, 373, 374, 375, 376, 377, 505, 506, 507, 508, 509, 510, 511, 1198, 1199, 1200, 1201, 1202, 1203, 1204, 1205, 1206, 1207, 1208, 1209, 1210, 1211, 1212, 1213, 1214, 1215, 1216, 1217, 1218, 1219, 1220, 1221, 1222, 1223, 1224, 1225, 1226, 1227, 1228, 1229, 1230, 1231, 1232, 1233, 1234, 1235, 1236, 1237, 1238, 1239] (by decide +kernel) (by decide +kernel)
set_option maxRecDepth 20000 in
theorem gL_law__X11_set : GoodIn wsL_law_ (wsV RL 138 RX11 yX11_set wsX11_set) := goodIn_app (goodIn_of _ (by decide +kernel)) ggL_law__X11_set
set_option maxRecDepth 20000 in
theorem ggL_law__L_stay : GoodIn wsL_law_ wsL_stay := goodIn_ca (goodIn_r _ [514, 515, 516, 517, 518, 2, 519, 27, 476, 520, 521, 522, 523, 524, 525, 526, 477, 214, 215, 216, 500, 237, 238, 15, 239, 45, 193, 98, 99, 100, 1187, 1188, 1189, 1190, 1191, 1192, 1193, 1194, 1195, 1196, 1197, 1250, 1251, 1252, 1253, 1254, 1255, 1256, 1257, 1258, 1259, 1260, 1261, 1262, 1263, 1264, 1240] (by decide +kernel) (by decide +kernel)) (goodIn_sub (fun _ h => List.mem_append_left _ (List.mem_append_right _ h)) (by decide +kernel))
set_option maxRecDepth 20000 in
theorem gL_law__L_stay : GoodIn wsL_law_ (va_wsS RL 139 yL_stay wsL_stay) := goodIn_app (goodIn_of _ (by decide +kernel)) ggL_law__L_stay
set_option maxRecDepth 20000 in
theorem ggL_law__X11_stay : GoodIn wsL_law_ wsX11_stay := goodIn_r _ [530, 198, 172, 531, 532, 533, 5, 534, 168, 371, 372, 373, 374, 375, 376, 377, 1198, 1199, 1200, 1201, 1202, 1203, 1204, 1205, 1206, 1207, 1208, 1209, 1210, 1211, 1212, 1213, 1214, 1215, 1216, 1217, 1218, 1219, 1220, 1221, 1222, 1223, 1224, 1225, 1226, 1227, 1228, 1229, 1230, 1231, 1232, 1233, 1234, 1235, 1236, 1237, 1238, 1239] (by decide +kernel) (by decide +kernel)
set_option maxRecDepth 20000 in
theorem gL_law__X11_stay : GoodIn wsL_law_ (wsV RL 142 RX11 yX11_stay wsX11_stay) := goodIn_app (goodIn_of _ (by decide +kernel)) ggL_law__X11_stay
set_option maxRecDepth 20000 in
theorem ggL_law__L_shape : GoodIn wsL_law_ wsL_shape := goodIn_ca (goodIn_r _ [537, 204, 538, 539, 540, 2, 541, 27, 476, 542, 543, 544, 214, 215, 216, 217, 218, 219, 220, 221, 545, 546, 547, 31, 548, 89, 90, 105, 549, 41, 42, 43, 107, 108, 109, 110, 91, 92, 111, 112, 113, 15, 114, 45, 97, 98, 99, 100, 550, 551, 552, 553, 554, 555, 556, 557, 237, 238, 239, 1187, 1188, 1189, 1190, 1191, 1192, 1193, 1194, 1195, 1196, 1197, 1250, 1251, 1252, 1253, 1254, 1255, 1256, 1257, 1258, 1259, 1260, 1261, 1262, 1263, 1264, 1240] (by decide +kernel) (by decide +kernel)) (goodIn_sub (fun _ h => List.mem_append_left _ (List.mem_append_left _ (List.mem_append_right _ h))) (by decide +kernel))
set_option maxRecDepth 20000 in
theorem gL_law__L_shape : GoodIn wsL_law_ (va_wsS RL 143 yL_shape wsL_shape) := goodIn_app (goodIn_of _ (by decide +kernel)) ggL_law__L_shape
set_option maxRecDepth 20000 in
theorem ggL_law__X11_shape : GoodIn wsL_law_ wsX11_shape := goodIn_r _ [561, 198, 562, 563, 5, 564, 371, 372, 373, 374, 375, 376, 377, 565, 566, 567, 568, 168, 170, 569, 570, 571, 572, 573, 574, 575, 1198, 1199, 1200, 1201, 1202, 1203, 1204, 1205, 1206, 1207, 1208, 1209, 1210, 1211, 1212, 1213, 1214, 1215, 1216, 1217, 1218, 1219, 1220, 1221, 1222, 1223, 1224, 1225, 1226, 1227, 1228, 1229, 1230, 1231, 1232, 1233, 1234, 1235, 1236, 1237, 1238, 1239] (by decide +kernel) (by decide +kernel)
set_option maxRecDepth 20000 in
theorem gL_law__X11_shape : GoodIn wsL_law_ (wsV RL 146 RX11 yX11_shape wsX11_shape) := goodIn_app (goodIn_of _ (by decide +kernel)) ggL_law__X11_shape
set_option maxRecDepth 20000 in
theorem ggL_law__L_go : GoodIn wsL_law_ wsL_go := goodIn_ca (goodIn_ca (goodIn_r _ [578, 579, 204, 580, 581, 582, 2, 583, 27, 476, 584, 585, 586, 587, 588, 589, 209, 22, 590, 591, 592, 214, 215, 216, 217, 218, 219, 220, 221, 593, 594, 595, 31, 596, 105, 93, 88, 89, 90, 91, 597, 92, 598, 106, 599, 600, 601, 602, 95, 97, 98, 99, 15, 100, 45, 557, 237, 238, 239, 603, 604, 605, 35, 606, 355, 152, 153, 607, 608, 609, 610, 611, 612, 613, 614, 615, 616, 245, 42, 246, 617, 41, 43, 618, 619, 620, 621, 622, 623, 624, 625, 94, 626, 627, 628, 629, 549, 630, 631, 632, 633, 634, 635, 636, 637, 638, 554, 555, 556, 550, 551, 552, 553, 1187, 1188, 1189, 1190, 1191, 1192, 1193, 1194, 1195, 1196, 1197, 1250, 1251, 1252, 1253, 1254, 1255, 1256, 1257, 1258, 1259, 1260, 1261, 1262, 1263, 1264, 1265, 1266, 1267, 1268, 1269, 1240] (by decide +kernel) (by decide +kernel)) (goodIn_sub (fun _ h => List.mem_append_right _ h) (by decide +kernel))) (goodIn_sub (fun _ h => List.mem_append_left _ (List.mem_append_left _ (List.mem_append_right _ h))) (by decide +kernel))
set_option maxRecDepth 20000 in
theorem gL_law__L_go : GoodIn wsL_law_ (va_wsS RL 147 yL_go wsL_go) := goodIn_app (goodIn_of _ (by decide +kernel)) ggL_law__L_go
set_option maxRecDepth 20000 in
theorem ggL_law__X11_go : GoodIn wsL_law_ wsX11_go := goodIn_r _ [642, 198, 643, 644, 645, 5, 646, 364, 371, 372, 373, 374, 375, 376, 377, 647, 648, 649, 650, 168, 170, 651, 652, 171, 169, 653, 654, 172, 174, 483, 655, 656, 657, 658, 166, 659, 660, 661, 662, 164, 163, 165, 663, 432, 167, 664, 665, 666, 667, 668, 669, 670, 671, 672, 673, 674, 675, 676, 677, 573, 574, 575, 569, 570, 571, 572, 1198, 1199, 1200, 1201, 1202, 1203, 1204, 1205, 1206, 1207, 1208, 1209, 1210, 1211, 1212, 1213, 1214, 1215, 1216, 1217, 1218, 1219, 1220, 1221, 1222, 1223, 1224, 1225, 1226, 1227, 1228, 1229, 1230, 1231, 1232, 1233, 1234, 1235, 1236, 1237, 1238, 1239] (by decide +kernel) (by decide +kernel)
set_option maxRecDepth 20000 in
theorem gL_law__X11_go : GoodIn wsL_law_ (wsV RL 149 RX11 yX11_go wsX11_go) := goodIn_app (goodIn_of _ (by decide +kernel)) ggL_law__X11_go
set_option maxRecDepth 20000 in
theorem ggL_law__L_piece : GoodIn wsL_law_ wsL_piece := goodIn_ca (goodIn_ca (goodIn_r _ [680, 515, 204, 681, 682, 683, 2, 684, 220, 221, 27, 476, 685, 686, 687, 688, 520, 689, 521, 522, 523, 524, 525, 526, 477, 214, 215, 216, 500, 237, 238, 15, 239, 45, 1187, 1188, 1189, 1190, 1191, 1192, 1193, 1194, 1195, 1196, 1197, 1250, 1251, 1252, 1253, 1254, 1255, 1256, 1257, 1258, 1259, 1260, 1261, 1262, 1263, 1264, 1240] (by decide +kernel) (by decide +kernel)) (goodIn_sub (fun _ h => List.mem_append_left _ (List.mem_append_left _ (List.mem_append_right _ h))) (by decide +kernel))) (goodIn_sub (fun _ h => List.mem_append_left _ (List.mem_append_right _ h)) (by decide +kernel))
set_option maxRecDepth 20000 in
theorem gL_law__L_piece : GoodIn wsL_law_ (va_wsS RL 150 yL_piece wsL_piece) := goodIn_app (goodIn_of _ (by decide +kernel)) ggL_law__L_piece
set_option maxRecDepth 20000 in
theorem ggL_law__X11_piece : GoodIn wsL_law_ wsX11_piece := goodIn_r _ [693, 198, 170, 172, 168, 174, 531, 532, 533, 5, 534, 371, 372, 373, 374, 375, 376, 377, 1198, 1199, 1200, 1201, 1202, 1203, 1204, 1205, 1206, 1207, 1208, 1209, 1210, 1211, 1212, 1213, 1214, 1215, 1216, 1217, 1218, 1219, 1220, 1221, 1222, 1223, 1224, 1225, 1226, 1227, 1228, 1229, 1230, 1231, 1232, 1233, 1234, 1235, 1236, 1237, 1238, 1239] (by decide +kernel) (by decide +kernel)
set_option maxRecDepth 20000 in
theorem gL_law__X11_piece : GoodIn wsL_law_ (wsV RL 152 RX11 yX11_piece wsX11_piece) := goodIn_app (goodIn_of _ (by decide +kernel)) ggL_law__X11_piece
set_option maxRecDepth 20000 in
theorem ggL_law__L_push : GoodIn wsL_law_ wsL_push := goodIn_ca (goodIn_ca (goodIn_ca (goodIn_r _ [696, 579, 515, 204, 697, 698, 699, 2, 700, 27, 476, 701, 702, 584, 585, 586, 587, 588, 589, 209, 22, 521, 522, 523, 524, 525, 526, 477, 214, 215, 216, 590, 591, 592, 217, 218, 219, 220, 221, 703, 600, 601, 31, 602, 95, 106, 89, 90, 91, 92, 88, 97, 98, 99, 15, 100, 45, 557, 237, 238, 239, 704, 604, 605, 35, 606, 355, 152, 153, 607, 608, 609, 610, 611, 612, 613, 614, 615, 616, 245, 42, 246, 617, 41, 43, 618, 619, 620, 621, 1187, 1188, 1189, 1190, 1191, 1192, 1193, 1194, 1195, 1196, 1197, 1250, 1251, 1252, 1253, 1254, 1265, 1266, 1267, 1268, 1269, 1255, 1256, 1257, 1258, 1259, 1260, 1261, 1262, 1263, 1264, 1240] (by decide +kernel) (by decide +kernel)) (goodIn_sub (fun _ h => List.mem_append_right _ h) (by decide +kernel))) (goodIn_sub (fun _ h => List.mem_append_left _ (List.mem_append_right _ h)) (by decide +kernel))) (goodIn_sub (fun _ h => List.mem_append_left _ (List.mem_append_left _ (List.mem_append_right _ h))) (by decide +kernel))
set_option maxRecDepth 20000 in
theorem gL_law__L_push : GoodIn wsL_law_ (va_wsS RL 153 yL_push wsL_push) := goodIn_app (goodIn_of _ (by decide +kernel)) ggL_law__L_push
set_option maxRecDepth 20000 in
theorem ggL_law__X11_push : GoodIn wsL_law_ wsX11_push := goodIn_r _ [708, 198, 652, 651, 643, 644, 645, 5, 646, 364, 371, 372, 373, 374, 375, 376, 377, 531, 532, 533, 534, 168, 655, 656, 657, 658, 166, 483, 170, 169, 659, 660, 661, 662, 164, 163, 165, 663, 432, 167, 664, 665, 666, 667, 668, 669, 1198, 1199, 1200, 1201, 1202, 1203, 1204, 1205, 1206, 1207, 1208, 1209, 1210, 1211, 1212, 1213, 1214, 1215, 1216, 1217, 1218, 1219, 1220, 1221, 1222, 1223, 1224, 1225, 1226, 1227, 1228, 1229, 1230, 1231, 1232, 1233, 1234, 1235, 1236, 1237, 1238, 1239] (by decide +kernel) (by decide +kernel)
set_option maxRecDepth 20000 in
theorem gL_law__X11_push : GoodIn wsL_law_ (wsV RL 156 RX11 yX11_push wsX11_push) := goodIn_app (goodIn_of _ (by decide +kernel)) ggL_law__X11_push
set_option maxRecDepth 20000 in
theorem ggL_law__L_grows : GoodIn wsL_law_ wsL_grows := goodIn_ca (goodIn_ca (goodIn_r _ [711, 579, 204, 712, 713, 714, 2, 715, 32, 27, 476, 584, 585, 586, 587, 588, 589, 209, 22, 590, 591, 592, 214, 215, 216, 217, 218, 219, 220, 221, 542, 543, 544, 716, 717, 718, 31, 719, 105, 106, 88, 89, 90, 91, 92, 93, 94, 720, 357, 358, 15, 359, 45, 721, 722, 723, 724, 621, 41, 42, 43, 725, 726, 727, 728, 557, 237, 238, 239, 97, 98, 99, 100, 111, 112, 113, 114, 729, 546, 547, 548, 549, 107, 108, 109, 110, 593, 594, 595, 596, 597, 598, 599, 600, 601, 602, 95, 603, 604, 605, 35, 606, 355, 152, 153, 607, 608, 609, 610, 611, 612, 613, 614, 615, 616, 245, 246, 617, 618, 619, 620, 622, 623, 624, 625, 626, 627, 628, 629, 630, 631, 632, 633, 634, 635, 636, 637, 638, 554, 555, 556, 550, 551, 552, 553, 1187, 1188, 1189, 1190, 1191, 1192, 1193, 1194, 1195, 1196, 1197, 1250, 1251, 1252, 1253, 1254, 1255, 1256, 1257, 1258, 1259, 1260, 1261, 1262, 1263, 1264, 1240, 1265, 1266, 1267, 1268, 1269] (by decide +kernel) (by decide +kernel)) (goodIn_sub (fun _ h => List.mem_append_right _ h) (by decide +kernel))) (goodIn_sub (fun _ h => List.mem_append_left _ (List.mem_append_left _ (List.mem_append_right _ h))) (by decide +kernel))
set_option maxRecDepth 20000 in
theorem gL_law__L_grows : GoodIn wsL_law_ (va_wsS RL 157 yL_grows wsL_grows) := goodIn_app (goodIn_of _ (by decide +kernel)) ggL_law__L_grows
set_option maxRecDepth 20000 in
theorem ggL_law__X11_grows : GoodIn wsL_law_ wsX11_grows := goodIn_r _ [733, 198, 734, 735, 736, 5, 737, 643, 644, 645, 646, 364, 371, 372, 373, 374, 375, 376, 377, 562, 563, 564, 738, 739, 740, 741, 742, 743, 744, 745, 483, 172, 174, 746, 747, 748, 749, 750, 175, 170, 176, 178, 565, 566, 567, 568, 168, 647, 648, 649, 650, 651, 652, 171, 169, 653, 654, 655, 656, 657, 658, 166, 659, 660, 661, 662, 164, 163, 165, 663, 432, 167, 664, 665, 666, 667, 668, 669, 670, 671, 672, 673, 674, 675, 676, 677, 573, 574, 575, 569, 570, 571, 572, 751, 752, 753, 754, 1198, 1199, 1200, 1201, 1202, 1203, 1204, 1205, 1206, 1207, 1208, 1209, 1210, 1211, 1212, 1213, 1214, 1215, 1216, 1217, 1218, 1219, 1220, 1221, 1222, 1223, 1224, 1225, 1226, 1227, 1228, 1229, 1230, 1231, 1232, 1233, 1234, 1235, 1236, 1237, 1238, 1239] (by decide +kernel) (by decide +kernel)
set_option maxRecDepth 20000 in
theorem gL_law__X11_grows : GoodIn wsL_law_ (wsV RL 160 RX11 yX11_grows wsX11_grows) := goodIn_app (goodIn_of _ (by decide +kernel)) ggL_law__X11_grows
set_option maxRecDepth 20000 in
theorem ggL_law__L_line : GoodIn wsL_law_ wsL_line := goodIn_ca (goodIn_ca (goodIn_r _ [757, 579, 204, 758, 759, 760, 2, 761, 32, 27, 476, 584, 585, 586, 587, 588, 589, 209, 22, 542, 543, 544, 214, 215, 216, 217, 218, 219, 220, 221, 716, 717, 718, 31, 719, 105, 106, 88, 89, 90, 91, 92, 93, 94, 720, 357, 358, 15, 359, 45, 762, 763, 764, 765, 721, 722, 723, 724, 621, 41, 42, 43, 725, 726, 727, 728, 557, 237, 238, 239, 97, 98, 99, 100, 111, 112, 113, 114, 729, 546, 547, 548, 549, 107, 108, 109, 110, 593, 594, 595, 596, 597, 598, 599, 600, 601, 602, 95, 603, 604, 605, 35, 606, 355, 152, 153, 607, 608, 609, 610, 611, 612, 613, 614, 615, 616, 245, 246, 617, 618, 619, 620, 622, 623, 624, 625, 626, 627, 628, 629, 630, 631, 632, 633, 634, 635, 636, 637, 638, 554, 555, 556, 550, 551, 552, 553, 1187, 1188, 1189, 1190, 1191, 1192, 1193, 1194, 1195, 1196, 1197, 1250, 1251, 1252, 1253, 1254, 1255, 1256, 1257, 1258, 1259, 1260, 1261, 1262, 1263, 1264, 1240, 1265, 1266, 1267, 1268, 1269] (by decide +kernel) (by decide +kernel)) (goodIn_sub (fun _ h => List.mem_append_right _ h) (by decide +kernel))) (goodIn_sub (fun _ h => List.mem_append_left _ (List.mem_append_left _ (List.mem_append_right _ h))) (by decide +kernel))
set_option maxRecDepth 20000 in
theorem gL_law__L_line : GoodIn wsL_law_ (va_wsS RL 161 yL_line wsL_line) := goodIn_app (goodIn_of _ (by decide +kernel)) ggL_law__L_line
set_option maxRecDepth 20000 in
theorem ggL_law__X11_line : GoodIn wsL_law_ wsX11_line := goodIn_r _ [769, 198, 734, 735, 736, 5, 737, 643, 644, 645, 646, 364, 371, 372, 373, 374, 375, 376, 377, 562, 563, 564, 770, 771, 772, 773, 738, 739, 740, 741, 742, 743, 744, 745, 483, 172, 174, 746, 747, 748, 749, 750, 175, 170, 176, 178, 565, 566, 567, 568, 168, 647, 648, 649, 650, 651, 652, 171, 169, 653, 654, 655, 656, 657, 658, 166, 659, 660, 661, 662, 164, 163, 165, 663, 432, 167, 664, 665, 666, 667, 668, 669, 670, 671, 672, 673, 674, 675, 676, 677, 573, 574, 575, 569, 570, 571, 572, 751, 752, 753, 754, 1198, 1199, 1200, 1201, 1202, 1203, 1204, 1205, 1206, 1207, 1208, 1209, 1210, 1211, 1212, 1213, 1214, 1215, 1216, 1217, 1218, 1219, 1220, 1221, 1222, 1223, 1224, 1225, 1226, 1227, 1228, 1229, 1230, 1231, 1232, 1233, 1234, 1235, 1236, 1237, 1238, 1239] (by decide +kernel) (by decide +kernel)
set_option maxRecDepth 20000 in
theorem gL_law__X11_line : GoodIn wsL_law_ (wsV RL 163 RX11 yX11_line wsX11_line) := goodIn_app (goodIn_of _ (by decide +kernel)) ggL_law__X11_line
set_option maxRecDepth 20000 in
theorem ggL_law__L_why : GoodIn wsL_law_ wsL_why := goodIn_ca (goodIn_ca (goodIn_r _ [776, 579, 204, 777, 778, 779, 2, 780, 32, 27, 476, 584, 585, 586, 587, 588, 589, 209, 22, 590, 591, 592, 214, 215, 216, 217, 218, 219, 220, 221, 542, 543, 544, 716, 717, 718, 31, 719, 105, 106, 88, 89, 90, 91, 92, 93, 94, 720, 357, 358, 15, 359, 45, 721, 722, 723, 724, 621, 41, 42, 43, 725, 726, 727, 728, 557, 237, 238, 239, 97, 98, 99, 100, 111, 112, 113, 114, 729, 546, 547, 548, 549, 107, 108, 109, 110, 593, 594, 595, 596, 597, 598, 599, 600, 601, 602, 95, 603, 604, 605, 35, 606, 355, 152, 153, 607, 608, 609, 610, 611, 612, 613, 614, 615, 616, 245, 246, 617, 618, 619, 620, 622, 623, 624, 625, 626, 627, 628, 629, 630, 631, 632, 633, 634, 635, 636, 637, 638, 554, 555, 556, 550, 551, 552, 553, 1187, 1188, 1189, 1190, 1191, 1192, 1193, 1194, 1195, 1196, 1197, 1250, 1251, 1252, 1253, 1254, 1255, 1256, 1257, 1258, 1259, 1260, 1261, 1262, 1263, 1264, 1240, 1265, 1266, 1267, 1268, 1269] (by decide +kernel) (by decide +kernel)) (goodIn_sub (fun _ h => List.mem_append_right _ h) (by decide +kernel))) (goodIn_sub (fun _ h => List.mem_append_left _ (List.mem_append_left _ (List.mem_append_right _ h))) (by decide +kernel))
set_option maxRecDepth 20000 in
theorem gL_law__L_why : GoodIn wsL_law_ (va_wsS RL 164 yL_why wsL_why) := goodIn_app (goodIn_of _ (by decide +kernel)) ggL_law__L_why
set_option maxRecDepth 20000 in
theorem ggL_law__X11_why : GoodIn wsL_law_ wsX11_why := goodIn_r _ [784, 198, 734, 735, 736, 5, 737, 643, 644, 645, 646, 364, 371, 372, 373, 374, 375, 376, 377, 562, 563, 564, 738, 739, 740, 741, 742, 743, 744, 745, 483, 172, 174, 746, 747, 748, 749, 750, 175, 170, 176, 178, 565, 566, 567, 568, 168, 647, 648, 649, 650, 651, 652, 171, 169, 653, 654, 655, 656, 657, 658, 166, 659, 660, 661, 662, 164, 163, 165, 663, 432, 167, 664, 665, 666, 667, 668, 669, 670, 671, 672, 673, 674, 675, 676, 677, 573, 574, 575, 569, 570, 571, 572, 751, 752, 753, 754, 1198, 1199, 1200, 1201, 1202, 1203, 1204, 1205, 1206, 1207, 1208, 1209, 1210, 1211, 1212, 1213, 1214, 1215, 1216, 1217, 1218, 1219, 1220, 1221, 1222, 1223, 1224, 1225, 1226, 1227, 1228, 1229, 1230, 1231, 1232, 1233, 1234, 1235, 1236, 1237, 1238, 1239] (by decide +kernel) (by decide +kernel)
set_option maxRecDepth 20000 in
theorem gL_law__X11_why : GoodIn wsL_law_ (wsV RL 166 RX11 yX11_why wsX11_why) := goodIn_app (goodIn_of _ (by decide +kernel)) ggL_law__X11_why
set_option maxRecDepth 20000 in
theorem ggL_law__L_first : GoodIn wsL_law_ wsL_first := goodIn_ca (goodIn_ca (goodIn_r _ [787, 579, 204, 788, 789, 790, 2, 791, 584, 585, 586, 587, 588, 589, 209, 22, 590, 591, 592, 214, 215, 216, 217, 218, 219, 220, 221, 542, 543, 544, 792, 793, 794, 795, 32, 27, 476, 716, 717, 718, 31, 719, 105, 106, 88, 89, 90, 91, 92, 93, 94, 720, 357, 358, 15, 359, 45, 725, 726, 727, 728, 557, 237, 238, 239, 97, 98, 99, 100, 111, 112, 113, 114, 729, 546, 547, 548, 549, 41, 42, 43, 107, 108, 109, 110, 593, 594, 595, 596, 597, 598, 599, 600, 601, 602, 95, 603, 604, 605, 35, 606, 355, 152, 153, 607, 608, 609, 610, 611, 612, 613, 614, 615, 616, 245, 246, 617, 618, 619, 620, 621, 622, 623, 624, 625, 626, 627, 628, 629, 630, 631, 632, 633, 634, 635, 636, 637, 638, 554, 555, 556, 796, 797, 798, 799, 800, 801, 802, 803, 1187, 1188, 1189, 1190, 1191, 1192, 1193, 1194, 1195, 1196, 1197, 1250, 1251, 1252, 1253, 1254, 1255, 1256, 1257, 1258, 1259, 1260, 1261, 1262, 1263, 1264, 1240, 1265, 1266, 1267, 1268, 1269] (by decide +kernel) (by decide +kernel)) (goodIn_sub (fun _ h => List.mem_append_right _ h) (by decide +kernel))) (goodIn_sub (fun _ h => List.mem_append_left _ (List.mem_append_left _ (List.mem_append_right _ h))) (by decide +kernel))
set_option maxRecDepth 20000 in
theorem gL_law__L_first : GoodIn wsL_law_ (va_wsS RL 167 yL_first wsL_first) := goodIn_app (goodIn_of _ (by decide +kernel)) ggL_law__L_first
set_option maxRecDepth 20000 in
theorem ggL_law__X11_first : GoodIn wsL_law_ wsX11_first := goodIn_r _ [807, 198, 734, 735, 736, 5, 737, 643, 644, 645, 646, 364, 371, 372, 373, 374, 375, 376, 377, 562, 563, 564, 808, 809, 810, 811, 742, 743, 744, 745, 483, 172, 174, 746, 747, 748, 749, 750, 175, 170, 176, 178, 565, 566, 567, 568, 168, 647, 648, 649, 650, 651, 652, 171, 169, 653, 654, 655, 656, 657, 658, 166, 659, 660, 661, 662, 164, 163, 165, 663, 432, 167, 664, 665, 666, 667, 668, 669, 670, 671, 672, 673, 674, 675, 676, 677, 573, 574, 575, 812, 813, 814, 815, 751, 752, 753, 754, 1198, 1199, 1200, 1201, 1202, 1203, 1204, 1205, 1206, 1207, 1208, 1209, 1210, 1211, 1212, 1213, 1214, 1215, 1216, 1217, 1218, 1219, 1220, 1221, 1222, 1223, 1224, 1225, 1226, 1227, 1228, 1229, 1230, 1231, 1232, 1233, 1234, 1235, 1236, 1237, 1238, 1239] (by decide +kernel) (by decide +kernel)
set_option maxRecDepth 20000 in
theorem gL_law__X11_first : GoodIn wsL_law_ (wsV RL 170 RX11 yX11_first wsX11_first) := goodIn_app (goodIn_of _ (by decide +kernel)) ggL_law__X11_first
set_option maxRecDepth 20000 in
theorem ggL_law__L_where : GoodIn wsL_law_ wsL_where := goodIn_ca (goodIn_ca (goodIn_r _ [818, 579, 204, 819, 820, 821, 2, 822, 32, 584, 585, 586, 587, 588, 589, 209, 22, 590, 591, 592, 214, 215, 216, 217, 218, 219, 220, 221, 542, 543, 544, 792, 793, 794, 795, 27, 476, 716, 717, 718, 31, 719, 105, 106, 88, 89, 90, 91, 92, 93, 94, 720, 357, 358, 15, 359, 45, 725, 726, 727, 728, 557, 237, 238, 239, 97, 98, 99, 100, 111, 112, 113, 114, 729, 546, 547, 548, 549, 41, 42, 43, 107, 108, 109, 110, 593, 594, 595, 596, 597, 598, 599, 600, 601, 602, 95, 603, 604, 605, 35, 606, 355, 152, 153, 607, 608, 609, 610, 611, 612, 613, 614, 615, 616, 245, 246, 617, 618, 619, 620, 621, 622, 623, 624, 625, 626, 627, 628, 629, 630, 631, 632, 633, 634, 635, 636, 637, 638, 554, 555, 556, 796, 797, 798, 799, 800, 801, 802, 803, 1187, 1188, 1189, 1190, 1191, 1192, 1193, 1194, 1195, 1196, 1197, 1250, 1251, 1252, 1253, 1254, 1255, 1256, 1257, 1258, 1259, 1260, 1261, 1262, 1263, 1264, 1240, 1265, 1266, 1267, 1268, 1269] (by decide +kernel) (by decide +kernel)) (goodIn_sub (fun _ h => List.mem_append_right _ h) (by decide +kernel))) (goodIn_sub (fun _ h => List.mem_append_left _ (List.mem_append_left _ (List.mem_append_right _ h))) (by decide +kernel))
set_option maxRecDepth 20000 in
theorem gL_law__L_where : GoodIn wsL_law_ (va_wsS RL 171 yL_where wsL_where) := goodIn_app (goodIn_of _ (by decide +kernel)) ggL_law__L_where
set_option maxRecDepth 20000 in
theorem ggL_law__X11_where : GoodIn wsL_law_ wsX11_where := goodIn_r _ [826, 198, 734, 735, 736, 5, 737, 643, 644, 645, 646, 364, 371, 372, 373, 374, 375, 376, 377, 562, 563, 564, 808, 809, 810, 811, 742, 743, 744, 745, 483, 172, 174, 746, 747, 748, 749, 750, 175, 170, 176, 178, 565, 566, 567, 568, 168, 647, 648, 649, 650, 651, 652, 171, 169, 653, 654, 655, 656, 657, 658, 166, 659, 660, 661, 662, 164, 163, 165, 663, 432, 167, 664, 665, 666, 667, 668, 669, 670, 671, 672, 673, 674, 675, 676, 677, 573, 574, 575, 812, 813, 814, 815, 751, 752, 753, 754, 1198, 1199, 1200, 1201, 1202, 1203, 1204, 1205, 1206, 1207, 1208, 1209, 1210, 1211, 1212, 1213, 1214, 1215, 1216, 1217, 1218, 1219, 1220, 1221, 1222, 1223, 1224, 1225, 1226, 1227, 1228, 1229, 1230, 1231, 1232, 1233, 1234, 1235, 1236, 1237, 1238, 1239] (by decide +kernel) (by decide +kernel)
set_option maxRecDepth 20000 in
theorem gL_law__X11_where : GoodIn wsL_law_ (wsV RL 173 RX11 yX11_where wsX11_where) := goodIn_app (goodIn_of _ (by decide +kernel)) ggL_law__X11_where
set_option maxRecDepth 20000 in
theorem ggL_law__L_slip : GoodIn wsL_law_ wsL_slip := goodIn_ca (goodIn_ca (goodIn_r _ [829, 579, 204, 830, 831, 832, 2, 833, 32, 27, 476, 584, 585, 586, 587, 588, 589, 209, 22, 590, 591, 592, 214, 215, 216, 217, 218, 219, 220, 221, 542, 543, 544, 716, 717, 718, 31, 719, 105, 106, 88, 89, 90, 91, 92, 93, 94, 720, 357, 358, 15, 359, 45, 721, 722, 723, 724, 621, 41, 42, 43, 725, 726, 727, 728, 557, 237, 238, 239, 97, 98, 99, 100, 111, 112, 113, 114, 729, 546, 547, 548, 549, 107, 108, 109, 110, 593, 594, 595, 596, 597, 598, 599, 600, 601, 602, 95, 603, 604, 605, 35, 606, 355, 152, 153, 607, 608, 609, 610, 611, 612, 613, 614, 615, 616, 245, 246, 617, 618, 619, 620, 622, 623, 624, 625, 626, 627, 628, 629, 630, 631, 632, 633, 634, 635, 636, 637, 638, 554, 555, 556, 550, 551, 552, 553, 834, 835, 836, 837, 1187, 1188, 1189, 1190, 1191, 1192, 1193, 1194, 1195, 1196, 1197, 1250, 1251, 1252, 1253, 1254, 1255, 1256, 1257, 1258, 1259, 1260, 1261, 1262, 1263, 1264, 1240, 1265, 1266, 1267, 1268, 1269] (by decide +kernel) (by decide +kernel)) (goodIn_sub (fun _ h => List.mem_append_right _ h) (by decide +kernel))) (goodIn_sub (fun _ h => List.mem_append_left _ (List.mem_append_left _ (List.mem_append_right _ h))) (by decide +kernel))
set_option maxRecDepth 20000 in
theorem gL_law__L_slip : GoodIn wsL_law_ (va_wsS RL 174 yL_slip wsL_slip) := goodIn_app (goodIn_of _ (by decide +kernel)) ggL_law__L_slip
set_option maxRecDepth 20000 in
theorem ggL_law__X11_slip : GoodIn wsL_law_ wsX11_slip := goodIn_r _ [841, 198, 44, 172, 734, 735, 736, 5, 737, 643, 644, 645, 646, 364, 371, 372, 373, 374, 375, 376, 377, 562, 563, 564, 738, 739, 740, 741, 742, 743, 744, 745, 483, 174, 746, 747, 748, 749, 750, 175, 170, 176, 178, 565, 566, 567, 568, 168, 647, 648, 649, 650, 651, 652, 171, 169, 653, 654, 655, 656, 657, 658, 166, 659, 660, 661, 662, 164, 163, 165, 663, 432, 167, 664, 665, 666, 667, 668, 669, 670, 671, 672, 673, 674, 675, 676, 677, 573, 574, 575, 569, 570, 571, 572, 751, 752, 753, 754, 1198, 1199, 1200, 1201, 1202, 1203, 1204, 1205, 1206, 1207, 1208, 1209, 1210, 1211, 1212, 1213, 1214, 1215, 1216, 1217, 1218, 1219, 1220, 1221, 1222, 1223, 1224, 1225, 1226, 1227, 1228, 1229, 1230, 1231, 1232, 1233, 1234, 1235, 1236, 1237, 1238, 1239] (by decide +kernel) (by decide +kernel)
set_option maxRecDepth 20000 in
theorem gL_law__X11_slip : GoodIn wsL_law_ (wsV RL 176 RX11 yX11_slip wsX11_slip) := goodIn_app (goodIn_of _ (by decide +kernel)) ggL_law__X11_slip
set_option maxRecDepth 20000 in
theorem ggL_law__L_film : GoodIn wsL_law_ wsL_film := goodIn_ca (goodIn_ca (goodIn_r _ [844, 515, 204, 845, 846, 847, 2, 848, 849, 850, 27, 851, 521, 522, 523, 524, 525, 526, 476, 477, 214, 215, 216, 217, 218, 219, 220, 221, 852, 853, 854, 69, 855, 856, 119, 120, 121, 122, 857, 98, 99, 15, 100, 45, 1187, 1188, 1189, 1190, 1191, 1192, 1193, 1194, 1195, 1196, 1197, 1250, 1251, 1252, 1253, 1254, 1255, 1256, 1257, 1258, 1259, 1260, 1261, 1262, 1263, 1264, 1274, 1275, 1276, 1277, 1278, 1240] (by decide +kernel) (by decide +kernel)) (goodIn_sub (fun _ h => List.mem_append_left _ (List.mem_append_right _ h)) (by decide +kernel))) (goodIn_sub (fun _ h => List.mem_append_left _ (List.mem_append_left _ (List.mem_append_right _ h))) (by decide +kernel))
set_option maxRecDepth 20000 in
theorem gL_law__L_film : GoodIn wsL_law_ (va_wsS RL 177 yL_film wsL_film) := goodIn_app (goodIn_of _ (by decide +kernel)) ggL_law__L_film
set_option maxRecDepth 20000 in
theorem ggL_law__X11_film : GoodIn wsL_law_ wsX11_film := goodIn_r _ [861, 198, 653, 654, 862, 179, 531, 532, 533, 5, 534, 168, 371, 372, 373, 374, 375, 376, 377, 1198, 1199, 1200, 1201, 1202, 1203, 1204, 1205, 1206, 1207, 1208, 1209, 1210, 1211, 1212, 1213, 1214, 1215, 1216, 1217, 1218, 1219, 1220, 1221, 1222, 1223, 1224, 1225, 1226, 1227, 1228, 1229, 1230, 1231, 1232, 1233, 1234, 1235, 1236, 1237, 1238, 1239] (by decide +kernel) (by decide +kernel)
set_option maxRecDepth 20000 in
theorem gL_law__X11_film : GoodIn wsL_law_ (wsV RL 179 RX11 yX11_film wsX11_film) := goodIn_app (goodIn_of _ (by decide +kernel)) ggL_law__X11_film
set_option maxRecDepth 20000 in
theorem ggL_law__L_barred : GoodIn wsL_law_ wsL_barred := goodIn_ca (goodIn_ca (goodIn_r _ [865, 579, 204, 866, 867, 868, 2, 869, 850, 32, 27, 476, 851, 584, 585, 586, 587, 588, 589, 209, 22, 590, 591, 592, 214, 215, 216, 217, 218, 219, 220, 221, 542, 543, 544, 716, 717, 718, 31, 719, 105, 106, 88, 89, 90, 91, 92, 93, 94, 720, 357, 358, 15, 359, 45, 725, 726, 727, 728, 557, 237, 238, 239, 97, 98, 99, 100, 111, 112, 113, 114, 729, 546, 547, 548, 549, 41, 42, 43, 107, 108, 109, 110, 593, 594, 595, 596, 597, 598, 599, 600, 601, 602, 95, 603, 604, 605, 35, 606, 355, 152, 153, 607, 608, 609, 610, 611, 612, 613, 614, 615, 616, 245, 246, 617, 618, 619, 620, 621, 622, 623, 624, 625, 626, 627, 628, 629, 630, 631, 632, 633, 634, 635, 636, 637, 638, 554, 555, 556, 870, 871, 872, 69, 873, 856, 120, 119, 874, 121, 875, 876, 122, 877, 878, 1187, 1188, 1189, 1190, 1191, 1192, 1193, 1194, 1195, 1196, 1197, 1250, 1251, 1252, 1253, 1254, 1255, 1256, 1257, 1258, 1259, 1260, 1261, 1262, 1263, 1264, 1240, 1265, 1266, 1267, 1268, 1269, 1274, 1275, 1276, 1277, 1278] (by decide +kernel) (by decide +kernel)) (goodIn_sub (fun _ h => List.mem_append_right _ h) (by decide +kernel))) (goodIn_sub (fun _ h => List.mem_append_left _ (List.mem_append_left _ (List.mem_append_right _ h))) (by decide +kernel))
set_option maxRecDepth 20000 in
theorem gL_law__L_barred : GoodIn wsL_law_ (va_wsS RL 180 yL_barred wsL_barred) := goodIn_app (goodIn_of _ (by decide +kernel)) ggL_law__L_barred
set_option maxRecDepth 20000 in
theorem ggL_law__X11_barred : GoodIn wsL_law_ wsX11_barred := goodIn_r _ [882, 198, 654, 862, 179, 168, 170, 643, 644, 645, 5, 646, 364, 371, 372, 373, 374, 375, 376, 377, 562, 563, 564, 742, 743, 744, 745, 483, 172, 174, 746, 747, 748, 749, 750, 175, 176, 178, 565, 566, 567, 568, 647, 648, 649, 650, 651, 652, 171, 169, 653, 655, 656, 657, 658, 166, 659, 660, 661, 662, 164, 163, 165, 663, 432, 167, 664, 665, 666, 667, 668, 669, 670, 671, 672, 673, 674, 675, 676, 677, 573, 574, 575, 751, 752, 753, 754, 1198, 1199, 1200, 1201, 1202, 1203, 1204, 1205, 1206, 1207, 1208, 1209, 1210, 1211, 1212, 1213, 1214, 1215, 1216, 1217, 1218, 1219, 1220, 1221, 1222, 1223, 1224, 1225, 1226, 1227, 1228, 1229, 1230, 1231, 1232, 1233, 1234, 1235, 1236, 1237, 1238, 1239] (by decide +kernel) (by decide +kernel)
set_option maxRecDepth 20000 in
theorem gL_law__X11_barred : GoodIn wsL_law_ (wsV RL 183 RX11 yX11_barred wsX11_barred) := goodIn_app (goodIn_of _ (by decide +kernel)) ggL_law__X11_barred
set_option maxRecDepth 20000 in
theorem ggL_law__L_mend : GoodIn wsL_law_ wsL_mend := goodIn_ca (goodIn_r _ [885, 204, 886, 887, 888, 2, 889, 890, 891, 27, 892, 214, 215, 216, 217, 218, 219, 220, 221, 893, 894, 895, 73, 896, 897, 128, 129, 130, 898, 98, 99, 15, 100, 45, 1187, 1188, 1189, 1190, 1191, 1192, 1193, 1194, 1195, 1196, 1197, 1250, 1251, 1252, 1253, 1254, 1279, 1280, 1281, 1282, 1240] (by decide +kernel) (by decide +kernel)) (goodIn_sub (fun _ h => List.mem_append_left _ (List.mem_append_left _ (List.mem_append_right _ h))) (by decide +kernel))
set_option maxRecDepth 20000 in
theorem gL_law__L_mend : GoodIn wsL_law_ (va_wsS RL 184 yL_mend wsL_mend) := goodIn_app (goodIn_of _ (by decide +kernel)) ggL_law__L_mend
set_option maxRecDepth 20000 in
theorem ggL_law__X11_mend : GoodIn wsL_law_ wsX11_mend := goodIn_r _ [902, 198, 903, 511, 904, 180, 371, 372, 5, 373, 374, 375, 376, 377, 1198, 1199, 1200, 1201, 1202, 1203, 1204, 1205, 1206, 1207, 1208, 1209, 1210, 1211, 1212, 1213, 1214, 1215, 1216, 1217, 1218, 1219, 1220, 1221, 1222, 1223, 1224, 1225, 1226, 1227, 1228, 1229, 1230, 1231, 1232, 1233, 1234, 1235, 1236, 1237, 1238, 1239] (by decide +kernel) (by decide +kernel)
set_option maxRecDepth 20000 in
theorem gL_law__X11_mend : GoodIn wsL_law_ (wsV RL 186 RX11 yX11_mend wsX11_mend) := goodIn_app (goodIn_of _ (by decide +kernel)) ggL_law__X11_mend
set_option maxRecDepth 20000 in
theorem ggL_law__L_calm : GoodIn wsL_law_ wsL_calm := goodIn_ca (goodIn_ca (goodIn_r _ [907, 579, 204, 908, 909, 910, 2, 911, 32, 27, 476, 584, 585, 586, 587, 588, 589, 209, 22, 590, 591, 592, 214, 215, 216, 217, 218, 219, 220, 221, 716, 717, 718, 31, 719, 105, 106, 88, 89, 90, 91, 92, 93, 94, 720, 357, 358, 15, 359, 45, 912, 913, 914, 915, 721, 722, 723, 724, 621, 41, 42, 43, 725, 726, 727, 728, 557, 237, 238, 239, 97, 98, 99, 100, 111, 112, 113, 114, 729, 546, 547, 548, 549, 107, 108, 109, 110, 593, 594, 595, 596, 597, 598, 599, 600, 601, 602, 95, 603, 604, 605, 35, 606, 355, 152, 153, 607, 608, 609, 610, 611, 612, 613, 614, 615, 616, 245, 246, 617, 618, 619, 620, 622, 623, 624, 625, 626, 627, 628, 629, 630, 631, 632, 633, 634, 635, 636, 637, 638, 554, 555, 556, 550, 551, 552, 553, 1187, 1188, 1189, 1190, 1191, 1192, 1193, 1194, 1195, 1196, 1197, 1250, 1251, 1252, 1253, 1254, 1255, 1256, 1257, 1258, 1259, 1260, 1261, 1262, 1263, 1264, 1240, 1265, 1266, 1267, 1268, 1269] (by decide +kernel) (by decide +kernel)) (goodIn_sub (fun _ h => List.mem_append_right _ h) (by decide +kernel))) (goodIn_sub (fun _ h => List.mem_append_left _ (List.mem_append_left _ (List.mem_append_right _ h))) (by decide +kernel))
set_option maxRecDepth 20000 in
theorem gL_law__L_calm : GoodIn wsL_law_ (va_wsS RL 187 yL_calm wsL_calm) := goodIn_app (goodIn_of _ (by decide +kernel)) ggL_law__L_calm
set_option maxRecDepth 20000 in
theorem ggL_law__X11_calm : GoodIn wsL_law_ wsX11_calm := goodIn_r _ [919, 198, 734, 735, 736, 5, 737, 643, 644, 645, 646, 364, 371, 372, 373, 374, 375, 376, 377, 562, 563, 564, 920, 921, 922, 923, 738, 739, 740, 741, 742, 743, 744, 745, 483, 172, 174, 746, 747, 748, 749, 750, 175, 170, 176, 178, 565, 566, 567, 568, 168, 647, 648, 649, 650, 651, 652, 171, 169, 653, 654, 655, 656, 657, 658, 166, 659, 660, 661, 662, 164, 163, 165, 663, 432, 167, 664, 665, 666, 667, 668, 669, 670, 671, 672, 673, 674, 675, 676, 677, 573, 574, 575, 569, 570, 571, 572, 751, 752, 753, 754, 1198, 1199, 1200, 1201, 1202, 1203, 1204, 1205, 1206, 1207, 1208, 1209, 1210, 1211, 1212, 1213, 1214, 1215, 1216, 1217, 1218, 1219, 1220, 1221, 1222, 1223, 1224, 1225, 1226, 1227, 1228, 1229, 1230, 1231, 1232, 1233, 1234, 1235, 1236, 1237, 1238, 1239] (by decide +kernel) (by decide +kernel)
set_option maxRecDepth 20000 in
theorem gL_law__X11_calm : GoodIn wsL_law_ (wsV RL 189 RX11 yX11_calm wsX11_calm) := goodIn_app (goodIn_of _ (by decide +kernel)) ggL_law__X11_calm
set_option maxRecDepth 20000 in
theorem ggL_law__L_mended : GoodIn wsL_law_ wsL_mended := goodIn_ca (goodIn_ca (goodIn_r _ [926, 579, 204, 927, 928, 929, 2, 930, 27, 892, 931, 32, 476, 584, 585, 586, 587, 588, 589, 209, 22, 590, 591, 592, 214, 215, 216, 217, 218, 219, 220, 221, 932, 933, 934, 73, 935, 897, 130, 936, 237, 238, 15, 239, 45, 716, 717, 718, 31, 719, 105, 106, 88, 89, 90, 91, 92, 93, 94, 720, 357, 358, 359, 937, 938, 939, 940, 941, 942, 943, 944, 128, 129, 945, 946, 947, 948, 557, 493, 494, 495, 497, 498, 499, 618, 619, 620, 245, 42, 246, 621, 41, 43, 97, 98, 99, 100, 912, 913, 914, 915, 721, 722, 723, 724, 725, 726, 727, 728, 111, 112, 113, 114, 729, 546, 547, 548, 549, 107, 108, 109, 110, 593, 594, 595, 596, 597, 598, 599, 600, 601, 602, 95, 603, 604, 605, 35, 606, 355, 152, 153, 607, 608, 609, 610, 611, 612, 613, 614, 615, 616, 617, 622, 623, 624, 625, 626, 627, 628, 629, 630, 631, 632, 633, 634, 635, 636, 637, 638, 554, 555, 556, 550, 551, 552, 553, 1187, 1188, 1189, 1190, 1191, 1192, 1193, 1194, 1195, 1196, 1197, 1250, 1251, 1252, 1253, 1254, 1279, 1280, 1281, 1282, 1240, 1255, 1256, 1257, 1258, 1259, 1260, 1261, 1262, 1263, 1264, 1265, 1266, 1267, 1268, 1269] (by decide +kernel) (by decide +kernel)) (goodIn_sub (fun _ h => List.mem_append_right _ h) (by decide +kernel))) (goodIn_sub (fun _ h => List.mem_append_left _ (List.mem_append_left _ (List.mem_append_right _ h))) (by decide +kernel))
set_option maxRecDepth 20000 in
theorem gL_law__L_mended : GoodIn wsL_law_ (va_wsS RL 190 yL_mended wsL_mended) := goodIn_app (goodIn_of _ (by decide +kernel)) ggL_law__L_mended
set_option maxRecDepth 20000 in
theorem ggL_law__X11_mended : GoodIn wsL_law_ wsX11_mended := goodIn_r _ [952, 198, 904, 180, 177, 169, 734, 735, 736, 5, 737, 643, 644, 645, 646, 364, 371, 372, 373, 374, 375, 376, 377, 562, 563, 564, 953, 954, 955, 956, 505, 506, 507, 508, 509, 510, 511, 667, 668, 669, 920, 921, 922, 923, 738, 739, 740, 741, 742, 743, 744, 745, 483, 172, 174, 746, 747, 748, 749, 750, 175, 170, 176, 178, 565, 566, 567, 568, 168, 647, 648, 649, 650, 651, 652, 171, 653, 654, 655, 656, 657, 658, 166, 659, 660, 661, 662, 164, 163, 165, 663, 432, 167, 664, 665, 666, 670, 671, 672, 673, 674, 675, 676, 677, 573, 574, 575, 569, 570, 571, 572, 751, 752, 753, 754, 1198, 1199, 1200, 1201, 1202, 1203, 1204, 1205, 1206, 1207, 1208, 1209, 1210, 1211, 1212, 1213, 1214, 1215, 1216, 1217, 1218, 1219, 1220, 1221, 1222, 1223, 1224, 1225, 1226, 1227, 1228, 1229, 1230, 1231, 1232, 1233, 1234, 1235, 1236, 1237, 1238, 1239] (by decide +kernel) (by decide +kernel)
set_option maxRecDepth 20000 in
theorem gL_law__X11_mended : GoodIn wsL_law_ (wsV RL 192 RX11 yX11_mended wsX11_mended) := goodIn_app (goodIn_of _ (by decide +kernel)) ggL_law__X11_mended
set_option maxRecDepth 20000 in
theorem ggL_law__L_week : GoodIn wsL_law_ wsL_week := goodIn_ca (goodIn_ca (goodIn_r _ [959, 579, 204, 960, 961, 962, 2, 963, 27, 892, 931, 33, 476, 584, 585, 586, 587, 588, 589, 209, 22, 217, 218, 219, 220, 221, 716, 717, 718, 31, 719, 105, 106, 88, 89, 90, 91, 92, 93, 94, 720, 357, 358, 15, 359, 45, 964, 965, 966, 967, 32, 968, 942, 943, 73, 944, 128, 129, 936, 237, 238, 239, 945, 946, 947, 948, 557, 493, 494, 495, 497, 498, 499, 618, 619, 620, 245, 42, 246, 621, 41, 43, 97, 98, 99, 100, 912, 913, 914, 915, 721, 722, 723, 724, 725, 726, 727, 728, 111, 112, 113, 114, 729, 546, 547, 548, 549, 107, 108, 109, 110, 593, 594, 595, 596, 597, 598, 599, 600, 601, 602, 95, 603, 604, 605, 35, 606, 355, 152, 153, 607, 608, 609, 610, 611, 612, 613, 614, 615, 616, 617, 622, 623, 624, 625, 626, 627, 628, 629, 630, 631, 632, 633, 634, 635, 636, 637, 638, 554, 555, 556, 550, 551, 552, 553, 1187, 1188, 1189, 1190, 1191, 1192, 1193, 1194, 1195, 1196, 1197, 1250, 1251, 1252, 1253, 1254, 1279, 1280, 1281, 1282, 1255, 1256, 1257, 1258, 1259, 1260, 1261, 1262, 1263, 1264, 1240, 1265, 1266, 1267, 1268, 1269] (by decide +kernel) (by decide +kernel)) (goodIn_sub (fun _ h => List.mem_append_right _ h) (by decide +kernel))) (goodIn_sub (fun _ h => List.mem_append_left _ (List.mem_append_left _ (List.mem_append_right _ h))) (by decide +kernel))
set_option maxRecDepth 20000 in
theorem gL_law__L_week : GoodIn wsL_law_ (va_wsS RL 193 yL_week wsL_week) := goodIn_app (goodIn_of _ (by decide +kernel)) ggL_law__L_week
set_option maxRecDepth 20000 in
theorem ggL_law__X11_week : GoodIn wsL_law_ wsX11_week := goodIn_r _ [972, 198, 904, 44, 169, 177, 643, 644, 645, 5, 646, 364, 371, 372, 373, 374, 375, 376, 377, 953, 954, 955, 956, 180, 505, 506, 507, 508, 509, 510, 511, 667, 668, 669, 973, 974, 975, 976, 920, 921, 922, 923, 738, 739, 740, 741, 742, 743, 744, 745, 483, 172, 174, 746, 747, 748, 749, 750, 175, 170, 176, 178, 565, 566, 567, 568, 168, 647, 648, 649, 650, 651, 652, 171, 653, 654, 655, 656, 657, 658, 166, 659, 660, 661, 662, 164, 163, 165, 663, 432, 167, 664, 665, 666, 670, 671, 672, 673, 674, 675, 676, 677, 573, 574, 575, 569, 570, 571, 572, 751, 752, 753, 754, 1198, 1199, 1200, 1201, 1202, 1203, 1204, 1205, 1206, 1207, 1208, 1209, 1210, 1211, 1212, 1213, 1214, 1215, 1216, 1217, 1218, 1219, 1220, 1221, 1222, 1223, 1224, 1225, 1226, 1227, 1228, 1229, 1230, 1231, 1232, 1233, 1234, 1235, 1236, 1237, 1238, 1239] (by decide +kernel) (by decide +kernel)
set_option maxRecDepth 20000 in
theorem gL_law__X11_week : GoodIn wsL_law_ (wsV RL 195 RX11 yX11_week wsX11_week) := goodIn_app (goodIn_of _ (by decide +kernel)) ggL_law__X11_week
set_option maxRecDepth 20000 in
theorem ggL_law__L_span : GoodIn wsL_law_ wsL_span := goodIn_ca (goodIn_ca (goodIn_r _ [979, 579, 204, 980, 981, 982, 2, 983, 32, 27, 476, 621, 41, 42, 43, 584, 585, 586, 587, 588, 589, 209, 22, 542, 543, 544, 214, 215, 216, 217, 218, 219, 220, 221, 716, 717, 718, 31, 719, 105, 106, 88, 89, 90, 91, 92, 93, 94, 720, 357, 358, 15, 359, 45, 762, 763, 764, 765, 721, 722, 723, 724, 725, 726, 727, 728, 557, 237, 238, 239, 97, 98, 99, 100, 111, 112, 113, 114, 729, 546, 547, 548, 549, 107, 108, 109, 110, 593, 594, 595, 596, 597, 598, 599, 600, 601, 602, 95, 603, 604, 605, 35, 606, 355, 152, 153, 607, 608, 609, 610, 611, 612, 613, 614, 615, 616, 245, 246, 617, 618, 619, 620, 622, 623, 624, 625, 626, 627, 628, 629, 630, 631, 632, 633, 634, 635, 636, 637, 638, 554, 555, 556, 550, 551, 552, 553, 984, 985, 986, 1187, 1188, 1189, 1190, 1191, 1192, 1193, 1194, 1195, 1196, 1197, 1250, 1251, 1252, 1253, 1254, 1255, 1256, 1257, 1258, 1259, 1260, 1261, 1262, 1263, 1264, 1240, 1265, 1266, 1267, 1268, 1269] (by decide +kernel) (by decide +kernel)) (goodIn_sub (fun _ h => List.mem_append_right _ h) (by decide +kernel))) (goodIn_sub (fun _ h => List.mem_append_left _ (List.mem_append_left _ (List.mem_append_right _ h))) (by decide +kernel))
set_option maxRecDepth 20000 in
theorem gL_law__L_span : GoodIn wsL_law_ (va_wsS RL 196 yL_span wsL_span) := goodIn_app (goodIn_of _ (by decide +kernel)) ggL_law__L_span
set_option maxRecDepth 20000 in
theorem ggL_law__X11_span : GoodIn wsL_law_ wsX11_span := goodIn_r _ [990, 198, 167, 734, 735, 736, 5, 737, 643, 644, 645, 646, 364, 371, 372, 373, 374, 375, 376, 377, 562, 563, 564, 770, 771, 772, 773, 738, 739, 740, 741, 742, 743, 744, 745, 483, 172, 174, 746, 747, 748, 749, 750, 175, 170, 176, 178, 565, 566, 567, 568, 168, 647, 648, 649, 650, 651, 652, 171, 169, 653, 654, 655, 656, 657, 658, 166, 659, 660, 661, 662, 164, 163, 165, 663, 432, 664, 665, 666, 667, 668, 669, 670, 671, 672, 673, 674, 675, 676, 677, 573, 574, 575, 569, 570, 571, 572, 751, 752, 753, 754, 1198, 1199, 1200, 1201, 1202, 1203, 1204, 1205, 1206, 1207, 1208, 1209, 1210, 1211, 1212, 1213, 1214, 1215, 1216, 1217, 1218, 1219, 1220, 1221, 1222, 1223, 1224, 1225, 1226, 1227, 1228, 1229, 1230, 1231, 1232, 1233, 1234, 1235, 1236, 1237, 1238, 1239] (by decide +kernel) (by decide +kernel)
set_option maxRecDepth 20000 in
theorem gL_law__X11_span : GoodIn wsL_law_ (wsV RL 198 RX11 yX11_span wsX11_span) := goodIn_app (goodIn_of _ (by decide +kernel)) ggL_law__X11_span
set_option maxRecDepth 20000 in
theorem ggL_law__L_bridge : GoodIn wsL_law_ wsL_bridge := goodIn_ca (goodIn_r _ [993, 204, 994, 995, 996, 2, 997, 27, 998, 214, 215, 216, 217, 218, 219, 220, 221, 999, 1000, 1001, 77, 1002, 1003, 136, 137, 1004, 98, 99, 15, 100, 45, 1187, 1188, 1189, 1190, 1191, 1192, 1193, 1194, 1195, 1196, 1197, 1250, 1251, 1252, 1253, 1254, 1283, 1284, 1285, 1240] (by decide +kernel) (by decide +kernel)) (goodIn_sub (fun _ h => List.mem_append_left _ (List.mem_append_left _ (List.mem_append_right _ h))) (by decide +kernel))
set_option maxRecDepth 20000 in
theorem gL_law__L_bridge : GoodIn wsL_law_ (va_wsS RL 199 yL_bridge wsL_bridge) := goodIn_app (goodIn_of _ (by decide +kernel)) ggL_law__L_bridge
set_option maxRecDepth 20000 in
theorem ggL_law__X11_bridge : GoodIn wsL_law_ wsX11_bridge := goodIn_r _ [1008, 198, 1009, 181, 371, 372, 5, 373, 374, 375, 376, 377, 1198, 1199, 1200, 1201, 1202, 1203, 1204, 1205, 1206, 1207, 1208, 1209, 1210, 1211, 1212, 1213, 1214, 1215, 1216, 1217, 1218, 1219, 1220, 1221, 1222, 1223, 1224, 1225, 1226, 1227, 1228, 1229, 1230, 1231, 1232, 1233, 1234, 1235, 1236, 1237, 1238, 1239] (by decide +kernel) (by decide +kernel)
set_option maxRecDepth 20000 in
theorem gL_law__X11_bridge : GoodIn wsL_law_ (wsV RL 201 RX11 yX11_bridge wsX11_bridge) := goodIn_app (goodIn_of _ (by decide +kernel)) ggL_law__X11_bridge
set_option maxRecDepth 20000 in
theorem ggL_law__L_blows : GoodIn wsL_law_ wsL_blows := goodIn_ca (goodIn_ca (goodIn_r _ [1012, 515, 204, 1013, 1014, 1015, 2, 1016, 27, 998, 1017, 1018, 1019, 1020, 525, 526, 1021, 214, 215, 216, 217, 218, 219, 220, 221, 1022, 1023, 1024, 77, 1025, 137, 1026, 237, 238, 15, 239, 45, 1004, 98, 99, 100, 1187, 1188, 1189, 1190, 1191, 1192, 1193, 1194, 1195, 1196, 1197, 1250, 1251, 1252, 1253, 1254, 1283, 1284, 1285, 1240] (by decide +kernel) (by decide +kernel)) (goodIn_sub (fun _ h => List.mem_append_left _ (List.mem_append_right _ h)) (by decide +kernel))) (goodIn_sub (fun _ h => List.mem_append_left _ (List.mem_append_left _ (List.mem_append_right _ h))) (by decide +kernel))
set_option maxRecDepth 20000 in
theorem gL_law__L_blows : GoodIn wsL_law_ (va_wsS RL 202 yL_blows wsL_blows) := goodIn_app (goodIn_of _ (by decide +kernel)) ggL_law__L_blows
set_option maxRecDepth 20000 in
theorem ggL_law__X11_blows : GoodIn wsL_law_ wsX11_blows := goodIn_r _ [1030, 198, 181, 1031, 1032, 1033, 5, 1034, 1009, 371, 372, 373, 374, 375, 376, 377, 1198, 1199, 1200, 1201, 1202, 1203, 1204, 1205, 1206, 1207, 1208, 1209, 1210, 1211, 1212, 1213, 1214, 1215, 1216, 1217, 1218, 1219, 1220, 1221, 1222, 1223, 1224, 1225, 1226, 1227, 1228, 1229, 1230, 1231, 1232, 1233, 1234, 1235, 1236, 1237, 1238, 1239] (by decide +kernel) (by decide +kernel)
set_option maxRecDepth 20000 in
theorem gL_law__X11_blows : GoodIn wsL_law_ (wsV RL 204 RX11 yX11_blows wsX11_blows) := goodIn_app (goodIn_of _ (by decide +kernel)) ggL_law__X11_blows
set_option maxRecDepth 20000 in
theorem ggL_law__L_hours : GoodIn wsL_law_ wsL_hours := goodIn_ca (goodIn_r _ [1037, 515, 1038, 1039, 1040, 2, 1041, 27, 998, 1017, 1018, 1019, 1020, 525, 526, 1021, 214, 215, 216, 1042, 1043, 1044, 77, 1045, 136, 137, 1026, 237, 238, 15, 239, 45, 1187, 1188, 1189, 1190, 1191, 1192, 1193, 1194, 1195, 1196, 1197, 1250, 1251, 1252, 1253, 1254, 1283, 1284, 1285, 1240] (by decide +kernel) (by decide +kernel)) (goodIn_sub (fun _ h => List.mem_append_left _ (List.mem_append_right _ h)) (by decide +kernel))
set_option maxRecDepth 20000 in
theorem gL_law__L_hours : GoodIn wsL_law_ (va_wsS RL 205 yL_hours wsL_hours) := goodIn_app (goodIn_of _ (by decide +kernel)) ggL_law__L_hours
set_option maxRecDepth 20000 in
theorem ggL_law__X11_hours : GoodIn wsL_law_ wsX11_hours := goodIn_r _ [1049, 198, 181, 1031, 1032, 1033, 5, 1034, 1009, 371, 372, 373, 374, 375, 376, 377, 1198, 1199, 1200, 1201, 1202, 1203, 1204, 1205, 1206, 1207, 1208, 1209, 1210, 1211, 1212, 1213, 1214, 1215, 1216, 1217, 1218, 1219, 1220, 1221, 1222, 1223, 1224, 1225, 1226, 1227, 1228, 1229, 1230, 1231, 1232, 1233, 1234, 1235, 1236, 1237, 1238, 1239] (by decide +kernel) (by decide +kernel)
set_option maxRecDepth 20000 in
theorem gL_law__X11_hours : GoodIn wsL_law_ (wsV RL 207 RX11 yX11_hours wsX11_hours) := goodIn_app (goodIn_of _ (by decide +kernel)) ggL_law__X11_hours
set_option maxRecDepth 20000 in
theorem ggL_law__L_paper : GoodIn wsL_law_ wsL_paper := goodIn_ca (goodIn_r _ [1052, 204, 1053, 1054, 1055, 2, 1056, 27, 1057, 214, 215, 216, 217, 218, 219, 220, 221, 1058, 1059, 1060, 81, 1061, 1062, 143, 144, 145, 1063, 98, 99, 15, 100, 45, 1187, 1188, 1189, 1190, 1191, 1192, 1193, 1194, 1195, 1196, 1197, 1250, 1251, 1252, 1253, 1254, 1286, 1287, 1288, 1289, 1240] (by decide +kernel) (by decide +kernel)) (goodIn_sub (fun _ h => List.mem_append_left _ (List.mem_append_left _ (List.mem_append_right _ h))) (by decide +kernel))
set_option maxRecDepth 20000 in
theorem gL_law__L_paper : GoodIn wsL_law_ (va_wsS RL 208 yL_paper wsL_paper) := goodIn_app (goodIn_of _ (by decide +kernel)) ggL_law__L_paper
set_option maxRecDepth 20000 in
theorem ggL_law__X11_paper : GoodIn wsL_law_ wsX11_paper := goodIn_r _ [1067, 198, 1068, 182, 371, 372, 5, 373, 374, 375, 376, 377, 1198, 1199, 1200, 1201, 1202, 1203, 1204, 1205, 1206, 1207, 1208, 1209, 1210, 1211, 1212, 1213, 1214, 1215, 1216, 1217, 1218, 1219, 1220, 1221, 1222, 1223, 1224, 1225, 1226, 1227, 1228, 1229, 1230, 1231, 1232, 1233, 1234, 1235, 1236, 1237, 1238, 1239] (by decide +kernel) (by decide +kernel)
set_option maxRecDepth 20000 in
theorem gL_law__X11_paper : GoodIn wsL_law_ (wsV RL 210 RX11 yX11_paper wsX11_paper) := goodIn_app (goodIn_of _ (by decide +kernel)) ggL_law__X11_paper
set_option maxRecDepth 20000 in
theorem ggL_law__L_known : GoodIn wsL_law_ wsL_known := goodIn_ca (goodIn_r _ [1071, 204, 1072, 1073, 1074, 2, 1075, 27, 1057, 214, 215, 216, 217, 218, 219, 220, 221, 1076, 1077, 1078, 81, 1079, 1062, 143, 145, 144, 1080, 237, 238, 15, 239, 45, 1187, 1188, 1189, 1190, 1191, 1192, 1193, 1194, 1195, 1196, 1197, 1250, 1251, 1252, 1253, 1254, 1286, 1287, 1288, 1289, 1240] (by decide +kernel) (by decide +kernel)) (goodIn_sub (fun _ h => List.mem_append_left _ (List.mem_append_left _ (List.mem_append_right _ h))) (by decide +kernel))
set_option maxRecDepth 20000 in
theorem gL_law__L_known : GoodIn wsL_law_ (va_wsS RL 211 yL_known wsL_known) := goodIn_app (goodIn_of _ (by decide +kernel)) ggL_law__L_known
set_option maxRecDepth 20000 in
theorem ggL_law__X11_known : GoodIn wsL_law_ wsX11_known := goodIn_r _ [1084, 198, 371, 372, 5, 373, 374, 375, 376, 377, 1085, 1086, 1087, 1088, 1068, 182, 1198, 1199, 1200, 1201, 1202, 1203, 1204, 1205, 1206, 1207, 1208, 1209, 1210, 1211, 1212, 1213, 1214, 1215, 1216, 1217, 1218, 1219, 1220, 1221, 1222, 1223, 1224, 1225, 1226, 1227, 1228, 1229, 1230, 1231, 1232, 1233, 1234, 1235, 1236, 1237, 1238, 1239] (by decide +kernel) (by decide +kernel)
set_option maxRecDepth 20000 in
theorem gL_law__X11_known : GoodIn wsL_law_ (wsV RL 213 RX11 yX11_known wsX11_known) := goodIn_app (goodIn_of _ (by decide +kernel)) ggL_law__X11_known
set_option maxRecDepth 20000 in
theorem ggL_law__L_could : GoodIn wsL_law_ wsL_could := goodIn_ca (goodIn_r _ [1091, 204, 1092, 1093, 1094, 2, 1095, 27, 1057, 214, 215, 216, 217, 218, 219, 220, 221, 1096, 1097, 1098, 81, 1099, 1062, 143, 1100, 1077, 1078, 1079, 145, 144, 1080, 237, 238, 15, 239, 45, 1187, 1188, 1189, 1190, 1191, 1192, 1193, 1194, 1195, 1196, 1197, 1250, 1251, 1252, 1253, 1254, 1286, 1287, 1288, 1289, 1240] (by decide +kernel) (by decide +kernel)) (goodIn_sub (fun _ h => List.mem_append_left _ (List.mem_append_left _ (List.mem_append_right _ h))) (by decide +kernel))
set_option maxRecDepth 20000 in
theorem gL_law__L_could : GoodIn wsL_law_ (va_wsS RL 214 yL_could wsL_could) := goodIn_app (goodIn_of _ (by decide +kernel)) ggL_law__L_could
set_option maxRecDepth 20000 in
theorem ggL_law__X11_could : GoodIn wsL_law_ wsX11_could := goodIn_r _ [1104, 198, 371, 372, 5, 373, 374, 375, 376, 377, 1085, 1086, 1087, 1088, 1068, 182, 1198, 1199, 1200, 1201, 1202, 1203, 1204, 1205, 1206, 1207, 1208, 1209, 1210, 1211, 1212, 1213, 1214, 1215, 1216, 1217, 1218, 1219, 1220, 1221, 1222, 1223, 1224, 1225, 1226, 1227, 1228, 1229, 1230, 1231, 1232, 1233, 1234, 1235, 1236, 1237, 1238, 1239] (by decide +kernel) (by decide +kernel)
set_option maxRecDepth 20000 in
theorem gL_law__X11_could : GoodIn wsL_law_ (wsV RL 216 RX11 yX11_could wsX11_could) := goodIn_app (goodIn_of _ (by decide +kernel)) ggL_law__X11_could
set_option maxRecDepth 20000 in
theorem ggL_law__L_shut : GoodIn wsL_law_ wsL_shut := goodIn_ca (goodIn_ca (goodIn_r _ [1107, 579, 204, 1108, 1109, 1110, 2, 1111, 850, 32, 27, 476, 584, 585, 586, 587, 588, 589, 209, 22, 590, 591, 592, 214, 215, 216, 217, 218, 219, 220, 221, 542, 543, 544, 716, 717, 718, 31, 719, 105, 106, 88, 89, 90, 91, 92, 93, 94, 720, 357, 358, 15, 359, 45, 725, 726, 727, 728, 557, 237, 238, 239, 97, 98, 99, 100, 111, 112, 113, 114, 729, 546, 547, 548, 549, 41, 42, 43, 107, 108, 109, 110, 593, 594, 595, 596, 597, 598, 599, 600, 601, 602, 95, 603, 604, 605, 35, 606, 355, 152, 153, 607, 608, 609, 610, 611, 612, 613, 614, 615, 616, 245, 246, 617, 618, 619, 620, 621, 622, 623, 624, 625, 626, 627, 628, 629, 630, 631, 632, 633, 634, 635, 636, 637, 638, 554, 555, 556, 550, 551, 552, 553, 1187, 1188, 1189, 1190, 1191, 1192, 1193, 1194, 1195, 1196, 1197, 1250, 1251, 1252, 1253, 1254, 1255, 1256, 1257, 1258, 1259, 1260, 1261, 1262, 1263, 1264, 1240, 1265, 1266, 1267, 1268, 1269] (by decide +kernel) (by decide +kernel)) (goodIn_sub (fun _ h => List.mem_append_right _ h) (by decide +kernel))) (goodIn_sub (fun _ h => List.mem_append_left _ (List.mem_append_left _ (List.mem_append_right _ h))) (by decide +kernel))
set_option maxRecDepth 20000 in
theorem gL_law__L_shut : GoodIn wsL_law_ (va_wsS RL 217 yL_shut wsL_shut) := goodIn_app (goodIn_of _ (by decide +kernel)) ggL_law__L_shut
set_option maxRecDepth 20000 in
theorem ggL_law__X11_shut : GoodIn wsL_law_ wsX11_shut := goodIn_r _ [1115, 198, 654, 643, 644, 645, 5, 646, 364, 371, 372, 373, 374, 375, 376, 377, 562, 563, 564, 742, 743, 744, 745, 483, 172, 174, 746, 747, 748, 749, 750, 175, 170, 176, 178, 565, 566, 567, 568, 168, 647, 648, 649, 650, 651, 652, 171, 169, 653, 655, 656, 657, 658, 166, 659, 660, 661, 662, 164, 163, 165, 663, 432, 167, 664, 665, 666, 667, 668, 669, 670, 671, 672, 673, 674, 675, 676, 677, 573, 574, 575, 569, 570, 571, 572, 751, 752, 753, 754, 1198, 1199, 1200, 1201, 1202, 1203, 1204, 1205, 1206, 1207, 1208, 1209, 1210, 1211, 1212, 1213, 1214, 1215, 1216, 1217, 1218, 1219, 1220, 1221, 1222, 1223, 1224, 1225, 1226, 1227, 1228, 1229, 1230, 1231, 1232, 1233, 1234, 1235, 1236, 1237, 1238, 1239] (by decide +kernel) (by decide +kernel)
set_option maxRecDepth 20000 in
theorem gL_law__X11_shut : GoodIn wsL_law_ (wsV RL 219 RX11 yX11_shut wsX11_shut) := goodIn_app (goodIn_of _ (by decide +kernel)) ggL_law__X11_shut
set_option maxRecDepth 20000 in
theorem ggL_law__X10_image : GoodIn wsL_law_ wsX10_image := goodIn_r _ [1119, 1120, 28, 27, 1121, 1122, 1123, 26, 1124, 66, 70, 74, 78, 82, 1125, 717, 718, 31, 719, 105, 106, 88, 89, 90, 91, 92, 93, 94, 720, 357, 358, 15, 359, 45, 1126, 1127, 1128, 69, 1129, 856, 119, 120, 121, 122, 1130, 1131, 1132, 1133, 73, 1134, 897, 128, 129, 130, 1135, 1136, 1137, 1138, 77, 1139, 1003, 136, 137, 1140, 1141, 1142, 1143, 81, 1144, 1062, 143, 144, 145, 1145, 1187, 1188, 1189, 1190, 1191, 1192, 1193, 1194, 1195, 1196, 1197, 1250, 1251, 1252, 1253, 1254, 1255, 1256, 1257, 1258, 1259, 1260, 1261, 1262, 1263, 1264, 1240, 1274, 1275, 1276, 1277, 1278, 1279, 1280, 1281, 1282, 1283, 1284, 1285, 1286, 1287, 1288, 1289] (by decide +kernel) (by decide +kernel)
set_option maxRecDepth 20000 in
theorem gL_law__X10_image : GoodIn wsL_law_ (wsV RL 220 RX10 yX10_image wsX10_image) := goodIn_app (goodIn_of _ (by decide +kernel)) ggL_law__X10_image
set_option maxRecDepth 20000 in
theorem ggL_law__X11_image : GoodIn wsL_law_ wsX11_image := goodIn_r _ [1149, 198, 1150, 1151, 1152, 1153, 5, 1154, 1155, 168, 483, 862, 904, 1009, 1068, 169, 172, 170, 174, 179, 180, 181, 182, 1156, 1157, 1158, 1159, 183, 1160, 1161, 1162, 1163, 1198, 1199, 1200, 1201, 1202, 1203, 1204, 1205, 1206, 1207, 1208, 1209, 1210, 1211, 1212, 1213, 1214, 1215, 1216, 1217, 1218, 1219, 1220, 1221, 1222, 1223, 1224, 1225, 1226, 1227, 1228, 1229, 1230, 1231, 1232, 1233, 1234, 1235, 1236, 1237, 1238, 1239] (by decide +kernel) (by decide +kernel)
set_option maxRecDepth 20000 in
theorem gL_law__X11_image : GoodIn wsL_law_ (wsV RL 223 RX11 yX11_image wsX11_image) := goodIn_app (goodIn_of _ (by decide +kernel)) ggL_law__X11_image
set_option maxRecDepth 20000 in
theorem ggL_law__X10_restore : GoodIn wsL_law_ wsX10_restore := goodIn_r _ [1167, 1120, 28, 27, 1121, 1122, 1123, 26, 1124, 66, 70, 74, 78, 82, 1125, 717, 718, 31, 719, 105, 106, 88, 89, 90, 91, 92, 93, 94, 720, 357, 358, 15, 359, 45, 1126, 1127, 1128, 69, 1129, 856, 119, 120, 121, 122, 1130, 1131, 1132, 1133, 73, 1134, 897, 128, 129, 130, 1135, 1136, 1137, 1138, 77, 1139, 1003, 136, 137, 1140, 1141, 1142, 1143, 81, 1144, 1062, 143, 144, 145, 1145, 1187, 1188, 1189, 1190, 1191, 1192, 1193, 1194, 1195, 1196, 1197, 1250, 1251, 1252, 1253, 1254, 1255, 1256, 1257, 1258, 1259, 1260, 1261, 1262, 1263, 1264, 1240, 1274, 1275, 1276, 1277, 1278, 1279, 1280, 1281, 1282, 1283, 1284, 1285, 1286, 1287, 1288, 1289] (by decide +kernel) (by decide +kernel)
set_option maxRecDepth 20000 in
theorem gL_law__X10_restore : GoodIn wsL_law_ (wsV RL 224 RX10 yX10_restore wsX10_restore) := goodIn_app (goodIn_of _ (by decide +kernel)) ggL_law__X10_restore

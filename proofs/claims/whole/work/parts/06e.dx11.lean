set_option maxRecDepth 20000 in
theorem ggX11_push_X11_in : GoodIn wsX11_push wsX11_in := goodIn_r _ [12] (by decide +kernel) (by decide +kernel)
set_option maxRecDepth 20000 in
theorem gX11_push_X11_in : GoodIn wsX11_push (va_wsS RX11 172 yX11_in wsX11_in) := goodIn_app (goodIn_of _ (by decide +kernel)) ggX11_push_X11_in
set_option maxRecDepth 20000 in
theorem ggX11_push_X11_tellsNames : GoodIn wsX11_push wsX11_tellsNames := goodIn_r _ [25, 26, 27, 28, 29, 46, 47, 48, 49, 50, 51, 52, 53, 54, 55, 56, 57, 58, 59, 60, 61, 62, 63, 64, 65, 66, 67, 68, 69, 70, 71, 72, 73, 74, 75, 76, 77, 78, 79, 80, 81, 82, 83, 84, 85, 86, 87] (by decide +kernel) (by decide +kernel)
set_option maxRecDepth 20000 in
theorem gX11_push_X11_tellsNames : GoodIn wsX11_push (wsV RX11 230 RX11 yX11_tellsNames wsX11_tellsNames) := goodIn_app (goodIn_of _ (by decide +kernel)) ggX11_push_X11_tellsNames
set_option maxRecDepth 20000 in
theorem ggX11_push_X11_asks : GoodIn wsX11_push wsX11_asks := goodIn_r _ [33, 34, 35, 36, 26, 37, 38, 39, 3, 2, 40, 41, 7, 42, 43, 44, 45, 46, 47, 48, 49, 50, 51, 52, 53, 54, 55, 56, 57, 58, 59, 60, 61, 62, 63, 64, 65, 66, 67, 68, 69, 70, 71, 72, 73, 74, 75, 76, 77, 78, 79, 80, 81, 82, 83, 84, 85, 86, 87] (by decide +kernel) (by decide +kernel)
set_option maxRecDepth 20000 in
theorem gX11_push_X11_asks : GoodIn wsX11_push (wsV RX11 233 RX11 yX11_asks wsX11_asks) := goodIn_app (goodIn_of _ (by decide +kernel)) ggX11_push_X11_asks
theorem dX11_push_0 : decode cX11_push 0 = .ok (.aload_n 0, 1) := by decide +kernel
theorem dX11_push_1 : decode cX11_push 1 = .ok (.iconst 0, 1) := by decide +kernel
theorem dX11_push_2 : decode cX11_push 2 = .ok (.putfield 83, 3) := by decide +kernel
theorem dX11_push_5 : decode cX11_push 5 = .ok (.aload_n 0, 1) := by decide +kernel
theorem dX11_push_6 : decode cX11_push 6 = .ok (.aload_n 0, 1) := by decide +kernel
theorem dX11_push_7 : decode cX11_push 7 = .ok (.iload_n 1, 1) := by decide +kernel
theorem dX11_push_8 : decode cX11_push 8 = .ok (.invokevirtual 242, 3) := by decide +kernel
theorem dX11_push_11 : decode cX11_push 11 = .ok (.ifCond .ne 7, 3) := by decide +kernel
theorem dX11_push_14 : decode cX11_push 14 = .ok (.iconst 1, 1) := by decide +kernel
theorem dX11_push_15 : decode cX11_push 15 = .ok (.goto 4, 3) := by decide +kernel
theorem dX11_push_18 : decode cX11_push 18 = .ok (.iconst 0, 1) := by decide +kernel
theorem dX11_push_19 : decode cX11_push 19 = .ok (.iconst 1, 1) := by decide +kernel
theorem dX11_push_20 : decode cX11_push 20 = .ok (.invokevirtual 176, 3) := by decide +kernel
theorem dX11_push_23 : decode cX11_push 23 = .ok (.ifCond .ne 47, 3) := by decide +kernel
theorem dX11_push_26 : decode cX11_push 26 = .ok (.aload_n 0, 1) := by decide +kernel
theorem dX11_push_27 : decode cX11_push 27 = .ok (.aload_n 0, 1) := by decide +kernel
theorem dX11_push_28 : decode cX11_push 28 = .ok (.iload_n 3, 1) := by decide +kernel
theorem dX11_push_29 : decode cX11_push 29 = .ok (.invokevirtual 210, 3) := by decide +kernel
theorem dX11_push_32 : decode cX11_push 32 = .ok (.ifCond .ne 7, 3) := by decide +kernel
theorem dX11_push_35 : decode cX11_push 35 = .ok (.iconst 1, 1) := by decide +kernel
theorem dX11_push_36 : decode cX11_push 36 = .ok (.goto 4, 3) := by decide +kernel
theorem dX11_push_39 : decode cX11_push 39 = .ok (.iconst 0, 1) := by decide +kernel
theorem dX11_push_40 : decode cX11_push 40 = .ok (.iconst 2, 1) := by decide +kernel
theorem dX11_push_41 : decode cX11_push 41 = .ok (.invokevirtual 176, 3) := by decide +kernel
theorem dX11_push_44 : decode cX11_push 44 = .ok (.ifCond .ne 26, 3) := by decide +kernel
theorem dX11_push_47 : decode cX11_push 47 = .ok (.aload_n 0, 1) := by decide +kernel
theorem dX11_push_48 : decode cX11_push 48 = .ok (.iload_n 2, 1) := by decide +kernel
theorem dX11_push_49 : decode cX11_push 49 = .ok (.iconst 0, 1) := by decide +kernel
theorem dX11_push_50 : decode cX11_push 50 = .ok (.bipush 99, 2) := by decide +kernel
theorem dX11_push_52 : decode cX11_push 52 = .ok (.invokestatic 172, 3) := by decide +kernel
theorem dX11_push_55 : decode cX11_push 55 = .ok (.ifCond .ne 7, 3) := by decide +kernel
theorem dX11_push_58 : decode cX11_push 58 = .ok (.iconst 1, 1) := by decide +kernel
theorem dX11_push_59 : decode cX11_push 59 = .ok (.goto 4, 3) := by decide +kernel
theorem dX11_push_62 : decode cX11_push 62 = .ok (.iconst 0, 1) := by decide +kernel
theorem dX11_push_63 : decode cX11_push 63 = .ok (.iconst 3, 1) := by decide +kernel
theorem dX11_push_64 : decode cX11_push 64 = .ok (.invokevirtual 176, 3) := by decide +kernel
theorem dX11_push_67 : decode cX11_push 67 = .ok (.ifCond .eq 5, 3) := by decide +kernel
theorem dX11_push_70 : decode cX11_push 70 = .ok (.iconst 0, 1) := by decide +kernel
theorem dX11_push_71 : decode cX11_push 71 = .ok (.ireturn, 1) := by decide +kernel
theorem dX11_push_72 : decode cX11_push 72 = .ok (.aload_n 0, 1) := by decide +kernel
theorem dX11_push_73 : decode cX11_push 73 = .ok (.iload_n 2, 1) := by decide +kernel
theorem dX11_push_74 : decode cX11_push 74 = .ok (.iload_n 3, 1) := by decide +kernel
theorem dX11_push_75 : decode cX11_push 75 = .ok (.invokevirtual 230, 3) := by decide +kernel
theorem dX11_push_78 : decode cX11_push 78 = .ok (.aload_n 0, 1) := by decide +kernel
theorem dX11_push_79 : decode cX11_push 79 = .ok (.iload_n 1, 1) := by decide +kernel
theorem dX11_push_80 : decode cX11_push 80 = .ok (.invokevirtual 233, 3) := by decide +kernel
theorem dX11_push_83 : decode cX11_push 83 = .ok (.iload 4, 2) := by decide +kernel
theorem dX11_push_85 : decode cX11_push 85 = .ok (.ifCond .eq 10, 3) := by decide +kernel
theorem dX11_push_88 : decode cX11_push 88 = .ok (.aload_n 0, 1) := by decide +kernel
theorem dX11_push_89 : decode cX11_push 89 = .ok (.getfield 197, 3) := by decide +kernel
theorem dX11_push_92 : decode cX11_push 92 = .ok (.goto 7, 3) := by decide +kernel
theorem dX11_push_95 : decode cX11_push 95 = .ok (.aload_n 0, 1) := by decide +kernel
theorem dX11_push_96 : decode cX11_push 96 = .ok (.getfield 194, 3) := by decide +kernel
theorem dX11_push_99 : decode cX11_push 99 = .ok (.ireturn, 1) := by decide +kernel
theorem dX11_lays_0 : decode cX11_lays 0 = .ok (.aload_n 0, 1) := by decide +kernel
theorem dX11_lays_1 : decode cX11_lays 1 = .ok (.aload_n 0, 1) := by decide +kernel
theorem dX11_lays_2 : decode cX11_lays 2 = .ok (.getfield 200, 3) := by decide +kernel
theorem dX11_lays_5 : decode cX11_lays 5 = .ok (.putfield 248, 3) := by decide +kernel
theorem dX11_lays_8 : decode cX11_lays 8 = .ok (.iconst 0, 1) := by decide +kernel
theorem dX11_lays_9 : decode cX11_lays 9 = .ok (.istore_n 1, 1) := by decide +kernel
theorem dX11_lays_10 : decode cX11_lays 10 = .ok (.iload_n 1, 1) := by decide +kernel
theorem dX11_lays_11 : decode cX11_lays 11 = .ok (.bipush 8, 2) := by decide +kernel
theorem dX11_lays_13 : decode cX11_lays 13 = .ok (.if_icmp .ge 62, 3) := by decide +kernel
theorem dX11_lays_16 : decode cX11_lays 16 = .ok (.iconst 0, 1) := by decide +kernel
theorem dX11_lays_17 : decode cX11_lays 17 = .ok (.istore_n 2, 1) := by decide +kernel
theorem dX11_lays_18 : decode cX11_lays 18 = .ok (.iload_n 2, 1) := by decide +kernel
theorem dX11_lays_19 : decode cX11_lays 19 = .ok (.iconst 4, 1) := by decide +kernel
theorem dX11_lays_20 : decode cX11_lays 20 = .ok (.if_icmp .ge 25, 3) := by decide +kernel
theorem dX11_lays_23 : decode cX11_lays 23 = .ok (.aload_n 0, 1) := by decide +kernel
theorem dX11_lays_24 : decode cX11_lays 24 = .ok (.getfield 56, 3) := by decide +kernel
theorem dX11_lays_27 : decode cX11_lays 27 = .ok (.iload_n 2, 1) := by decide +kernel
theorem dX11_lays_28 : decode cX11_lays 28 = .ok (.aaload, 1) := by decide +kernel
theorem dX11_lays_29 : decode cX11_lays 29 = .ok (.iload_n 1, 1) := by decide +kernel
theorem dX11_lays_30 : decode cX11_lays 30 = .ok (.aload_n 0, 1) := by decide +kernel
theorem dX11_lays_31 : decode cX11_lays 31 = .ok (.getfield 43, 3) := by decide +kernel
theorem dX11_lays_34 : decode cX11_lays 34 = .ok (.iload_n 2, 1) := by decide +kernel
theorem dX11_lays_35 : decode cX11_lays 35 = .ok (.aaload, 1) := by decide +kernel
theorem dX11_lays_36 : decode cX11_lays 36 = .ok (.iload_n 1, 1) := by decide +kernel
theorem dX11_lays_37 : decode cX11_lays 37 = .ok (.iaload, 1) := by decide +kernel
theorem dX11_lays_38 : decode cX11_lays 38 = .ok (.iastore, 1) := by decide +kernel
theorem dX11_lays_39 : decode cX11_lays 39 = .ok (.iinc 2 1, 3) := by decide +kernel
theorem dX11_lays_42 : decode cX11_lays 42 = .ok (.goto (-24), 3) := by decide +kernel
theorem dX11_lays_45 : decode cX11_lays 45 = .ok (.aload_n 0, 1) := by decide +kernel
theorem dX11_lays_46 : decode cX11_lays 46 = .ok (.getfield 59, 3) := by decide +kernel
theorem dX11_lays_49 : decode cX11_lays 49 = .ok (.iload_n 1, 1) := by decide +kernel
theorem dX11_lays_50 : decode cX11_lays 50 = .ok (.aload_n 0, 1) := by decide +kernel
theorem dX11_lays_51 : decode cX11_lays 51 = .ok (.getfield 49, 3) := by decide +kernel
theorem dX11_lays_54 : decode cX11_lays 54 = .ok (.iload_n 1, 1) := by decide +kernel
theorem dX11_lays_55 : decode cX11_lays 55 = .ok (.iaload, 1) := by decide +kernel
theorem dX11_lays_56 : decode cX11_lays 56 = .ok (.iastore, 1) := by decide +kernel
theorem dX11_lays_57 : decode cX11_lays 57 = .ok (.aload_n 0, 1) := by decide +kernel
theorem dX11_lays_58 : decode cX11_lays 58 = .ok (.getfield 65, 3) := by decide +kernel
theorem dX11_lays_61 : decode cX11_lays 61 = .ok (.iload_n 1, 1) := by decide +kernel
theorem dX11_lays_62 : decode cX11_lays 62 = .ok (.aload_n 0, 1) := by decide +kernel
theorem dX11_lays_63 : decode cX11_lays 63 = .ok (.getfield 52, 3) := by decide +kernel
theorem dX11_lays_66 : decode cX11_lays 66 = .ok (.iload_n 1, 1) := by decide +kernel
theorem dX11_lays_67 : decode cX11_lays 67 = .ok (.baload, 1) := by decide +kernel
theorem dX11_lays_68 : decode cX11_lays 68 = .ok (.bastore, 1) := by decide +kernel
theorem dX11_lays_69 : decode cX11_lays 69 = .ok (.iinc 1 1, 3) := by decide +kernel
theorem dX11_lays_72 : decode cX11_lays 72 = .ok (.goto (-62), 3) := by decide +kernel
theorem dX11_lays_75 : decode cX11_lays 75 = .ok (.return_, 1) := by decide +kernel
theorem dX11_laysBack_0 : decode cX11_laysBack 0 = .ok (.aload_n 0, 1) := by decide +kernel
theorem dX11_laysBack_1 : decode cX11_laysBack 1 = .ok (.aload_n 0, 1) := by decide +kernel
theorem dX11_laysBack_2 : decode cX11_laysBack 2 = .ok (.getfield 248, 3) := by decide +kernel
theorem dX11_laysBack_5 : decode cX11_laysBack 5 = .ok (.putfield 200, 3) := by decide +kernel
theorem dX11_laysBack_8 : decode cX11_laysBack 8 = .ok (.iconst 0, 1) := by decide +kernel
theorem dX11_laysBack_9 : decode cX11_laysBack 9 = .ok (.istore_n 1, 1) := by decide +kernel
theorem dX11_laysBack_10 : decode cX11_laysBack 10 = .ok (.iload_n 1, 1) := by decide +kernel
theorem dX11_laysBack_11 : decode cX11_laysBack 11 = .ok (.bipush 8, 2) := by decide +kernel
theorem dX11_laysBack_13 : decode cX11_laysBack 13 = .ok (.if_icmp .ge 62, 3) := by decide +kernel
theorem dX11_laysBack_16 : decode cX11_laysBack 16 = .ok (.iconst 0, 1) := by decide +kernel
theorem dX11_laysBack_17 : decode cX11_laysBack 17 = .ok (.istore_n 2, 1) := by decide +kernel
theorem dX11_laysBack_18 : decode cX11_laysBack 18 = .ok (.iload_n 2, 1) := by decide +kernel
theorem dX11_laysBack_19 : decode cX11_laysBack 19 = .ok (.iconst 4, 1) := by decide +kernel
theorem dX11_laysBack_20 : decode cX11_laysBack 20 = .ok (.if_icmp .ge 25, 3) := by decide +kernel
theorem dX11_laysBack_23 : decode cX11_laysBack 23 = .ok (.aload_n 0, 1) := by decide +kernel
theorem dX11_laysBack_24 : decode cX11_laysBack 24 = .ok (.getfield 43, 3) := by decide +kernel
theorem dX11_laysBack_27 : decode cX11_laysBack 27 = .ok (.iload_n 2, 1) := by decide +kernel
theorem dX11_laysBack_28 : decode cX11_laysBack 28 = .ok (.aaload, 1) := by decide +kernel
theorem dX11_laysBack_29 : decode cX11_laysBack 29 = .ok (.iload_n 1, 1) := by decide +kernel
theorem dX11_laysBack_30 : decode cX11_laysBack 30 = .ok (.aload_n 0, 1) := by decide +kernel
theorem dX11_laysBack_31 : decode cX11_laysBack 31 = .ok (.getfield 56, 3) := by decide +kernel
theorem dX11_laysBack_34 : decode cX11_laysBack 34 = .ok (.iload_n 2, 1) := by decide +kernel
theorem dX11_laysBack_35 : decode cX11_laysBack 35 = .ok (.aaload, 1) := by decide +kernel
theorem dX11_laysBack_36 : decode cX11_laysBack 36 = .ok (.iload_n 1, 1) := by decide +kernel
theorem dX11_laysBack_37 : decode cX11_laysBack 37 = .ok (.iaload, 1) := by decide +kernel
theorem dX11_laysBack_38 : decode cX11_laysBack 38 = .ok (.iastore, 1) := by decide +kernel
theorem dX11_laysBack_39 : decode cX11_laysBack 39 = .ok (.iinc 2 1, 3) := by decide +kernel
theorem dX11_laysBack_42 : decode cX11_laysBack 42 = .ok (.goto (-24), 3) := by decide +kernel
theorem dX11_laysBack_45 : decode cX11_laysBack 45 = .ok (.aload_n 0, 1) := by decide +kernel
theorem dX11_laysBack_46 : decode cX11_laysBack 46 = .ok (.getfield 49, 3) := by decide +kernel
theorem dX11_laysBack_49 : decode cX11_laysBack 49 = .ok (.iload_n 1, 1) := by decide +kernel
theorem dX11_laysBack_50 : decode cX11_laysBack 50 = .ok (.aload_n 0, 1) := by decide +kernel
theorem dX11_laysBack_51 : decode cX11_laysBack 51 = .ok (.getfield 59, 3) := by decide +kernel
theorem dX11_laysBack_54 : decode cX11_laysBack 54 = .ok (.iload_n 1, 1) := by decide +kernel
theorem dX11_laysBack_55 : decode cX11_laysBack 55 = .ok (.iaload, 1) := by decide +kernel
theorem dX11_laysBack_56 : decode cX11_laysBack 56 = .ok (.iastore, 1) := by decide +kernel
theorem dX11_laysBack_57 : decode cX11_laysBack 57 = .ok (.aload_n 0, 1) := by decide +kernel
theorem dX11_laysBack_58 : decode cX11_laysBack 58 = .ok (.getfield 52, 3) := by decide +kernel
theorem dX11_laysBack_61 : decode cX11_laysBack 61 = .ok (.iload_n 1, 1) := by decide +kernel
theorem dX11_laysBack_62 : decode cX11_laysBack 62 = .ok (.aload_n 0, 1) := by decide +kernel
theorem dX11_laysBack_63 : decode cX11_laysBack 63 = .ok (.getfield 65, 3) := by decide +kernel
theorem dX11_laysBack_66 : decode cX11_laysBack 66 = .ok (.iload_n 1, 1) := by decide +kernel
theorem dX11_laysBack_67 : decode cX11_laysBack 67 = .ok (.baload, 1) := by decide +kernel
theorem dX11_laysBack_68 : decode cX11_laysBack 68 = .ok (.bastore, 1) := by decide +kernel
theorem dX11_laysBack_69 : decode cX11_laysBack 69 = .ok (.iinc 1 1, 3) := by decide +kernel
theorem dX11_laysBack_72 : decode cX11_laysBack 72 = .ok (.goto (-62), 3) := by decide +kernel
theorem dX11_laysBack_75 : decode cX11_laysBack 75 = .ok (.return_, 1) := by decide +kernel
set_option maxRecDepth 20000 in
theorem ggX11_begins_X11_lays : GoodIn wsX11_begins wsX11_lays := goodIn_r _ [8, 1, 9, 10, 11, 12, 2, 13, 3, 19, 20, 21, 22, 23, 24, 25, 26, 27, 28, 29, 30, 31, 32, 33, 34, 35, 36, 37, 38, 39, 40, 41, 42, 43, 44, 45, 46, 47, 48, 49, 50, 51, 52, 53, 54, 55, 56, 57, 58, 59, 60] (by decide +kernel) (by decide +kernel)
set_option maxRecDepth 20000 in
theorem gX11_begins_X11_lays : GoodIn wsX11_begins (wsV RX11 251 RX11 yX11_lays wsX11_lays) := goodIn_app (goodIn_of _ (by decide +kernel)) ggX11_begins_X11_lays
set_option maxRecDepth 20000 in
theorem ggX11_begins_X11_shapes : GoodIn wsX11_begins wsX11_shapes := goodIn_r _ [17, 18, 11, 19, 20, 21, 22, 23, 24, 25, 26, 27, 28, 29, 30, 31, 32, 33, 34, 35, 36, 37, 38, 39, 40, 41, 42, 43, 44, 45, 46, 47, 48, 49, 50, 51, 52, 53, 54, 55, 56, 57, 58, 59, 60] (by decide +kernel) (by decide +kernel)
set_option maxRecDepth 20000 in
theorem gX11_begins_X11_shapes : GoodIn wsX11_begins (wsV RX11 217 RX11 yX11_shapes wsX11_shapes) := goodIn_app (goodIn_of _ (by decide +kernel)) ggX11_begins_X11_shapes
theorem dX11_begins_0 : decode cX11_begins 0 = .ok (.aload_n 0, 1) := by decide +kernel
theorem dX11_begins_1 : decode cX11_begins 1 = .ok (.invokevirtual 251, 3) := by decide +kernel
theorem dX11_begins_4 : decode cX11_begins 4 = .ok (.aload_n 0, 1) := by decide +kernel
theorem dX11_begins_5 : decode cX11_begins 5 = .ok (.iconst 0, 1) := by decide +kernel
theorem dX11_begins_6 : decode cX11_begins 6 = .ok (.putfield 200, 3) := by decide +kernel
theorem dX11_begins_9 : decode cX11_begins 9 = .ok (.iconst 0, 1) := by decide +kernel
theorem dX11_begins_10 : decode cX11_begins 10 = .ok (.istore 4, 2) := by decide +kernel
theorem dX11_begins_12 : decode cX11_begins 12 = .ok (.iload 4, 2) := by decide +kernel
theorem dX11_begins_14 : decode cX11_begins 14 = .ok (.bipush 8, 2) := by decide +kernel
theorem dX11_begins_16 : decode cX11_begins 16 = .ok (.if_icmp .ge 39, 3) := by decide +kernel
theorem dX11_begins_19 : decode cX11_begins 19 = .ok (.aload_n 0, 1) := by decide +kernel
theorem dX11_begins_20 : decode cX11_begins 20 = .ok (.getfield 49, 3) := by decide +kernel
theorem dX11_begins_23 : decode cX11_begins 23 = .ok (.iload 4, 2) := by decide +kernel
theorem dX11_begins_25 : decode cX11_begins 25 = .ok (.aload_n 0, 1) := by decide +kernel
theorem dX11_begins_26 : decode cX11_begins 26 = .ok (.getfield 49, 3) := by decide +kernel
theorem dX11_begins_29 : decode cX11_begins 29 = .ok (.iload 4, 2) := by decide +kernel
theorem dX11_begins_31 : decode cX11_begins 31 = .ok (.iaload, 1) := by decide +kernel
theorem dX11_begins_32 : decode cX11_begins 32 = .ok (.ifCond .le 7, 3) := by decide +kernel
theorem dX11_begins_35 : decode cX11_begins 35 = .ok (.iconst 2, 1) := by decide +kernel
theorem dX11_begins_36 : decode cX11_begins 36 = .ok (.goto 4, 3) := by decide +kernel
theorem dX11_begins_39 : decode cX11_begins 39 = .ok (.iconst 0, 1) := by decide +kernel
theorem dX11_begins_40 : decode cX11_begins 40 = .ok (.iastore, 1) := by decide +kernel
theorem dX11_begins_41 : decode cX11_begins 41 = .ok (.aload_n 0, 1) := by decide +kernel
theorem dX11_begins_42 : decode cX11_begins 42 = .ok (.getfield 52, 3) := by decide +kernel
theorem dX11_begins_45 : decode cX11_begins 45 = .ok (.iload 4, 2) := by decide +kernel
theorem dX11_begins_47 : decode cX11_begins 47 = .ok (.iconst 0, 1) := by decide +kernel
theorem dX11_begins_48 : decode cX11_begins 48 = .ok (.bastore, 1) := by decide +kernel
theorem dX11_begins_49 : decode cX11_begins 49 = .ok (.iinc 4 1, 3) := by decide +kernel
theorem dX11_begins_52 : decode cX11_begins 52 = .ok (.goto (-40), 3) := by decide +kernel
theorem dX11_begins_55 : decode cX11_begins 55 = .ok (.aload_n 0, 1) := by decide +kernel
theorem dX11_begins_56 : decode cX11_begins 56 = .ok (.iload_n 1, 1) := by decide +kernel
theorem dX11_begins_57 : decode cX11_begins 57 = .ok (.iload_n 2, 1) := by decide +kernel
theorem dX11_begins_58 : decode cX11_begins 58 = .ok (.iload_n 3, 1) := by decide +kernel
theorem dX11_begins_59 : decode cX11_begins 59 = .ok (.invokevirtual 217, 3) := by decide +kernel
theorem dX11_begins_62 : decode cX11_begins 62 = .ok (.return_, 1) := by decide +kernel
set_option maxRecDepth 20000 in
theorem ggX11_growsBy_X11_begins : GoodIn wsX11_growsBy wsX11_begins := goodIn_r _ [5, 6, 7, 8, 9, 10, 11, 4, 12, 13, 14, 15, 16, 17, 18, 19, 20, 21, 22, 73, 74, 75, 76, 77, 78, 79, 80, 81, 82, 83, 84, 85, 86, 87, 88, 89, 90, 91, 92, 93, 94, 95, 96, 97, 98, 99, 100, 101, 102, 103, 104, 105, 106, 107, 108, 109, 110, 111, 112, 113, 114] (by decide +kernel) (by decide +kernel)
set_option maxRecDepth 20000 in
theorem gX11_growsBy_X11_begins : GoodIn wsX11_growsBy (wsV RX11 254 RX11 yX11_begins wsX11_begins) := goodIn_app (goodIn_of _ (by decide +kernel)) ggX11_growsBy_X11_begins
set_option maxRecDepth 20000 in
theorem ggX11_growsBy_X11_tick : GoodIn wsX11_growsBy wsX11_tick := goodIn_r _ [26, 22, 15, 27, 28, 29, 30, 31, 32, 7, 8, 6, 33, 34, 35, 4, 36, 37, 38, 39, 40, 41, 42, 43, 44, 45, 46, 47, 48, 49, 50, 51, 52, 53, 54, 55, 56, 57, 58, 59, 60, 61, 62, 63, 64, 73, 74, 75, 76, 77, 78, 79, 80, 81, 82, 83, 84, 85, 86, 87, 88, 89, 90, 91, 92, 93, 94, 95, 96, 97, 98, 99, 100, 101, 102, 103, 104, 105, 106, 107, 108, 109, 110, 111, 112, 113, 114] (by decide +kernel) (by decide +kernel)
set_option maxRecDepth 20000 in
theorem gX11_growsBy_X11_tick : GoodIn wsX11_growsBy (wsV RX11 245 RX11 yX11_tick wsX11_tick) := goodIn_app (goodIn_of _ (by decide +kernel)) ggX11_growsBy_X11_tick
set_option maxRecDepth 20000 in
theorem ggX11_growsBy_X11_sizeOf : GoodIn wsX11_growsBy wsX11_sizeOf := goodIn_r _ [68, 22, 15, 62, 63, 4, 64, 73, 74, 75, 76, 77, 78, 79, 80, 81, 82, 83, 84, 85, 86, 87, 88, 89, 90, 91, 92, 93, 94, 95, 96, 97, 98, 99, 100, 101, 102, 103, 104, 105, 106, 107, 108, 109, 110, 111, 112, 113, 114] (by decide +kernel) (by decide +kernel)
set_option maxRecDepth 20000 in
theorem gX11_growsBy_X11_sizeOf : GoodIn wsX11_growsBy (wsV RX11 221 RX11 yX11_sizeOf wsX11_sizeOf) := goodIn_app (goodIn_of _ (by decide +kernel)) ggX11_growsBy_X11_sizeOf
set_option maxRecDepth 20000 in
theorem ggX11_growsBy_X11_laysBack : GoodIn wsX11_growsBy wsX11_laysBack := goodIn_r _ [72, 13, 6, 15, 14, 7, 16, 8, 17, 73, 74, 75, 76, 77, 78, 79, 80, 81, 82, 83, 84, 85, 86, 87, 88, 89, 90, 91, 92, 93, 94, 95, 96, 97, 98, 99, 100, 101, 102, 103, 104, 105, 106, 107, 108, 109, 110, 111, 112, 113, 114] (by decide +kernel) (by decide +kernel)
set_option maxRecDepth 20000 in
theorem gX11_growsBy_X11_laysBack : GoodIn wsX11_growsBy (wsV RX11 257 RX11 yX11_laysBack wsX11_laysBack) := goodIn_app (goodIn_of _ (by decide +kernel)) ggX11_growsBy_X11_laysBack
theorem dX11_growsBy_0 : decode cX11_growsBy 0 = .ok (.aload_n 0, 1) := by decide +kernel
theorem dX11_growsBy_1 : decode cX11_growsBy 1 = .ok (.iload_n 3, 1) := by decide +kernel
theorem dX11_growsBy_2 : decode cX11_growsBy 2 = .ok (.iload 4, 2) := by decide +kernel
theorem dX11_growsBy_4 : decode cX11_growsBy 4 = .ok (.iload 5, 2) := by decide +kernel
theorem dX11_growsBy_6 : decode cX11_growsBy 6 = .ok (.invokevirtual 254, 3) := by decide +kernel
theorem dX11_growsBy_9 : decode cX11_growsBy 9 = .ok (.iconst 0, 1) := by decide +kernel
theorem dX11_growsBy_10 : decode cX11_growsBy 10 = .ok (.istore 6, 2) := by decide +kernel
theorem dX11_growsBy_12 : decode cX11_growsBy 12 = .ok (.iconst 0, 1) := by decide +kernel
theorem dX11_growsBy_13 : decode cX11_growsBy 13 = .ok (.istore 7, 2) := by decide +kernel
theorem dX11_growsBy_15 : decode cX11_growsBy 15 = .ok (.iconst 1, 1) := by decide +kernel
theorem dX11_growsBy_16 : decode cX11_growsBy 16 = .ok (.istore 8, 2) := by decide +kernel
theorem dX11_growsBy_18 : decode cX11_growsBy 18 = .ok (.iload 8, 2) := by decide +kernel
theorem dX11_growsBy_20 : decode cX11_growsBy 20 = .ok (.bipush 60, 2) := by decide +kernel
theorem dX11_growsBy_22 : decode cX11_growsBy 22 = .ok (.if_icmp .gt 64, 3) := by decide +kernel
theorem dX11_growsBy_25 : decode cX11_growsBy 25 = .ok (.aload_n 0, 1) := by decide +kernel
theorem dX11_growsBy_26 : decode cX11_growsBy 26 = .ok (.iload_n 1, 1) := by decide +kernel
theorem dX11_growsBy_27 : decode cX11_growsBy 27 = .ok (.iload_n 2, 1) := by decide +kernel
theorem dX11_growsBy_28 : decode cX11_growsBy 28 = .ok (.invokevirtual 245, 3) := by decide +kernel
theorem dX11_growsBy_31 : decode cX11_growsBy 31 = .ok (.aload_n 0, 1) := by decide +kernel
theorem dX11_growsBy_32 : decode cX11_growsBy 32 = .ok (.iload_n 3, 1) := by decide +kernel
theorem dX11_growsBy_33 : decode cX11_growsBy 33 = .ok (.invokevirtual 221, 3) := by decide +kernel
theorem dX11_growsBy_36 : decode cX11_growsBy 36 = .ok (.istore 9, 2) := by decide +kernel
theorem dX11_growsBy_38 : decode cX11_growsBy 38 = .ok (.iload 8, 2) := by decide +kernel
theorem dX11_growsBy_40 : decode cX11_growsBy 40 = .ok (.bipush 30, 2) := by decide +kernel
theorem dX11_growsBy_42 : decode cX11_growsBy 42 = .ok (.if_icmp .gt 22, 3) := by decide +kernel
theorem dX11_growsBy_45 : decode cX11_growsBy 45 = .ok (.iload 9, 2) := by decide +kernel
theorem dX11_growsBy_47 : decode cX11_growsBy 47 = .ok (.iload 6, 2) := by decide +kernel
theorem dX11_growsBy_49 : decode cX11_growsBy 49 = .ok (.if_icmp .le 8, 3) := by decide +kernel
theorem dX11_growsBy_52 : decode cX11_growsBy 52 = .ok (.iload 9, 2) := by decide +kernel
theorem dX11_growsBy_54 : decode cX11_growsBy 54 = .ok (.goto 5, 3) := by decide +kernel
theorem dX11_growsBy_57 : decode cX11_growsBy 57 = .ok (.iload 6, 2) := by decide +kernel
theorem dX11_growsBy_59 : decode cX11_growsBy 59 = .ok (.istore 6, 2) := by decide +kernel
theorem dX11_growsBy_61 : decode cX11_growsBy 61 = .ok (.goto 19, 3) := by decide +kernel
theorem dX11_growsBy_64 : decode cX11_growsBy 64 = .ok (.iload 9, 2) := by decide +kernel
theorem dX11_growsBy_66 : decode cX11_growsBy 66 = .ok (.iload 7, 2) := by decide +kernel
theorem dX11_growsBy_68 : decode cX11_growsBy 68 = .ok (.if_icmp .le 8, 3) := by decide +kernel
theorem dX11_growsBy_71 : decode cX11_growsBy 71 = .ok (.iload 9, 2) := by decide +kernel
theorem dX11_growsBy_73 : decode cX11_growsBy 73 = .ok (.goto 5, 3) := by decide +kernel
theorem dX11_growsBy_76 : decode cX11_growsBy 76 = .ok (.iload 7, 2) := by decide +kernel
theorem dX11_growsBy_78 : decode cX11_growsBy 78 = .ok (.istore 7, 2) := by decide +kernel
theorem dX11_growsBy_80 : decode cX11_growsBy 80 = .ok (.iinc 8 1, 3) := by decide +kernel
theorem dX11_growsBy_83 : decode cX11_growsBy 83 = .ok (.goto (-65), 3) := by decide +kernel
theorem dX11_growsBy_86 : decode cX11_growsBy 86 = .ok (.aload_n 0, 1) := by decide +kernel
theorem dX11_growsBy_87 : decode cX11_growsBy 87 = .ok (.invokevirtual 257, 3) := by decide +kernel
theorem dX11_growsBy_90 : decode cX11_growsBy 90 = .ok (.iload 7, 2) := by decide +kernel
theorem dX11_growsBy_92 : decode cX11_growsBy 92 = .ok (.iload 6, 2) := by decide +kernel
theorem dX11_growsBy_94 : decode cX11_growsBy 94 = .ok (.if_icmp .le 7, 3) := by decide +kernel
theorem dX11_growsBy_97 : decode cX11_growsBy 97 = .ok (.iconst 1, 1) := by decide +kernel
theorem dX11_growsBy_98 : decode cX11_growsBy 98 = .ok (.goto 4, 3) := by decide +kernel
theorem dX11_growsBy_101 : decode cX11_growsBy 101 = .ok (.iconst 0, 1) := by decide +kernel
theorem dX11_growsBy_102 : decode cX11_growsBy 102 = .ok (.ireturn, 1) := by decide +kernel
set_option maxRecDepth 20000 in
theorem ggX11_badTrial_X11_isLaw : GoodIn wsX11_badTrial wsX11_isLaw := goodIn_r _ [5, 6, 7, 8, 4, 9, 18, 19, 20, 21, 22, 23, 24, 25, 26, 27, 28, 29, 30, 31, 32, 33, 34, 35, 36, 37, 38, 39, 40, 41, 42, 43, 44, 45, 46, 47, 48, 49, 50, 51, 52, 53, 54, 55, 56, 57, 58, 59] (by decide +kernel) (by decide +kernel)
set_option maxRecDepth 20000 in
theorem gX11_badTrial_X11_isLaw : GoodIn wsX11_badTrial (wsV RX11 242 RX11 yX11_isLaw wsX11_isLaw) := goodIn_app (goodIn_of _ (by decide +kernel)) ggX11_badTrial_X11_isLaw
set_option maxRecDepth 20000 in
theorem ggX11_badTrial_X11_bad : GoodIn wsX11_badTrial wsX11_bad := goodIn_r _ [13, 14, 18, 19, 20, 21, 22, 23, 24, 25, 26, 27, 28, 29, 30, 31, 32, 33, 34, 35, 36, 37, 38, 39, 40, 41, 42, 43, 44, 45, 46, 47, 48, 49, 50, 51, 52, 53, 54, 55, 56, 57, 58, 59] (by decide +kernel) (by decide +kernel)
set_option maxRecDepth 20000 in
theorem gX11_badTrial_X11_bad : GoodIn wsX11_badTrial (wsV RX11 176 RX11 yX11_bad wsX11_bad) := goodIn_app (goodIn_of _ (by decide +kernel)) ggX11_badTrial_X11_bad
set_option maxRecDepth 20000 in
theorem ggX11_badTrial_X11_in : GoodIn wsX11_badTrial wsX11_in := goodIn_r _ [9] (by decide +kernel) (by decide +kernel)
set_option maxRecDepth 20000 in
theorem gX11_badTrial_X11_in : GoodIn wsX11_badTrial (va_wsS RX11 172 yX11_in wsX11_in) := goodIn_app (goodIn_of _ (by decide +kernel)) ggX11_badTrial_X11_in
set_option maxRecDepth 20000 in
theorem ggX11_badTrial_X11_isShape : GoodIn wsX11_badTrial wsX11_isShape := goodIn_r _ [17, 7, 8, 4, 9] (by decide +kernel) (by decide +kernel)
set_option maxRecDepth 20000 in
theorem gX11_badTrial_X11_isShape : GoodIn wsX11_badTrial (va_wsS RX11 213 yX11_isShape wsX11_isShape) := goodIn_app (goodIn_of _ (by decide +kernel)) ggX11_badTrial_X11_isShape
theorem dX11_badTrial_0 : decode cX11_badTrial 0 = .ok (.aload_n 0, 1) := by decide +kernel
theorem dX11_badTrial_1 : decode cX11_badTrial 1 = .ok (.aload_n 0, 1) := by decide +kernel
theorem dX11_badTrial_2 : decode cX11_badTrial 2 = .ok (.iload_n 1, 1) := by decide +kernel
theorem dX11_badTrial_3 : decode cX11_badTrial 3 = .ok (.invokevirtual 242, 3) := by decide +kernel
theorem dX11_badTrial_6 : decode cX11_badTrial 6 = .ok (.ifCond .ne 7, 3) := by decide +kernel
theorem dX11_badTrial_9 : decode cX11_badTrial 9 = .ok (.iconst 1, 1) := by decide +kernel
theorem dX11_badTrial_10 : decode cX11_badTrial 10 = .ok (.goto 4, 3) := by decide +kernel
theorem dX11_badTrial_13 : decode cX11_badTrial 13 = .ok (.iconst 0, 1) := by decide +kernel
theorem dX11_badTrial_14 : decode cX11_badTrial 14 = .ok (.iconst 1, 1) := by decide +kernel
theorem dX11_badTrial_15 : decode cX11_badTrial 15 = .ok (.invokevirtual 176, 3) := by decide +kernel
theorem dX11_badTrial_18 : decode cX11_badTrial 18 = .ok (.ifCond .ne 35, 3) := by decide +kernel
theorem dX11_badTrial_21 : decode cX11_badTrial 21 = .ok (.aload_n 0, 1) := by decide +kernel
theorem dX11_badTrial_22 : decode cX11_badTrial 22 = .ok (.iload_n 2, 1) := by decide +kernel
theorem dX11_badTrial_23 : decode cX11_badTrial 23 = .ok (.iconst 0, 1) := by decide +kernel
theorem dX11_badTrial_24 : decode cX11_badTrial 24 = .ok (.bipush 99, 2) := by decide +kernel
theorem dX11_badTrial_26 : decode cX11_badTrial 26 = .ok (.invokestatic 172, 3) := by decide +kernel
theorem dX11_badTrial_29 : decode cX11_badTrial 29 = .ok (.ifCond .eq 12, 3) := by decide +kernel
theorem dX11_badTrial_32 : decode cX11_badTrial 32 = .ok (.iload_n 3, 1) := by decide +kernel
theorem dX11_badTrial_33 : decode cX11_badTrial 33 = .ok (.iload 4, 2) := by decide +kernel
theorem dX11_badTrial_35 : decode cX11_badTrial 35 = .ok (.invokestatic 213, 3) := by decide +kernel
theorem dX11_badTrial_38 : decode cX11_badTrial 38 = .ok (.ifCond .ne 7, 3) := by decide +kernel
theorem dX11_badTrial_41 : decode cX11_badTrial 41 = .ok (.iconst 1, 1) := by decide +kernel
theorem dX11_badTrial_42 : decode cX11_badTrial 42 = .ok (.goto 4, 3) := by decide +kernel
theorem dX11_badTrial_45 : decode cX11_badTrial 45 = .ok (.iconst 0, 1) := by decide +kernel
theorem dX11_badTrial_46 : decode cX11_badTrial 46 = .ok (.iconst 2, 1) := by decide +kernel
theorem dX11_badTrial_47 : decode cX11_badTrial 47 = .ok (.invokevirtual 176, 3) := by decide +kernel
theorem dX11_badTrial_50 : decode cX11_badTrial 50 = .ok (.ifCond .eq 7, 3) := by decide +kernel
theorem dX11_badTrial_53 : decode cX11_badTrial 53 = .ok (.iconst 1, 1) := by decide +kernel
theorem dX11_badTrial_54 : decode cX11_badTrial 54 = .ok (.goto 4, 3) := by decide +kernel
theorem dX11_badTrial_57 : decode cX11_badTrial 57 = .ok (.iconst 0, 1) := by decide +kernel
theorem dX11_badTrial_58 : decode cX11_badTrial 58 = .ok (.ireturn, 1) := by decide +kernel
set_option maxRecDepth 20000 in
theorem ggX11_grows_X11_badTrial : GoodIn wsX11_grows wsX11_badTrial := goodIn_r _ [6, 7, 8, 9, 5, 10, 11, 12, 13, 14, 15, 16, 17, 18, 1, 19, 20, 21, 97, 98, 99, 100, 101, 102, 103, 104, 105, 106, 107, 108, 109, 110, 111, 112, 113, 114, 115, 116, 117, 118, 119, 120, 121, 122, 123, 124, 125, 126, 127, 128, 129, 130, 131, 132, 133, 134, 135, 136, 137, 138] (by decide +kernel) (by decide +kernel)
set_option maxRecDepth 20000 in
theorem gX11_grows_X11_badTrial : GoodIn wsX11_grows (wsV RX11 260 RX11 yX11_badTrial wsX11_badTrial) := goodIn_app (goodIn_of _ (by decide +kernel)) ggX11_grows_X11_badTrial
set_option maxRecDepth 20000 in
theorem ggX11_grows_X11_growsBy : GoodIn wsX11_grows wsX11_growsBy := goodIn_r _ [25, 26, 27, 28, 5, 29, 30, 31, 32, 33, 34, 35, 36, 37, 38, 39, 40, 41, 42, 43, 44, 45, 46, 47, 48, 49, 50, 51, 52, 53, 54, 55, 56, 57, 58, 59, 60, 61, 62, 63, 64, 65, 66, 67, 68, 69, 70, 71, 72, 73, 74, 75, 76, 77, 78, 79, 80, 81, 82, 83, 84, 85, 86, 87, 88, 89, 90, 91, 92, 93, 94, 95, 96, 97, 98, 99, 100, 101, 102, 103, 104, 105, 106, 107, 108, 109, 110, 111, 112, 113, 114, 115, 116, 117, 118, 119, 120, 121, 122, 123, 124, 125, 126, 127, 128, 129, 130, 131, 132, 133, 134, 135, 136, 137, 138] (by decide +kernel) (by decide +kernel)
set_option maxRecDepth 20000 in
theorem gX11_grows_X11_growsBy : GoodIn wsX11_grows (wsV RX11 264 RX11 yX11_growsBy wsX11_growsBy) := goodIn_app (goodIn_of _ (by decide +kernel)) ggX11_grows_X11_growsBy
theorem dX11_grows_0 : decode cX11_grows 0 = .ok (.aload_n 0, 1) := by decide +kernel
theorem dX11_grows_1 : decode cX11_grows 1 = .ok (.iconst 0, 1) := by decide +kernel
theorem dX11_grows_2 : decode cX11_grows 2 = .ok (.putfield 83, 3) := by decide +kernel
theorem dX11_grows_5 : decode cX11_grows 5 = .ok (.aload_n 0, 1) := by decide +kernel
theorem dX11_grows_6 : decode cX11_grows 6 = .ok (.iload_n 1, 1) := by decide +kernel
theorem dX11_grows_7 : decode cX11_grows 7 = .ok (.iload_n 2, 1) := by decide +kernel
theorem dX11_grows_8 : decode cX11_grows 8 = .ok (.iload_n 3, 1) := by decide +kernel
theorem dX11_grows_9 : decode cX11_grows 9 = .ok (.iload 4, 2) := by decide +kernel
theorem dX11_grows_11 : decode cX11_grows 11 = .ok (.invokevirtual 260, 3) := by decide +kernel
theorem dX11_grows_14 : decode cX11_grows 14 = .ok (.ifCond .eq 5, 3) := by decide +kernel
theorem dX11_grows_17 : decode cX11_grows 17 = .ok (.iconst 0, 1) := by decide +kernel
theorem dX11_grows_18 : decode cX11_grows 18 = .ok (.ireturn, 1) := by decide +kernel
theorem dX11_grows_19 : decode cX11_grows 19 = .ok (.aload_n 0, 1) := by decide +kernel
theorem dX11_grows_20 : decode cX11_grows 20 = .ok (.iload_n 1, 1) := by decide +kernel
theorem dX11_grows_21 : decode cX11_grows 21 = .ok (.iload_n 2, 1) := by decide +kernel
theorem dX11_grows_22 : decode cX11_grows 22 = .ok (.iload_n 3, 1) := by decide +kernel
theorem dX11_grows_23 : decode cX11_grows 23 = .ok (.iload 4, 2) := by decide +kernel
theorem dX11_grows_25 : decode cX11_grows 25 = .ok (.bipush 100, 2) := by decide +kernel
theorem dX11_grows_27 : decode cX11_grows 27 = .ok (.invokevirtual 264, 3) := by decide +kernel
theorem dX11_grows_30 : decode cX11_grows 30 = .ok (.ireturn, 1) := by decide +kernel
set_option maxRecDepth 20000 in
theorem ggX11_lineOf_X11_growsBy : GoodIn wsX11_lineOf wsX11_growsBy := goodIn_r _ [5, 6, 7, 8, 4, 9, 10, 11, 12, 13, 14, 15, 16, 17, 18, 19, 20, 21, 22, 23, 24, 25, 26, 27, 28, 29, 30, 31, 32, 33, 34, 35, 36, 37, 38, 39, 40, 41, 42, 43, 44, 45, 46, 47, 48, 49, 50, 51, 52, 53, 54, 55, 56, 57, 58, 59, 60, 61, 62, 63, 64, 65, 66, 67, 68, 69, 70, 71, 72, 73, 74, 75, 76, 77, 78, 79, 80, 81, 82, 83, 84, 85, 86, 87, 88, 89, 90, 91, 92, 93, 94, 95, 96, 97, 98, 99, 100, 101, 102, 103, 104, 105, 106, 107, 108, 109, 110, 111, 112, 113, 114, 115, 116, 117, 118] (by decide +kernel) (by decide +kernel)
set_option maxRecDepth 20000 in
theorem gX11_lineOf_X11_growsBy : GoodIn wsX11_lineOf (wsV RX11 264 RX11 yX11_growsBy wsX11_growsBy) := goodIn_app (goodIn_of _ (by decide +kernel)) ggX11_lineOf_X11_growsBy
theorem dX11_lineOf_0 : decode cX11_lineOf 0 = .ok (.iconst 0, 1) := by decide +kernel
theorem dX11_lineOf_1 : decode cX11_lineOf 1 = .ok (.istore 4, 2) := by decide +kernel
theorem dX11_lineOf_3 : decode cX11_lineOf 3 = .ok (.iload 4, 2) := by decide +kernel
theorem dX11_lineOf_5 : decode cX11_lineOf 5 = .ok (.bipush 60, 2) := by decide +kernel
theorem dX11_lineOf_7 : decode cX11_lineOf 7 = .ok (.if_icmp .gt 26, 3) := by decide +kernel
theorem dX11_lineOf_10 : decode cX11_lineOf 10 = .ok (.aload_n 0, 1) := by decide +kernel
theorem dX11_lineOf_11 : decode cX11_lineOf 11 = .ok (.iload_n 1, 1) := by decide +kernel
theorem dX11_lineOf_12 : decode cX11_lineOf 12 = .ok (.iload 4, 2) := by decide +kernel
theorem dX11_lineOf_14 : decode cX11_lineOf 14 = .ok (.iload_n 2, 1) := by decide +kernel
theorem dX11_lineOf_15 : decode cX11_lineOf 15 = .ok (.iload_n 3, 1) := by decide +kernel
theorem dX11_lineOf_16 : decode cX11_lineOf 16 = .ok (.bipush 100, 2) := by decide +kernel
theorem dX11_lineOf_18 : decode cX11_lineOf 18 = .ok (.invokevirtual 264, 3) := by decide +kernel
theorem dX11_lineOf_21 : decode cX11_lineOf 21 = .ok (.ifCond .eq 6, 3) := by decide +kernel
theorem dX11_lineOf_24 : decode cX11_lineOf 24 = .ok (.iload 4, 2) := by decide +kernel
theorem dX11_lineOf_26 : decode cX11_lineOf 26 = .ok (.ireturn, 1) := by decide +kernel
theorem dX11_lineOf_27 : decode cX11_lineOf 27 = .ok (.iinc 4 1, 3) := by decide +kernel
theorem dX11_lineOf_30 : decode cX11_lineOf 30 = .ok (.goto (-27), 3) := by decide +kernel
theorem dX11_lineOf_33 : decode cX11_lineOf 33 = .ok (.iconst (-1), 1) := by decide +kernel
theorem dX11_lineOf_34 : decode cX11_lineOf 34 = .ok (.ireturn, 1) := by decide +kernel
set_option maxRecDepth 20000 in
theorem ggX11_line_X11_badTrial : GoodIn wsX11_line wsX11_badTrial := goodIn_r _ [6, 7, 8, 9, 5, 10, 11, 12, 13, 14, 15, 16, 17, 18, 1, 19, 20, 21, 101, 102, 103, 104, 105, 106, 107, 108, 109, 110, 111, 112, 113, 114, 115, 116, 117, 118, 119, 120, 121, 122, 123, 124, 125, 126, 127, 128, 129, 130, 131, 132, 133, 134, 135, 136, 137, 138, 139, 140, 141, 142] (by decide +kernel) (by decide +kernel)
set_option maxRecDepth 20000 in
theorem gX11_line_X11_badTrial : GoodIn wsX11_line (wsV RX11 260 RX11 yX11_badTrial wsX11_badTrial) := goodIn_app (goodIn_of _ (by decide +kernel)) ggX11_line_X11_badTrial
set_option maxRecDepth 20000 in
theorem ggX11_line_X11_lineOf : GoodIn wsX11_line wsX11_lineOf := goodIn_r _ [25, 26, 27, 28, 5, 29, 30, 31, 32, 33, 34, 35, 36, 37, 38, 39, 40, 41, 42, 43, 44, 45, 46, 47, 48, 49, 50, 51, 52, 53, 54, 55, 56, 57, 58, 59, 60, 61, 62, 63, 64, 65, 66, 67, 68, 69, 70, 71, 72, 73, 74, 75, 76, 77, 78, 79, 80, 81, 82, 83, 84, 85, 86, 87, 88, 89, 90, 91, 92, 93, 94, 95, 96, 97, 98, 99, 100, 101, 102, 103, 104, 105, 106, 107, 108, 109, 110, 111, 112, 113, 114, 115, 116, 117, 118, 119, 120, 121, 122, 123, 124, 125, 126, 127, 128, 129, 130, 131, 132, 133, 134, 135, 136, 137, 138, 139, 140, 141, 142] (by decide +kernel) (by decide +kernel)
set_option maxRecDepth 20000 in
theorem gX11_line_X11_lineOf : GoodIn wsX11_line (wsV RX11 268 RX11 yX11_lineOf wsX11_lineOf) := goodIn_app (goodIn_of _ (by decide +kernel)) ggX11_line_X11_lineOf
theorem dX11_line_0 : decode cX11_line 0 = .ok (.aload_n 0, 1) := by decide +kernel
theorem dX11_line_1 : decode cX11_line 1 = .ok (.iconst 0, 1) := by decide +kernel
theorem dX11_line_2 : decode cX11_line 2 = .ok (.putfield 83, 3) := by decide +kernel
theorem dX11_line_5 : decode cX11_line 5 = .ok (.aload_n 0, 1) := by decide +kernel
theorem dX11_line_6 : decode cX11_line 6 = .ok (.iload_n 1, 1) := by decide +kernel
theorem dX11_line_7 : decode cX11_line 7 = .ok (.iconst 0, 1) := by decide +kernel
theorem dX11_line_8 : decode cX11_line 8 = .ok (.iload_n 2, 1) := by decide +kernel
theorem dX11_line_9 : decode cX11_line 9 = .ok (.iload_n 3, 1) := by decide +kernel
theorem dX11_line_10 : decode cX11_line 10 = .ok (.invokevirtual 260, 3) := by decide +kernel
theorem dX11_line_13 : decode cX11_line 13 = .ok (.ifCond .eq 5, 3) := by decide +kernel
theorem dX11_line_16 : decode cX11_line 16 = .ok (.iconst 0, 1) := by decide +kernel
theorem dX11_line_17 : decode cX11_line 17 = .ok (.ireturn, 1) := by decide +kernel
theorem dX11_line_18 : decode cX11_line 18 = .ok (.aload_n 0, 1) := by decide +kernel
theorem dX11_line_19 : decode cX11_line 19 = .ok (.iload_n 1, 1) := by decide +kernel
theorem dX11_line_20 : decode cX11_line 20 = .ok (.iload_n 2, 1) := by decide +kernel
theorem dX11_line_21 : decode cX11_line 21 = .ok (.iload_n 3, 1) := by decide +kernel
theorem dX11_line_22 : decode cX11_line 22 = .ok (.invokevirtual 268, 3) := by decide +kernel
theorem dX11_line_25 : decode cX11_line 25 = .ok (.ireturn, 1) := by decide +kernel
set_option maxRecDepth 20000 in
theorem ggX11_why_X11_badTrial : GoodIn wsX11_why wsX11_badTrial := goodIn_r _ [6, 7, 8, 9, 5, 10, 11, 12, 13, 14, 15, 16, 17, 18, 1, 19, 20, 21, 97, 98, 99, 100, 101, 102, 103, 104, 105, 106, 107, 108, 109, 110, 111, 112, 113, 114, 115, 116, 117, 118, 119, 120, 121, 122, 123, 124, 125, 126, 127, 128, 129, 130, 131, 132, 133, 134, 135, 136, 137, 138] (by decide +kernel) (by decide +kernel)
set_option maxRecDepth 20000 in
theorem gX11_why_X11_badTrial : GoodIn wsX11_why (wsV RX11 260 RX11 yX11_badTrial wsX11_badTrial) := goodIn_app (goodIn_of _ (by decide +kernel)) ggX11_why_X11_badTrial
set_option maxRecDepth 20000 in
theorem ggX11_why_X11_growsBy : GoodIn wsX11_why wsX11_growsBy := goodIn_r _ [25, 26, 27, 28, 5, 29, 30, 31, 32, 33, 34, 35, 36, 37, 38, 39, 40, 41, 42, 43, 44, 45, 46, 47, 48, 49, 50, 51, 52, 53, 54, 55, 56, 57, 58, 59, 60, 61, 62, 63, 64, 65, 66, 67, 68, 69, 70, 71, 72, 73, 74, 75, 76, 77, 78, 79, 80, 81, 82, 83, 84, 85, 86, 87, 88, 89, 90, 91, 92, 93, 94, 95, 96, 97, 98, 99, 100, 101, 102, 103, 104, 105, 106, 107, 108, 109, 110, 111, 112, 113, 114, 115, 116, 117, 118, 119, 120, 121, 122, 123, 124, 125, 126, 127, 128, 129, 130, 131, 132, 133, 134, 135, 136, 137, 138] (by decide +kernel) (by decide +kernel)
set_option maxRecDepth 20000 in
theorem gX11_why_X11_growsBy : GoodIn wsX11_why (wsV RX11 264 RX11 yX11_growsBy wsX11_growsBy) := goodIn_app (goodIn_of _ (by decide +kernel)) ggX11_why_X11_growsBy
theorem dX11_why_0 : decode cX11_why 0 = .ok (.aload_n 0, 1) := by decide +kernel
theorem dX11_why_1 : decode cX11_why 1 = .ok (.iconst 0, 1) := by decide +kernel
theorem dX11_why_2 : decode cX11_why 2 = .ok (.putfield 83, 3) := by decide +kernel
theorem dX11_why_5 : decode cX11_why 5 = .ok (.aload_n 0, 1) := by decide +kernel
theorem dX11_why_6 : decode cX11_why 6 = .ok (.iload_n 1, 1) := by decide +kernel
theorem dX11_why_7 : decode cX11_why 7 = .ok (.iload_n 2, 1) := by decide +kernel
theorem dX11_why_8 : decode cX11_why 8 = .ok (.iload_n 3, 1) := by decide +kernel
theorem dX11_why_9 : decode cX11_why 9 = .ok (.iload 4, 2) := by decide +kernel
theorem dX11_why_11 : decode cX11_why 11 = .ok (.invokevirtual 260, 3) := by decide +kernel
theorem dX11_why_14 : decode cX11_why 14 = .ok (.ifCond .eq 5, 3) := by decide +kernel
theorem dX11_why_17 : decode cX11_why 17 = .ok (.iconst 0, 1) := by decide +kernel
theorem dX11_why_18 : decode cX11_why 18 = .ok (.ireturn, 1) := by decide +kernel
theorem dX11_why_19 : decode cX11_why 19 = .ok (.aload_n 0, 1) := by decide +kernel
theorem dX11_why_20 : decode cX11_why 20 = .ok (.iload_n 1, 1) := by decide +kernel
theorem dX11_why_21 : decode cX11_why 21 = .ok (.iload_n 2, 1) := by decide +kernel
theorem dX11_why_22 : decode cX11_why 22 = .ok (.iload_n 3, 1) := by decide +kernel
theorem dX11_why_23 : decode cX11_why 23 = .ok (.iload 4, 2) := by decide +kernel
theorem dX11_why_25 : decode cX11_why 25 = .ok (.bipush 100, 2) := by decide +kernel
theorem dX11_why_27 : decode cX11_why 27 = .ok (.invokevirtual 264, 3) := by decide +kernel
theorem dX11_why_30 : decode cX11_why 30 = .ok (.ifCond .eq 22, 3) := by decide +kernel
theorem dX11_why_33 : decode cX11_why 33 = .ok (.aload_n 0, 1) := by decide +kernel
theorem dX11_why_34 : decode cX11_why 34 = .ok (.iload_n 1, 1) := by decide +kernel
theorem dX11_why_35 : decode cX11_why 35 = .ok (.iload_n 2, 1) := by decide +kernel
theorem dX11_why_36 : decode cX11_why 36 = .ok (.iload_n 3, 1) := by decide +kernel
theorem dX11_why_37 : decode cX11_why 37 = .ok (.iload 4, 2) := by decide +kernel
theorem dX11_why_39 : decode cX11_why 39 = .ok (.sipush 200, 3) := by decide +kernel
theorem dX11_why_42 : decode cX11_why 42 = .ok (.invokevirtual 264, 3) := by decide +kernel
theorem dX11_why_45 : decode cX11_why 45 = .ok (.ifCond .eq 7, 3) := by decide +kernel
theorem dX11_why_48 : decode cX11_why 48 = .ok (.iconst 1, 1) := by decide +kernel
theorem dX11_why_49 : decode cX11_why 49 = .ok (.goto 4, 3) := by decide +kernel
theorem dX11_why_52 : decode cX11_why 52 = .ok (.iconst 0, 1) := by decide +kernel
theorem dX11_why_53 : decode cX11_why 53 = .ok (.istore 5, 2) := by decide +kernel
theorem dX11_why_55 : decode cX11_why 55 = .ok (.iload 5, 2) := by decide +kernel
theorem dX11_why_57 : decode cX11_why 57 = .ok (.aload_n 0, 1) := by decide +kernel
theorem dX11_why_58 : decode cX11_why 58 = .ok (.iload_n 1, 1) := by decide +kernel
theorem dX11_why_59 : decode cX11_why 59 = .ok (.iload_n 2, 1) := by decide +kernel
theorem dX11_why_60 : decode cX11_why 60 = .ok (.iload_n 3, 1) := by decide +kernel
theorem dX11_why_61 : decode cX11_why 61 = .ok (.iload 4, 2) := by decide +kernel
theorem dX11_why_63 : decode cX11_why 63 = .ok (.iconst 1, 1) := by decide +kernel
theorem dX11_why_64 : decode cX11_why 64 = .ok (.invokevirtual 264, 3) := by decide +kernel
theorem dX11_why_67 : decode cX11_why 67 = .ok (.ifCond .eq 22, 3) := by decide +kernel
theorem dX11_why_70 : decode cX11_why 70 = .ok (.aload_n 0, 1) := by decide +kernel
theorem dX11_why_71 : decode cX11_why 71 = .ok (.iload_n 1, 1) := by decide +kernel
theorem dX11_why_72 : decode cX11_why 72 = .ok (.iload_n 2, 1) := by decide +kernel
theorem dX11_why_73 : decode cX11_why 73 = .ok (.iload_n 3, 1) := by decide +kernel
theorem dX11_why_74 : decode cX11_why 74 = .ok (.iload 4, 2) := by decide +kernel
theorem dX11_why_76 : decode cX11_why 76 = .ok (.sipush 1000, 3) := by decide +kernel
theorem dX11_why_79 : decode cX11_why 79 = .ok (.invokevirtual 264, 3) := by decide +kernel
theorem dX11_why_82 : decode cX11_why 82 = .ok (.ifCond .ne 7, 3) := by decide +kernel
theorem dX11_why_85 : decode cX11_why 85 = .ok (.iconst 2, 1) := by decide +kernel
theorem dX11_why_86 : decode cX11_why 86 = .ok (.goto 4, 3) := by decide +kernel
theorem dX11_why_89 : decode cX11_why 89 = .ok (.iconst 0, 1) := by decide +kernel
theorem dX11_why_90 : decode cX11_why 90 = .ok (.iadd, 1) := by decide +kernel
theorem dX11_why_91 : decode cX11_why 91 = .ok (.ireturn, 1) := by decide +kernel
theorem dX11_isSo_0 : decode cX11_isSo 0 = .ok (.iconst 0, 1) := by decide +kernel
theorem dX11_isSo_1 : decode cX11_isSo 1 = .ok (.istore_n 2, 1) := by decide +kernel
theorem dX11_isSo_2 : decode cX11_isSo 2 = .ok (.iload_n 2, 1) := by decide +kernel
theorem dX11_isSo_3 : decode cX11_isSo 3 = .ok (.aload_n 0, 1) := by decide +kernel
theorem dX11_isSo_4 : decode cX11_isSo 4 = .ok (.getfield 37, 3) := by decide +kernel
theorem dX11_isSo_7 : decode cX11_isSo 7 = .ok (.if_icmp .ge 37, 3) := by decide +kernel
theorem dX11_isSo_10 : decode cX11_isSo 10 = .ok (.iload_n 1, 1) := by decide +kernel
theorem dX11_isSo_11 : decode cX11_isSo 11 = .ok (.ifCond .eq 15, 3) := by decide +kernel
theorem dX11_isSo_14 : decode cX11_isSo 14 = .ok (.aload_n 0, 1) := by decide +kernel
theorem dX11_isSo_15 : decode cX11_isSo 15 = .ok (.getfield 52, 3) := by decide +kernel
theorem dX11_isSo_18 : decode cX11_isSo 18 = .ok (.iload_n 2, 1) := by decide +kernel
theorem dX11_isSo_19 : decode cX11_isSo 19 = .ok (.baload, 1) := by decide +kernel
theorem dX11_isSo_20 : decode cX11_isSo 20 = .ok (.ifCond .eq 18, 3) := by decide +kernel
theorem dX11_isSo_23 : decode cX11_isSo 23 = .ok (.goto 13, 3) := by decide +kernel
theorem dX11_isSo_26 : decode cX11_isSo 26 = .ok (.aload_n 0, 1) := by decide +kernel
theorem dX11_isSo_27 : decode cX11_isSo 27 = .ok (.getfield 49, 3) := by decide +kernel
theorem dX11_isSo_30 : decode cX11_isSo 30 = .ok (.iload_n 2, 1) := by decide +kernel
theorem dX11_isSo_31 : decode cX11_isSo 31 = .ok (.iaload, 1) := by decide +kernel
theorem dX11_isSo_32 : decode cX11_isSo 32 = .ok (.iconst 1, 1) := by decide +kernel
theorem dX11_isSo_33 : decode cX11_isSo 33 = .ok (.if_icmp .ne 5, 3) := by decide +kernel
theorem dX11_isSo_36 : decode cX11_isSo 36 = .ok (.iload_n 2, 1) := by decide +kernel
theorem dX11_isSo_37 : decode cX11_isSo 37 = .ok (.ireturn, 1) := by decide +kernel
theorem dX11_isSo_38 : decode cX11_isSo 38 = .ok (.iinc 2 1, 3) := by decide +kernel
theorem dX11_isSo_41 : decode cX11_isSo 41 = .ok (.goto (-39), 3) := by decide +kernel
theorem dX11_isSo_44 : decode cX11_isSo 44 = .ok (.iconst (-1), 1) := by decide +kernel
theorem dX11_isSo_45 : decode cX11_isSo 45 = .ok (.ireturn, 1) := by decide +kernel
set_option maxRecDepth 20000 in
theorem ggX11_firstOf_X11_begins : GoodIn wsX11_firstOf wsX11_begins := goodIn_r _ [5, 6, 7, 8, 9, 10, 11, 4, 12, 13, 14, 15, 16, 17, 18, 19, 20, 21, 22, 73, 74, 75, 76, 77, 78, 79, 80, 81, 82, 83, 84, 85, 86, 87, 88, 89, 90, 91, 92, 93, 94, 95, 96, 97, 98, 99, 100, 101, 102, 103, 104, 105, 106, 107, 108, 109, 110, 111, 112, 113, 114] (by decide +kernel) (by decide +kernel)
set_option maxRecDepth 20000 in
theorem gX11_firstOf_X11_begins : GoodIn wsX11_firstOf (wsV RX11 254 RX11 yX11_begins wsX11_begins) := goodIn_app (goodIn_of _ (by decide +kernel)) ggX11_firstOf_X11_begins
set_option maxRecDepth 20000 in
theorem ggX11_firstOf_X11_tick : GoodIn wsX11_firstOf wsX11_tick := goodIn_r _ [26, 22, 15, 27, 28, 29, 30, 31, 32, 7, 8, 6, 33, 34, 35, 4, 36, 37, 38, 39, 40, 41, 42, 43, 44, 45, 46, 47, 48, 49, 50, 51, 52, 53, 54, 55, 56, 57, 58, 59, 60, 61, 62, 63, 64, 73, 74, 75, 76, 77, 78, 79, 80, 81, 82, 83, 84, 85, 86, 87, 88, 89, 90, 91, 92, 93, 94, 95, 96, 97, 98, 99, 100, 101, 102, 103, 104, 105, 106, 107, 108, 109, 110, 111, 112, 113, 114] (by decide +kernel) (by decide +kernel)
set_option maxRecDepth 20000 in
theorem gX11_firstOf_X11_tick : GoodIn wsX11_firstOf (wsV RX11 245 RX11 yX11_tick wsX11_tick) := goodIn_app (goodIn_of _ (by decide +kernel)) ggX11_firstOf_X11_tick
set_option maxRecDepth 20000 in
theorem ggX11_firstOf_X11_isSo : GoodIn wsX11_firstOf wsX11_isSo := goodIn_r _ [68, 22, 8, 7, 73, 74, 75, 76, 77, 78, 79, 80, 81, 82, 83, 84, 85, 86, 87, 88, 89, 90, 91, 92, 93, 94, 95, 96, 97, 98, 99, 100, 101, 102, 103, 104, 105, 106, 107, 108, 109, 110, 111, 112, 113, 114] (by decide +kernel) (by decide +kernel)
set_option maxRecDepth 20000 in
theorem gX11_firstOf_X11_isSo : GoodIn wsX11_firstOf (wsV RX11 271 RX11 yX11_isSo wsX11_isSo) := goodIn_app (goodIn_of _ (by decide +kernel)) ggX11_firstOf_X11_isSo
set_option maxRecDepth 20000 in
theorem ggX11_firstOf_X11_laysBack : GoodIn wsX11_firstOf wsX11_laysBack := goodIn_r _ [72, 13, 6, 15, 14, 7, 16, 8, 17, 73, 74, 75, 76, 77, 78, 79, 80, 81, 82, 83, 84, 85, 86, 87, 88, 89, 90, 91, 92, 93, 94, 95, 96, 97, 98, 99, 100, 101, 102, 103, 104, 105, 106, 107, 108, 109, 110, 111, 112, 113, 114] (by decide +kernel) (by decide +kernel)
set_option maxRecDepth 20000 in
theorem gX11_firstOf_X11_laysBack : GoodIn wsX11_firstOf (wsV RX11 257 RX11 yX11_laysBack wsX11_laysBack) := goodIn_app (goodIn_of _ (by decide +kernel)) ggX11_firstOf_X11_laysBack
theorem dX11_firstOf_0 : decode cX11_firstOf 0 = .ok (.aload_n 0, 1) := by decide +kernel
theorem dX11_firstOf_1 : decode cX11_firstOf 1 = .ok (.iload_n 3, 1) := by decide +kernel
theorem dX11_firstOf_2 : decode cX11_firstOf 2 = .ok (.iload 4, 2) := by decide +kernel
theorem dX11_firstOf_4 : decode cX11_firstOf 4 = .ok (.bipush 100, 2) := by decide +kernel
theorem dX11_firstOf_6 : decode cX11_firstOf 6 = .ok (.invokevirtual 254, 3) := by decide +kernel
theorem dX11_firstOf_9 : decode cX11_firstOf 9 = .ok (.iconst (-1), 1) := by decide +kernel
theorem dX11_firstOf_10 : decode cX11_firstOf 10 = .ok (.istore 6, 2) := by decide +kernel
theorem dX11_firstOf_12 : decode cX11_firstOf 12 = .ok (.iconst 1, 1) := by decide +kernel
theorem dX11_firstOf_13 : decode cX11_firstOf 13 = .ok (.istore 7, 2) := by decide +kernel
theorem dX11_firstOf_15 : decode cX11_firstOf 15 = .ok (.iload 7, 2) := by decide +kernel
theorem dX11_firstOf_17 : decode cX11_firstOf 17 = .ok (.bipush 60, 2) := by decide +kernel
theorem dX11_firstOf_19 : decode cX11_firstOf 19 = .ok (.if_icmp .gt 49, 3) := by decide +kernel
theorem dX11_firstOf_22 : decode cX11_firstOf 22 = .ok (.iload 6, 2) := by decide +kernel
theorem dX11_firstOf_24 : decode cX11_firstOf 24 = .ok (.iconst (-1), 1) := by decide +kernel
theorem dX11_firstOf_25 : decode cX11_firstOf 25 = .ok (.if_icmp .ne 43, 3) := by decide +kernel
theorem dX11_firstOf_28 : decode cX11_firstOf 28 = .ok (.aload_n 0, 1) := by decide +kernel
theorem dX11_firstOf_29 : decode cX11_firstOf 29 = .ok (.iload_n 1, 1) := by decide +kernel
theorem dX11_firstOf_30 : decode cX11_firstOf 30 = .ok (.iload_n 2, 1) := by decide +kernel
theorem dX11_firstOf_31 : decode cX11_firstOf 31 = .ok (.invokevirtual 245, 3) := by decide +kernel
theorem dX11_firstOf_34 : decode cX11_firstOf 34 = .ok (.aload_n 0, 1) := by decide +kernel
theorem dX11_firstOf_35 : decode cX11_firstOf 35 = .ok (.iload 5, 2) := by decide +kernel
theorem dX11_firstOf_37 : decode cX11_firstOf 37 = .ok (.invokevirtual 271, 3) := by decide +kernel
theorem dX11_firstOf_40 : decode cX11_firstOf 40 = .ok (.istore 8, 2) := by decide +kernel
theorem dX11_firstOf_42 : decode cX11_firstOf 42 = .ok (.iload 8, 2) := by decide +kernel
theorem dX11_firstOf_44 : decode cX11_firstOf 44 = .ok (.iconst (-1), 1) := by decide +kernel
theorem dX11_firstOf_45 : decode cX11_firstOf 45 = .ok (.if_icmp .ne 7, 3) := by decide +kernel
theorem dX11_firstOf_48 : decode cX11_firstOf 48 = .ok (.iconst (-1), 1) := by decide +kernel
theorem dX11_firstOf_49 : decode cX11_firstOf 49 = .ok (.goto 11, 3) := by decide +kernel
theorem dX11_firstOf_52 : decode cX11_firstOf 52 = .ok (.bipush 100, 2) := by decide +kernel
theorem dX11_firstOf_54 : decode cX11_firstOf 54 = .ok (.iload 7, 2) := by decide +kernel
theorem dX11_firstOf_56 : decode cX11_firstOf 56 = .ok (.imul, 1) := by decide +kernel
theorem dX11_firstOf_57 : decode cX11_firstOf 57 = .ok (.iload 8, 2) := by decide +kernel
theorem dX11_firstOf_59 : decode cX11_firstOf 59 = .ok (.iadd, 1) := by decide +kernel
theorem dX11_firstOf_60 : decode cX11_firstOf 60 = .ok (.istore 6, 2) := by decide +kernel
theorem dX11_firstOf_62 : decode cX11_firstOf 62 = .ok (.iinc 7 1, 3) := by decide +kernel
theorem dX11_firstOf_65 : decode cX11_firstOf 65 = .ok (.goto (-50), 3) := by decide +kernel
theorem dX11_firstOf_68 : decode cX11_firstOf 68 = .ok (.aload_n 0, 1) := by decide +kernel
theorem dX11_firstOf_69 : decode cX11_firstOf 69 = .ok (.invokevirtual 257, 3) := by decide +kernel
theorem dX11_firstOf_72 : decode cX11_firstOf 72 = .ok (.iload 6, 2) := by decide +kernel
theorem dX11_firstOf_74 : decode cX11_firstOf 74 = .ok (.ireturn, 1) := by decide +kernel
set_option maxRecDepth 20000 in
theorem ggX11_first_X11_badTrial : GoodIn wsX11_first wsX11_badTrial := goodIn_r _ [6, 7, 8, 9, 5, 10, 11, 12, 13, 14, 15, 16, 17, 18, 1, 19, 20, 21, 97, 98, 99, 100, 101, 102, 103, 104, 105, 106, 107, 108, 109, 110, 111, 112, 113, 114, 115, 116, 117, 118, 119, 120, 121, 122, 123, 124, 125, 126, 127, 128, 129, 130, 131, 132, 133, 134, 135, 136, 137, 138] (by decide +kernel) (by decide +kernel)
set_option maxRecDepth 20000 in
theorem gX11_first_X11_badTrial : GoodIn wsX11_first (wsV RX11 260 RX11 yX11_badTrial wsX11_badTrial) := goodIn_app (goodIn_of _ (by decide +kernel)) ggX11_first_X11_badTrial
set_option maxRecDepth 20000 in
theorem ggX11_first_X11_firstOf : GoodIn wsX11_first wsX11_firstOf := goodIn_r _ [25, 26, 27, 28, 5, 29, 30, 31, 32, 33, 34, 35, 36, 37, 38, 39, 40, 41, 42, 43, 44, 45, 46, 47, 48, 49, 50, 51, 52, 53, 54, 55, 56, 57, 58, 59, 60, 61, 62, 63, 64, 65, 66, 67, 68, 69, 70, 71, 72, 73, 74, 75, 76, 77, 78, 79, 80, 81, 82, 83, 84, 85, 86, 87, 88, 89, 90, 91, 92, 93, 94, 95, 96, 97, 98, 99, 100, 101, 102, 103, 104, 105, 106, 107, 108, 109, 110, 111, 112, 113, 114, 115, 116, 117, 118, 119, 120, 121, 122, 123, 124, 125, 126, 127, 128, 129, 130, 131, 132, 133, 134, 135, 136, 137, 138] (by decide +kernel) (by decide +kernel)
set_option maxRecDepth 20000 in
theorem gX11_first_X11_firstOf : GoodIn wsX11_first (wsV RX11 275 RX11 yX11_firstOf wsX11_firstOf) := goodIn_app (goodIn_of _ (by decide +kernel)) ggX11_first_X11_firstOf
theorem dX11_first_0 : decode cX11_first 0 = .ok (.aload_n 0, 1) := by decide +kernel
theorem dX11_first_1 : decode cX11_first 1 = .ok (.iconst 0, 1) := by decide +kernel
theorem dX11_first_2 : decode cX11_first 2 = .ok (.putfield 83, 3) := by decide +kernel
theorem dX11_first_5 : decode cX11_first 5 = .ok (.aload_n 0, 1) := by decide +kernel
theorem dX11_first_6 : decode cX11_first 6 = .ok (.iload_n 1, 1) := by decide +kernel
theorem dX11_first_7 : decode cX11_first 7 = .ok (.iload_n 2, 1) := by decide +kernel
theorem dX11_first_8 : decode cX11_first 8 = .ok (.iload_n 3, 1) := by decide +kernel
theorem dX11_first_9 : decode cX11_first 9 = .ok (.iload 4, 2) := by decide +kernel
theorem dX11_first_11 : decode cX11_first 11 = .ok (.invokevirtual 260, 3) := by decide +kernel
theorem dX11_first_14 : decode cX11_first 14 = .ok (.ifCond .eq 5, 3) := by decide +kernel
theorem dX11_first_17 : decode cX11_first 17 = .ok (.iconst 0, 1) := by decide +kernel
theorem dX11_first_18 : decode cX11_first 18 = .ok (.ireturn, 1) := by decide +kernel
theorem dX11_first_19 : decode cX11_first 19 = .ok (.aload_n 0, 1) := by decide +kernel
theorem dX11_first_20 : decode cX11_first 20 = .ok (.iload_n 1, 1) := by decide +kernel
theorem dX11_first_21 : decode cX11_first 21 = .ok (.iload_n 2, 1) := by decide +kernel
theorem dX11_first_22 : decode cX11_first 22 = .ok (.iload_n 3, 1) := by decide +kernel
theorem dX11_first_23 : decode cX11_first 23 = .ok (.iload 4, 2) := by decide +kernel
theorem dX11_first_25 : decode cX11_first 25 = .ok (.iload 5, 2) := by decide +kernel
theorem dX11_first_27 : decode cX11_first 27 = .ok (.invokevirtual 275, 3) := by decide +kernel
theorem dX11_first_30 : decode cX11_first 30 = .ok (.istore 6, 2) := by decide +kernel
theorem dX11_first_32 : decode cX11_first 32 = .ok (.iload 6, 2) := by decide +kernel
theorem dX11_first_34 : decode cX11_first 34 = .ok (.iconst (-1), 1) := by decide +kernel
theorem dX11_first_35 : decode cX11_first 35 = .ok (.if_icmp .ne 7, 3) := by decide +kernel
theorem dX11_first_38 : decode cX11_first 38 = .ok (.iconst (-1), 1) := by decide +kernel
theorem dX11_first_39 : decode cX11_first 39 = .ok (.goto 8, 3) := by decide +kernel
theorem dX11_first_42 : decode cX11_first 42 = .ok (.iload 6, 2) := by decide +kernel
theorem dX11_first_44 : decode cX11_first 44 = .ok (.bipush 100, 2) := by decide +kernel
theorem dX11_first_46 : decode cX11_first 46 = .ok (.idiv, 1) := by decide +kernel
theorem dX11_first_47 : decode cX11_first 47 = .ok (.ireturn, 1) := by decide +kernel
set_option maxRecDepth 20000 in
theorem ggX11_where_X11_badTrial : GoodIn wsX11_where wsX11_badTrial := goodIn_r _ [6, 7, 8, 9, 5, 10, 11, 12, 13, 14, 15, 16, 17, 18, 1, 19, 20, 21, 97, 98, 99, 100, 101, 102, 103, 104, 105, 106, 107, 108, 109, 110, 111, 112, 113, 114, 115, 116, 117, 118, 119, 120, 121, 122, 123, 124, 125, 126, 127, 128, 129, 130, 131, 132, 133, 134, 135, 136, 137, 138] (by decide +kernel) (by decide +kernel)
set_option maxRecDepth 20000 in
theorem gX11_where_X11_badTrial : GoodIn wsX11_where (wsV RX11 260 RX11 yX11_badTrial wsX11_badTrial) := goodIn_app (goodIn_of _ (by decide +kernel)) ggX11_where_X11_badTrial
set_option maxRecDepth 20000 in
theorem ggX11_where_X11_firstOf : GoodIn wsX11_where wsX11_firstOf := goodIn_r _ [25, 26, 27, 28, 5, 29, 30, 31, 32, 33, 34, 35, 36, 37, 38, 39, 40, 41, 42, 43, 44, 45, 46, 47, 48, 49, 50, 51, 52, 53, 54, 55, 56, 57, 58, 59, 60, 61, 62, 63, 64, 65, 66, 67, 68, 69, 70, 71, 72, 73, 74, 75, 76, 77, 78, 79, 80, 81, 82, 83, 84, 85, 86, 87, 88, 89, 90, 91, 92, 93, 94, 95, 96, 97, 98, 99, 100, 101, 102, 103, 104, 105, 106, 107, 108, 109, 110, 111, 112, 113, 114, 115, 116, 117, 118, 119, 120, 121, 122, 123, 124, 125, 126, 127, 128, 129, 130, 131, 132, 133, 134, 135, 136, 137, 138] (by decide +kernel) (by decide +kernel)
set_option maxRecDepth 20000 in
theorem gX11_where_X11_firstOf : GoodIn wsX11_where (wsV RX11 275 RX11 yX11_firstOf wsX11_firstOf) := goodIn_app (goodIn_of _ (by decide +kernel)) ggX11_where_X11_firstOf
theorem dX11_where_0 : decode cX11_where 0 = .ok (.aload_n 0, 1) := by decide +kernel
theorem dX11_where_1 : decode cX11_where 1 = .ok (.iconst 0, 1) := by decide +kernel
theorem dX11_where_2 : decode cX11_where 2 = .ok (.putfield 83, 3) := by decide +kernel
theorem dX11_where_5 : decode cX11_where 5 = .ok (.aload_n 0, 1) := by decide +kernel
theorem dX11_where_6 : decode cX11_where 6 = .ok (.iload_n 1, 1) := by decide +kernel
theorem dX11_where_7 : decode cX11_where 7 = .ok (.iload_n 2, 1) := by decide +kernel
theorem dX11_where_8 : decode cX11_where 8 = .ok (.iload_n 3, 1) := by decide +kernel
theorem dX11_where_9 : decode cX11_where 9 = .ok (.iload 4, 2) := by decide +kernel
theorem dX11_where_11 : decode cX11_where 11 = .ok (.invokevirtual 260, 3) := by decide +kernel
theorem dX11_where_14 : decode cX11_where 14 = .ok (.ifCond .eq 5, 3) := by decide +kernel
theorem dX11_where_17 : decode cX11_where 17 = .ok (.iconst 0, 1) := by decide +kernel
theorem dX11_where_18 : decode cX11_where 18 = .ok (.ireturn, 1) := by decide +kernel
theorem dX11_where_19 : decode cX11_where 19 = .ok (.aload_n 0, 1) := by decide +kernel
theorem dX11_where_20 : decode cX11_where 20 = .ok (.iload_n 1, 1) := by decide +kernel
theorem dX11_where_21 : decode cX11_where 21 = .ok (.iload_n 2, 1) := by decide +kernel
theorem dX11_where_22 : decode cX11_where 22 = .ok (.iload_n 3, 1) := by decide +kernel
theorem dX11_where_23 : decode cX11_where 23 = .ok (.iload 4, 2) := by decide +kernel
theorem dX11_where_25 : decode cX11_where 25 = .ok (.iload 5, 2) := by decide +kernel
theorem dX11_where_27 : decode cX11_where 27 = .ok (.invokevirtual 275, 3) := by decide +kernel
theorem dX11_where_30 : decode cX11_where 30 = .ok (.istore 6, 2) := by decide +kernel
theorem dX11_where_32 : decode cX11_where 32 = .ok (.iload 6, 2) := by decide +kernel
theorem dX11_where_34 : decode cX11_where 34 = .ok (.iconst (-1), 1) := by decide +kernel
theorem dX11_where_35 : decode cX11_where 35 = .ok (.if_icmp .ne 7, 3) := by decide +kernel
theorem dX11_where_38 : decode cX11_where 38 = .ok (.iconst (-1), 1) := by decide +kernel
theorem dX11_where_39 : decode cX11_where 39 = .ok (.goto 8, 3) := by decide +kernel
theorem dX11_where_42 : decode cX11_where 42 = .ok (.iload 6, 2) := by decide +kernel
theorem dX11_where_44 : decode cX11_where 44 = .ok (.bipush 100, 2) := by decide +kernel
theorem dX11_where_46 : decode cX11_where 46 = .ok (.irem, 1) := by decide +kernel
theorem dX11_where_47 : decode cX11_where 47 = .ok (.ireturn, 1) := by decide +kernel
set_option maxRecDepth 20000 in
theorem ggX11_slip_X11_badTrial : GoodIn wsX11_slip wsX11_badTrial := goodIn_r _ [8, 9, 10, 11, 7, 12, 13, 14, 15, 16, 17, 18, 19, 20, 1, 21, 22, 23, 98, 99, 100, 101, 102, 103, 104, 105, 106, 107, 108, 109, 110, 111, 112, 113, 114, 115, 116, 117, 118, 119, 120, 121, 122, 123, 124, 125, 126, 127, 128, 129, 130, 131, 132, 133, 134, 135, 136, 137, 138, 139] (by decide +kernel) (by decide +kernel)
set_option maxRecDepth 20000 in
theorem gX11_slip_X11_badTrial : GoodIn wsX11_slip (wsV RX11 260 RX11 yX11_badTrial wsX11_badTrial) := goodIn_app (goodIn_of _ (by decide +kernel)) ggX11_slip_X11_badTrial
set_option maxRecDepth 20000 in
theorem ggX11_slip_X11_growsBy : GoodIn wsX11_slip wsX11_growsBy := goodIn_r _ [27, 28, 29, 30, 7, 31, 32, 3, 33, 34, 35, 36, 37, 38, 39, 40, 41, 42, 43, 44, 45, 46, 47, 48, 49, 50, 51, 52, 53, 54, 55, 56, 57, 58, 59, 60, 61, 62, 63, 64, 65, 66, 67, 68, 69, 70, 71, 72, 73, 74, 75, 76, 77, 78, 79, 80, 81, 82, 83, 84, 85, 86, 87, 88, 89, 90, 91, 92, 93, 94, 95, 96, 97, 98, 99, 100, 101, 102, 103, 104, 105, 106, 107, 108, 109, 110, 111, 112, 113, 114, 115, 116, 117, 118, 119, 120, 121, 122, 123, 124, 125, 126, 127, 128, 129, 130, 131, 132, 133, 134, 135, 136, 137, 138, 139] (by decide +kernel) (by decide +kernel)
set_option maxRecDepth 20000 in
theorem gX11_slip_X11_growsBy : GoodIn wsX11_slip (wsV RX11 264 RX11 yX11_growsBy wsX11_growsBy) := goodIn_app (goodIn_of _ (by decide +kernel)) ggX11_slip_X11_growsBy
theorem dX11_slip_0 : decode cX11_slip 0 = .ok (.aload_n 0, 1) := by decide +kernel
theorem dX11_slip_1 : decode cX11_slip 1 = .ok (.iconst 0, 1) := by decide +kernel
theorem dX11_slip_2 : decode cX11_slip 2 = .ok (.putfield 83, 3) := by decide +kernel
theorem dX11_slip_5 : decode cX11_slip 5 = .ok (.aload_n 0, 1) := by decide +kernel
theorem dX11_slip_6 : decode cX11_slip 6 = .ok (.iload_n 1, 1) := by decide +kernel
theorem dX11_slip_7 : decode cX11_slip 7 = .ok (.iload_n 2, 1) := by decide +kernel
theorem dX11_slip_8 : decode cX11_slip 8 = .ok (.iconst 1, 1) := by decide +kernel
theorem dX11_slip_9 : decode cX11_slip 9 = .ok (.iload_n 3, 1) := by decide +kernel
theorem dX11_slip_10 : decode cX11_slip 10 = .ok (.invokevirtual 260, 3) := by decide +kernel
theorem dX11_slip_13 : decode cX11_slip 13 = .ok (.ifCond .eq 5, 3) := by decide +kernel
theorem dX11_slip_16 : decode cX11_slip 16 = .ok (.iconst 0, 1) := by decide +kernel
theorem dX11_slip_17 : decode cX11_slip 17 = .ok (.ireturn, 1) := by decide +kernel
theorem dX11_slip_18 : decode cX11_slip 18 = .ok (.aload_n 0, 1) := by decide +kernel
theorem dX11_slip_19 : decode cX11_slip 19 = .ok (.iload_n 1, 1) := by decide +kernel
theorem dX11_slip_20 : decode cX11_slip 20 = .ok (.iload_n 2, 1) := by decide +kernel
theorem dX11_slip_21 : decode cX11_slip 21 = .ok (.iconst 1, 1) := by decide +kernel
theorem dX11_slip_22 : decode cX11_slip 22 = .ok (.iload_n 3, 1) := by decide +kernel
theorem dX11_slip_23 : decode cX11_slip 23 = .ok (.bipush 100, 2) := by decide +kernel
theorem dX11_slip_25 : decode cX11_slip 25 = .ok (.invokevirtual 264, 3) := by decide +kernel
theorem dX11_slip_28 : decode cX11_slip 28 = .ok (.ifCond .eq 7, 3) := by decide +kernel
theorem dX11_slip_31 : decode cX11_slip 31 = .ok (.iconst 1, 1) := by decide +kernel
theorem dX11_slip_32 : decode cX11_slip 32 = .ok (.goto 4, 3) := by decide +kernel
theorem dX11_slip_35 : decode cX11_slip 35 = .ok (.iconst 0, 1) := by decide +kernel
theorem dX11_slip_36 : decode cX11_slip 36 = .ok (.istore 4, 2) := by decide +kernel
theorem dX11_slip_38 : decode cX11_slip 38 = .ok (.bipush 8, 2) := by decide +kernel
theorem dX11_slip_40 : decode cX11_slip 40 = .ok (.newarray .int, 2) := by decide +kernel
theorem dX11_slip_42 : decode cX11_slip 42 = .ok (.astore 5, 2) := by decide +kernel
theorem dX11_slip_44 : decode cX11_slip 44 = .ok (.iconst 0, 1) := by decide +kernel
theorem dX11_slip_45 : decode cX11_slip 45 = .ok (.istore 6, 2) := by decide +kernel
theorem dX11_slip_47 : decode cX11_slip 47 = .ok (.iload 6, 2) := by decide +kernel
theorem dX11_slip_49 : decode cX11_slip 49 = .ok (.bipush 8, 2) := by decide +kernel

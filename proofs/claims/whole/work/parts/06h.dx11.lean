theorem dX11_knownOn_63 : decode cX11_knownOn 63 = .ok (.iinc 4 1, 3) := by decide +kernel
theorem dX11_knownOn_66 : decode cX11_knownOn 66 = .ok (.goto (-53), 3) := by decide +kernel
theorem dX11_knownOn_69 : decode cX11_knownOn 69 = .ok (.iinc 3 1, 3) := by decide +kernel
theorem dX11_knownOn_72 : decode cX11_knownOn 72 = .ok (.goto (-68), 3) := by decide +kernel
theorem dX11_knownOn_75 : decode cX11_knownOn 75 = .ok (.iload_n 2, 1) := by decide +kernel
theorem dX11_knownOn_76 : decode cX11_knownOn 76 = .ok (.ireturn, 1) := by decide +kernel
set_option maxRecDepth 20000 in
theorem ggX11_known_X11_in : GoodIn wsX11_known wsX11_in := goodIn_r _ [5] (by decide +kernel) (by decide +kernel)
set_option maxRecDepth 20000 in
theorem gX11_known_X11_in : GoodIn wsX11_known (va_wsS RX11 172 yX11_in wsX11_in) := goodIn_app (goodIn_of _ (by decide +kernel)) ggX11_known_X11_in
set_option maxRecDepth 20000 in
theorem ggX11_known_X11_bad : GoodIn wsX11_known wsX11_bad := goodIn_r _ [9, 1, 16, 17, 18, 19, 20, 21, 22, 23, 24, 25, 26, 27, 28, 29, 30, 31, 32, 33, 34, 35, 36, 37, 38, 39, 40, 41, 42, 43, 44, 45, 46, 47, 48, 49, 50, 51, 52, 53, 54, 55, 56, 57] (by decide +kernel) (by decide +kernel)
set_option maxRecDepth 20000 in
theorem gX11_known_X11_bad : GoodIn wsX11_known (wsV RX11 176 RX11 yX11_bad wsX11_bad) := goodIn_app (goodIn_of _ (by decide +kernel)) ggX11_known_X11_bad
set_option maxRecDepth 20000 in
theorem ggX11_known_X11_knownOn : GoodIn wsX11_known wsX11_knownOn := goodIn_r _ [13, 14, 15, 16, 17, 18, 19, 20, 21, 22, 23, 24, 25, 26, 27, 28, 29, 30, 31, 32, 33, 34, 35, 36, 37, 38, 39, 40, 41, 42, 43, 44, 45, 46, 47, 48, 49, 50, 51, 52, 53, 54, 55, 56, 57] (by decide +kernel) (by decide +kernel)
set_option maxRecDepth 20000 in
theorem gX11_known_X11_knownOn : GoodIn wsX11_known (wsV RX11 304 RX11 yX11_knownOn wsX11_knownOn) := goodIn_app (goodIn_of _ (by decide +kernel)) ggX11_known_X11_knownOn
theorem dX11_known_0 : decode cX11_known 0 = .ok (.aload_n 0, 1) := by decide +kernel
theorem dX11_known_1 : decode cX11_known 1 = .ok (.iconst 0, 1) := by decide +kernel
theorem dX11_known_2 : decode cX11_known 2 = .ok (.putfield 83, 3) := by decide +kernel
theorem dX11_known_5 : decode cX11_known 5 = .ok (.aload_n 0, 1) := by decide +kernel
theorem dX11_known_6 : decode cX11_known 6 = .ok (.iload_n 1, 1) := by decide +kernel
theorem dX11_known_7 : decode cX11_known 7 = .ok (.iconst 0, 1) := by decide +kernel
theorem dX11_known_8 : decode cX11_known 8 = .ok (.sipush 999, 3) := by decide +kernel
theorem dX11_known_11 : decode cX11_known 11 = .ok (.invokestatic 172, 3) := by decide +kernel
theorem dX11_known_14 : decode cX11_known 14 = .ok (.ifCond .ne 7, 3) := by decide +kernel
theorem dX11_known_17 : decode cX11_known 17 = .ok (.iconst 1, 1) := by decide +kernel
theorem dX11_known_18 : decode cX11_known 18 = .ok (.goto 4, 3) := by decide +kernel
theorem dX11_known_21 : decode cX11_known 21 = .ok (.iconst 0, 1) := by decide +kernel
theorem dX11_known_22 : decode cX11_known 22 = .ok (.iconst 1, 1) := by decide +kernel
theorem dX11_known_23 : decode cX11_known 23 = .ok (.invokevirtual 176, 3) := by decide +kernel
theorem dX11_known_26 : decode cX11_known 26 = .ok (.ifCond .eq 5, 3) := by decide +kernel
theorem dX11_known_29 : decode cX11_known 29 = .ok (.iconst 0, 1) := by decide +kernel
theorem dX11_known_30 : decode cX11_known 30 = .ok (.ireturn, 1) := by decide +kernel
theorem dX11_known_31 : decode cX11_known 31 = .ok (.aload_n 0, 1) := by decide +kernel
theorem dX11_known_32 : decode cX11_known 32 = .ok (.iload_n 1, 1) := by decide +kernel
theorem dX11_known_33 : decode cX11_known 33 = .ok (.invokevirtual 304, 3) := by decide +kernel
theorem dX11_known_36 : decode cX11_known 36 = .ok (.ireturn, 1) := by decide +kernel
set_option maxRecDepth 20000 in
theorem ggX11_could_X11_in : GoodIn wsX11_could wsX11_in := goodIn_r _ [5] (by decide +kernel) (by decide +kernel)
set_option maxRecDepth 20000 in
theorem gX11_could_X11_in : GoodIn wsX11_could (va_wsS RX11 172 yX11_in wsX11_in) := goodIn_app (goodIn_of _ (by decide +kernel)) ggX11_could_X11_in
set_option maxRecDepth 20000 in
theorem ggX11_could_X11_bad : GoodIn wsX11_could wsX11_bad := goodIn_r _ [9, 1, 16, 17, 18, 19, 20, 21, 22, 23, 24, 25, 26, 27, 28, 29, 30, 31, 32, 33, 34, 35, 36, 37, 38, 39, 40, 41, 42, 43, 44, 45, 46, 47, 48, 49, 50, 51, 52, 53, 54, 55, 56, 57] (by decide +kernel) (by decide +kernel)
set_option maxRecDepth 20000 in
theorem gX11_could_X11_bad : GoodIn wsX11_could (wsV RX11 176 RX11 yX11_bad wsX11_bad) := goodIn_app (goodIn_of _ (by decide +kernel)) ggX11_could_X11_bad
set_option maxRecDepth 20000 in
theorem ggX11_could_X11_knownOn : GoodIn wsX11_could wsX11_knownOn := goodIn_r _ [13, 14, 15, 16, 17, 18, 19, 20, 21, 22, 23, 24, 25, 26, 27, 28, 29, 30, 31, 32, 33, 34, 35, 36, 37, 38, 39, 40, 41, 42, 43, 44, 45, 46, 47, 48, 49, 50, 51, 52, 53, 54, 55, 56, 57] (by decide +kernel) (by decide +kernel)
set_option maxRecDepth 20000 in
theorem gX11_could_X11_knownOn : GoodIn wsX11_could (wsV RX11 304 RX11 yX11_knownOn wsX11_knownOn) := goodIn_app (goodIn_of _ (by decide +kernel)) ggX11_could_X11_knownOn
theorem dX11_could_0 : decode cX11_could 0 = .ok (.aload_n 0, 1) := by decide +kernel
theorem dX11_could_1 : decode cX11_could 1 = .ok (.iconst 0, 1) := by decide +kernel
theorem dX11_could_2 : decode cX11_could 2 = .ok (.putfield 83, 3) := by decide +kernel
theorem dX11_could_5 : decode cX11_could 5 = .ok (.aload_n 0, 1) := by decide +kernel
theorem dX11_could_6 : decode cX11_could 6 = .ok (.iload_n 1, 1) := by decide +kernel
theorem dX11_could_7 : decode cX11_could 7 = .ok (.iconst 0, 1) := by decide +kernel
theorem dX11_could_8 : decode cX11_could 8 = .ok (.sipush 255, 3) := by decide +kernel
theorem dX11_could_11 : decode cX11_could 11 = .ok (.invokestatic 172, 3) := by decide +kernel
theorem dX11_could_14 : decode cX11_could 14 = .ok (.ifCond .ne 7, 3) := by decide +kernel
theorem dX11_could_17 : decode cX11_could 17 = .ok (.iconst 1, 1) := by decide +kernel
theorem dX11_could_18 : decode cX11_could 18 = .ok (.goto 4, 3) := by decide +kernel
theorem dX11_could_21 : decode cX11_could 21 = .ok (.iconst 0, 1) := by decide +kernel
theorem dX11_could_22 : decode cX11_could 22 = .ok (.iconst 1, 1) := by decide +kernel
theorem dX11_could_23 : decode cX11_could 23 = .ok (.invokevirtual 176, 3) := by decide +kernel
theorem dX11_could_26 : decode cX11_could 26 = .ok (.ifCond .eq 5, 3) := by decide +kernel
theorem dX11_could_29 : decode cX11_could 29 = .ok (.iconst 0, 1) := by decide +kernel
theorem dX11_could_30 : decode cX11_could 30 = .ok (.ireturn, 1) := by decide +kernel
theorem dX11_could_31 : decode cX11_could 31 = .ok (.iconst 0, 1) := by decide +kernel
theorem dX11_could_32 : decode cX11_could 32 = .ok (.istore_n 2, 1) := by decide +kernel
theorem dX11_could_33 : decode cX11_could 33 = .ok (.iload_n 2, 1) := by decide +kernel
theorem dX11_could_34 : decode cX11_could 34 = .ok (.sipush 1000, 3) := by decide +kernel
theorem dX11_could_37 : decode cX11_could 37 = .ok (.if_icmp .ge 23, 3) := by decide +kernel
theorem dX11_could_40 : decode cX11_could 40 = .ok (.iload_n 1, 1) := by decide +kernel
theorem dX11_could_41 : decode cX11_could 41 = .ok (.aload_n 0, 1) := by decide +kernel
theorem dX11_could_42 : decode cX11_could 42 = .ok (.iload_n 2, 1) := by decide +kernel
theorem dX11_could_43 : decode cX11_could 43 = .ok (.invokevirtual 304, 3) := by decide +kernel
theorem dX11_could_46 : decode cX11_could 46 = .ok (.iconst (-1), 1) := by decide +kernel
theorem dX11_could_47 : decode cX11_could 47 = .ok (.ixor, 1) := by decide +kernel
theorem dX11_could_48 : decode cX11_could 48 = .ok (.iand, 1) := by decide +kernel
theorem dX11_could_49 : decode cX11_could 49 = .ok (.ifCond .ne 5, 3) := by decide +kernel
theorem dX11_could_52 : decode cX11_could 52 = .ok (.iload_n 2, 1) := by decide +kernel
theorem dX11_could_53 : decode cX11_could 53 = .ok (.ireturn, 1) := by decide +kernel
theorem dX11_could_54 : decode cX11_could 54 = .ok (.iinc 2 1, 3) := by decide +kernel
theorem dX11_could_57 : decode cX11_could 57 = .ok (.goto (-24), 3) := by decide +kernel
theorem dX11_could_60 : decode cX11_could 60 = .ok (.iconst (-1), 1) := by decide +kernel
theorem dX11_could_61 : decode cX11_could 61 = .ok (.ireturn, 1) := by decide +kernel
theorem dX11_moves_0 : decode cX11_moves 0 = .ok (.iload_n 3, 1) := by decide +kernel
theorem dX11_moves_1 : decode cX11_moves 1 = .ok (.ifCond .ne 15, 3) := by decide +kernel
theorem dX11_moves_4 : decode cX11_moves 4 = .ok (.aload_n 0, 1) := by decide +kernel
theorem dX11_moves_5 : decode cX11_moves 5 = .ok (.getfield 80, 3) := by decide +kernel
theorem dX11_moves_8 : decode cX11_moves 8 = .ok (.iload_n 1, 1) := by decide +kernel
theorem dX11_moves_9 : decode cX11_moves 9 = .ok (.aaload, 1) := by decide +kernel
theorem dX11_moves_10 : decode cX11_moves 10 = .ok (.aload_n 0, 1) := by decide +kernel
theorem dX11_moves_11 : decode cX11_moves 11 = .ok (.getfield 307, 3) := by decide +kernel
theorem dX11_moves_14 : decode cX11_moves 14 = .ok (.iload_n 2, 1) := by decide +kernel
theorem dX11_moves_15 : decode cX11_moves 15 = .ok (.iastore, 1) := by decide +kernel
theorem dX11_moves_16 : decode cX11_moves 16 = .ok (.aload_n 0, 1) := by decide +kernel
theorem dX11_moves_17 : decode cX11_moves 17 = .ok (.dup, 1) := by decide +kernel
theorem dX11_moves_18 : decode cX11_moves 18 = .ok (.getfield 307, 3) := by decide +kernel
theorem dX11_moves_21 : decode cX11_moves 21 = .ok (.iconst 1, 1) := by decide +kernel
theorem dX11_moves_22 : decode cX11_moves 22 = .ok (.iadd, 1) := by decide +kernel
theorem dX11_moves_23 : decode cX11_moves 23 = .ok (.putfield 307, 3) := by decide +kernel
theorem dX11_moves_26 : decode cX11_moves 26 = .ok (.aload_n 0, 1) := by decide +kernel
theorem dX11_moves_27 : decode cX11_moves 27 = .ok (.getfield 80, 3) := by decide +kernel
theorem dX11_moves_30 : decode cX11_moves 30 = .ok (.iload_n 1, 1) := by decide +kernel
theorem dX11_moves_31 : decode cX11_moves 31 = .ok (.aaload, 1) := by decide +kernel
theorem dX11_moves_32 : decode cX11_moves 32 = .ok (.aload_n 0, 1) := by decide +kernel
theorem dX11_moves_33 : decode cX11_moves 33 = .ok (.getfield 307, 3) := by decide +kernel
theorem dX11_moves_36 : decode cX11_moves 36 = .ok (.iconst 1, 1) := by decide +kernel
theorem dX11_moves_37 : decode cX11_moves 37 = .ok (.isub, 1) := by decide +kernel
theorem dX11_moves_38 : decode cX11_moves 38 = .ok (.iaload, 1) := by decide +kernel
theorem dX11_moves_39 : decode cX11_moves 39 = .ok (.ireturn, 1) := by decide +kernel
set_option maxRecDepth 20000 in
theorem ggX11_movesRow_X11_moves : GoodIn wsX11_movesRow wsX11_moves := goodIn_r _ [5, 6, 7, 8, 9, 10, 11, 12, 13, 14, 15, 16, 17, 18, 19, 20, 21, 22, 23, 24, 25, 26, 27, 28, 29, 30, 31, 32, 33, 34, 35, 36, 37, 38, 39, 40, 41, 42, 43, 44, 45, 46, 47, 48, 49] (by decide +kernel) (by decide +kernel)
set_option maxRecDepth 20000 in
theorem gX11_movesRow_X11_moves : GoodIn wsX11_movesRow (wsV RX11 310 RX11 yX11_moves wsX11_moves) := goodIn_app (goodIn_of _ (by decide +kernel)) ggX11_movesRow_X11_moves
theorem dX11_movesRow_0 : decode cX11_movesRow 0 = .ok (.iconst 0, 1) := by decide +kernel
theorem dX11_movesRow_1 : decode cX11_movesRow 1 = .ok (.istore 4, 2) := by decide +kernel
theorem dX11_movesRow_3 : decode cX11_movesRow 3 = .ok (.iload 4, 2) := by decide +kernel
theorem dX11_movesRow_5 : decode cX11_movesRow 5 = .ok (.aload_n 2, 1) := by decide +kernel
theorem dX11_movesRow_6 : decode cX11_movesRow 6 = .ok (.arraylength, 1) := by decide +kernel
theorem dX11_movesRow_7 : decode cX11_movesRow 7 = .ok (.if_icmp .ge 23, 3) := by decide +kernel
theorem dX11_movesRow_10 : decode cX11_movesRow 10 = .ok (.aload_n 2, 1) := by decide +kernel
theorem dX11_movesRow_11 : decode cX11_movesRow 11 = .ok (.iload 4, 2) := by decide +kernel
theorem dX11_movesRow_13 : decode cX11_movesRow 13 = .ok (.aload_n 0, 1) := by decide +kernel
theorem dX11_movesRow_14 : decode cX11_movesRow 14 = .ok (.iload_n 1, 1) := by decide +kernel
theorem dX11_movesRow_15 : decode cX11_movesRow 15 = .ok (.aload_n 2, 1) := by decide +kernel
theorem dX11_movesRow_16 : decode cX11_movesRow 16 = .ok (.iload 4, 2) := by decide +kernel
theorem dX11_movesRow_18 : decode cX11_movesRow 18 = .ok (.iaload, 1) := by decide +kernel
theorem dX11_movesRow_19 : decode cX11_movesRow 19 = .ok (.iload_n 3, 1) := by decide +kernel
theorem dX11_movesRow_20 : decode cX11_movesRow 20 = .ok (.invokevirtual 310, 3) := by decide +kernel
theorem dX11_movesRow_23 : decode cX11_movesRow 23 = .ok (.iastore, 1) := by decide +kernel
theorem dX11_movesRow_24 : decode cX11_movesRow 24 = .ok (.iinc 4 1, 3) := by decide +kernel
theorem dX11_movesRow_27 : decode cX11_movesRow 27 = .ok (.goto (-24), 3) := by decide +kernel
theorem dX11_movesRow_30 : decode cX11_movesRow 30 = .ok (.return_, 1) := by decide +kernel
set_option maxRecDepth 20000 in
theorem ggX11_movesAll_X11_moves : GoodIn wsX11_movesAll wsX11_moves := goodIn_r _ [20, 21, 1, 26, 27, 28, 29, 30, 31, 32, 33, 34, 35, 36, 37, 38, 39, 40, 41, 42, 43, 44, 45, 46, 47, 48, 49, 50, 51, 52, 53, 54, 55, 56, 57, 58, 59, 60, 61, 62, 63, 64, 65, 66, 67] (by decide +kernel) (by decide +kernel)
set_option maxRecDepth 20000 in
theorem gX11_movesAll_X11_moves : GoodIn wsX11_movesAll (wsV RX11 310 RX11 yX11_moves wsX11_moves) := goodIn_app (goodIn_of _ (by decide +kernel)) ggX11_movesAll_X11_moves
set_option maxRecDepth 20000 in
theorem ggX11_movesAll_X11_movesRow : GoodIn wsX11_movesAll wsX11_movesRow := goodIn_r _ [25, 16, 17, 18, 19, 20, 21, 1, 26, 27, 28, 29, 30, 31, 32, 33, 34, 35, 36, 37, 38, 39, 40, 41, 42, 43, 44, 45, 46, 47, 48, 49, 50, 51, 52, 53, 54, 55, 56, 57, 58, 59, 60, 61, 62, 63, 64, 65, 66, 67] (by decide +kernel) (by decide +kernel)
set_option maxRecDepth 20000 in
theorem gX11_movesAll_X11_movesRow : GoodIn wsX11_movesAll (wsV RX11 314 RX11 yX11_movesRow wsX11_movesRow) := goodIn_app (goodIn_of _ (by decide +kernel)) ggX11_movesAll_X11_movesRow
theorem dX11_movesAll_0 : decode cX11_movesAll 0 = .ok (.aload_n 0, 1) := by decide +kernel
theorem dX11_movesAll_1 : decode cX11_movesAll 1 = .ok (.iconst 0, 1) := by decide +kernel
theorem dX11_movesAll_2 : decode cX11_movesAll 2 = .ok (.putfield 307, 3) := by decide +kernel
theorem dX11_movesAll_5 : decode cX11_movesAll 5 = .ok (.aload_n 0, 1) := by decide +kernel
theorem dX11_movesAll_6 : decode cX11_movesAll 6 = .ok (.aload_n 0, 1) := by decide +kernel
theorem dX11_movesAll_7 : decode cX11_movesAll 7 = .ok (.iload_n 1, 1) := by decide +kernel
theorem dX11_movesAll_8 : decode cX11_movesAll 8 = .ok (.aload_n 0, 1) := by decide +kernel
theorem dX11_movesAll_9 : decode cX11_movesAll 9 = .ok (.getfield 37, 3) := by decide +kernel
theorem dX11_movesAll_12 : decode cX11_movesAll 12 = .ok (.iload_n 2, 1) := by decide +kernel
theorem dX11_movesAll_13 : decode cX11_movesAll 13 = .ok (.invokevirtual 310, 3) := by decide +kernel
theorem dX11_movesAll_16 : decode cX11_movesAll 16 = .ok (.putfield 37, 3) := by decide +kernel
theorem dX11_movesAll_19 : decode cX11_movesAll 19 = .ok (.aload_n 0, 1) := by decide +kernel
theorem dX11_movesAll_20 : decode cX11_movesAll 20 = .ok (.aload_n 0, 1) := by decide +kernel
theorem dX11_movesAll_21 : decode cX11_movesAll 21 = .ok (.iload_n 1, 1) := by decide +kernel
theorem dX11_movesAll_22 : decode cX11_movesAll 22 = .ok (.aload_n 0, 1) := by decide +kernel
theorem dX11_movesAll_23 : decode cX11_movesAll 23 = .ok (.getfield 200, 3) := by decide +kernel
theorem dX11_movesAll_26 : decode cX11_movesAll 26 = .ok (.iload_n 2, 1) := by decide +kernel
theorem dX11_movesAll_27 : decode cX11_movesAll 27 = .ok (.invokevirtual 310, 3) := by decide +kernel
theorem dX11_movesAll_30 : decode cX11_movesAll 30 = .ok (.putfield 200, 3) := by decide +kernel
theorem dX11_movesAll_33 : decode cX11_movesAll 33 = .ok (.aload_n 0, 1) := by decide +kernel
theorem dX11_movesAll_34 : decode cX11_movesAll 34 = .ok (.aload_n 0, 1) := by decide +kernel
theorem dX11_movesAll_35 : decode cX11_movesAll 35 = .ok (.iload_n 1, 1) := by decide +kernel
theorem dX11_movesAll_36 : decode cX11_movesAll 36 = .ok (.aload_n 0, 1) := by decide +kernel
theorem dX11_movesAll_37 : decode cX11_movesAll 37 = .ok (.getfield 279, 3) := by decide +kernel
theorem dX11_movesAll_40 : decode cX11_movesAll 40 = .ok (.iload_n 2, 1) := by decide +kernel
theorem dX11_movesAll_41 : decode cX11_movesAll 41 = .ok (.invokevirtual 310, 3) := by decide +kernel
theorem dX11_movesAll_44 : decode cX11_movesAll 44 = .ok (.putfield 279, 3) := by decide +kernel
theorem dX11_movesAll_47 : decode cX11_movesAll 47 = .ok (.aload_n 0, 1) := by decide +kernel
theorem dX11_movesAll_48 : decode cX11_movesAll 48 = .ok (.aload_n 0, 1) := by decide +kernel
theorem dX11_movesAll_49 : decode cX11_movesAll 49 = .ok (.iload_n 1, 1) := by decide +kernel
theorem dX11_movesAll_50 : decode cX11_movesAll 50 = .ok (.aload_n 0, 1) := by decide +kernel
theorem dX11_movesAll_51 : decode cX11_movesAll 51 = .ok (.getfield 283, 3) := by decide +kernel
theorem dX11_movesAll_54 : decode cX11_movesAll 54 = .ok (.iload_n 2, 1) := by decide +kernel
theorem dX11_movesAll_55 : decode cX11_movesAll 55 = .ok (.invokevirtual 310, 3) := by decide +kernel
theorem dX11_movesAll_58 : decode cX11_movesAll 58 = .ok (.putfield 283, 3) := by decide +kernel
theorem dX11_movesAll_61 : decode cX11_movesAll 61 = .ok (.aload_n 0, 1) := by decide +kernel
theorem dX11_movesAll_62 : decode cX11_movesAll 62 = .ok (.aload_n 0, 1) := by decide +kernel
theorem dX11_movesAll_63 : decode cX11_movesAll 63 = .ok (.iload_n 1, 1) := by decide +kernel
theorem dX11_movesAll_64 : decode cX11_movesAll 64 = .ok (.aload_n 0, 1) := by decide +kernel
theorem dX11_movesAll_65 : decode cX11_movesAll 65 = .ok (.getfield 295, 3) := by decide +kernel
theorem dX11_movesAll_68 : decode cX11_movesAll 68 = .ok (.iload_n 2, 1) := by decide +kernel
theorem dX11_movesAll_69 : decode cX11_movesAll 69 = .ok (.invokevirtual 310, 3) := by decide +kernel
theorem dX11_movesAll_72 : decode cX11_movesAll 72 = .ok (.putfield 295, 3) := by decide +kernel
theorem dX11_movesAll_75 : decode cX11_movesAll 75 = .ok (.aload_n 0, 1) := by decide +kernel
theorem dX11_movesAll_76 : decode cX11_movesAll 76 = .ok (.aload_n 0, 1) := by decide +kernel
theorem dX11_movesAll_77 : decode cX11_movesAll 77 = .ok (.iload_n 1, 1) := by decide +kernel
theorem dX11_movesAll_78 : decode cX11_movesAll 78 = .ok (.aload_n 0, 1) := by decide +kernel
theorem dX11_movesAll_79 : decode cX11_movesAll 79 = .ok (.getfield 301, 3) := by decide +kernel
theorem dX11_movesAll_82 : decode cX11_movesAll 82 = .ok (.iload_n 2, 1) := by decide +kernel
theorem dX11_movesAll_83 : decode cX11_movesAll 83 = .ok (.invokevirtual 310, 3) := by decide +kernel
theorem dX11_movesAll_86 : decode cX11_movesAll 86 = .ok (.putfield 301, 3) := by decide +kernel
theorem dX11_movesAll_89 : decode cX11_movesAll 89 = .ok (.aload_n 0, 1) := by decide +kernel
theorem dX11_movesAll_90 : decode cX11_movesAll 90 = .ok (.iload_n 1, 1) := by decide +kernel
theorem dX11_movesAll_91 : decode cX11_movesAll 91 = .ok (.aload_n 0, 1) := by decide +kernel
theorem dX11_movesAll_92 : decode cX11_movesAll 92 = .ok (.getfield 40, 3) := by decide +kernel
theorem dX11_movesAll_95 : decode cX11_movesAll 95 = .ok (.iload_n 2, 1) := by decide +kernel
theorem dX11_movesAll_96 : decode cX11_movesAll 96 = .ok (.invokevirtual 314, 3) := by decide +kernel
theorem dX11_movesAll_99 : decode cX11_movesAll 99 = .ok (.aload_n 0, 1) := by decide +kernel
theorem dX11_movesAll_100 : decode cX11_movesAll 100 = .ok (.iload_n 1, 1) := by decide +kernel
theorem dX11_movesAll_101 : decode cX11_movesAll 101 = .ok (.aload_n 0, 1) := by decide +kernel
theorem dX11_movesAll_102 : decode cX11_movesAll 102 = .ok (.getfield 49, 3) := by decide +kernel
theorem dX11_movesAll_105 : decode cX11_movesAll 105 = .ok (.iload_n 2, 1) := by decide +kernel
theorem dX11_movesAll_106 : decode cX11_movesAll 106 = .ok (.invokevirtual 314, 3) := by decide +kernel
theorem dX11_movesAll_109 : decode cX11_movesAll 109 = .ok (.iconst 0, 1) := by decide +kernel
theorem dX11_movesAll_110 : decode cX11_movesAll 110 = .ok (.istore_n 3, 1) := by decide +kernel
theorem dX11_movesAll_111 : decode cX11_movesAll 111 = .ok (.iload_n 3, 1) := by decide +kernel
theorem dX11_movesAll_112 : decode cX11_movesAll 112 = .ok (.iconst 4, 1) := by decide +kernel
theorem dX11_movesAll_113 : decode cX11_movesAll 113 = .ok (.if_icmp .ge 21, 3) := by decide +kernel
theorem dX11_movesAll_116 : decode cX11_movesAll 116 = .ok (.aload_n 0, 1) := by decide +kernel
theorem dX11_movesAll_117 : decode cX11_movesAll 117 = .ok (.iload_n 1, 1) := by decide +kernel
theorem dX11_movesAll_118 : decode cX11_movesAll 118 = .ok (.aload_n 0, 1) := by decide +kernel
theorem dX11_movesAll_119 : decode cX11_movesAll 119 = .ok (.getfield 43, 3) := by decide +kernel
theorem dX11_movesAll_122 : decode cX11_movesAll 122 = .ok (.iload_n 3, 1) := by decide +kernel
theorem dX11_movesAll_123 : decode cX11_movesAll 123 = .ok (.aaload, 1) := by decide +kernel
theorem dX11_movesAll_124 : decode cX11_movesAll 124 = .ok (.iload_n 2, 1) := by decide +kernel
theorem dX11_movesAll_125 : decode cX11_movesAll 125 = .ok (.invokevirtual 314, 3) := by decide +kernel
theorem dX11_movesAll_128 : decode cX11_movesAll 128 = .ok (.iinc 3 1, 3) := by decide +kernel
theorem dX11_movesAll_131 : decode cX11_movesAll 131 = .ok (.goto (-20), 3) := by decide +kernel
theorem dX11_movesAll_134 : decode cX11_movesAll 134 = .ok (.iconst 0, 1) := by decide +kernel
theorem dX11_movesAll_135 : decode cX11_movesAll 135 = .ok (.istore_n 3, 1) := by decide +kernel
theorem dX11_movesAll_136 : decode cX11_movesAll 136 = .ok (.iload_n 3, 1) := by decide +kernel
theorem dX11_movesAll_137 : decode cX11_movesAll 137 = .ok (.bipush 8, 2) := by decide +kernel
theorem dX11_movesAll_139 : decode cX11_movesAll 139 = .ok (.if_icmp .ge 44, 3) := by decide +kernel
theorem dX11_movesAll_142 : decode cX11_movesAll 142 = .ok (.aload_n 0, 1) := by decide +kernel
theorem dX11_movesAll_143 : decode cX11_movesAll 143 = .ok (.getfield 52, 3) := by decide +kernel
theorem dX11_movesAll_146 : decode cX11_movesAll 146 = .ok (.iload_n 3, 1) := by decide +kernel
theorem dX11_movesAll_147 : decode cX11_movesAll 147 = .ok (.aload_n 0, 1) := by decide +kernel
theorem dX11_movesAll_148 : decode cX11_movesAll 148 = .ok (.iload_n 1, 1) := by decide +kernel
theorem dX11_movesAll_149 : decode cX11_movesAll 149 = .ok (.aload_n 0, 1) := by decide +kernel
theorem dX11_movesAll_150 : decode cX11_movesAll 150 = .ok (.getfield 52, 3) := by decide +kernel
theorem dX11_movesAll_153 : decode cX11_movesAll 153 = .ok (.iload_n 3, 1) := by decide +kernel
theorem dX11_movesAll_154 : decode cX11_movesAll 154 = .ok (.baload, 1) := by decide +kernel
theorem dX11_movesAll_155 : decode cX11_movesAll 155 = .ok (.ifCond .eq 7, 3) := by decide +kernel
theorem dX11_movesAll_158 : decode cX11_movesAll 158 = .ok (.iconst 1, 1) := by decide +kernel
theorem dX11_movesAll_159 : decode cX11_movesAll 159 = .ok (.goto 4, 3) := by decide +kernel
theorem dX11_movesAll_162 : decode cX11_movesAll 162 = .ok (.iconst 0, 1) := by decide +kernel
theorem dX11_movesAll_163 : decode cX11_movesAll 163 = .ok (.iload_n 2, 1) := by decide +kernel
theorem dX11_movesAll_164 : decode cX11_movesAll 164 = .ok (.invokevirtual 310, 3) := by decide +kernel
theorem dX11_movesAll_167 : decode cX11_movesAll 167 = .ok (.iconst 1, 1) := by decide +kernel
theorem dX11_movesAll_168 : decode cX11_movesAll 168 = .ok (.if_icmp .ne 7, 3) := by decide +kernel
theorem dX11_movesAll_171 : decode cX11_movesAll 171 = .ok (.iconst 1, 1) := by decide +kernel
theorem dX11_movesAll_172 : decode cX11_movesAll 172 = .ok (.goto 4, 3) := by decide +kernel
theorem dX11_movesAll_175 : decode cX11_movesAll 175 = .ok (.iconst 0, 1) := by decide +kernel
theorem dX11_movesAll_176 : decode cX11_movesAll 176 = .ok (.bastore, 1) := by decide +kernel
theorem dX11_movesAll_177 : decode cX11_movesAll 177 = .ok (.iinc 3 1, 3) := by decide +kernel
theorem dX11_movesAll_180 : decode cX11_movesAll 180 = .ok (.goto (-44), 3) := by decide +kernel
theorem dX11_movesAll_183 : decode cX11_movesAll 183 = .ok (.iconst 0, 1) := by decide +kernel
theorem dX11_movesAll_184 : decode cX11_movesAll 184 = .ok (.istore_n 3, 1) := by decide +kernel
theorem dX11_movesAll_185 : decode cX11_movesAll 185 = .ok (.iload_n 3, 1) := by decide +kernel
theorem dX11_movesAll_186 : decode cX11_movesAll 186 = .ok (.bipush 20, 2) := by decide +kernel
theorem dX11_movesAll_188 : decode cX11_movesAll 188 = .ok (.if_icmp .ge 21, 3) := by decide +kernel
theorem dX11_movesAll_191 : decode cX11_movesAll 191 = .ok (.aload_n 0, 1) := by decide +kernel
theorem dX11_movesAll_192 : decode cX11_movesAll 192 = .ok (.iload_n 1, 1) := by decide +kernel
theorem dX11_movesAll_193 : decode cX11_movesAll 193 = .ok (.aload_n 0, 1) := by decide +kernel
theorem dX11_movesAll_194 : decode cX11_movesAll 194 = .ok (.getfield 68, 3) := by decide +kernel
theorem dX11_movesAll_197 : decode cX11_movesAll 197 = .ok (.iload_n 3, 1) := by decide +kernel
theorem dX11_movesAll_198 : decode cX11_movesAll 198 = .ok (.aaload, 1) := by decide +kernel
theorem dX11_movesAll_199 : decode cX11_movesAll 199 = .ok (.iload_n 2, 1) := by decide +kernel
theorem dX11_movesAll_200 : decode cX11_movesAll 200 = .ok (.invokevirtual 314, 3) := by decide +kernel
theorem dX11_movesAll_203 : decode cX11_movesAll 203 = .ok (.iinc 3 1, 3) := by decide +kernel
theorem dX11_movesAll_206 : decode cX11_movesAll 206 = .ok (.goto (-21), 3) := by decide +kernel
theorem dX11_movesAll_209 : decode cX11_movesAll 209 = .ok (.iconst 0, 1) := by decide +kernel
theorem dX11_movesAll_210 : decode cX11_movesAll 210 = .ok (.istore_n 3, 1) := by decide +kernel
theorem dX11_movesAll_211 : decode cX11_movesAll 211 = .ok (.iload_n 3, 1) := by decide +kernel
theorem dX11_movesAll_212 : decode cX11_movesAll 212 = .ok (.iconst 5, 1) := by decide +kernel
theorem dX11_movesAll_213 : decode cX11_movesAll 213 = .ok (.if_icmp .ge 21, 3) := by decide +kernel
theorem dX11_movesAll_216 : decode cX11_movesAll 216 = .ok (.aload_n 0, 1) := by decide +kernel
theorem dX11_movesAll_217 : decode cX11_movesAll 217 = .ok (.iload_n 1, 1) := by decide +kernel
theorem dX11_movesAll_218 : decode cX11_movesAll 218 = .ok (.aload_n 0, 1) := by decide +kernel
theorem dX11_movesAll_219 : decode cX11_movesAll 219 = .ok (.getfield 71, 3) := by decide +kernel
theorem dX11_movesAll_222 : decode cX11_movesAll 222 = .ok (.iload_n 3, 1) := by decide +kernel
theorem dX11_movesAll_223 : decode cX11_movesAll 223 = .ok (.aaload, 1) := by decide +kernel
theorem dX11_movesAll_224 : decode cX11_movesAll 224 = .ok (.iload_n 2, 1) := by decide +kernel
theorem dX11_movesAll_225 : decode cX11_movesAll 225 = .ok (.invokevirtual 314, 3) := by decide +kernel
theorem dX11_movesAll_228 : decode cX11_movesAll 228 = .ok (.iinc 3 1, 3) := by decide +kernel
theorem dX11_movesAll_231 : decode cX11_movesAll 231 = .ok (.goto (-20), 3) := by decide +kernel
theorem dX11_movesAll_234 : decode cX11_movesAll 234 = .ok (.iconst 0, 1) := by decide +kernel
theorem dX11_movesAll_235 : decode cX11_movesAll 235 = .ok (.istore_n 3, 1) := by decide +kernel
theorem dX11_movesAll_236 : decode cX11_movesAll 236 = .ok (.iload_n 3, 1) := by decide +kernel
theorem dX11_movesAll_237 : decode cX11_movesAll 237 = .ok (.bipush 6, 2) := by decide +kernel
theorem dX11_movesAll_239 : decode cX11_movesAll 239 = .ok (.if_icmp .ge 21, 3) := by decide +kernel
theorem dX11_movesAll_242 : decode cX11_movesAll 242 = .ok (.aload_n 0, 1) := by decide +kernel
theorem dX11_movesAll_243 : decode cX11_movesAll 243 = .ok (.iload_n 1, 1) := by decide +kernel
theorem dX11_movesAll_244 : decode cX11_movesAll 244 = .ok (.aload_n 0, 1) := by decide +kernel
theorem dX11_movesAll_245 : decode cX11_movesAll 245 = .ok (.getfield 74, 3) := by decide +kernel
theorem dX11_movesAll_248 : decode cX11_movesAll 248 = .ok (.iload_n 3, 1) := by decide +kernel
theorem dX11_movesAll_249 : decode cX11_movesAll 249 = .ok (.aaload, 1) := by decide +kernel
theorem dX11_movesAll_250 : decode cX11_movesAll 250 = .ok (.iload_n 2, 1) := by decide +kernel
theorem dX11_movesAll_251 : decode cX11_movesAll 251 = .ok (.invokevirtual 314, 3) := by decide +kernel
theorem dX11_movesAll_254 : decode cX11_movesAll 254 = .ok (.iinc 3 1, 3) := by decide +kernel
theorem dX11_movesAll_257 : decode cX11_movesAll 257 = .ok (.goto (-21), 3) := by decide +kernel
theorem dX11_movesAll_260 : decode cX11_movesAll 260 = .ok (.iconst 0, 1) := by decide +kernel
theorem dX11_movesAll_261 : decode cX11_movesAll 261 = .ok (.istore_n 3, 1) := by decide +kernel
theorem dX11_movesAll_262 : decode cX11_movesAll 262 = .ok (.iload_n 3, 1) := by decide +kernel
theorem dX11_movesAll_263 : decode cX11_movesAll 263 = .ok (.bipush 10, 2) := by decide +kernel
theorem dX11_movesAll_265 : decode cX11_movesAll 265 = .ok (.if_icmp .ge 21, 3) := by decide +kernel
theorem dX11_movesAll_268 : decode cX11_movesAll 268 = .ok (.aload_n 0, 1) := by decide +kernel
theorem dX11_movesAll_269 : decode cX11_movesAll 269 = .ok (.iload_n 1, 1) := by decide +kernel
theorem dX11_movesAll_270 : decode cX11_movesAll 270 = .ok (.aload_n 0, 1) := by decide +kernel
theorem dX11_movesAll_271 : decode cX11_movesAll 271 = .ok (.getfield 77, 3) := by decide +kernel
theorem dX11_movesAll_274 : decode cX11_movesAll 274 = .ok (.iload_n 3, 1) := by decide +kernel
theorem dX11_movesAll_275 : decode cX11_movesAll 275 = .ok (.aaload, 1) := by decide +kernel
theorem dX11_movesAll_276 : decode cX11_movesAll 276 = .ok (.iload_n 2, 1) := by decide +kernel
theorem dX11_movesAll_277 : decode cX11_movesAll 277 = .ok (.invokevirtual 314, 3) := by decide +kernel
theorem dX11_movesAll_280 : decode cX11_movesAll 280 = .ok (.iinc 3 1, 3) := by decide +kernel
theorem dX11_movesAll_283 : decode cX11_movesAll 283 = .ok (.goto (-21), 3) := by decide +kernel
theorem dX11_movesAll_286 : decode cX11_movesAll 286 = .ok (.return_, 1) := by decide +kernel
set_option maxRecDepth 20000 in
theorem ggX11_image_X11_movesAll : GoodIn wsX11_image wsX11_movesAll := goodIn_r _ [7, 8, 9, 10, 11, 12, 13, 14, 15, 16, 17, 18, 19, 20, 21, 22, 23, 24, 25, 6, 26, 27, 28, 29, 30, 31, 32, 33, 34, 35, 36, 37, 38, 39, 40, 41, 42, 43, 44, 45, 46, 47, 48, 49, 50, 51, 52, 53, 54, 55, 56, 57, 58, 59, 60, 61, 62, 63, 64, 65, 66, 67, 68, 69, 70, 71, 72, 73] (by decide +kernel) (by decide +kernel)
set_option maxRecDepth 20000 in
theorem gX11_image_X11_movesAll : GoodIn wsX11_image (wsV RX11 321 RX11 yX11_movesAll wsX11_movesAll) := goodIn_app (goodIn_of _ (by decide +kernel)) ggX11_image_X11_movesAll
theorem dX11_image_0 : decode cX11_image 0 = .ok (.aload_n 0, 1) := by decide +kernel
theorem dX11_image_1 : decode cX11_image 1 = .ok (.iconst 0, 1) := by decide +kernel
theorem dX11_image_2 : decode cX11_image 2 = .ok (.putfield 83, 3) := by decide +kernel
theorem dX11_image_5 : decode cX11_image 5 = .ok (.aload_n 0, 1) := by decide +kernel
theorem dX11_image_6 : decode cX11_image 6 = .ok (.getfield 318, 3) := by decide +kernel
theorem dX11_image_9 : decode cX11_image 9 = .ok (.iconst 3, 1) := by decide +kernel
theorem dX11_image_10 : decode cX11_image 10 = .ok (.if_icmp .ne 5, 3) := by decide +kernel
theorem dX11_image_13 : decode cX11_image 13 = .ok (.iconst (-1), 1) := by decide +kernel
theorem dX11_image_14 : decode cX11_image 14 = .ok (.ireturn, 1) := by decide +kernel
theorem dX11_image_15 : decode cX11_image 15 = .ok (.aload_n 0, 1) := by decide +kernel
theorem dX11_image_16 : decode cX11_image 16 = .ok (.aload_n 0, 1) := by decide +kernel
theorem dX11_image_17 : decode cX11_image 17 = .ok (.getfield 318, 3) := by decide +kernel
theorem dX11_image_20 : decode cX11_image 20 = .ok (.iconst 0, 1) := by decide +kernel
theorem dX11_image_21 : decode cX11_image 21 = .ok (.invokevirtual 321, 3) := by decide +kernel
theorem dX11_image_24 : decode cX11_image 24 = .ok (.aload_n 0, 1) := by decide +kernel
theorem dX11_image_25 : decode cX11_image 25 = .ok (.dup, 1) := by decide +kernel
theorem dX11_image_26 : decode cX11_image 26 = .ok (.getfield 318, 3) := by decide +kernel
theorem dX11_image_29 : decode cX11_image 29 = .ok (.iconst 1, 1) := by decide +kernel
theorem dX11_image_30 : decode cX11_image 30 = .ok (.iadd, 1) := by decide +kernel
theorem dX11_image_31 : decode cX11_image 31 = .ok (.putfield 318, 3) := by decide +kernel
theorem dX11_image_34 : decode cX11_image 34 = .ok (.aload_n 0, 1) := by decide +kernel
theorem dX11_image_35 : decode cX11_image 35 = .ok (.getfield 318, 3) := by decide +kernel
theorem dX11_image_38 : decode cX11_image 38 = .ok (.ireturn, 1) := by decide +kernel
set_option maxRecDepth 20000 in
theorem ggX11_restore_X11_movesAll : GoodIn wsX11_restore wsX11_movesAll := goodIn_r _ [7, 8, 9, 10, 11, 12, 13, 14, 15, 16, 17, 18, 19, 20, 21, 22, 23, 24, 25, 6, 26, 27, 28, 29, 30, 31, 32, 33, 34, 35, 36, 37, 38, 39, 40, 41, 42, 43, 44, 45, 46, 47, 48, 49, 50, 51, 52, 53, 54, 55, 56, 57, 58, 59, 60, 61, 62, 63, 64, 65, 66, 67, 68, 69, 70, 71, 72, 73] (by decide +kernel) (by decide +kernel)
set_option maxRecDepth 20000 in
theorem gX11_restore_X11_movesAll : GoodIn wsX11_restore (wsV RX11 321 RX11 yX11_movesAll wsX11_movesAll) := goodIn_app (goodIn_of _ (by decide +kernel)) ggX11_restore_X11_movesAll
theorem dX11_restore_0 : decode cX11_restore 0 = .ok (.aload_n 0, 1) := by decide +kernel
theorem dX11_restore_1 : decode cX11_restore 1 = .ok (.iconst 0, 1) := by decide +kernel
theorem dX11_restore_2 : decode cX11_restore 2 = .ok (.putfield 83, 3) := by decide +kernel
theorem dX11_restore_5 : decode cX11_restore 5 = .ok (.aload_n 0, 1) := by decide +kernel
theorem dX11_restore_6 : decode cX11_restore 6 = .ok (.getfield 318, 3) := by decide +kernel
theorem dX11_restore_9 : decode cX11_restore 9 = .ok (.ifCond .ne 5, 3) := by decide +kernel
theorem dX11_restore_12 : decode cX11_restore 12 = .ok (.iconst (-1), 1) := by decide +kernel
theorem dX11_restore_13 : decode cX11_restore 13 = .ok (.ireturn, 1) := by decide +kernel
theorem dX11_restore_14 : decode cX11_restore 14 = .ok (.aload_n 0, 1) := by decide +kernel
theorem dX11_restore_15 : decode cX11_restore 15 = .ok (.dup, 1) := by decide +kernel
theorem dX11_restore_16 : decode cX11_restore 16 = .ok (.getfield 318, 3) := by decide +kernel
theorem dX11_restore_19 : decode cX11_restore 19 = .ok (.iconst 1, 1) := by decide +kernel
theorem dX11_restore_20 : decode cX11_restore 20 = .ok (.isub, 1) := by decide +kernel
theorem dX11_restore_21 : decode cX11_restore 21 = .ok (.putfield 318, 3) := by decide +kernel
theorem dX11_restore_24 : decode cX11_restore 24 = .ok (.aload_n 0, 1) := by decide +kernel
theorem dX11_restore_25 : decode cX11_restore 25 = .ok (.aload_n 0, 1) := by decide +kernel
theorem dX11_restore_26 : decode cX11_restore 26 = .ok (.getfield 318, 3) := by decide +kernel
theorem dX11_restore_29 : decode cX11_restore 29 = .ok (.iconst 1, 1) := by decide +kernel
theorem dX11_restore_30 : decode cX11_restore 30 = .ok (.invokevirtual 321, 3) := by decide +kernel
theorem dX11_restore_33 : decode cX11_restore 33 = .ok (.aload_n 0, 1) := by decide +kernel
theorem dX11_restore_34 : decode cX11_restore 34 = .ok (.getfield 318, 3) := by decide +kernel
theorem dX11_restore_37 : decode cX11_restore 37 = .ok (.ireturn, 1) := by decide +kernel
set_option maxRecDepth 20000 in
theorem ggX11_count_X11_in : GoodIn wsX11_count wsX11_in := goodIn_r _ [17] (by decide +kernel) (by decide +kernel)
set_option maxRecDepth 20000 in
theorem gX11_count_X11_in : GoodIn wsX11_count (va_wsS RX11 172 yX11_in wsX11_in) := goodIn_app (goodIn_of _ (by decide +kernel)) ggX11_count_X11_in
theorem dX11_count_0 : decode cX11_count 0 = .ok (.aload_n 0, 1) := by decide +kernel
theorem dX11_count_1 : decode cX11_count 1 = .ok (.iconst 0, 1) := by decide +kernel
theorem dX11_count_2 : decode cX11_count 2 = .ok (.putfield 83, 3) := by decide +kernel
theorem dX11_count_5 : decode cX11_count 5 = .ok (.iconst 0, 1) := by decide +kernel
theorem dX11_count_6 : decode cX11_count 6 = .ok (.istore_n 2, 1) := by decide +kernel
theorem dX11_count_7 : decode cX11_count 7 = .ok (.iload_n 1, 1) := by decide +kernel
theorem dX11_count_8 : decode cX11_count 8 = .ok (.bipush 20, 2) := by decide +kernel
theorem dX11_count_10 : decode cX11_count 10 = .ok (.bipush 29, 2) := by decide +kernel
theorem dX11_count_12 : decode cX11_count 12 = .ok (.invokestatic 172, 3) := by decide +kernel
theorem dX11_count_15 : decode cX11_count 15 = .ok (.ifCond .eq 13, 3) := by decide +kernel
theorem dX11_count_18 : decode cX11_count 18 = .ok (.aload_n 0, 1) := by decide +kernel
theorem dX11_count_19 : decode cX11_count 19 = .ok (.getfield 40, 3) := by decide +kernel
theorem dX11_count_22 : decode cX11_count 22 = .ok (.iload_n 1, 1) := by decide +kernel
theorem dX11_count_23 : decode cX11_count 23 = .ok (.bipush 20, 2) := by decide +kernel
theorem dX11_count_25 : decode cX11_count 25 = .ok (.isub, 1) := by decide +kernel
theorem dX11_count_26 : decode cX11_count 26 = .ok (.iaload, 1) := by decide +kernel
theorem dX11_count_27 : decode cX11_count 27 = .ok (.ireturn, 1) := by decide +kernel
theorem dX11_count_28 : decode cX11_count 28 = .ok (.iconst 0, 1) := by decide +kernel
theorem dX11_count_29 : decode cX11_count 29 = .ok (.istore_n 3, 1) := by decide +kernel
theorem dX11_count_30 : decode cX11_count 30 = .ok (.iload_n 3, 1) := by decide +kernel
theorem dX11_count_31 : decode cX11_count 31 = .ok (.aload_n 0, 1) := by decide +kernel
theorem dX11_count_32 : decode cX11_count 32 = .ok (.getfield 37, 3) := by decide +kernel
theorem dX11_count_35 : decode cX11_count 35 = .ok (.if_icmp .ge 60, 3) := by decide +kernel
theorem dX11_count_38 : decode cX11_count 38 = .ok (.iload_n 2, 1) := by decide +kernel
theorem dX11_count_39 : decode cX11_count 39 = .ok (.iload_n 1, 1) := by decide +kernel
theorem dX11_count_40 : decode cX11_count 40 = .ok (.bipush 9, 2) := by decide +kernel
theorem dX11_count_42 : decode cX11_count 42 = .ok (.if_icmp .ne 21, 3) := by decide +kernel
theorem dX11_count_45 : decode cX11_count 45 = .ok (.aload_n 0, 1) := by decide +kernel
theorem dX11_count_46 : decode cX11_count 46 = .ok (.getfield 49, 3) := by decide +kernel
theorem dX11_count_49 : decode cX11_count 49 = .ok (.iload_n 3, 1) := by decide +kernel
theorem dX11_count_50 : decode cX11_count 50 = .ok (.iaload, 1) := by decide +kernel
theorem dX11_count_51 : decode cX11_count 51 = .ok (.iconst 1, 1) := by decide +kernel
theorem dX11_count_52 : decode cX11_count 52 = .ok (.if_icmp .ne 7, 3) := by decide +kernel
theorem dX11_count_55 : decode cX11_count 55 = .ok (.iconst 1, 1) := by decide +kernel
theorem dX11_count_56 : decode cX11_count 56 = .ok (.goto 31, 3) := by decide +kernel
theorem dX11_count_59 : decode cX11_count 59 = .ok (.iconst 0, 1) := by decide +kernel
theorem dX11_count_60 : decode cX11_count 60 = .ok (.goto 27, 3) := by decide +kernel
theorem dX11_count_63 : decode cX11_count 63 = .ok (.iload_n 3, 1) := by decide +kernel
theorem dX11_count_64 : decode cX11_count 64 = .ok (.iconst 1, 1) := by decide +kernel
theorem dX11_count_65 : decode cX11_count 65 = .ok (.iadd, 1) := by decide +kernel
theorem dX11_count_66 : decode cX11_count 66 = .ok (.aload_n 0, 1) := by decide +kernel
theorem dX11_count_67 : decode cX11_count 67 = .ok (.getfield 37, 3) := by decide +kernel
theorem dX11_count_70 : decode cX11_count 70 = .ok (.if_icmp .ge 16, 3) := by decide +kernel
theorem dX11_count_73 : decode cX11_count 73 = .ok (.aload_n 0, 1) := by decide +kernel
theorem dX11_count_74 : decode cX11_count 74 = .ok (.getfield 52, 3) := by decide +kernel
theorem dX11_count_77 : decode cX11_count 77 = .ok (.iload_n 3, 1) := by decide +kernel
theorem dX11_count_78 : decode cX11_count 78 = .ok (.baload, 1) := by decide +kernel
theorem dX11_count_79 : decode cX11_count 79 = .ok (.ifCond .eq 7, 3) := by decide +kernel
theorem dX11_count_82 : decode cX11_count 82 = .ok (.iconst 1, 1) := by decide +kernel
theorem dX11_count_83 : decode cX11_count 83 = .ok (.goto 4, 3) := by decide +kernel
theorem dX11_count_86 : decode cX11_count 86 = .ok (.iconst 0, 1) := by decide +kernel
theorem dX11_count_87 : decode cX11_count 87 = .ok (.iadd, 1) := by decide +kernel
theorem dX11_count_88 : decode cX11_count 88 = .ok (.istore_n 2, 1) := by decide +kernel
theorem dX11_count_89 : decode cX11_count 89 = .ok (.iinc 3 1, 3) := by decide +kernel
theorem dX11_count_92 : decode cX11_count 92 = .ok (.goto (-62), 3) := by decide +kernel
theorem dX11_count_95 : decode cX11_count 95 = .ok (.iload_n 1, 1) := by decide +kernel
theorem dX11_count_96 : decode cX11_count 96 = .ok (.tableswitch 97 0 8 #[52, 57, 62, 67, 72, 77, 82, 87, 92], 52) := by decide +kernel
theorem dX11_count_148 : decode cX11_count 148 = .ok (.aload_n 0, 1) := by decide +kernel
theorem dX11_count_149 : decode cX11_count 149 = .ok (.getfield 37, 3) := by decide +kernel
theorem dX11_count_152 : decode cX11_count 152 = .ok (.ireturn, 1) := by decide +kernel
theorem dX11_count_153 : decode cX11_count 153 = .ok (.aload_n 0, 1) := by decide +kernel
theorem dX11_count_154 : decode cX11_count 154 = .ok (.getfield 180, 3) := by decide +kernel
theorem dX11_count_157 : decode cX11_count 157 = .ok (.ireturn, 1) := by decide +kernel
theorem dX11_count_158 : decode cX11_count 158 = .ok (.aload_n 0, 1) := by decide +kernel
theorem dX11_count_159 : decode cX11_count 159 = .ok (.getfield 200, 3) := by decide +kernel
theorem dX11_count_162 : decode cX11_count 162 = .ok (.ireturn, 1) := by decide +kernel
theorem dX11_count_163 : decode cX11_count 163 = .ok (.aload_n 0, 1) := by decide +kernel
theorem dX11_count_164 : decode cX11_count 164 = .ok (.getfield 279, 3) := by decide +kernel
theorem dX11_count_167 : decode cX11_count 167 = .ok (.ireturn, 1) := by decide +kernel
theorem dX11_count_168 : decode cX11_count 168 = .ok (.aload_n 0, 1) := by decide +kernel
theorem dX11_count_169 : decode cX11_count 169 = .ok (.getfield 283, 3) := by decide +kernel
theorem dX11_count_172 : decode cX11_count 172 = .ok (.ireturn, 1) := by decide +kernel
theorem dX11_count_173 : decode cX11_count 173 = .ok (.aload_n 0, 1) := by decide +kernel
theorem dX11_count_174 : decode cX11_count 174 = .ok (.getfield 295, 3) := by decide +kernel
theorem dX11_count_177 : decode cX11_count 177 = .ok (.ireturn, 1) := by decide +kernel
theorem dX11_count_178 : decode cX11_count 178 = .ok (.aload_n 0, 1) := by decide +kernel
theorem dX11_count_179 : decode cX11_count 179 = .ok (.getfield 301, 3) := by decide +kernel
theorem dX11_count_182 : decode cX11_count 182 = .ok (.ireturn, 1) := by decide +kernel
theorem dX11_count_183 : decode cX11_count 183 = .ok (.aload_n 0, 1) := by decide +kernel
theorem dX11_count_184 : decode cX11_count 184 = .ok (.getfield 318, 3) := by decide +kernel
theorem dX11_count_187 : decode cX11_count 187 = .ok (.ireturn, 1) := by decide +kernel
theorem dX11_count_188 : decode cX11_count 188 = .ok (.aload_n 0, 1) := by decide +kernel
theorem dX11_count_189 : decode cX11_count 189 = .ok (.getfield 86, 3) := by decide +kernel
theorem dX11_count_192 : decode cX11_count 192 = .ok (.ireturn, 1) := by decide +kernel
theorem dX11_count_193 : decode cX11_count 193 = .ok (.iload_n 1, 1) := by decide +kernel
theorem dX11_count_194 : decode cX11_count 194 = .ok (.bipush 9, 2) := by decide +kernel
theorem dX11_count_196 : decode cX11_count 196 = .ok (.if_icmp .eq 9, 3) := by decide +kernel
theorem dX11_count_199 : decode cX11_count 199 = .ok (.iload_n 1, 1) := by decide +kernel
theorem dX11_count_200 : decode cX11_count 200 = .ok (.bipush 10, 2) := by decide +kernel
theorem dX11_count_202 : decode cX11_count 202 = .ok (.if_icmp .ne 7, 3) := by decide +kernel
theorem dX11_count_205 : decode cX11_count 205 = .ok (.iload_n 2, 1) := by decide +kernel
theorem dX11_count_206 : decode cX11_count 206 = .ok (.goto 4, 3) := by decide +kernel
theorem dX11_count_209 : decode cX11_count 209 = .ok (.iconst (-1), 1) := by decide +kernel
theorem dX11_count_210 : decode cX11_count 210 = .ok (.ireturn, 1) := by decide +kernel
theorem dJ9_abs_0f7a4_0 : decode cJ9_abs_0f7a4 0 = .ok (.iload_n 0, 1) := by decide +kernel
theorem dJ9_abs_0f7a4_1 : decode cJ9_abs_0f7a4 1 = .ok (.ifCond .ge 8, 3) := by decide +kernel
theorem dJ9_abs_0f7a4_4 : decode cJ9_abs_0f7a4 4 = .ok (.iload_n 0, 1) := by decide +kernel
theorem dJ9_abs_0f7a4_5 : decode cJ9_abs_0f7a4 5 = .ok (.ineg, 1) := by decide +kernel
theorem dJ9_abs_0f7a4_6 : decode cJ9_abs_0f7a4 6 = .ok (.goto 4, 3) := by decide +kernel
theorem dJ9_abs_0f7a4_9 : decode cJ9_abs_0f7a4 9 = .ok (.iload_n 0, 1) := by decide +kernel
theorem dJ9_abs_0f7a4_10 : decode cJ9_abs_0f7a4 10 = .ok (.ireturn, 1) := by decide +kernel
theorem dJ9_max_7cf53_0 : decode cJ9_max_7cf53 0 = .ok (.iload_n 0, 1) := by decide +kernel
theorem dJ9_max_7cf53_1 : decode cJ9_max_7cf53 1 = .ok (.iload_n 1, 1) := by decide +kernel
theorem dJ9_max_7cf53_2 : decode cJ9_max_7cf53 2 = .ok (.if_icmp .lt 7, 3) := by decide +kernel
theorem dJ9_max_7cf53_5 : decode cJ9_max_7cf53 5 = .ok (.iload_n 0, 1) := by decide +kernel
theorem dJ9_max_7cf53_6 : decode cJ9_max_7cf53 6 = .ok (.goto 4, 3) := by decide +kernel
theorem dJ9_max_7cf53_9 : decode cJ9_max_7cf53 9 = .ok (.iload_n 1, 1) := by decide +kernel
theorem dJ9_max_7cf53_10 : decode cJ9_max_7cf53 10 = .ok (.ireturn, 1) := by decide +kernel
theorem dJ9_min_7cf53_0 : decode cJ9_min_7cf53 0 = .ok (.iload_n 0, 1) := by decide +kernel
theorem dJ9_min_7cf53_1 : decode cJ9_min_7cf53 1 = .ok (.iload_n 1, 1) := by decide +kernel
theorem dJ9_min_7cf53_2 : decode cJ9_min_7cf53 2 = .ok (.if_icmp .gt 7, 3) := by decide +kernel
theorem dJ9_min_7cf53_5 : decode cJ9_min_7cf53 5 = .ok (.iload_n 0, 1) := by decide +kernel
theorem dJ9_min_7cf53_6 : decode cJ9_min_7cf53 6 = .ok (.goto 4, 3) := by decide +kernel
theorem dJ9_min_7cf53_9 : decode cJ9_min_7cf53 9 = .ok (.iload_n 1, 1) := by decide +kernel
theorem dJ9_min_7cf53_10 : decode cJ9_min_7cf53 10 = .ok (.ireturn, 1) := by decide +kernel
set_option maxRecDepth 20000 in
theorem ggJ0_length_8abf5_J0_coder_7d493 : GoodIn wsJ0_length_8abf5 wsJ0_coder_7d493 := goodIn_r _ [6, 7, 8] (by decide +kernel) (by decide +kernel)
set_option maxRecDepth 20000 in
theorem gJ0_length_8abf5_J0_coder_7d493 : GoodIn wsJ0_length_8abf5 (wsV RJ0 335 RJ0 yJ0_coder_7d493 wsJ0_coder_7d493) := goodIn_app (goodIn_of _ (by decide +kernel)) ggJ0_length_8abf5_J0_coder_7d493
theorem dJ0_length_8abf5_0 : decode cJ0_length_8abf5 0 = .ok (.aload_n 0, 1) := by decide +kernel
theorem dJ0_length_8abf5_1 : decode cJ0_length_8abf5 1 = .ok (.getfield 9, 3) := by decide +kernel
theorem dJ0_length_8abf5_4 : decode cJ0_length_8abf5 4 = .ok (.arraylength, 1) := by decide +kernel
theorem dJ0_length_8abf5_5 : decode cJ0_length_8abf5 5 = .ok (.aload_n 0, 1) := by decide +kernel
theorem dJ0_length_8abf5_6 : decode cJ0_length_8abf5 6 = .ok (.invokevirtual 335, 3) := by decide +kernel
theorem dJ0_length_8abf5_9 : decode cJ0_length_8abf5 9 = .ok (.ishr, 1) := by decide +kernel
theorem dJ0_length_8abf5_10 : decode cJ0_length_8abf5 10 = .ok (.ireturn, 1) := by decide +kernel
set_option maxRecDepth 20000 in
theorem ggJ0_charAt_5068e_J0_isLatin1_aae02 : GoodIn wsJ0_charAt_5068e wsJ0_isLatin1_aae02 := goodIn_r _ [6, 7, 8] (by decide +kernel) (by decide +kernel)
set_option maxRecDepth 20000 in
theorem gJ0_charAt_5068e_J0_isLatin1_aae02 : GoodIn wsJ0_charAt_5068e (wsV RJ0 492 RJ0 yJ0_isLatin1_aae02 wsJ0_isLatin1_aae02) := goodIn_app (goodIn_of _ (by decide +kernel)) ggJ0_charAt_5068e_J0_isLatin1_aae02
set_option maxRecDepth 20000 in
theorem ggJ0_charAt_5068e_J1_charAt_3b067 : GoodIn wsJ0_charAt_5068e wsJ1_charAt_3b067 := goodIn_r _ [12, 13, 14, 5, 15, 16, 17, 18, 19, 20] (by decide +kernel) (by decide +kernel)
set_option maxRecDepth 20000 in
theorem gJ0_charAt_5068e_J1_charAt_3b067 : GoodIn wsJ0_charAt_5068e (va_wsS RJ0 495 yJ1_charAt_3b067 wsJ1_charAt_3b067) := goodIn_app (goodIn_of _ (by decide +kernel)) ggJ0_charAt_5068e_J1_charAt_3b067
set_option maxRecDepth 20000 in
theorem ggJ0_charAt_5068e_J2_charAt_3b067 : GoodIn wsJ0_charAt_5068e wsJ2_charAt_3b067 := goodIn_r _ [24, 25, 26, 23, 27, 28, 29, 30, 31, 14, 5, 15, 16, 17, 18, 19, 20, 32, 33, 34, 35, 36, 37] (by decide +kernel) (by decide +kernel)
set_option maxRecDepth 20000 in
theorem gJ0_charAt_5068e_J2_charAt_3b067 : GoodIn wsJ0_charAt_5068e (va_wsS RJ0 498 yJ2_charAt_3b067 wsJ2_charAt_3b067) := goodIn_app (goodIn_of _ (by decide +kernel)) ggJ0_charAt_5068e_J2_charAt_3b067
theorem dJ0_charAt_5068e_0 : decode cJ0_charAt_5068e 0 = .ok (.aload_n 0, 1) := by decide +kernel
theorem dJ0_charAt_5068e_1 : decode cJ0_charAt_5068e 1 = .ok (.invokevirtual 492, 3) := by decide +kernel
theorem dJ0_charAt_5068e_4 : decode cJ0_charAt_5068e 4 = .ok (.ifCond .eq 12, 3) := by decide +kernel
theorem dJ0_charAt_5068e_7 : decode cJ0_charAt_5068e 7 = .ok (.aload_n 0, 1) := by decide +kernel
theorem dJ0_charAt_5068e_8 : decode cJ0_charAt_5068e 8 = .ok (.getfield 9, 3) := by decide +kernel
theorem dJ0_charAt_5068e_11 : decode cJ0_charAt_5068e 11 = .ok (.iload_n 1, 1) := by decide +kernel
theorem dJ0_charAt_5068e_12 : decode cJ0_charAt_5068e 12 = .ok (.invokestatic 495, 3) := by decide +kernel
theorem dJ0_charAt_5068e_15 : decode cJ0_charAt_5068e 15 = .ok (.ireturn, 1) := by decide +kernel
theorem dJ0_charAt_5068e_16 : decode cJ0_charAt_5068e 16 = .ok (.aload_n 0, 1) := by decide +kernel
theorem dJ0_charAt_5068e_17 : decode cJ0_charAt_5068e 17 = .ok (.getfield 9, 3) := by decide +kernel
theorem dJ0_charAt_5068e_20 : decode cJ0_charAt_5068e 20 = .ok (.iload_n 1, 1) := by decide +kernel
theorem dJ0_charAt_5068e_21 : decode cJ0_charAt_5068e 21 = .ok (.invokestatic 498, 3) := by decide +kernel
theorem dJ0_charAt_5068e_24 : decode cJ0_charAt_5068e 24 = .ok (.ireturn, 1) := by decide +kernel
theorem dJ0_coder_7d493_0 : decode cJ0_coder_7d493 0 = .ok (.getstatic 38, 3) := by decide +kernel
theorem dJ0_coder_7d493_3 : decode cJ0_coder_7d493 3 = .ok (.ifCond .eq 10, 3) := by decide +kernel
theorem dJ0_coder_7d493_6 : decode cJ0_coder_7d493 6 = .ok (.aload_n 0, 1) := by decide +kernel
theorem dJ0_coder_7d493_7 : decode cJ0_coder_7d493 7 = .ok (.getfield 15, 3) := by decide +kernel
theorem dJ0_coder_7d493_10 : decode cJ0_coder_7d493 10 = .ok (.goto 4, 3) := by decide +kernel
theorem dJ0_coder_7d493_13 : decode cJ0_coder_7d493 13 = .ok (.iconst 1, 1) := by decide +kernel
theorem dJ0_coder_7d493_14 : decode cJ0_coder_7d493 14 = .ok (.ireturn, 1) := by decide +kernel
theorem dJ0_isLatin1_aae02_0 : decode cJ0_isLatin1_aae02 0 = .ok (.getstatic 38, 3) := by decide +kernel
theorem dJ0_isLatin1_aae02_3 : decode cJ0_isLatin1_aae02 3 = .ok (.ifCond .eq 14, 3) := by decide +kernel
theorem dJ0_isLatin1_aae02_6 : decode cJ0_isLatin1_aae02 6 = .ok (.aload_n 0, 1) := by decide +kernel
theorem dJ0_isLatin1_aae02_7 : decode cJ0_isLatin1_aae02 7 = .ok (.getfield 15, 3) := by decide +kernel
theorem dJ0_isLatin1_aae02_10 : decode cJ0_isLatin1_aae02 10 = .ok (.ifCond .ne 7, 3) := by decide +kernel
theorem dJ0_isLatin1_aae02_13 : decode cJ0_isLatin1_aae02 13 = .ok (.iconst 1, 1) := by decide +kernel
theorem dJ0_isLatin1_aae02_14 : decode cJ0_isLatin1_aae02 14 = .ok (.goto 4, 3) := by decide +kernel
theorem dJ0_isLatin1_aae02_17 : decode cJ0_isLatin1_aae02 17 = .ok (.iconst 0, 1) := by decide +kernel
theorem dJ0_isLatin1_aae02_18 : decode cJ0_isLatin1_aae02 18 = .ok (.ireturn, 1) := by decide +kernel
set_option maxRecDepth 20000 in
theorem ggJ0_checkIndex_df160_J3_checkIndex_8e157 : GoodIn wsJ0_checkIndex_df160 wsJ3_checkIndex_8e157 := goodIn_r _ [5] (by decide +kernel) (by decide +kernel)
set_option maxRecDepth 20000 in
theorem gJ0_checkIndex_df160_J3_checkIndex_8e157 : GoodIn wsJ0_checkIndex_df160 (va_wsS RJ0 1059 yJ3_checkIndex_8e157 wsJ3_checkIndex_8e157) := goodIn_app (goodIn_of _ (by decide +kernel)) ggJ0_checkIndex_df160_J3_checkIndex_8e157
theorem dJ0_checkIndex_df160_0 : decode cJ0_checkIndex_df160 0 = .ok (.iload_n 0, 1) := by decide +kernel
theorem dJ0_checkIndex_df160_1 : decode cJ0_checkIndex_df160 1 = .ok (.iload_n 1, 1) := by decide +kernel
theorem dJ0_checkIndex_df160_2 : decode cJ0_checkIndex_df160 2 = .ok (.getstatic 1053, 3) := by decide +kernel
theorem dJ0_checkIndex_df160_5 : decode cJ0_checkIndex_df160 5 = .ok (.invokestatic 1059, 3) := by decide +kernel
theorem dJ0_checkIndex_df160_8 : decode cJ0_checkIndex_df160 8 = .ok (.pop, 1) := by decide +kernel
theorem dJ0_checkIndex_df160_9 : decode cJ0_checkIndex_df160 9 = .ok (.return_, 1) := by decide +kernel
set_option maxRecDepth 20000 in
theorem ggJ1_charAt_3b067_J0_checkIndex_df160 : GoodIn wsJ1_charAt_3b067 wsJ0_checkIndex_df160 := goodIn_r _ [4, 5, 6, 7, 8, 9] (by decide +kernel) (by decide +kernel)
set_option maxRecDepth 20000 in
theorem gJ1_charAt_3b067_J0_checkIndex_df160 : GoodIn wsJ1_charAt_3b067 (va_wsS RJ1 9 yJ0_checkIndex_df160 wsJ0_checkIndex_df160) := goodIn_app (goodIn_of _ (by decide +kernel)) ggJ1_charAt_3b067_J0_checkIndex_df160
theorem dJ1_charAt_3b067_0 : decode cJ1_charAt_3b067 0 = .ok (.iload_n 1, 1) := by decide +kernel
theorem dJ1_charAt_3b067_1 : decode cJ1_charAt_3b067 1 = .ok (.aload_n 0, 1) := by decide +kernel
theorem dJ1_charAt_3b067_2 : decode cJ1_charAt_3b067 2 = .ok (.arraylength, 1) := by decide +kernel
theorem dJ1_charAt_3b067_3 : decode cJ1_charAt_3b067 3 = .ok (.invokestatic 9, 3) := by decide +kernel
theorem dJ1_charAt_3b067_6 : decode cJ1_charAt_3b067 6 = .ok (.aload_n 0, 1) := by decide +kernel
theorem dJ1_charAt_3b067_7 : decode cJ1_charAt_3b067 7 = .ok (.iload_n 1, 1) := by decide +kernel
theorem dJ1_charAt_3b067_8 : decode cJ1_charAt_3b067 8 = .ok (.baload, 1) := by decide +kernel
theorem dJ1_charAt_3b067_9 : decode cJ1_charAt_3b067 9 = .ok (.sipush 255, 3) := by decide +kernel
theorem dJ1_charAt_3b067_12 : decode cJ1_charAt_3b067 12 = .ok (.iand, 1) := by decide +kernel
theorem dJ1_charAt_3b067_13 : decode cJ1_charAt_3b067 13 = .ok (.i2c, 1) := by decide +kernel
theorem dJ1_charAt_3b067_14 : decode cJ1_charAt_3b067 14 = .ok (.ireturn, 1) := by decide +kernel
set_option maxRecDepth 20000 in
theorem ggJ2_getChar_3b067_J2_length_9d52b : GoodIn wsJ2_getChar_3b067 wsJ2_length_9d52b := goodIn_r _ [7] (by decide +kernel) (by decide +kernel)
set_option maxRecDepth 20000 in
theorem gJ2_getChar_3b067_J2_length_9d52b : GoodIn wsJ2_getChar_3b067 (va_wsS RJ2 48 yJ2_length_9d52b wsJ2_length_9d52b) := goodIn_app (goodIn_of _ (by decide +kernel)) ggJ2_getChar_3b067_J2_length_9d52b
theorem dJ2_getChar_3b067_0 : decode cJ2_getChar_3b067 0 = .ok (.getstatic 44, 3) := by decide +kernel
theorem dJ2_getChar_3b067_3 : decode cJ2_getChar_3b067 3 = .ok (.ifCond .ne 25, 3) := by decide +kernel
theorem dJ2_getChar_3b067_6 : decode cJ2_getChar_3b067 6 = .ok (.iload_n 1, 1) := by decide +kernel
theorem dJ2_getChar_3b067_7 : decode cJ2_getChar_3b067 7 = .ok (.ifCond .lt 11, 3) := by decide +kernel
theorem dJ2_getChar_3b067_10 : decode cJ2_getChar_3b067 10 = .ok (.iload_n 1, 1) := by decide +kernel
theorem dJ2_getChar_3b067_11 : decode cJ2_getChar_3b067 11 = .ok (.aload_n 0, 1) := by decide +kernel
theorem dJ2_getChar_3b067_12 : decode cJ2_getChar_3b067 12 = .ok (.invokestatic 48, 3) := by decide +kernel
theorem dJ2_getChar_3b067_15 : decode cJ2_getChar_3b067 15 = .ok (.if_icmp .lt 13, 3) := by decide +kernel
theorem dJ2_getChar_3b067_18 : decode cJ2_getChar_3b067 18 = .ok (.new 52, 3) := by decide +kernel
theorem dJ2_getChar_3b067_21 : decode cJ2_getChar_3b067 21 = .ok (.dup, 1) := by decide +kernel
theorem dJ2_getChar_3b067_22 : decode cJ2_getChar_3b067 22 = .ok (.ldc 54, 2) := by decide +kernel
theorem dJ2_getChar_3b067_24 : decode cJ2_getChar_3b067 24 = .ok (.invokespecial 56, 3) := by decide +kernel
theorem dJ2_getChar_3b067_27 : decode cJ2_getChar_3b067 27 = .ok (.athrow, 1) := by decide +kernel
theorem dJ2_getChar_3b067_28 : decode cJ2_getChar_3b067 28 = .ok (.iload_n 1, 1) := by decide +kernel
theorem dJ2_getChar_3b067_29 : decode cJ2_getChar_3b067 29 = .ok (.iconst 1, 1) := by decide +kernel
theorem dJ2_getChar_3b067_30 : decode cJ2_getChar_3b067 30 = .ok (.ishl, 1) := by decide +kernel
theorem dJ2_getChar_3b067_31 : decode cJ2_getChar_3b067 31 = .ok (.istore_n 1, 1) := by decide +kernel
theorem dJ2_getChar_3b067_32 : decode cJ2_getChar_3b067 32 = .ok (.aload_n 0, 1) := by decide +kernel
theorem dJ2_getChar_3b067_33 : decode cJ2_getChar_3b067 33 = .ok (.iload_n 1, 1) := by decide +kernel
theorem dJ2_getChar_3b067_34 : decode cJ2_getChar_3b067 34 = .ok (.iinc 1 1, 3) := by decide +kernel
theorem dJ2_getChar_3b067_37 : decode cJ2_getChar_3b067 37 = .ok (.baload, 1) := by decide +kernel
theorem dJ2_getChar_3b067_38 : decode cJ2_getChar_3b067 38 = .ok (.sipush 255, 3) := by decide +kernel
theorem dJ2_getChar_3b067_41 : decode cJ2_getChar_3b067 41 = .ok (.iand, 1) := by decide +kernel
theorem dJ2_getChar_3b067_42 : decode cJ2_getChar_3b067 42 = .ok (.getstatic 59, 3) := by decide +kernel
theorem dJ2_getChar_3b067_45 : decode cJ2_getChar_3b067 45 = .ok (.ishl, 1) := by decide +kernel
theorem dJ2_getChar_3b067_46 : decode cJ2_getChar_3b067 46 = .ok (.aload_n 0, 1) := by decide +kernel
theorem dJ2_getChar_3b067_47 : decode cJ2_getChar_3b067 47 = .ok (.iload_n 1, 1) := by decide +kernel
theorem dJ2_getChar_3b067_48 : decode cJ2_getChar_3b067 48 = .ok (.baload, 1) := by decide +kernel
theorem dJ2_getChar_3b067_49 : decode cJ2_getChar_3b067 49 = .ok (.sipush 255, 3) := by decide +kernel
theorem dJ2_getChar_3b067_52 : decode cJ2_getChar_3b067 52 = .ok (.iand, 1) := by decide +kernel
theorem dJ2_getChar_3b067_53 : decode cJ2_getChar_3b067 53 = .ok (.getstatic 63, 3) := by decide +kernel
theorem dJ2_getChar_3b067_56 : decode cJ2_getChar_3b067 56 = .ok (.ishl, 1) := by decide +kernel
theorem dJ2_getChar_3b067_57 : decode cJ2_getChar_3b067 57 = .ok (.ior, 1) := by decide +kernel
theorem dJ2_getChar_3b067_58 : decode cJ2_getChar_3b067 58 = .ok (.i2c, 1) := by decide +kernel
theorem dJ2_getChar_3b067_59 : decode cJ2_getChar_3b067 59 = .ok (.ireturn, 1) := by decide +kernel
theorem dJ2_length_9d52b_0 : decode cJ2_length_9d52b 0 = .ok (.aload_n 0, 1) := by decide +kernel
theorem dJ2_length_9d52b_1 : decode cJ2_length_9d52b 1 = .ok (.arraylength, 1) := by decide +kernel
theorem dJ2_length_9d52b_2 : decode cJ2_length_9d52b 2 = .ok (.iconst 1, 1) := by decide +kernel
theorem dJ2_length_9d52b_3 : decode cJ2_length_9d52b 3 = .ok (.ishr, 1) := by decide +kernel
theorem dJ2_length_9d52b_4 : decode cJ2_length_9d52b 4 = .ok (.ireturn, 1) := by decide +kernel
set_option maxRecDepth 20000 in
theorem ggJ2_charAt_3b067_J2_checkIndex_2214a : GoodIn wsJ2_charAt_3b067 wsJ2_checkIndex_2214a := goodIn_r _ [4, 5, 6, 3, 7, 8, 9, 10, 11, 12, 13, 14, 15, 16] (by decide +kernel) (by decide +kernel)
set_option maxRecDepth 20000 in
theorem gJ2_charAt_3b067_J2_checkIndex_2214a : GoodIn wsJ2_charAt_3b067 (va_wsS RJ2 67 yJ2_checkIndex_2214a wsJ2_checkIndex_2214a) := goodIn_app (goodIn_of _ (by decide +kernel)) ggJ2_charAt_3b067_J2_checkIndex_2214a
set_option maxRecDepth 20000 in
theorem ggJ2_charAt_3b067_J2_getChar_3b067 : GoodIn wsJ2_charAt_3b067 wsJ2_getChar_3b067 := goodIn_r _ [19, 20, 21, 22, 5, 6, 3, 7] (by decide +kernel) (by decide +kernel)
set_option maxRecDepth 20000 in
theorem gJ2_charAt_3b067_J2_getChar_3b067 : GoodIn wsJ2_charAt_3b067 (va_wsS RJ2 71 yJ2_getChar_3b067 wsJ2_getChar_3b067) := goodIn_app (goodIn_of _ (by decide +kernel)) ggJ2_charAt_3b067_J2_getChar_3b067
theorem dJ2_charAt_3b067_0 : decode cJ2_charAt_3b067 0 = .ok (.iload_n 1, 1) := by decide +kernel
theorem dJ2_charAt_3b067_1 : decode cJ2_charAt_3b067 1 = .ok (.aload_n 0, 1) := by decide +kernel
theorem dJ2_charAt_3b067_2 : decode cJ2_charAt_3b067 2 = .ok (.invokestatic 67, 3) := by decide +kernel
theorem dJ2_charAt_3b067_5 : decode cJ2_charAt_3b067 5 = .ok (.aload_n 0, 1) := by decide +kernel
theorem dJ2_charAt_3b067_6 : decode cJ2_charAt_3b067 6 = .ok (.iload_n 1, 1) := by decide +kernel
theorem dJ2_charAt_3b067_7 : decode cJ2_charAt_3b067 7 = .ok (.invokestatic 71, 3) := by decide +kernel
theorem dJ2_charAt_3b067_10 : decode cJ2_charAt_3b067 10 = .ok (.ireturn, 1) := by decide +kernel
set_option maxRecDepth 20000 in
theorem ggJ2_checkIndex_2214a_J2_length_9d52b : GoodIn wsJ2_checkIndex_2214a wsJ2_length_9d52b := goodIn_r _ [4] (by decide +kernel) (by decide +kernel)
set_option maxRecDepth 20000 in
theorem gJ2_checkIndex_2214a_J2_length_9d52b : GoodIn wsJ2_checkIndex_2214a (va_wsS RJ2 48 yJ2_length_9d52b wsJ2_length_9d52b) := goodIn_app (goodIn_of _ (by decide +kernel)) ggJ2_checkIndex_2214a_J2_length_9d52b
set_option maxRecDepth 20000 in
theorem ggJ2_checkIndex_2214a_J0_checkIndex_df160 : GoodIn wsJ2_checkIndex_2214a wsJ0_checkIndex_df160 := goodIn_r _ [8, 9, 10, 11, 12, 13] (by decide +kernel) (by decide +kernel)
set_option maxRecDepth 20000 in
theorem gJ2_checkIndex_2214a_J0_checkIndex_df160 : GoodIn wsJ2_checkIndex_2214a (va_wsS RJ2 414 yJ0_checkIndex_df160 wsJ0_checkIndex_df160) := goodIn_app (goodIn_of _ (by decide +kernel)) ggJ2_checkIndex_2214a_J0_checkIndex_df160
theorem dJ2_checkIndex_2214a_0 : decode cJ2_checkIndex_2214a 0 = .ok (.iload_n 0, 1) := by decide +kernel
theorem dJ2_checkIndex_2214a_1 : decode cJ2_checkIndex_2214a 1 = .ok (.aload_n 1, 1) := by decide +kernel
theorem dJ2_checkIndex_2214a_2 : decode cJ2_checkIndex_2214a 2 = .ok (.invokestatic 48, 3) := by decide +kernel
theorem dJ2_checkIndex_2214a_5 : decode cJ2_checkIndex_2214a 5 = .ok (.invokestatic 414, 3) := by decide +kernel
theorem dJ2_checkIndex_2214a_8 : decode cJ2_checkIndex_2214a 8 = .ok (.return_, 1) := by decide +kernel
theorem dJ3_checkIndex_8e157_0 : decode cJ3_checkIndex_8e157 0 = .ok (.iload_n 0, 1) := by decide +kernel
theorem dJ3_checkIndex_8e157_1 : decode cJ3_checkIndex_8e157 1 = .ok (.ifCond .lt 8, 3) := by decide +kernel
theorem dJ3_checkIndex_8e157_4 : decode cJ3_checkIndex_8e157 4 = .ok (.iload_n 0, 1) := by decide +kernel
theorem dJ3_checkIndex_8e157_5 : decode cJ3_checkIndex_8e157 5 = .ok (.iload_n 1, 1) := by decide +kernel
theorem dJ3_checkIndex_8e157_6 : decode cJ3_checkIndex_8e157 6 = .ok (.if_icmp .lt 10, 3) := by decide +kernel
theorem dJ3_checkIndex_8e157_9 : decode cJ3_checkIndex_8e157 9 = .ok (.aload_n 2, 1) := by decide +kernel
theorem dJ3_checkIndex_8e157_10 : decode cJ3_checkIndex_8e157 10 = .ok (.iload_n 0, 1) := by decide +kernel
theorem dJ3_checkIndex_8e157_11 : decode cJ3_checkIndex_8e157 11 = .ok (.iload_n 1, 1) := by decide +kernel
theorem dJ3_checkIndex_8e157_12 : decode cJ3_checkIndex_8e157 12 = .ok (.invokestatic 95, 3) := by decide +kernel
theorem dJ3_checkIndex_8e157_15 : decode cJ3_checkIndex_8e157 15 = .ok (.athrow, 1) := by decide +kernel
theorem dJ3_checkIndex_8e157_16 : decode cJ3_checkIndex_8e157 16 = .ok (.iload_n 0, 1) := by decide +kernel
theorem dJ3_checkIndex_8e157_17 : decode cJ3_checkIndex_8e157 17 = .ok (.ireturn, 1) := by decide +kernel

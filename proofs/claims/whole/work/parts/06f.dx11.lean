theorem dX11_slip_51 : decode cX11_slip 51 = .ok (.if_icmp .ge 29, 3) := by decide +kernel
theorem dX11_slip_54 : decode cX11_slip 54 = .ok (.aload 5, 2) := by decide +kernel
theorem dX11_slip_56 : decode cX11_slip 56 = .ok (.iload 6, 2) := by decide +kernel
theorem dX11_slip_58 : decode cX11_slip 58 = .ok (.aload_n 0, 1) := by decide +kernel
theorem dX11_slip_59 : decode cX11_slip 59 = .ok (.getfield 49, 3) := by decide +kernel
theorem dX11_slip_62 : decode cX11_slip 62 = .ok (.iload 6, 2) := by decide +kernel
theorem dX11_slip_64 : decode cX11_slip 64 = .ok (.iaload, 1) := by decide +kernel
theorem dX11_slip_65 : decode cX11_slip 65 = .ok (.iastore, 1) := by decide +kernel
theorem dX11_slip_66 : decode cX11_slip 66 = .ok (.aload_n 0, 1) := by decide +kernel
theorem dX11_slip_67 : decode cX11_slip 67 = .ok (.getfield 49, 3) := by decide +kernel
theorem dX11_slip_70 : decode cX11_slip 70 = .ok (.iload 6, 2) := by decide +kernel
theorem dX11_slip_72 : decode cX11_slip 72 = .ok (.iconst 0, 1) := by decide +kernel
theorem dX11_slip_73 : decode cX11_slip 73 = .ok (.iastore, 1) := by decide +kernel
theorem dX11_slip_74 : decode cX11_slip 74 = .ok (.iinc 6 1, 3) := by decide +kernel
theorem dX11_slip_77 : decode cX11_slip 77 = .ok (.goto (-30), 3) := by decide +kernel
theorem dX11_slip_80 : decode cX11_slip 80 = .ok (.iload 4, 2) := by decide +kernel
theorem dX11_slip_82 : decode cX11_slip 82 = .ok (.aload_n 0, 1) := by decide +kernel
theorem dX11_slip_83 : decode cX11_slip 83 = .ok (.iload_n 1, 1) := by decide +kernel
theorem dX11_slip_84 : decode cX11_slip 84 = .ok (.iload_n 2, 1) := by decide +kernel
theorem dX11_slip_85 : decode cX11_slip 85 = .ok (.iconst 1, 1) := by decide +kernel
theorem dX11_slip_86 : decode cX11_slip 86 = .ok (.iload_n 3, 1) := by decide +kernel
theorem dX11_slip_87 : decode cX11_slip 87 = .ok (.bipush 100, 2) := by decide +kernel
theorem dX11_slip_89 : decode cX11_slip 89 = .ok (.invokevirtual 264, 3) := by decide +kernel
theorem dX11_slip_92 : decode cX11_slip 92 = .ok (.ifCond .eq 7, 3) := by decide +kernel
theorem dX11_slip_95 : decode cX11_slip 95 = .ok (.iconst 2, 1) := by decide +kernel
theorem dX11_slip_96 : decode cX11_slip 96 = .ok (.goto 4, 3) := by decide +kernel
theorem dX11_slip_99 : decode cX11_slip 99 = .ok (.iconst 0, 1) := by decide +kernel
theorem dX11_slip_100 : decode cX11_slip 100 = .ok (.iadd, 1) := by decide +kernel
theorem dX11_slip_101 : decode cX11_slip 101 = .ok (.istore 4, 2) := by decide +kernel
theorem dX11_slip_103 : decode cX11_slip 103 = .ok (.iconst 0, 1) := by decide +kernel
theorem dX11_slip_104 : decode cX11_slip 104 = .ok (.istore 6, 2) := by decide +kernel
theorem dX11_slip_106 : decode cX11_slip 106 = .ok (.iload 6, 2) := by decide +kernel
theorem dX11_slip_108 : decode cX11_slip 108 = .ok (.bipush 8, 2) := by decide +kernel
theorem dX11_slip_110 : decode cX11_slip 110 = .ok (.if_icmp .ge 21, 3) := by decide +kernel
theorem dX11_slip_113 : decode cX11_slip 113 = .ok (.aload_n 0, 1) := by decide +kernel
theorem dX11_slip_114 : decode cX11_slip 114 = .ok (.getfield 49, 3) := by decide +kernel
theorem dX11_slip_117 : decode cX11_slip 117 = .ok (.iload 6, 2) := by decide +kernel
theorem dX11_slip_119 : decode cX11_slip 119 = .ok (.aload 5, 2) := by decide +kernel
theorem dX11_slip_121 : decode cX11_slip 121 = .ok (.iload 6, 2) := by decide +kernel
theorem dX11_slip_123 : decode cX11_slip 123 = .ok (.iaload, 1) := by decide +kernel
theorem dX11_slip_124 : decode cX11_slip 124 = .ok (.iastore, 1) := by decide +kernel
theorem dX11_slip_125 : decode cX11_slip 125 = .ok (.iinc 6 1, 3) := by decide +kernel
theorem dX11_slip_128 : decode cX11_slip 128 = .ok (.goto (-22), 3) := by decide +kernel
theorem dX11_slip_131 : decode cX11_slip 131 = .ok (.iload 4, 2) := by decide +kernel
theorem dX11_slip_133 : decode cX11_slip 133 = .ok (.ireturn, 1) := by decide +kernel
set_option maxRecDepth 20000 in
theorem ggX11_film_X11_isPiece : GoodIn wsX11_film wsX11_isPiece := goodIn_r _ [10, 11, 12, 13, 9, 14, 19, 20, 21, 22, 23, 24, 25, 26, 27, 28, 29, 30, 31, 32, 33, 34, 35, 36, 37, 38, 39, 40, 41, 42, 43, 44, 45, 46, 47, 48, 49, 50, 51, 52, 53, 54, 55, 56, 57, 58, 59, 60] (by decide +kernel) (by decide +kernel)
set_option maxRecDepth 20000 in
theorem gX11_film_X11_isPiece : GoodIn wsX11_film (wsV RX11 210 RX11 yX11_isPiece wsX11_isPiece) := goodIn_app (goodIn_of _ (by decide +kernel)) ggX11_film_X11_isPiece
set_option maxRecDepth 20000 in
theorem ggX11_film_X11_bad : GoodIn wsX11_film wsX11_bad := goodIn_r _ [18, 1, 19, 20, 21, 22, 23, 24, 25, 26, 27, 28, 29, 30, 31, 32, 33, 34, 35, 36, 37, 38, 39, 40, 41, 42, 43, 44, 45, 46, 47, 48, 49, 50, 51, 52, 53, 54, 55, 56, 57, 58, 59, 60] (by decide +kernel) (by decide +kernel)
set_option maxRecDepth 20000 in
theorem gX11_film_X11_bad : GoodIn wsX11_film (wsV RX11 176 RX11 yX11_bad wsX11_bad) := goodIn_app (goodIn_of _ (by decide +kernel)) ggX11_film_X11_bad
set_option maxRecDepth 20000 in
theorem ggX11_film_X11_in : GoodIn wsX11_film wsX11_in := goodIn_r _ [14] (by decide +kernel) (by decide +kernel)
set_option maxRecDepth 20000 in
theorem gX11_film_X11_in : GoodIn wsX11_film (va_wsS RX11 172 yX11_in wsX11_in) := goodIn_app (goodIn_of _ (by decide +kernel)) ggX11_film_X11_in
theorem dX11_film_0 : decode cX11_film 0 = .ok (.aload_n 0, 1) := by decide +kernel
theorem dX11_film_1 : decode cX11_film 1 = .ok (.iconst 0, 1) := by decide +kernel
theorem dX11_film_2 : decode cX11_film 2 = .ok (.putfield 83, 3) := by decide +kernel
theorem dX11_film_5 : decode cX11_film 5 = .ok (.aload_n 0, 1) := by decide +kernel
theorem dX11_film_6 : decode cX11_film 6 = .ok (.aload_n 0, 1) := by decide +kernel
theorem dX11_film_7 : decode cX11_film 7 = .ok (.iload_n 2, 1) := by decide +kernel
theorem dX11_film_8 : decode cX11_film 8 = .ok (.invokevirtual 210, 3) := by decide +kernel
theorem dX11_film_11 : decode cX11_film 11 = .ok (.ifCond .ne 7, 3) := by decide +kernel
theorem dX11_film_14 : decode cX11_film 14 = .ok (.iconst 1, 1) := by decide +kernel
theorem dX11_film_15 : decode cX11_film 15 = .ok (.goto 4, 3) := by decide +kernel
theorem dX11_film_18 : decode cX11_film 18 = .ok (.iconst 0, 1) := by decide +kernel
theorem dX11_film_19 : decode cX11_film 19 = .ok (.iconst 1, 1) := by decide +kernel
theorem dX11_film_20 : decode cX11_film 20 = .ok (.invokevirtual 176, 3) := by decide +kernel
theorem dX11_film_23 : decode cX11_film 23 = .ok (.ifCond .ne 49, 3) := by decide +kernel
theorem dX11_film_26 : decode cX11_film 26 = .ok (.aload_n 0, 1) := by decide +kernel
theorem dX11_film_27 : decode cX11_film 27 = .ok (.iload_n 1, 1) := by decide +kernel
theorem dX11_film_28 : decode cX11_film 28 = .ok (.iconst 1, 1) := by decide +kernel
theorem dX11_film_29 : decode cX11_film 29 = .ok (.bipush 100, 2) := by decide +kernel
theorem dX11_film_31 : decode cX11_film 31 = .ok (.invokestatic 172, 3) := by decide +kernel
theorem dX11_film_34 : decode cX11_film 34 = .ok (.ifCond .eq 26, 3) := by decide +kernel
theorem dX11_film_37 : decode cX11_film 37 = .ok (.iload_n 3, 1) := by decide +kernel
theorem dX11_film_38 : decode cX11_film 38 = .ok (.ldc 240, 2) := by decide +kernel
theorem dX11_film_40 : decode cX11_film 40 = .ok (.ldc 241, 2) := by decide +kernel
theorem dX11_film_42 : decode cX11_film 42 = .ok (.invokestatic 172, 3) := by decide +kernel
theorem dX11_film_45 : decode cX11_film 45 = .ok (.ifCond .eq 15, 3) := by decide +kernel
theorem dX11_film_48 : decode cX11_film 48 = .ok (.iload 4, 2) := by decide +kernel
theorem dX11_film_50 : decode cX11_film 50 = .ok (.ldc 240, 2) := by decide +kernel
theorem dX11_film_52 : decode cX11_film 52 = .ok (.ldc 241, 2) := by decide +kernel
theorem dX11_film_54 : decode cX11_film 54 = .ok (.invokestatic 172, 3) := by decide +kernel
theorem dX11_film_57 : decode cX11_film 57 = .ok (.ifCond .ne 7, 3) := by decide +kernel
theorem dX11_film_60 : decode cX11_film 60 = .ok (.iconst 1, 1) := by decide +kernel
theorem dX11_film_61 : decode cX11_film 61 = .ok (.goto 4, 3) := by decide +kernel
theorem dX11_film_64 : decode cX11_film 64 = .ok (.iconst 0, 1) := by decide +kernel
theorem dX11_film_65 : decode cX11_film 65 = .ok (.iconst 2, 1) := by decide +kernel
theorem dX11_film_66 : decode cX11_film 66 = .ok (.invokevirtual 176, 3) := by decide +kernel
theorem dX11_film_69 : decode cX11_film 69 = .ok (.ifCond .eq 5, 3) := by decide +kernel
theorem dX11_film_72 : decode cX11_film 72 = .ok (.iconst 0, 1) := by decide +kernel
theorem dX11_film_73 : decode cX11_film 73 = .ok (.ireturn, 1) := by decide +kernel
theorem dX11_film_74 : decode cX11_film 74 = .ok (.aload_n 0, 1) := by decide +kernel
theorem dX11_film_75 : decode cX11_film 75 = .ok (.getfield 279, 3) := by decide +kernel
theorem dX11_film_78 : decode cX11_film 78 = .ok (.bipush 20, 2) := by decide +kernel
theorem dX11_film_80 : decode cX11_film 80 = .ok (.if_icmp .ne 5, 3) := by decide +kernel
theorem dX11_film_83 : decode cX11_film 83 = .ok (.iconst (-1), 1) := by decide +kernel
theorem dX11_film_84 : decode cX11_film 84 = .ok (.ireturn, 1) := by decide +kernel
theorem dX11_film_85 : decode cX11_film 85 = .ok (.aload_n 0, 1) := by decide +kernel
theorem dX11_film_86 : decode cX11_film 86 = .ok (.getfield 68, 3) := by decide +kernel
theorem dX11_film_89 : decode cX11_film 89 = .ok (.aload_n 0, 1) := by decide +kernel
theorem dX11_film_90 : decode cX11_film 90 = .ok (.getfield 279, 3) := by decide +kernel
theorem dX11_film_93 : decode cX11_film 93 = .ok (.aaload, 1) := by decide +kernel
theorem dX11_film_94 : decode cX11_film 94 = .ok (.iconst 0, 1) := by decide +kernel
theorem dX11_film_95 : decode cX11_film 95 = .ok (.iload_n 1, 1) := by decide +kernel
theorem dX11_film_96 : decode cX11_film 96 = .ok (.iastore, 1) := by decide +kernel
theorem dX11_film_97 : decode cX11_film 97 = .ok (.aload_n 0, 1) := by decide +kernel
theorem dX11_film_98 : decode cX11_film 98 = .ok (.getfield 68, 3) := by decide +kernel
theorem dX11_film_101 : decode cX11_film 101 = .ok (.aload_n 0, 1) := by decide +kernel
theorem dX11_film_102 : decode cX11_film 102 = .ok (.getfield 279, 3) := by decide +kernel
theorem dX11_film_105 : decode cX11_film 105 = .ok (.aaload, 1) := by decide +kernel
theorem dX11_film_106 : decode cX11_film 106 = .ok (.iconst 1, 1) := by decide +kernel
theorem dX11_film_107 : decode cX11_film 107 = .ok (.iload_n 2, 1) := by decide +kernel
theorem dX11_film_108 : decode cX11_film 108 = .ok (.iastore, 1) := by decide +kernel
theorem dX11_film_109 : decode cX11_film 109 = .ok (.aload_n 0, 1) := by decide +kernel
theorem dX11_film_110 : decode cX11_film 110 = .ok (.getfield 68, 3) := by decide +kernel
theorem dX11_film_113 : decode cX11_film 113 = .ok (.aload_n 0, 1) := by decide +kernel
theorem dX11_film_114 : decode cX11_film 114 = .ok (.getfield 279, 3) := by decide +kernel
theorem dX11_film_117 : decode cX11_film 117 = .ok (.aaload, 1) := by decide +kernel
theorem dX11_film_118 : decode cX11_film 118 = .ok (.iconst 2, 1) := by decide +kernel
theorem dX11_film_119 : decode cX11_film 119 = .ok (.iload_n 3, 1) := by decide +kernel
theorem dX11_film_120 : decode cX11_film 120 = .ok (.iastore, 1) := by decide +kernel
theorem dX11_film_121 : decode cX11_film 121 = .ok (.aload_n 0, 1) := by decide +kernel
theorem dX11_film_122 : decode cX11_film 122 = .ok (.getfield 68, 3) := by decide +kernel
theorem dX11_film_125 : decode cX11_film 125 = .ok (.aload_n 0, 1) := by decide +kernel
theorem dX11_film_126 : decode cX11_film 126 = .ok (.getfield 279, 3) := by decide +kernel
theorem dX11_film_129 : decode cX11_film 129 = .ok (.aaload, 1) := by decide +kernel
theorem dX11_film_130 : decode cX11_film 130 = .ok (.iconst 3, 1) := by decide +kernel
theorem dX11_film_131 : decode cX11_film 131 = .ok (.iload 4, 2) := by decide +kernel
theorem dX11_film_133 : decode cX11_film 133 = .ok (.iastore, 1) := by decide +kernel
theorem dX11_film_134 : decode cX11_film 134 = .ok (.aload_n 0, 1) := by decide +kernel
theorem dX11_film_135 : decode cX11_film 135 = .ok (.dup, 1) := by decide +kernel
theorem dX11_film_136 : decode cX11_film 136 = .ok (.getfield 279, 3) := by decide +kernel
theorem dX11_film_139 : decode cX11_film 139 = .ok (.iconst 1, 1) := by decide +kernel
theorem dX11_film_140 : decode cX11_film 140 = .ok (.iadd, 1) := by decide +kernel
theorem dX11_film_141 : decode cX11_film 141 = .ok (.putfield 279, 3) := by decide +kernel
theorem dX11_film_144 : decode cX11_film 144 = .ok (.aload_n 0, 1) := by decide +kernel
theorem dX11_film_145 : decode cX11_film 145 = .ok (.getfield 279, 3) := by decide +kernel
theorem dX11_film_148 : decode cX11_film 148 = .ok (.ireturn, 1) := by decide +kernel
set_option maxRecDepth 20000 in
theorem ggX11_barred_X11_isLaw : GoodIn wsX11_barred wsX11_isLaw := goodIn_r _ [11, 12, 13, 14, 10, 15, 87, 88, 89, 90, 91, 92, 93, 94, 95, 96, 97, 98, 99, 100, 101, 102, 103, 104, 105, 106, 107, 108, 109, 110, 111, 112, 113, 114, 115, 116, 117, 118, 119, 120, 121, 122, 123, 124, 125, 126, 127, 128] (by decide +kernel) (by decide +kernel)
set_option maxRecDepth 20000 in
theorem gX11_barred_X11_isLaw : GoodIn wsX11_barred (wsV RX11 242 RX11 yX11_isLaw wsX11_isLaw) := goodIn_app (goodIn_of _ (by decide +kernel)) ggX11_barred_X11_isLaw
set_option maxRecDepth 20000 in
theorem ggX11_barred_X11_bad : GoodIn wsX11_barred wsX11_bad := goodIn_r _ [19, 1, 87, 88, 89, 90, 91, 92, 93, 94, 95, 96, 97, 98, 99, 100, 101, 102, 103, 104, 105, 106, 107, 108, 109, 110, 111, 112, 113, 114, 115, 116, 117, 118, 119, 120, 121, 122, 123, 124, 125, 126, 127, 128] (by decide +kernel) (by decide +kernel)
set_option maxRecDepth 20000 in
theorem gX11_barred_X11_bad : GoodIn wsX11_barred (wsV RX11 176 RX11 yX11_bad wsX11_bad) := goodIn_app (goodIn_of _ (by decide +kernel)) ggX11_barred_X11_bad
set_option maxRecDepth 20000 in
theorem ggX11_barred_X11_in : GoodIn wsX11_barred wsX11_in := goodIn_r _ [15] (by decide +kernel) (by decide +kernel)
set_option maxRecDepth 20000 in
theorem gX11_barred_X11_in : GoodIn wsX11_barred (va_wsS RX11 172 yX11_in wsX11_in) := goodIn_app (goodIn_of _ (by decide +kernel)) ggX11_barred_X11_in
set_option maxRecDepth 20000 in
theorem ggX11_barred_X11_isShape : GoodIn wsX11_barred wsX11_isShape := goodIn_r _ [22, 13, 14, 10, 15] (by decide +kernel) (by decide +kernel)
set_option maxRecDepth 20000 in
theorem gX11_barred_X11_isShape : GoodIn wsX11_barred (va_wsS RX11 213 yX11_isShape wsX11_isShape) := goodIn_app (goodIn_of _ (by decide +kernel)) ggX11_barred_X11_isShape
set_option maxRecDepth 20000 in
theorem ggX11_barred_X11_begins : GoodIn wsX11_barred wsX11_begins := goodIn_r _ [26, 27, 28, 29, 30, 31, 32, 10, 33, 34, 35, 6, 36, 37, 38, 39, 40, 41, 5, 87, 88, 89, 90, 91, 92, 93, 94, 95, 96, 97, 98, 99, 100, 101, 102, 103, 104, 105, 106, 107, 108, 109, 110, 111, 112, 113, 114, 115, 116, 117, 118, 119, 120, 121, 122, 123, 124, 125, 126, 127, 128] (by decide +kernel) (by decide +kernel)
set_option maxRecDepth 20000 in
theorem gX11_barred_X11_begins : GoodIn wsX11_barred (wsV RX11 254 RX11 yX11_begins wsX11_begins) := goodIn_app (goodIn_of _ (by decide +kernel)) ggX11_barred_X11_begins
set_option maxRecDepth 20000 in
theorem ggX11_barred_X11_tick : GoodIn wsX11_barred wsX11_tick := goodIn_r _ [45, 5, 6, 46, 47, 48, 49, 50, 2, 28, 29, 27, 51, 52, 53, 10, 54, 55, 56, 57, 58, 59, 60, 61, 62, 63, 64, 65, 66, 67, 68, 69, 70, 71, 72, 73, 74, 75, 76, 77, 78, 79, 80, 81, 82, 87, 88, 89, 90, 91, 92, 93, 94, 95, 96, 97, 98, 99, 100, 101, 102, 103, 104, 105, 106, 107, 108, 109, 110, 111, 112, 113, 114, 115, 116, 117, 118, 119, 120, 121, 122, 123, 124, 125, 126, 127, 128] (by decide +kernel) (by decide +kernel)
set_option maxRecDepth 20000 in
theorem gX11_barred_X11_tick : GoodIn wsX11_barred (wsV RX11 245 RX11 yX11_tick wsX11_tick) := goodIn_app (goodIn_of _ (by decide +kernel)) ggX11_barred_X11_tick
set_option maxRecDepth 20000 in
theorem ggX11_barred_X11_amount : GoodIn wsX11_barred wsX11_amount := goodIn_r _ [82] (by decide +kernel) (by decide +kernel)
set_option maxRecDepth 20000 in
theorem gX11_barred_X11_amount : GoodIn wsX11_barred (va_wsS RX11 224 yX11_amount wsX11_amount) := goodIn_app (goodIn_of _ (by decide +kernel)) ggX11_barred_X11_amount
set_option maxRecDepth 20000 in
theorem ggX11_barred_X11_laysBack : GoodIn wsX11_barred wsX11_laysBack := goodIn_r _ [86, 34, 27, 6, 35, 28, 36, 29, 37, 87, 88, 89, 90, 91, 92, 93, 94, 95, 96, 97, 98, 99, 100, 101, 102, 103, 104, 105, 106, 107, 108, 109, 110, 111, 112, 113, 114, 115, 116, 117, 118, 119, 120, 121, 122, 123, 124, 125, 126, 127, 128] (by decide +kernel) (by decide +kernel)
set_option maxRecDepth 20000 in
theorem gX11_barred_X11_laysBack : GoodIn wsX11_barred (wsV RX11 257 RX11 yX11_laysBack wsX11_laysBack) := goodIn_app (goodIn_of _ (by decide +kernel)) ggX11_barred_X11_laysBack
theorem dX11_barred_0 : decode cX11_barred 0 = .ok (.aload_n 0, 1) := by decide +kernel
theorem dX11_barred_1 : decode cX11_barred 1 = .ok (.iconst 0, 1) := by decide +kernel
theorem dX11_barred_2 : decode cX11_barred 2 = .ok (.putfield 83, 3) := by decide +kernel
theorem dX11_barred_5 : decode cX11_barred 5 = .ok (.aload_n 0, 1) := by decide +kernel
theorem dX11_barred_6 : decode cX11_barred 6 = .ok (.aload_n 0, 1) := by decide +kernel
theorem dX11_barred_7 : decode cX11_barred 7 = .ok (.iload_n 1, 1) := by decide +kernel
theorem dX11_barred_8 : decode cX11_barred 8 = .ok (.invokevirtual 242, 3) := by decide +kernel
theorem dX11_barred_11 : decode cX11_barred 11 = .ok (.ifCond .ne 7, 3) := by decide +kernel
theorem dX11_barred_14 : decode cX11_barred 14 = .ok (.iconst 1, 1) := by decide +kernel
theorem dX11_barred_15 : decode cX11_barred 15 = .ok (.goto 4, 3) := by decide +kernel
theorem dX11_barred_18 : decode cX11_barred 18 = .ok (.iconst 0, 1) := by decide +kernel
theorem dX11_barred_19 : decode cX11_barred 19 = .ok (.iconst 1, 1) := by decide +kernel
theorem dX11_barred_20 : decode cX11_barred 20 = .ok (.invokevirtual 176, 3) := by decide +kernel
theorem dX11_barred_23 : decode cX11_barred 23 = .ok (.ifCond .ne 58, 3) := by decide +kernel
theorem dX11_barred_26 : decode cX11_barred 26 = .ok (.aload_n 0, 1) := by decide +kernel
theorem dX11_barred_27 : decode cX11_barred 27 = .ok (.iload_n 2, 1) := by decide +kernel
theorem dX11_barred_28 : decode cX11_barred 28 = .ok (.iconst 0, 1) := by decide +kernel
theorem dX11_barred_29 : decode cX11_barred 29 = .ok (.bipush 99, 2) := by decide +kernel
theorem dX11_barred_31 : decode cX11_barred 31 = .ok (.invokestatic 172, 3) := by decide +kernel
theorem dX11_barred_34 : decode cX11_barred 34 = .ok (.ifCond .eq 35, 3) := by decide +kernel
theorem dX11_barred_37 : decode cX11_barred 37 = .ok (.iload_n 3, 1) := by decide +kernel
theorem dX11_barred_38 : decode cX11_barred 38 = .ok (.iload 4, 2) := by decide +kernel
theorem dX11_barred_40 : decode cX11_barred 40 = .ok (.invokestatic 213, 3) := by decide +kernel
theorem dX11_barred_43 : decode cX11_barred 43 = .ok (.ifCond .eq 26, 3) := by decide +kernel
theorem dX11_barred_46 : decode cX11_barred 46 = .ok (.iload 5, 2) := by decide +kernel
theorem dX11_barred_48 : decode cX11_barred 48 = .ok (.iconst 1, 1) := by decide +kernel
theorem dX11_barred_49 : decode cX11_barred 49 = .ok (.sipush 9999, 3) := by decide +kernel
theorem dX11_barred_52 : decode cX11_barred 52 = .ok (.invokestatic 172, 3) := by decide +kernel
theorem dX11_barred_55 : decode cX11_barred 55 = .ok (.ifCond .eq 14, 3) := by decide +kernel
theorem dX11_barred_58 : decode cX11_barred 58 = .ok (.iload 6, 2) := by decide +kernel
theorem dX11_barred_60 : decode cX11_barred 60 = .ok (.iconst 0, 1) := by decide +kernel
theorem dX11_barred_61 : decode cX11_barred 61 = .ok (.ldc 241, 2) := by decide +kernel
theorem dX11_barred_63 : decode cX11_barred 63 = .ok (.invokestatic 172, 3) := by decide +kernel
theorem dX11_barred_66 : decode cX11_barred 66 = .ok (.ifCond .ne 7, 3) := by decide +kernel
theorem dX11_barred_69 : decode cX11_barred 69 = .ok (.iconst 1, 1) := by decide +kernel
theorem dX11_barred_70 : decode cX11_barred 70 = .ok (.goto 4, 3) := by decide +kernel
theorem dX11_barred_73 : decode cX11_barred 73 = .ok (.iconst 0, 1) := by decide +kernel
theorem dX11_barred_74 : decode cX11_barred 74 = .ok (.iconst 2, 1) := by decide +kernel
theorem dX11_barred_75 : decode cX11_barred 75 = .ok (.invokevirtual 176, 3) := by decide +kernel
theorem dX11_barred_78 : decode cX11_barred 78 = .ok (.ifCond .eq 5, 3) := by decide +kernel
theorem dX11_barred_81 : decode cX11_barred 81 = .ok (.iconst 0, 1) := by decide +kernel
theorem dX11_barred_82 : decode cX11_barred 82 = .ok (.ireturn, 1) := by decide +kernel
theorem dX11_barred_83 : decode cX11_barred 83 = .ok (.aload_n 0, 1) := by decide +kernel
theorem dX11_barred_84 : decode cX11_barred 84 = .ok (.iload_n 3, 1) := by decide +kernel
theorem dX11_barred_85 : decode cX11_barred 85 = .ok (.iload 4, 2) := by decide +kernel
theorem dX11_barred_87 : decode cX11_barred 87 = .ok (.iload 5, 2) := by decide +kernel
theorem dX11_barred_89 : decode cX11_barred 89 = .ok (.invokevirtual 254, 3) := by decide +kernel
theorem dX11_barred_92 : decode cX11_barred 92 = .ok (.iconst (-1), 1) := by decide +kernel
theorem dX11_barred_93 : decode cX11_barred 93 = .ok (.istore 7, 2) := by decide +kernel
theorem dX11_barred_95 : decode cX11_barred 95 = .ok (.iconst 1, 1) := by decide +kernel
theorem dX11_barred_96 : decode cX11_barred 96 = .ok (.istore 8, 2) := by decide +kernel
theorem dX11_barred_98 : decode cX11_barred 98 = .ok (.iload 8, 2) := by decide +kernel
theorem dX11_barred_100 : decode cX11_barred 100 = .ok (.bipush 100, 2) := by decide +kernel
theorem dX11_barred_102 : decode cX11_barred 102 = .ok (.if_icmp .gt 141, 3) := by decide +kernel
theorem dX11_barred_105 : decode cX11_barred 105 = .ok (.aload_n 0, 1) := by decide +kernel
theorem dX11_barred_106 : decode cX11_barred 106 = .ok (.iload_n 1, 1) := by decide +kernel
theorem dX11_barred_107 : decode cX11_barred 107 = .ok (.iload_n 2, 1) := by decide +kernel
theorem dX11_barred_108 : decode cX11_barred 108 = .ok (.invokevirtual 245, 3) := by decide +kernel
theorem dX11_barred_111 : decode cX11_barred 111 = .ok (.iconst 0, 1) := by decide +kernel
theorem dX11_barred_112 : decode cX11_barred 112 = .ok (.istore 9, 2) := by decide +kernel
theorem dX11_barred_114 : decode cX11_barred 114 = .ok (.iload 9, 2) := by decide +kernel
theorem dX11_barred_116 : decode cX11_barred 116 = .ok (.aload_n 0, 1) := by decide +kernel
theorem dX11_barred_117 : decode cX11_barred 117 = .ok (.getfield 279, 3) := by decide +kernel
theorem dX11_barred_120 : decode cX11_barred 120 = .ok (.if_icmp .ge 117, 3) := by decide +kernel
theorem dX11_barred_123 : decode cX11_barred 123 = .ok (.aload_n 0, 1) := by decide +kernel
theorem dX11_barred_124 : decode cX11_barred 124 = .ok (.getfield 68, 3) := by decide +kernel
theorem dX11_barred_127 : decode cX11_barred 127 = .ok (.iload 9, 2) := by decide +kernel
theorem dX11_barred_129 : decode cX11_barred 129 = .ok (.aaload, 1) := by decide +kernel
theorem dX11_barred_130 : decode cX11_barred 130 = .ok (.iconst 1, 1) := by decide +kernel
theorem dX11_barred_131 : decode cX11_barred 131 = .ok (.iaload, 1) := by decide +kernel
theorem dX11_barred_132 : decode cX11_barred 132 = .ok (.istore 10, 2) := by decide +kernel
theorem dX11_barred_134 : decode cX11_barred 134 = .ok (.aload_n 0, 1) := by decide +kernel
theorem dX11_barred_135 : decode cX11_barred 135 = .ok (.getfield 68, 3) := by decide +kernel
theorem dX11_barred_138 : decode cX11_barred 138 = .ok (.iload 9, 2) := by decide +kernel
theorem dX11_barred_140 : decode cX11_barred 140 = .ok (.aaload, 1) := by decide +kernel
theorem dX11_barred_141 : decode cX11_barred 141 = .ok (.iconst 0, 1) := by decide +kernel
theorem dX11_barred_142 : decode cX11_barred 142 = .ok (.iaload, 1) := by decide +kernel
theorem dX11_barred_143 : decode cX11_barred 143 = .ok (.iload 8, 2) := by decide +kernel
theorem dX11_barred_145 : decode cX11_barred 145 = .ok (.if_icmp .ne 86, 3) := by decide +kernel
theorem dX11_barred_148 : decode cX11_barred 148 = .ok (.iload 10, 2) := by decide +kernel
theorem dX11_barred_150 : decode cX11_barred 150 = .ok (.aload_n 0, 1) := by decide +kernel
theorem dX11_barred_151 : decode cX11_barred 151 = .ok (.getfield 37, 3) := by decide +kernel
theorem dX11_barred_154 : decode cX11_barred 154 = .ok (.if_icmp .ge 77, 3) := by decide +kernel
theorem dX11_barred_157 : decode cX11_barred 157 = .ok (.iload 7, 2) := by decide +kernel
theorem dX11_barred_159 : decode cX11_barred 159 = .ok (.iconst (-1), 1) := by decide +kernel
theorem dX11_barred_160 : decode cX11_barred 160 = .ok (.if_icmp .eq 13, 3) := by decide +kernel
theorem dX11_barred_163 : decode cX11_barred 163 = .ok (.iload 9, 2) := by decide +kernel
theorem dX11_barred_165 : decode cX11_barred 165 = .ok (.iload 7, 2) := by decide +kernel
theorem dX11_barred_167 : decode cX11_barred 167 = .ok (.if_icmp .lt 6, 3) := by decide +kernel
theorem dX11_barred_170 : decode cX11_barred 170 = .ok (.goto 61, 3) := by decide +kernel
theorem dX11_barred_173 : decode cX11_barred 173 = .ok (.aload_n 0, 1) := by decide +kernel
theorem dX11_barred_174 : decode cX11_barred 174 = .ok (.getfield 43, 3) := by decide +kernel
theorem dX11_barred_177 : decode cX11_barred 177 = .ok (.iconst 0, 1) := by decide +kernel
theorem dX11_barred_178 : decode cX11_barred 178 = .ok (.aaload, 1) := by decide +kernel
theorem dX11_barred_179 : decode cX11_barred 179 = .ok (.iload 10, 2) := by decide +kernel
theorem dX11_barred_181 : decode cX11_barred 181 = .ok (.iaload, 1) := by decide +kernel
theorem dX11_barred_182 : decode cX11_barred 182 = .ok (.aload_n 0, 1) := by decide +kernel
theorem dX11_barred_183 : decode cX11_barred 183 = .ok (.getfield 68, 3) := by decide +kernel
theorem dX11_barred_186 : decode cX11_barred 186 = .ok (.iload 9, 2) := by decide +kernel
theorem dX11_barred_188 : decode cX11_barred 188 = .ok (.aaload, 1) := by decide +kernel
theorem dX11_barred_189 : decode cX11_barred 189 = .ok (.iconst 2, 1) := by decide +kernel
theorem dX11_barred_190 : decode cX11_barred 190 = .ok (.iaload, 1) := by decide +kernel
theorem dX11_barred_191 : decode cX11_barred 191 = .ok (.isub, 1) := by decide +kernel
theorem dX11_barred_192 : decode cX11_barred 192 = .ok (.invokestatic 224, 3) := by decide +kernel
theorem dX11_barred_195 : decode cX11_barred 195 = .ok (.iload 6, 2) := by decide +kernel
theorem dX11_barred_197 : decode cX11_barred 197 = .ok (.if_icmp .gt 30, 3) := by decide +kernel
theorem dX11_barred_200 : decode cX11_barred 200 = .ok (.aload_n 0, 1) := by decide +kernel
theorem dX11_barred_201 : decode cX11_barred 201 = .ok (.getfield 43, 3) := by decide +kernel
theorem dX11_barred_204 : decode cX11_barred 204 = .ok (.iconst 1, 1) := by decide +kernel
theorem dX11_barred_205 : decode cX11_barred 205 = .ok (.aaload, 1) := by decide +kernel
theorem dX11_barred_206 : decode cX11_barred 206 = .ok (.iload 10, 2) := by decide +kernel
theorem dX11_barred_208 : decode cX11_barred 208 = .ok (.iaload, 1) := by decide +kernel
theorem dX11_barred_209 : decode cX11_barred 209 = .ok (.aload_n 0, 1) := by decide +kernel
theorem dX11_barred_210 : decode cX11_barred 210 = .ok (.getfield 68, 3) := by decide +kernel
theorem dX11_barred_213 : decode cX11_barred 213 = .ok (.iload 9, 2) := by decide +kernel
theorem dX11_barred_215 : decode cX11_barred 215 = .ok (.aaload, 1) := by decide +kernel
theorem dX11_barred_216 : decode cX11_barred 216 = .ok (.iconst 3, 1) := by decide +kernel
theorem dX11_barred_217 : decode cX11_barred 217 = .ok (.iaload, 1) := by decide +kernel
theorem dX11_barred_218 : decode cX11_barred 218 = .ok (.isub, 1) := by decide +kernel
theorem dX11_barred_219 : decode cX11_barred 219 = .ok (.invokestatic 224, 3) := by decide +kernel
theorem dX11_barred_222 : decode cX11_barred 222 = .ok (.iload 6, 2) := by decide +kernel
theorem dX11_barred_224 : decode cX11_barred 224 = .ok (.if_icmp .le 7, 3) := by decide +kernel
theorem dX11_barred_227 : decode cX11_barred 227 = .ok (.iload 9, 2) := by decide +kernel
theorem dX11_barred_229 : decode cX11_barred 229 = .ok (.istore 7, 2) := by decide +kernel
theorem dX11_barred_231 : decode cX11_barred 231 = .ok (.iinc 9 1, 3) := by decide +kernel
theorem dX11_barred_234 : decode cX11_barred 234 = .ok (.goto (-120), 3) := by decide +kernel
theorem dX11_barred_237 : decode cX11_barred 237 = .ok (.iinc 8 1, 3) := by decide +kernel
theorem dX11_barred_240 : decode cX11_barred 240 = .ok (.goto (-142), 3) := by decide +kernel
theorem dX11_barred_243 : decode cX11_barred 243 = .ok (.aload_n 0, 1) := by decide +kernel
theorem dX11_barred_244 : decode cX11_barred 244 = .ok (.invokevirtual 257, 3) := by decide +kernel
theorem dX11_barred_247 : decode cX11_barred 247 = .ok (.iload 7, 2) := by decide +kernel
theorem dX11_barred_249 : decode cX11_barred 249 = .ok (.ireturn, 1) := by decide +kernel
set_option maxRecDepth 20000 in
theorem ggX11_shut_X11_isLaw : GoodIn wsX11_shut wsX11_isLaw := goodIn_r _ [7, 8, 9, 10, 6, 11, 89, 90, 91, 92, 93, 94, 95, 96, 97, 98, 99, 100, 101, 102, 103, 104, 105, 106, 107, 108, 109, 110, 111, 112, 113, 114, 115, 116, 117, 118, 119, 120, 121, 122, 123, 124, 125, 126, 127, 128, 129, 130] (by decide +kernel) (by decide +kernel)
set_option maxRecDepth 20000 in
theorem gX11_shut_X11_isLaw : GoodIn wsX11_shut (wsV RX11 242 RX11 yX11_isLaw wsX11_isLaw) := goodIn_app (goodIn_of _ (by decide +kernel)) ggX11_shut_X11_isLaw
set_option maxRecDepth 20000 in
theorem ggX11_shut_X11_bad : GoodIn wsX11_shut wsX11_bad := goodIn_r _ [15, 1, 89, 90, 91, 92, 93, 94, 95, 96, 97, 98, 99, 100, 101, 102, 103, 104, 105, 106, 107, 108, 109, 110, 111, 112, 113, 114, 115, 116, 117, 118, 119, 120, 121, 122, 123, 124, 125, 126, 127, 128, 129, 130] (by decide +kernel) (by decide +kernel)
set_option maxRecDepth 20000 in
theorem gX11_shut_X11_bad : GoodIn wsX11_shut (wsV RX11 176 RX11 yX11_bad wsX11_bad) := goodIn_app (goodIn_of _ (by decide +kernel)) ggX11_shut_X11_bad
set_option maxRecDepth 20000 in
theorem ggX11_shut_X11_in : GoodIn wsX11_shut wsX11_in := goodIn_r _ [11] (by decide +kernel) (by decide +kernel)
set_option maxRecDepth 20000 in
theorem gX11_shut_X11_in : GoodIn wsX11_shut (va_wsS RX11 172 yX11_in wsX11_in) := goodIn_app (goodIn_of _ (by decide +kernel)) ggX11_shut_X11_in
set_option maxRecDepth 20000 in
theorem ggX11_shut_X11_isShape : GoodIn wsX11_shut wsX11_isShape := goodIn_r _ [18, 9, 10, 6, 11] (by decide +kernel) (by decide +kernel)
set_option maxRecDepth 20000 in
theorem gX11_shut_X11_isShape : GoodIn wsX11_shut (va_wsS RX11 213 yX11_isShape wsX11_isShape) := goodIn_app (goodIn_of _ (by decide +kernel)) ggX11_shut_X11_isShape
set_option maxRecDepth 20000 in
theorem ggX11_shut_X11_begins : GoodIn wsX11_shut wsX11_begins := goodIn_r _ [22, 23, 24, 25, 26, 27, 28, 6, 29, 30, 31, 32, 33, 34, 35, 36, 37, 38, 39, 89, 90, 91, 92, 93, 94, 95, 96, 97, 98, 99, 100, 101, 102, 103, 104, 105, 106, 107, 108, 109, 110, 111, 112, 113, 114, 115, 116, 117, 118, 119, 120, 121, 122, 123, 124, 125, 126, 127, 128, 129, 130] (by decide +kernel) (by decide +kernel)
set_option maxRecDepth 20000 in
theorem gX11_shut_X11_begins : GoodIn wsX11_shut (wsV RX11 254 RX11 yX11_begins wsX11_begins) := goodIn_app (goodIn_of _ (by decide +kernel)) ggX11_shut_X11_begins
set_option maxRecDepth 20000 in
theorem ggX11_shut_X11_tick : GoodIn wsX11_shut wsX11_tick := goodIn_r _ [43, 39, 32, 44, 45, 46, 47, 48, 2, 24, 25, 23, 49, 50, 51, 6, 52, 53, 54, 55, 56, 57, 58, 59, 60, 61, 62, 63, 64, 65, 66, 67, 68, 69, 70, 71, 72, 73, 74, 75, 76, 77, 78, 79, 80, 89, 90, 91, 92, 93, 94, 95, 96, 97, 98, 99, 100, 101, 102, 103, 104, 105, 106, 107, 108, 109, 110, 111, 112, 113, 114, 115, 116, 117, 118, 119, 120, 121, 122, 123, 124, 125, 126, 127, 128, 129, 130] (by decide +kernel) (by decide +kernel)
set_option maxRecDepth 20000 in
theorem gX11_shut_X11_tick : GoodIn wsX11_shut (wsV RX11 245 RX11 yX11_tick wsX11_tick) := goodIn_app (goodIn_of _ (by decide +kernel)) ggX11_shut_X11_tick
set_option maxRecDepth 20000 in
theorem ggX11_shut_X11_sizeOf : GoodIn wsX11_shut wsX11_sizeOf := goodIn_r _ [84, 39, 32, 78, 79, 6, 80, 89, 90, 91, 92, 93, 94, 95, 96, 97, 98, 99, 100, 101, 102, 103, 104, 105, 106, 107, 108, 109, 110, 111, 112, 113, 114, 115, 116, 117, 118, 119, 120, 121, 122, 123, 124, 125, 126, 127, 128, 129, 130] (by decide +kernel) (by decide +kernel)
set_option maxRecDepth 20000 in
theorem gX11_shut_X11_sizeOf : GoodIn wsX11_shut (wsV RX11 221 RX11 yX11_sizeOf wsX11_sizeOf) := goodIn_app (goodIn_of _ (by decide +kernel)) ggX11_shut_X11_sizeOf
set_option maxRecDepth 20000 in
theorem ggX11_shut_X11_laysBack : GoodIn wsX11_shut wsX11_laysBack := goodIn_r _ [88, 30, 23, 32, 31, 24, 33, 25, 34, 89, 90, 91, 92, 93, 94, 95, 96, 97, 98, 99, 100, 101, 102, 103, 104, 105, 106, 107, 108, 109, 110, 111, 112, 113, 114, 115, 116, 117, 118, 119, 120, 121, 122, 123, 124, 125, 126, 127, 128, 129, 130] (by decide +kernel) (by decide +kernel)
set_option maxRecDepth 20000 in
theorem gX11_shut_X11_laysBack : GoodIn wsX11_shut (wsV RX11 257 RX11 yX11_laysBack wsX11_laysBack) := goodIn_app (goodIn_of _ (by decide +kernel)) ggX11_shut_X11_laysBack
theorem dX11_shut_0 : decode cX11_shut 0 = .ok (.aload_n 0, 1) := by decide +kernel
theorem dX11_shut_1 : decode cX11_shut 1 = .ok (.iconst 0, 1) := by decide +kernel
theorem dX11_shut_2 : decode cX11_shut 2 = .ok (.putfield 83, 3) := by decide +kernel
theorem dX11_shut_5 : decode cX11_shut 5 = .ok (.aload_n 0, 1) := by decide +kernel
theorem dX11_shut_6 : decode cX11_shut 6 = .ok (.aload_n 0, 1) := by decide +kernel
theorem dX11_shut_7 : decode cX11_shut 7 = .ok (.iload_n 1, 1) := by decide +kernel
theorem dX11_shut_8 : decode cX11_shut 8 = .ok (.invokevirtual 242, 3) := by decide +kernel
theorem dX11_shut_11 : decode cX11_shut 11 = .ok (.ifCond .ne 7, 3) := by decide +kernel
theorem dX11_shut_14 : decode cX11_shut 14 = .ok (.iconst 1, 1) := by decide +kernel
theorem dX11_shut_15 : decode cX11_shut 15 = .ok (.goto 4, 3) := by decide +kernel
theorem dX11_shut_18 : decode cX11_shut 18 = .ok (.iconst 0, 1) := by decide +kernel
theorem dX11_shut_19 : decode cX11_shut 19 = .ok (.iconst 1, 1) := by decide +kernel
theorem dX11_shut_20 : decode cX11_shut 20 = .ok (.invokevirtual 176, 3) := by decide +kernel
theorem dX11_shut_23 : decode cX11_shut 23 = .ok (.ifCond .ne 58, 3) := by decide +kernel
theorem dX11_shut_26 : decode cX11_shut 26 = .ok (.aload_n 0, 1) := by decide +kernel
theorem dX11_shut_27 : decode cX11_shut 27 = .ok (.iload_n 2, 1) := by decide +kernel
theorem dX11_shut_28 : decode cX11_shut 28 = .ok (.iconst 0, 1) := by decide +kernel
theorem dX11_shut_29 : decode cX11_shut 29 = .ok (.bipush 99, 2) := by decide +kernel
theorem dX11_shut_31 : decode cX11_shut 31 = .ok (.invokestatic 172, 3) := by decide +kernel
theorem dX11_shut_34 : decode cX11_shut 34 = .ok (.ifCond .eq 35, 3) := by decide +kernel
theorem dX11_shut_37 : decode cX11_shut 37 = .ok (.iload_n 3, 1) := by decide +kernel
theorem dX11_shut_38 : decode cX11_shut 38 = .ok (.iload 4, 2) := by decide +kernel
theorem dX11_shut_40 : decode cX11_shut 40 = .ok (.invokestatic 213, 3) := by decide +kernel
theorem dX11_shut_43 : decode cX11_shut 43 = .ok (.ifCond .eq 26, 3) := by decide +kernel
theorem dX11_shut_46 : decode cX11_shut 46 = .ok (.iload 5, 2) := by decide +kernel
theorem dX11_shut_48 : decode cX11_shut 48 = .ok (.iconst 1, 1) := by decide +kernel
theorem dX11_shut_49 : decode cX11_shut 49 = .ok (.sipush 9999, 3) := by decide +kernel
theorem dX11_shut_52 : decode cX11_shut 52 = .ok (.invokestatic 172, 3) := by decide +kernel
theorem dX11_shut_55 : decode cX11_shut 55 = .ok (.ifCond .eq 14, 3) := by decide +kernel
theorem dX11_shut_58 : decode cX11_shut 58 = .ok (.iload 6, 2) := by decide +kernel
theorem dX11_shut_60 : decode cX11_shut 60 = .ok (.iconst 0, 1) := by decide +kernel
theorem dX11_shut_61 : decode cX11_shut 61 = .ok (.ldc 241, 2) := by decide +kernel
theorem dX11_shut_63 : decode cX11_shut 63 = .ok (.invokestatic 172, 3) := by decide +kernel
theorem dX11_shut_66 : decode cX11_shut 66 = .ok (.ifCond .ne 7, 3) := by decide +kernel
theorem dX11_shut_69 : decode cX11_shut 69 = .ok (.iconst 1, 1) := by decide +kernel
theorem dX11_shut_70 : decode cX11_shut 70 = .ok (.goto 4, 3) := by decide +kernel
theorem dX11_shut_73 : decode cX11_shut 73 = .ok (.iconst 0, 1) := by decide +kernel
theorem dX11_shut_74 : decode cX11_shut 74 = .ok (.iconst 2, 1) := by decide +kernel
theorem dX11_shut_75 : decode cX11_shut 75 = .ok (.invokevirtual 176, 3) := by decide +kernel
theorem dX11_shut_78 : decode cX11_shut 78 = .ok (.ifCond .eq 5, 3) := by decide +kernel
theorem dX11_shut_81 : decode cX11_shut 81 = .ok (.iconst 0, 1) := by decide +kernel
theorem dX11_shut_82 : decode cX11_shut 82 = .ok (.ireturn, 1) := by decide +kernel
theorem dX11_shut_83 : decode cX11_shut 83 = .ok (.aload_n 0, 1) := by decide +kernel
theorem dX11_shut_84 : decode cX11_shut 84 = .ok (.iload_n 3, 1) := by decide +kernel
theorem dX11_shut_85 : decode cX11_shut 85 = .ok (.iload 4, 2) := by decide +kernel
theorem dX11_shut_87 : decode cX11_shut 87 = .ok (.iload 5, 2) := by decide +kernel
theorem dX11_shut_89 : decode cX11_shut 89 = .ok (.invokevirtual 254, 3) := by decide +kernel
theorem dX11_shut_92 : decode cX11_shut 92 = .ok (.iconst (-1), 1) := by decide +kernel
theorem dX11_shut_93 : decode cX11_shut 93 = .ok (.istore 7, 2) := by decide +kernel
theorem dX11_shut_95 : decode cX11_shut 95 = .ok (.iconst 1, 1) := by decide +kernel
theorem dX11_shut_96 : decode cX11_shut 96 = .ok (.istore 8, 2) := by decide +kernel
theorem dX11_shut_98 : decode cX11_shut 98 = .ok (.iload 8, 2) := by decide +kernel
theorem dX11_shut_100 : decode cX11_shut 100 = .ok (.bipush 100, 2) := by decide +kernel
theorem dX11_shut_102 : decode cX11_shut 102 = .ok (.if_icmp .gt 39, 3) := by decide +kernel
theorem dX11_shut_105 : decode cX11_shut 105 = .ok (.iload 7, 2) := by decide +kernel
theorem dX11_shut_107 : decode cX11_shut 107 = .ok (.iconst (-1), 1) := by decide +kernel
theorem dX11_shut_108 : decode cX11_shut 108 = .ok (.if_icmp .ne 33, 3) := by decide +kernel
theorem dX11_shut_111 : decode cX11_shut 111 = .ok (.aload_n 0, 1) := by decide +kernel
theorem dX11_shut_112 : decode cX11_shut 112 = .ok (.iload_n 1, 1) := by decide +kernel
theorem dX11_shut_113 : decode cX11_shut 113 = .ok (.iload_n 2, 1) := by decide +kernel
theorem dX11_shut_114 : decode cX11_shut 114 = .ok (.invokevirtual 245, 3) := by decide +kernel
theorem dX11_shut_117 : decode cX11_shut 117 = .ok (.aload_n 0, 1) := by decide +kernel
theorem dX11_shut_118 : decode cX11_shut 118 = .ok (.iload_n 3, 1) := by decide +kernel
theorem dX11_shut_119 : decode cX11_shut 119 = .ok (.invokevirtual 221, 3) := by decide +kernel
theorem dX11_shut_122 : decode cX11_shut 122 = .ok (.iload 6, 2) := by decide +kernel
theorem dX11_shut_124 : decode cX11_shut 124 = .ok (.if_icmp .le 8, 3) := by decide +kernel
theorem dX11_shut_127 : decode cX11_shut 127 = .ok (.iload 8, 2) := by decide +kernel
theorem dX11_shut_129 : decode cX11_shut 129 = .ok (.goto 4, 3) := by decide +kernel
theorem dX11_shut_132 : decode cX11_shut 132 = .ok (.iconst (-1), 1) := by decide +kernel
theorem dX11_shut_133 : decode cX11_shut 133 = .ok (.istore 7, 2) := by decide +kernel
theorem dX11_shut_135 : decode cX11_shut 135 = .ok (.iinc 8 1, 3) := by decide +kernel
theorem dX11_shut_138 : decode cX11_shut 138 = .ok (.goto (-40), 3) := by decide +kernel
theorem dX11_shut_141 : decode cX11_shut 141 = .ok (.aload_n 0, 1) := by decide +kernel
theorem dX11_shut_142 : decode cX11_shut 142 = .ok (.invokevirtual 257, 3) := by decide +kernel
theorem dX11_shut_145 : decode cX11_shut 145 = .ok (.iload 7, 2) := by decide +kernel
theorem dX11_shut_147 : decode cX11_shut 147 = .ok (.ireturn, 1) := by decide +kernel
set_option maxRecDepth 20000 in
theorem ggX11_mend_X11_in : GoodIn wsX11_mend wsX11_in := goodIn_r _ [9] (by decide +kernel) (by decide +kernel)
set_option maxRecDepth 20000 in
theorem gX11_mend_X11_in : GoodIn wsX11_mend (va_wsS RX11 172 yX11_in wsX11_in) := goodIn_app (goodIn_of _ (by decide +kernel)) ggX11_mend_X11_in
set_option maxRecDepth 20000 in
theorem ggX11_mend_X11_bad : GoodIn wsX11_mend wsX11_bad := goodIn_r _ [13, 1, 14, 15, 16, 17, 18, 19, 20, 21, 22, 23, 24, 25, 26, 27, 28, 29, 30, 31, 32, 33, 34, 35, 36, 37, 38, 39, 40, 41, 42, 43, 44, 45, 46, 47, 48, 49, 50, 51, 52, 53, 54, 55] (by decide +kernel) (by decide +kernel)
set_option maxRecDepth 20000 in
theorem gX11_mend_X11_bad : GoodIn wsX11_mend (wsV RX11 176 RX11 yX11_bad wsX11_bad) := goodIn_app (goodIn_of _ (by decide +kernel)) ggX11_mend_X11_bad
theorem dX11_mend_0 : decode cX11_mend 0 = .ok (.aload_n 0, 1) := by decide +kernel
theorem dX11_mend_1 : decode cX11_mend 1 = .ok (.iconst 0, 1) := by decide +kernel
theorem dX11_mend_2 : decode cX11_mend 2 = .ok (.putfield 83, 3) := by decide +kernel
theorem dX11_mend_5 : decode cX11_mend 5 = .ok (.aload_n 0, 1) := by decide +kernel
theorem dX11_mend_6 : decode cX11_mend 6 = .ok (.iload_n 1, 1) := by decide +kernel
theorem dX11_mend_7 : decode cX11_mend 7 = .ok (.iconst 0, 1) := by decide +kernel
theorem dX11_mend_8 : decode cX11_mend 8 = .ok (.bipush 9, 2) := by decide +kernel
theorem dX11_mend_10 : decode cX11_mend 10 = .ok (.invokestatic 172, 3) := by decide +kernel
theorem dX11_mend_13 : decode cX11_mend 13 = .ok (.ifCond .eq 26, 3) := by decide +kernel
theorem dX11_mend_16 : decode cX11_mend 16 = .ok (.iload_n 2, 1) := by decide +kernel
theorem dX11_mend_17 : decode cX11_mend 17 = .ok (.ldc_w 282, 3) := by decide +kernel
theorem dX11_mend_20 : decode cX11_mend 20 = .ok (.ldc 203, 2) := by decide +kernel
theorem dX11_mend_22 : decode cX11_mend 22 = .ok (.invokestatic 172, 3) := by decide +kernel
theorem dX11_mend_25 : decode cX11_mend 25 = .ok (.ifCond .eq 14, 3) := by decide +kernel
theorem dX11_mend_28 : decode cX11_mend 28 = .ok (.iload_n 3, 1) := by decide +kernel
theorem dX11_mend_29 : decode cX11_mend 29 = .ok (.iconst 0, 1) := by decide +kernel
theorem dX11_mend_30 : decode cX11_mend 30 = .ok (.sipush 999, 3) := by decide +kernel
theorem dX11_mend_33 : decode cX11_mend 33 = .ok (.invokestatic 172, 3) := by decide +kernel
theorem dX11_mend_36 : decode cX11_mend 36 = .ok (.ifCond .ne 7, 3) := by decide +kernel
theorem dX11_mend_39 : decode cX11_mend 39 = .ok (.iconst 1, 1) := by decide +kernel
theorem dX11_mend_40 : decode cX11_mend 40 = .ok (.goto 4, 3) := by decide +kernel
theorem dX11_mend_43 : decode cX11_mend 43 = .ok (.iconst 0, 1) := by decide +kernel
theorem dX11_mend_44 : decode cX11_mend 44 = .ok (.iconst 1, 1) := by decide +kernel
theorem dX11_mend_45 : decode cX11_mend 45 = .ok (.invokevirtual 176, 3) := by decide +kernel
theorem dX11_mend_48 : decode cX11_mend 48 = .ok (.ifCond .eq 5, 3) := by decide +kernel
theorem dX11_mend_51 : decode cX11_mend 51 = .ok (.iconst 0, 1) := by decide +kernel
theorem dX11_mend_52 : decode cX11_mend 52 = .ok (.ireturn, 1) := by decide +kernel
theorem dX11_mend_53 : decode cX11_mend 53 = .ok (.aload_n 0, 1) := by decide +kernel
theorem dX11_mend_54 : decode cX11_mend 54 = .ok (.getfield 283, 3) := by decide +kernel
theorem dX11_mend_57 : decode cX11_mend 57 = .ok (.iconst 5, 1) := by decide +kernel
theorem dX11_mend_58 : decode cX11_mend 58 = .ok (.if_icmp .ne 5, 3) := by decide +kernel
theorem dX11_mend_61 : decode cX11_mend 61 = .ok (.iconst (-1), 1) := by decide +kernel
theorem dX11_mend_62 : decode cX11_mend 62 = .ok (.ireturn, 1) := by decide +kernel
theorem dX11_mend_63 : decode cX11_mend 63 = .ok (.aload_n 0, 1) := by decide +kernel
theorem dX11_mend_64 : decode cX11_mend 64 = .ok (.getfield 71, 3) := by decide +kernel
theorem dX11_mend_67 : decode cX11_mend 67 = .ok (.aload_n 0, 1) := by decide +kernel
theorem dX11_mend_68 : decode cX11_mend 68 = .ok (.getfield 283, 3) := by decide +kernel
theorem dX11_mend_71 : decode cX11_mend 71 = .ok (.aaload, 1) := by decide +kernel
theorem dX11_mend_72 : decode cX11_mend 72 = .ok (.iconst 0, 1) := by decide +kernel
theorem dX11_mend_73 : decode cX11_mend 73 = .ok (.iload_n 1, 1) := by decide +kernel
theorem dX11_mend_74 : decode cX11_mend 74 = .ok (.iastore, 1) := by decide +kernel
theorem dX11_mend_75 : decode cX11_mend 75 = .ok (.aload_n 0, 1) := by decide +kernel
theorem dX11_mend_76 : decode cX11_mend 76 = .ok (.getfield 71, 3) := by decide +kernel
theorem dX11_mend_79 : decode cX11_mend 79 = .ok (.aload_n 0, 1) := by decide +kernel
theorem dX11_mend_80 : decode cX11_mend 80 = .ok (.getfield 283, 3) := by decide +kernel
theorem dX11_mend_83 : decode cX11_mend 83 = .ok (.aaload, 1) := by decide +kernel
theorem dX11_mend_84 : decode cX11_mend 84 = .ok (.iconst 1, 1) := by decide +kernel
theorem dX11_mend_85 : decode cX11_mend 85 = .ok (.iload_n 2, 1) := by decide +kernel
theorem dX11_mend_86 : decode cX11_mend 86 = .ok (.iastore, 1) := by decide +kernel
theorem dX11_mend_87 : decode cX11_mend 87 = .ok (.aload_n 0, 1) := by decide +kernel
theorem dX11_mend_88 : decode cX11_mend 88 = .ok (.getfield 71, 3) := by decide +kernel
theorem dX11_mend_91 : decode cX11_mend 91 = .ok (.aload_n 0, 1) := by decide +kernel
theorem dX11_mend_92 : decode cX11_mend 92 = .ok (.getfield 283, 3) := by decide +kernel
theorem dX11_mend_95 : decode cX11_mend 95 = .ok (.aaload, 1) := by decide +kernel
theorem dX11_mend_96 : decode cX11_mend 96 = .ok (.iconst 2, 1) := by decide +kernel
theorem dX11_mend_97 : decode cX11_mend 97 = .ok (.iload_n 3, 1) := by decide +kernel
theorem dX11_mend_98 : decode cX11_mend 98 = .ok (.iastore, 1) := by decide +kernel
theorem dX11_mend_99 : decode cX11_mend 99 = .ok (.aload_n 0, 1) := by decide +kernel
theorem dX11_mend_100 : decode cX11_mend 100 = .ok (.dup, 1) := by decide +kernel
theorem dX11_mend_101 : decode cX11_mend 101 = .ok (.getfield 283, 3) := by decide +kernel
theorem dX11_mend_104 : decode cX11_mend 104 = .ok (.iconst 1, 1) := by decide +kernel
theorem dX11_mend_105 : decode cX11_mend 105 = .ok (.iadd, 1) := by decide +kernel
theorem dX11_mend_106 : decode cX11_mend 106 = .ok (.putfield 283, 3) := by decide +kernel
theorem dX11_mend_109 : decode cX11_mend 109 = .ok (.aload_n 0, 1) := by decide +kernel
theorem dX11_mend_110 : decode cX11_mend 110 = .ok (.getfield 283, 3) := by decide +kernel
theorem dX11_mend_113 : decode cX11_mend 113 = .ok (.iconst 1, 1) := by decide +kernel
theorem dX11_mend_114 : decode cX11_mend 114 = .ok (.isub, 1) := by decide +kernel
theorem dX11_mend_115 : decode cX11_mend 115 = .ok (.ireturn, 1) := by decide +kernel
set_option maxRecDepth 20000 in
theorem ggX11_makes_X11_lowest : GoodIn wsX11_makes wsX11_lowest := goodIn_r _ [6] (by decide +kernel) (by decide +kernel)
set_option maxRecDepth 20000 in
theorem gX11_makes_X11_lowest : GoodIn wsX11_makes (va_wsS RX11 204 yX11_lowest wsX11_lowest) := goodIn_app (goodIn_of _ (by decide +kernel)) ggX11_makes_X11_lowest
set_option maxRecDepth 20000 in
theorem ggX11_makes_X11_highest : GoodIn wsX11_makes wsX11_highest := goodIn_r _ [9, 10] (by decide +kernel) (by decide +kernel)
set_option maxRecDepth 20000 in
theorem gX11_makes_X11_highest : GoodIn wsX11_makes (va_wsS RX11 207 yX11_highest wsX11_highest) := goodIn_app (goodIn_of _ (by decide +kernel)) ggX11_makes_X11_highest
set_option maxRecDepth 20000 in
theorem ggX11_makes_X11_within : GoodIn wsX11_makes wsX11_within := goodIn_r _ [13] (by decide +kernel) (by decide +kernel)
set_option maxRecDepth 20000 in
theorem gX11_makes_X11_within : GoodIn wsX11_makes (va_wsS RX11 191 yX11_within wsX11_within) := goodIn_app (goodIn_of _ (by decide +kernel)) ggX11_makes_X11_within
theorem dX11_makes_0 : decode cX11_makes 0 = .ok (.aload_n 0, 1) := by decide +kernel
theorem dX11_makes_1 : decode cX11_makes 1 = .ok (.getfield 71, 3) := by decide +kernel
theorem dX11_makes_4 : decode cX11_makes 4 = .ok (.iload_n 1, 1) := by decide +kernel
theorem dX11_makes_5 : decode cX11_makes 5 = .ok (.aaload, 1) := by decide +kernel
theorem dX11_makes_6 : decode cX11_makes 6 = .ok (.iconst 0, 1) := by decide +kernel
theorem dX11_makes_7 : decode cX11_makes 7 = .ok (.iaload, 1) := by decide +kernel
theorem dX11_makes_8 : decode cX11_makes 8 = .ok (.istore_n 2, 1) := by decide +kernel
theorem dX11_makes_9 : decode cX11_makes 9 = .ok (.aload_n 0, 1) := by decide +kernel
theorem dX11_makes_10 : decode cX11_makes 10 = .ok (.getfield 40, 3) := by decide +kernel
theorem dX11_makes_13 : decode cX11_makes 13 = .ok (.iload_n 2, 1) := by decide +kernel
theorem dX11_makes_14 : decode cX11_makes 14 = .ok (.aload_n 0, 1) := by decide +kernel
theorem dX11_makes_15 : decode cX11_makes 15 = .ok (.getfield 40, 3) := by decide +kernel
theorem dX11_makes_18 : decode cX11_makes 18 = .ok (.iload_n 2, 1) := by decide +kernel
theorem dX11_makes_19 : decode cX11_makes 19 = .ok (.iaload, 1) := by decide +kernel
theorem dX11_makes_20 : decode cX11_makes 20 = .ok (.aload_n 0, 1) := by decide +kernel
theorem dX11_makes_21 : decode cX11_makes 21 = .ok (.getfield 71, 3) := by decide +kernel
theorem dX11_makes_24 : decode cX11_makes 24 = .ok (.iload_n 1, 1) := by decide +kernel
theorem dX11_makes_25 : decode cX11_makes 25 = .ok (.aaload, 1) := by decide +kernel
theorem dX11_makes_26 : decode cX11_makes 26 = .ok (.iconst 1, 1) := by decide +kernel
theorem dX11_makes_27 : decode cX11_makes 27 = .ok (.iaload, 1) := by decide +kernel
theorem dX11_makes_28 : decode cX11_makes 28 = .ok (.iadd, 1) := by decide +kernel
theorem dX11_makes_29 : decode cX11_makes 29 = .ok (.iload_n 2, 1) := by decide +kernel
theorem dX11_makes_30 : decode cX11_makes 30 = .ok (.invokestatic 204, 3) := by decide +kernel
theorem dX11_makes_33 : decode cX11_makes 33 = .ok (.iload_n 2, 1) := by decide +kernel
theorem dX11_makes_34 : decode cX11_makes 34 = .ok (.invokestatic 207, 3) := by decide +kernel
theorem dX11_makes_37 : decode cX11_makes 37 = .ok (.invokestatic 191, 3) := by decide +kernel
theorem dX11_makes_40 : decode cX11_makes 40 = .ok (.iastore, 1) := by decide +kernel
theorem dX11_makes_41 : decode cX11_makes 41 = .ok (.return_, 1) := by decide +kernel
set_option maxRecDepth 20000 in
theorem ggX11_isCalm_X11_growsBy : GoodIn wsX11_isCalm wsX11_growsBy := goodIn_r _ [5, 6, 7, 8, 4, 9, 10, 11, 12, 13, 14, 15, 16, 17, 18, 19, 20, 21, 22, 23, 24, 25, 26, 27, 28, 29, 30, 31, 32, 33, 34, 35, 36, 37, 38, 39, 40, 41, 42, 43, 44, 45, 46, 47, 48, 49, 50, 51, 52, 53, 54, 55, 56, 57, 58, 59, 60, 61, 62, 63, 64, 65, 66, 67, 68, 69, 70, 71, 72, 73, 74, 75, 76, 77, 78, 79, 80, 81, 82, 83, 84, 85, 86, 87, 88, 89, 90, 91, 92, 93, 94, 95, 96, 97, 98, 99, 100, 101, 102, 103, 104, 105, 106, 107, 108, 109, 110, 111, 112, 113, 114, 115, 116, 117, 118] (by decide +kernel) (by decide +kernel)
set_option maxRecDepth 20000 in
theorem gX11_isCalm_X11_growsBy : GoodIn wsX11_isCalm (wsV RX11 264 RX11 yX11_growsBy wsX11_growsBy) := goodIn_app (goodIn_of _ (by decide +kernel)) ggX11_isCalm_X11_growsBy
theorem dX11_isCalm_0 : decode cX11_isCalm 0 = .ok (.iconst 0, 1) := by decide +kernel
theorem dX11_isCalm_1 : decode cX11_isCalm 1 = .ok (.istore_n 3, 1) := by decide +kernel
theorem dX11_isCalm_2 : decode cX11_isCalm 2 = .ok (.iload_n 3, 1) := by decide +kernel
theorem dX11_isCalm_3 : decode cX11_isCalm 3 = .ok (.iconst 2, 1) := by decide +kernel
theorem dX11_isCalm_4 : decode cX11_isCalm 4 = .ok (.if_icmp .ge 40, 3) := by decide +kernel
theorem dX11_isCalm_7 : decode cX11_isCalm 7 = .ok (.iconst 1, 1) := by decide +kernel
theorem dX11_isCalm_8 : decode cX11_isCalm 8 = .ok (.istore 4, 2) := by decide +kernel
theorem dX11_isCalm_10 : decode cX11_isCalm 10 = .ok (.iload 4, 2) := by decide +kernel
theorem dX11_isCalm_12 : decode cX11_isCalm 12 = .ok (.iconst 4, 1) := by decide +kernel
theorem dX11_isCalm_13 : decode cX11_isCalm 13 = .ok (.if_icmp .ge 25, 3) := by decide +kernel
theorem dX11_isCalm_16 : decode cX11_isCalm 16 = .ok (.aload_n 0, 1) := by decide +kernel
theorem dX11_isCalm_17 : decode cX11_isCalm 17 = .ok (.iload_n 1, 1) := by decide +kernel
theorem dX11_isCalm_18 : decode cX11_isCalm 18 = .ok (.iload_n 2, 1) := by decide +kernel
theorem dX11_isCalm_19 : decode cX11_isCalm 19 = .ok (.iload_n 3, 1) := by decide +kernel
theorem dX11_isCalm_20 : decode cX11_isCalm 20 = .ok (.iload 4, 2) := by decide +kernel
theorem dX11_isCalm_22 : decode cX11_isCalm 22 = .ok (.bipush 100, 2) := by decide +kernel
theorem dX11_isCalm_24 : decode cX11_isCalm 24 = .ok (.invokevirtual 264, 3) := by decide +kernel
theorem dX11_isCalm_27 : decode cX11_isCalm 27 = .ok (.ifCond .eq 5, 3) := by decide +kernel
theorem dX11_isCalm_30 : decode cX11_isCalm 30 = .ok (.iconst 0, 1) := by decide +kernel
theorem dX11_isCalm_31 : decode cX11_isCalm 31 = .ok (.ireturn, 1) := by decide +kernel
theorem dX11_isCalm_32 : decode cX11_isCalm 32 = .ok (.iinc 4 1, 3) := by decide +kernel
theorem dX11_isCalm_35 : decode cX11_isCalm 35 = .ok (.goto (-25), 3) := by decide +kernel
theorem dX11_isCalm_38 : decode cX11_isCalm 38 = .ok (.iinc 3 1, 3) := by decide +kernel
theorem dX11_isCalm_41 : decode cX11_isCalm 41 = .ok (.goto (-39), 3) := by decide +kernel
theorem dX11_isCalm_44 : decode cX11_isCalm 44 = .ok (.iconst 1, 1) := by decide +kernel
theorem dX11_isCalm_45 : decode cX11_isCalm 45 = .ok (.ireturn, 1) := by decide +kernel
set_option maxRecDepth 20000 in
theorem ggX11_calm_X11_badTrial : GoodIn wsX11_calm wsX11_badTrial := goodIn_r _ [6, 7, 8, 9, 5, 10, 11, 12, 13, 14, 15, 16, 17, 18, 1, 19, 20, 21, 101, 102, 103, 104, 105, 106, 107, 108, 109, 110, 111, 112, 113, 114, 115, 116, 117, 118, 119, 120, 121, 122, 123, 124, 125, 126, 127, 128, 129, 130, 131, 132, 133, 134, 135, 136, 137, 138, 139, 140, 141, 142] (by decide +kernel) (by decide +kernel)
set_option maxRecDepth 20000 in
theorem gX11_calm_X11_badTrial : GoodIn wsX11_calm (wsV RX11 260 RX11 yX11_badTrial wsX11_badTrial) := goodIn_app (goodIn_of _ (by decide +kernel)) ggX11_calm_X11_badTrial
set_option maxRecDepth 20000 in
theorem ggX11_calm_X11_isCalm : GoodIn wsX11_calm wsX11_isCalm := goodIn_r _ [25, 26, 27, 28, 5, 29, 30, 31, 32, 33, 34, 35, 36, 37, 38, 39, 40, 41, 42, 43, 44, 45, 46, 47, 48, 49, 50, 51, 52, 53, 54, 55, 56, 57, 58, 59, 60, 61, 62, 63, 64, 65, 66, 67, 68, 69, 70, 71, 72, 73, 74, 75, 76, 77, 78, 79, 80, 81, 82, 83, 84, 85, 86, 87, 88, 89, 90, 91, 92, 93, 94, 95, 96, 97, 98, 99, 100, 101, 102, 103, 104, 105, 106, 107, 108, 109, 110, 111, 112, 113, 114, 115, 116, 117, 118, 119, 120, 121, 122, 123, 124, 125, 126, 127, 128, 129, 130, 131, 132, 133, 134, 135, 136, 137, 138, 139, 140, 141, 142] (by decide +kernel) (by decide +kernel)
set_option maxRecDepth 20000 in
theorem gX11_calm_X11_isCalm : GoodIn wsX11_calm (wsV RX11 286 RX11 yX11_isCalm wsX11_isCalm) := goodIn_app (goodIn_of _ (by decide +kernel)) ggX11_calm_X11_isCalm
theorem dX11_calm_0 : decode cX11_calm 0 = .ok (.aload_n 0, 1) := by decide +kernel
theorem dX11_calm_1 : decode cX11_calm 1 = .ok (.iconst 0, 1) := by decide +kernel
theorem dX11_calm_2 : decode cX11_calm 2 = .ok (.putfield 83, 3) := by decide +kernel
theorem dX11_calm_5 : decode cX11_calm 5 = .ok (.aload_n 0, 1) := by decide +kernel
theorem dX11_calm_6 : decode cX11_calm 6 = .ok (.iload_n 1, 1) := by decide +kernel
theorem dX11_calm_7 : decode cX11_calm 7 = .ok (.iload_n 2, 1) := by decide +kernel
theorem dX11_calm_8 : decode cX11_calm 8 = .ok (.iconst 0, 1) := by decide +kernel
theorem dX11_calm_9 : decode cX11_calm 9 = .ok (.iconst 1, 1) := by decide +kernel
theorem dX11_calm_10 : decode cX11_calm 10 = .ok (.invokevirtual 260, 3) := by decide +kernel
theorem dX11_calm_13 : decode cX11_calm 13 = .ok (.ifCond .eq 5, 3) := by decide +kernel
theorem dX11_calm_16 : decode cX11_calm 16 = .ok (.iconst 0, 1) := by decide +kernel
theorem dX11_calm_17 : decode cX11_calm 17 = .ok (.ireturn, 1) := by decide +kernel
theorem dX11_calm_18 : decode cX11_calm 18 = .ok (.aload_n 0, 1) := by decide +kernel
theorem dX11_calm_19 : decode cX11_calm 19 = .ok (.iload_n 1, 1) := by decide +kernel
theorem dX11_calm_20 : decode cX11_calm 20 = .ok (.iload_n 2, 1) := by decide +kernel
theorem dX11_calm_21 : decode cX11_calm 21 = .ok (.invokevirtual 286, 3) := by decide +kernel
theorem dX11_calm_24 : decode cX11_calm 24 = .ok (.ireturn, 1) := by decide +kernel
set_option maxRecDepth 20000 in
theorem ggX11_mended_X11_badTrial : GoodIn wsX11_mended wsX11_badTrial := goodIn_r _ [10, 11, 12, 13, 9, 14, 15, 16, 17, 18, 19, 20, 21, 22, 1, 23, 24, 25, 115, 116, 117, 118, 119, 120, 121, 122, 123, 124, 125, 126, 127, 128, 129, 130, 131, 132, 133, 134, 135, 136, 137, 138, 139, 140, 141, 142, 143, 144, 145, 146, 147, 148, 149, 150, 151, 152, 153, 154, 155, 156] (by decide +kernel) (by decide +kernel)
set_option maxRecDepth 20000 in
theorem gX11_mended_X11_badTrial : GoodIn wsX11_mended (wsV RX11 260 RX11 yX11_badTrial wsX11_badTrial) := goodIn_app (goodIn_of _ (by decide +kernel)) ggX11_mended_X11_badTrial
set_option maxRecDepth 20000 in
theorem ggX11_mended_X11_makes : GoodIn wsX11_mended wsX11_makes := goodIn_r _ [29, 3, 5, 30, 31, 9, 32, 33, 34, 35, 36, 37, 38, 39, 115, 116, 117, 118, 119, 120, 121, 122, 123, 124, 125, 126, 127, 128, 129, 130, 131, 132, 133, 134, 135, 136, 137, 138, 139, 140, 141, 142, 143, 144, 145, 146, 147, 148, 149, 150, 151, 152, 153, 154, 155, 156] (by decide +kernel) (by decide +kernel)
set_option maxRecDepth 20000 in
theorem gX11_mended_X11_makes : GoodIn wsX11_mended (wsV RX11 289 RX11 yX11_makes wsX11_makes) := goodIn_app (goodIn_of _ (by decide +kernel)) ggX11_mended_X11_makes
set_option maxRecDepth 20000 in
theorem ggX11_mended_X11_isCalm : GoodIn wsX11_mended wsX11_isCalm := goodIn_r _ [43, 44, 45, 46, 9, 47, 48, 49, 50, 51, 52, 53, 54, 55, 56, 57, 58, 59, 60, 61, 62, 63, 64, 65, 66, 67, 68, 69, 70, 71, 72, 73, 74, 75, 5, 76, 77, 78, 79, 80, 81, 82, 83, 84, 85, 86, 87, 88, 89, 90, 91, 92, 93, 94, 95, 37, 38, 39, 96, 97, 98, 99, 100, 101, 102, 103, 104, 105, 106, 107, 108, 109, 110, 111, 112, 113, 114, 115, 116, 117, 118, 119, 120, 121, 122, 123, 124, 125, 126, 127, 128, 129, 130, 131, 132, 133, 134, 135, 136, 137, 138, 139, 140, 141, 142, 143, 144, 145, 146, 147, 148, 149, 150, 151, 152, 153, 154, 155, 156] (by decide +kernel) (by decide +kernel)
set_option maxRecDepth 20000 in
theorem gX11_mended_X11_isCalm : GoodIn wsX11_mended (wsV RX11 286 RX11 yX11_isCalm wsX11_isCalm) := goodIn_app (goodIn_of _ (by decide +kernel)) ggX11_mended_X11_isCalm
theorem dX11_mended_0 : decode cX11_mended 0 = .ok (.aload_n 0, 1) := by decide +kernel
theorem dX11_mended_1 : decode cX11_mended 1 = .ok (.iconst 0, 1) := by decide +kernel
theorem dX11_mended_2 : decode cX11_mended 2 = .ok (.putfield 83, 3) := by decide +kernel
theorem dX11_mended_5 : decode cX11_mended 5 = .ok (.aload_n 0, 1) := by decide +kernel
theorem dX11_mended_6 : decode cX11_mended 6 = .ok (.iload_n 1, 1) := by decide +kernel
theorem dX11_mended_7 : decode cX11_mended 7 = .ok (.iload_n 2, 1) := by decide +kernel
theorem dX11_mended_8 : decode cX11_mended 8 = .ok (.iconst 0, 1) := by decide +kernel
theorem dX11_mended_9 : decode cX11_mended 9 = .ok (.iconst 1, 1) := by decide +kernel
theorem dX11_mended_10 : decode cX11_mended 10 = .ok (.invokevirtual 260, 3) := by decide +kernel
theorem dX11_mended_13 : decode cX11_mended 13 = .ok (.ifCond .eq 5, 3) := by decide +kernel
theorem dX11_mended_16 : decode cX11_mended 16 = .ok (.iconst 0, 1) := by decide +kernel
theorem dX11_mended_17 : decode cX11_mended 17 = .ok (.ireturn, 1) := by decide +kernel
theorem dX11_mended_18 : decode cX11_mended 18 = .ok (.iconst (-1), 1) := by decide +kernel
theorem dX11_mended_19 : decode cX11_mended 19 = .ok (.istore_n 3, 1) := by decide +kernel
theorem dX11_mended_20 : decode cX11_mended 20 = .ok (.iconst 0, 1) := by decide +kernel
theorem dX11_mended_21 : decode cX11_mended 21 = .ok (.istore 4, 2) := by decide +kernel
theorem dX11_mended_23 : decode cX11_mended 23 = .ok (.iconst 0, 1) := by decide +kernel
theorem dX11_mended_24 : decode cX11_mended 24 = .ok (.istore 5, 2) := by decide +kernel
theorem dX11_mended_26 : decode cX11_mended 26 = .ok (.iload 5, 2) := by decide +kernel
theorem dX11_mended_28 : decode cX11_mended 28 = .ok (.iconst 1, 1) := by decide +kernel
theorem dX11_mended_29 : decode cX11_mended 29 = .ok (.aload_n 0, 1) := by decide +kernel
theorem dX11_mended_30 : decode cX11_mended 30 = .ok (.getfield 283, 3) := by decide +kernel
theorem dX11_mended_33 : decode cX11_mended 33 = .ok (.ishl, 1) := by decide +kernel
theorem dX11_mended_34 : decode cX11_mended 34 = .ok (.if_icmp .ge 185, 3) := by decide +kernel
theorem dX11_mended_37 : decode cX11_mended 37 = .ok (.iconst 0, 1) := by decide +kernel
theorem dX11_mended_38 : decode cX11_mended 38 = .ok (.istore 6, 2) := by decide +kernel
theorem dX11_mended_40 : decode cX11_mended 40 = .ok (.iconst 0, 1) := by decide +kernel
theorem dX11_mended_41 : decode cX11_mended 41 = .ok (.istore 7, 2) := by decide +kernel
theorem dX11_mended_43 : decode cX11_mended 43 = .ok (.iload 7, 2) := by decide +kernel
theorem dX11_mended_45 : decode cX11_mended 45 = .ok (.aload_n 0, 1) := by decide +kernel
theorem dX11_mended_46 : decode cX11_mended 46 = .ok (.getfield 283, 3) := by decide +kernel
theorem dX11_mended_49 : decode cX11_mended 49 = .ok (.if_icmp .ge 38, 3) := by decide +kernel
theorem dX11_mended_52 : decode cX11_mended 52 = .ok (.iload 6, 2) := by decide +kernel
theorem dX11_mended_54 : decode cX11_mended 54 = .ok (.iload 5, 2) := by decide +kernel
theorem dX11_mended_56 : decode cX11_mended 56 = .ok (.iload 7, 2) := by decide +kernel
theorem dX11_mended_58 : decode cX11_mended 58 = .ok (.ishr, 1) := by decide +kernel
theorem dX11_mended_59 : decode cX11_mended 59 = .ok (.iconst 1, 1) := by decide +kernel
theorem dX11_mended_60 : decode cX11_mended 60 = .ok (.iand, 1) := by decide +kernel
theorem dX11_mended_61 : decode cX11_mended 61 = .ok (.iconst 1, 1) := by decide +kernel
theorem dX11_mended_62 : decode cX11_mended 62 = .ok (.if_icmp .ne 15, 3) := by decide +kernel
theorem dX11_mended_65 : decode cX11_mended 65 = .ok (.aload_n 0, 1) := by decide +kernel
theorem dX11_mended_66 : decode cX11_mended 66 = .ok (.getfield 71, 3) := by decide +kernel
theorem dX11_mended_69 : decode cX11_mended 69 = .ok (.iload 7, 2) := by decide +kernel
theorem dX11_mended_71 : decode cX11_mended 71 = .ok (.aaload, 1) := by decide +kernel
theorem dX11_mended_72 : decode cX11_mended 72 = .ok (.iconst 2, 1) := by decide +kernel
theorem dX11_mended_73 : decode cX11_mended 73 = .ok (.iaload, 1) := by decide +kernel
theorem dX11_mended_74 : decode cX11_mended 74 = .ok (.goto 4, 3) := by decide +kernel
theorem dX11_mended_77 : decode cX11_mended 77 = .ok (.iconst 0, 1) := by decide +kernel
theorem dX11_mended_78 : decode cX11_mended 78 = .ok (.iadd, 1) := by decide +kernel
theorem dX11_mended_79 : decode cX11_mended 79 = .ok (.istore 6, 2) := by decide +kernel
theorem dX11_mended_81 : decode cX11_mended 81 = .ok (.iinc 7 1, 3) := by decide +kernel
theorem dX11_mended_84 : decode cX11_mended 84 = .ok (.goto (-41), 3) := by decide +kernel
theorem dX11_mended_87 : decode cX11_mended 87 = .ok (.iload_n 3, 1) := by decide +kernel
theorem dX11_mended_88 : decode cX11_mended 88 = .ok (.iconst (-1), 1) := by decide +kernel

theorem dX11_nameHere_31 : decode cX11_nameHere 31 = .ok (.ifCond .eq 5, 3) := by decide +kernel
theorem dX11_nameHere_34 : decode cX11_nameHere 34 = .ok (.iconst 1, 1) := by decide +kernel
theorem dX11_nameHere_35 : decode cX11_nameHere 35 = .ok (.ireturn, 1) := by decide +kernel
theorem dX11_nameHere_36 : decode cX11_nameHere 36 = .ok (.aload_n 0, 1) := by decide +kernel
theorem dX11_nameHere_37 : decode cX11_nameHere 37 = .ok (.bipush 8, 2) := by decide +kernel
theorem dX11_nameHere_39 : decode cX11_nameHere 39 = .ok (.iconst 5, 1) := by decide +kernel
theorem dX11_nameHere_40 : decode cX11_nameHere 40 = .ok (.bipush 9, 2) := by decide +kernel
theorem dX11_nameHere_42 : decode cX11_nameHere 42 = .ok (.bipush 7, 2) := by decide +kernel
theorem dX11_nameHere_44 : decode cX11_nameHere 44 = .ok (.bipush 8, 2) := by decide +kernel
theorem dX11_nameHere_46 : decode cX11_nameHere 46 = .ok (.bipush 20, 2) := by decide +kernel
theorem dX11_nameHere_48 : decode cX11_nameHere 48 = .ok (.invokevirtual 135, 3) := by decide +kernel
theorem dX11_nameHere_51 : decode cX11_nameHere 51 = .ok (.ifCond .eq 5, 3) := by decide +kernel
theorem dX11_nameHere_54 : decode cX11_nameHere 54 = .ok (.iconst 2, 1) := by decide +kernel
theorem dX11_nameHere_55 : decode cX11_nameHere 55 = .ok (.ireturn, 1) := by decide +kernel
theorem dX11_nameHere_56 : decode cX11_nameHere 56 = .ok (.aload_n 0, 1) := by decide +kernel
theorem dX11_nameHere_57 : decode cX11_nameHere 57 = .ok (.bipush 20, 2) := by decide +kernel
theorem dX11_nameHere_59 : decode cX11_nameHere 59 = .ok (.bipush 21, 2) := by decide +kernel
theorem dX11_nameHere_61 : decode cX11_nameHere 61 = .ok (.bipush 18, 2) := by decide +kernel
theorem dX11_nameHere_63 : decode cX11_nameHere 63 = .ok (.bipush 14, 2) := by decide +kernel
theorem dX11_nameHere_65 : decode cX11_nameHere 65 = .ok (.iconst 0, 1) := by decide +kernel
theorem dX11_nameHere_66 : decode cX11_nameHere 66 = .ok (.iconst 0, 1) := by decide +kernel
theorem dX11_nameHere_67 : decode cX11_nameHere 67 = .ok (.invokevirtual 135, 3) := by decide +kernel
theorem dX11_nameHere_70 : decode cX11_nameHere 70 = .ok (.ifCond .eq 5, 3) := by decide +kernel
theorem dX11_nameHere_73 : decode cX11_nameHere 73 = .ok (.iconst 3, 1) := by decide +kernel
theorem dX11_nameHere_74 : decode cX11_nameHere 74 = .ok (.ireturn, 1) := by decide +kernel
theorem dX11_nameHere_75 : decode cX11_nameHere 75 = .ok (.aload_n 0, 1) := by decide +kernel
theorem dX11_nameHere_76 : decode cX11_nameHere 76 = .ok (.bipush 21, 2) := by decide +kernel
theorem dX11_nameHere_78 : decode cX11_nameHere 78 = .ok (.bipush 16, 2) := by decide +kernel
theorem dX11_nameHere_80 : decode cX11_nameHere 80 = .ok (.iconst 0, 1) := by decide +kernel
theorem dX11_nameHere_81 : decode cX11_nameHere 81 = .ok (.iconst 0, 1) := by decide +kernel
theorem dX11_nameHere_82 : decode cX11_nameHere 82 = .ok (.iconst 0, 1) := by decide +kernel
theorem dX11_nameHere_83 : decode cX11_nameHere 83 = .ok (.iconst 0, 1) := by decide +kernel
theorem dX11_nameHere_84 : decode cX11_nameHere 84 = .ok (.invokevirtual 135, 3) := by decide +kernel
theorem dX11_nameHere_87 : decode cX11_nameHere 87 = .ok (.ifCond .eq 5, 3) := by decide +kernel
theorem dX11_nameHere_90 : decode cX11_nameHere 90 = .ok (.iconst 4, 1) := by decide +kernel
theorem dX11_nameHere_91 : decode cX11_nameHere 91 = .ok (.ireturn, 1) := by decide +kernel
theorem dX11_nameHere_92 : decode cX11_nameHere 92 = .ok (.aload_n 0, 1) := by decide +kernel
theorem dX11_nameHere_93 : decode cX11_nameHere 93 = .ok (.bipush 19, 2) := by decide +kernel
theorem dX11_nameHere_95 : decode cX11_nameHere 95 = .ok (.bipush 16, 2) := by decide +kernel
theorem dX11_nameHere_97 : decode cX11_nameHere 97 = .ok (.bipush 9, 2) := by decide +kernel
theorem dX11_nameHere_99 : decode cX11_nameHere 99 = .ok (.bipush 14, 2) := by decide +kernel
theorem dX11_nameHere_101 : decode cX11_nameHere 101 = .ok (.iconst 0, 1) := by decide +kernel
theorem dX11_nameHere_102 : decode cX11_nameHere 102 = .ok (.iconst 0, 1) := by decide +kernel
theorem dX11_nameHere_103 : decode cX11_nameHere 103 = .ok (.invokevirtual 135, 3) := by decide +kernel
theorem dX11_nameHere_106 : decode cX11_nameHere 106 = .ok (.ifCond .eq 5, 3) := by decide +kernel
theorem dX11_nameHere_109 : decode cX11_nameHere 109 = .ok (.iconst 5, 1) := by decide +kernel
theorem dX11_nameHere_110 : decode cX11_nameHere 110 = .ok (.ireturn, 1) := by decide +kernel
theorem dX11_nameHere_111 : decode cX11_nameHere 111 = .ok (.aload_n 0, 1) := by decide +kernel
theorem dX11_nameHere_112 : decode cX11_nameHere 112 = .ok (.bipush 19, 2) := by decide +kernel
theorem dX11_nameHere_114 : decode cX11_nameHere 114 = .ok (.bipush 9, 2) := by decide +kernel
theorem dX11_nameHere_116 : decode cX11_nameHere 116 = .ok (.iconst 4, 1) := by decide +kernel
theorem dX11_nameHere_117 : decode cX11_nameHere 117 = .ok (.iconst 5, 1) := by decide +kernel
theorem dX11_nameHere_118 : decode cX11_nameHere 118 = .ok (.iconst 0, 1) := by decide +kernel
theorem dX11_nameHere_119 : decode cX11_nameHere 119 = .ok (.iconst 0, 1) := by decide +kernel
theorem dX11_nameHere_120 : decode cX11_nameHere 120 = .ok (.invokevirtual 135, 3) := by decide +kernel
theorem dX11_nameHere_123 : decode cX11_nameHere 123 = .ok (.ifCond .eq 6, 3) := by decide +kernel
theorem dX11_nameHere_126 : decode cX11_nameHere 126 = .ok (.bipush 6, 2) := by decide +kernel
theorem dX11_nameHere_128 : decode cX11_nameHere 128 = .ok (.ireturn, 1) := by decide +kernel
theorem dX11_nameHere_129 : decode cX11_nameHere 129 = .ok (.aload_n 0, 1) := by decide +kernel
theorem dX11_nameHere_130 : decode cX11_nameHere 130 = .ok (.bipush 8, 2) := by decide +kernel
theorem dX11_nameHere_132 : decode cX11_nameHere 132 = .ok (.bipush 15, 2) := by decide +kernel
theorem dX11_nameHere_134 : decode cX11_nameHere 134 = .ok (.bipush 12, 2) := by decide +kernel
theorem dX11_nameHere_136 : decode cX11_nameHere 136 = .ok (.iconst 5, 1) := by decide +kernel
theorem dX11_nameHere_137 : decode cX11_nameHere 137 = .ok (.bipush 19, 2) := by decide +kernel
theorem dX11_nameHere_139 : decode cX11_nameHere 139 = .ok (.iconst 0, 1) := by decide +kernel
theorem dX11_nameHere_140 : decode cX11_nameHere 140 = .ok (.invokevirtual 135, 3) := by decide +kernel
theorem dX11_nameHere_143 : decode cX11_nameHere 143 = .ok (.ifCond .eq 6, 3) := by decide +kernel
theorem dX11_nameHere_146 : decode cX11_nameHere 146 = .ok (.bipush 7, 2) := by decide +kernel
theorem dX11_nameHere_148 : decode cX11_nameHere 148 = .ok (.ireturn, 1) := by decide +kernel
theorem dX11_nameHere_149 : decode cX11_nameHere 149 = .ok (.aload_n 0, 1) := by decide +kernel
theorem dX11_nameHere_150 : decode cX11_nameHere 150 = .ok (.bipush 16, 2) := by decide +kernel
theorem dX11_nameHere_152 : decode cX11_nameHere 152 = .ok (.bipush 9, 2) := by decide +kernel
theorem dX11_nameHere_154 : decode cX11_nameHere 154 = .ok (.iconst 5, 1) := by decide +kernel
theorem dX11_nameHere_155 : decode cX11_nameHere 155 = .ok (.iconst 3, 1) := by decide +kernel
theorem dX11_nameHere_156 : decode cX11_nameHere 156 = .ok (.iconst 5, 1) := by decide +kernel
theorem dX11_nameHere_157 : decode cX11_nameHere 157 = .ok (.iconst 0, 1) := by decide +kernel
theorem dX11_nameHere_158 : decode cX11_nameHere 158 = .ok (.invokevirtual 135, 3) := by decide +kernel
theorem dX11_nameHere_161 : decode cX11_nameHere 161 = .ok (.ifCond .eq 8, 3) := by decide +kernel
theorem dX11_nameHere_164 : decode cX11_nameHere 164 = .ok (.bipush 8, 2) := by decide +kernel
theorem dX11_nameHere_166 : decode cX11_nameHere 166 = .ok (.goto 4, 3) := by decide +kernel
theorem dX11_nameHere_169 : decode cX11_nameHere 169 = .ok (.iconst (-1), 1) := by decide +kernel
theorem dX11_nameHere_170 : decode cX11_nameHere 170 = .ok (.ireturn, 1) := by decide +kernel
set_option maxRecDepth 20000 in
theorem ggX11_unit_X11_blanks : GoodIn wsX11_unit wsX11_blanks := goodIn_r _ [8, 2, 9, 10, 11, 7, 12, 13, 14, 72, 73, 74, 75, 76, 77, 78, 79, 80, 81, 82, 83, 84, 85, 86, 87, 88, 89, 90, 91, 92, 93, 94, 95, 96, 97, 98, 99, 100, 101, 102, 103, 104, 105, 106, 107, 108, 109, 110, 111, 112, 113] (by decide +kernel) (by decide +kernel)
set_option maxRecDepth 20000 in
theorem gX11_unit_X11_blanks : GoodIn wsX11_unit (wsV RX11 121 RX11 yX11_blanks wsX11_blanks) := goodIn_app (goodIn_of _ (by decide +kernel)) ggX11_unit_X11_blanks
set_option maxRecDepth 20000 in
theorem ggX11_unit_X11_byteAt : GoodIn wsX11_unit wsX11_byteAt := goodIn_r _ [12, 13, 14, 72, 73, 74, 75, 76, 77, 78, 79, 80, 81, 82, 83, 84, 85, 86, 87, 88, 89, 90, 91, 92, 93, 94, 95, 96, 97, 98, 99, 100, 101, 102, 103, 104, 105, 106, 107, 108, 109, 110, 111, 112, 113] (by decide +kernel) (by decide +kernel)
set_option maxRecDepth 20000 in
theorem gX11_unit_X11_byteAt : GoodIn wsX11_unit (wsV RX11 95 RX11 yX11_byteAt wsX11_byteAt) := goodIn_app (goodIn_of _ (by decide +kernel)) ggX11_unit_X11_byteAt
set_option maxRecDepth 20000 in
theorem ggX11_unit_X11_isDigit : GoodIn wsX11_unit wsX11_isDigit := goodIn_r _ [17] (by decide +kernel) (by decide +kernel)
set_option maxRecDepth 20000 in
theorem gX11_unit_X11_isDigit : GoodIn wsX11_unit (va_wsS RX11 108 yX11_isDigit wsX11_isDigit) := goodIn_app (goodIn_of _ (by decide +kernel)) ggX11_unit_X11_isDigit
set_option maxRecDepth 20000 in
theorem ggX11_unit_X11_numberHere : GoodIn wsX11_unit wsX11_numberHere := goodIn_r _ [21, 2, 22, 9, 10, 11, 7, 12, 13, 14, 15, 16, 17, 23, 24, 25, 26, 1, 27, 28, 29, 30, 31, 32, 33, 72, 73, 74, 75, 76, 77, 78, 79, 80, 81, 82, 83, 84, 85, 86, 87, 88, 89, 90, 91, 92, 93, 94, 95, 96, 97, 98, 99, 100, 101, 102, 103, 104, 105, 106, 107, 108, 109, 110, 111, 112, 113] (by decide +kernel) (by decide +kernel)
set_option maxRecDepth 20000 in
theorem gX11_unit_X11_numberHere : GoodIn wsX11_unit (wsV RX11 139 RX11 yX11_numberHere wsX11_numberHere) := goodIn_app (goodIn_of _ (by decide +kernel)) ggX11_unit_X11_numberHere
set_option maxRecDepth 20000 in
theorem ggX11_unit_X11_nameHere : GoodIn wsX11_unit wsX11_nameHere := goodIn_r _ [37, 38, 39, 40, 7, 41, 42, 43, 44, 45, 2, 4, 5, 6, 8, 9, 10, 11, 12, 13, 14, 46, 47, 48, 72, 73, 74, 75, 76, 77, 78, 79, 80, 81, 82, 83, 84, 85, 86, 87, 88, 89, 90, 91, 92, 93, 94, 95, 96, 97, 98, 99, 100, 101, 102, 103, 104, 105, 106, 107, 108, 109, 110, 111, 112, 113] (by decide +kernel) (by decide +kernel)
set_option maxRecDepth 20000 in
theorem gX11_unit_X11_nameHere : GoodIn wsX11_unit (wsV RX11 142 RX11 yX11_nameHere wsX11_nameHere) := goodIn_app (goodIn_of _ (by decide +kernel)) ggX11_unit_X11_nameHere
set_option maxRecDepth 20000 in
theorem ggX11_unit_X11_skipWord : GoodIn wsX11_unit wsX11_skipWord := goodIn_r _ [52, 2, 9, 10, 11, 7, 12, 13, 14, 72, 73, 74, 75, 76, 77, 78, 79, 80, 81, 82, 83, 84, 85, 86, 87, 88, 89, 90, 91, 92, 93, 94, 95, 96, 97, 98, 99, 100, 101, 102, 103, 104, 105, 106, 107, 108, 109, 110, 111, 112, 113] (by decide +kernel) (by decide +kernel)
set_option maxRecDepth 20000 in
theorem gX11_unit_X11_skipWord : GoodIn wsX11_unit (wsV RX11 145 RX11 yX11_skipWord wsX11_skipWord) := goodIn_app (goodIn_of _ (by decide +kernel)) ggX11_unit_X11_skipWord
set_option maxRecDepth 20000 in
theorem ggX11_unit_X11_tells : GoodIn wsX11_unit wsX11_tells := goodIn_r _ [31, 1, 32, 33, 72, 73, 74, 75, 76, 77, 78, 79, 80, 81, 82, 83, 84, 85, 86, 87, 88, 89, 90, 91, 92, 93, 94, 95, 96, 97, 98, 99, 100, 101, 102, 103, 104, 105, 106, 107, 108, 109, 110, 111, 112, 113] (by decide +kernel) (by decide +kernel)
set_option maxRecDepth 20000 in
theorem gX11_unit_X11_tells : GoodIn wsX11_unit (wsV RX11 117 RX11 yX11_tells wsX11_tells) := goodIn_app (goodIn_of _ (by decide +kernel)) ggX11_unit_X11_tells
set_option maxRecDepth 20000 in
theorem ggX11_unit_X11_isWord : GoodIn wsX11_unit wsX11_isWord := goodIn_r _ [41, 42, 43, 44, 7, 45, 2, 4, 5, 6, 8, 9, 10, 11, 12, 13, 14, 46, 47, 48, 72, 73, 74, 75, 76, 77, 78, 79, 80, 81, 82, 83, 84, 85, 86, 87, 88, 89, 90, 91, 92, 93, 94, 95, 96, 97, 98, 99, 100, 101, 102, 103, 104, 105, 106, 107, 108, 109, 110, 111, 112, 113] (by decide +kernel) (by decide +kernel)
set_option maxRecDepth 20000 in
theorem gX11_unit_X11_isWord : GoodIn wsX11_unit (wsV RX11 135 RX11 yX11_isWord wsX11_isWord) := goodIn_app (goodIn_of _ (by decide +kernel)) ggX11_unit_X11_isWord
set_option maxRecDepth 20000 in
theorem ggX11_unit_X11_wrong : GoodIn wsX11_unit wsX11_wrong := goodIn_r _ [26, 1, 27, 72, 73, 74, 75, 76, 77, 78, 79, 80, 81, 82, 83, 84, 85, 86, 87, 88, 89, 90, 91, 92, 93, 94, 95, 96, 97, 98, 99, 100, 101, 102, 103, 104, 105, 106, 107, 108, 109, 110, 111, 112, 113] (by decide +kernel) (by decide +kernel)
set_option maxRecDepth 20000 in
theorem gX11_unit_X11_wrong : GoodIn wsX11_unit (wsV RX11 113 RX11 yX11_wrong wsX11_wrong) := goodIn_app (goodIn_of _ (by decide +kernel)) ggX11_unit_X11_wrong
set_option maxRecDepth 20000 in
theorem ggX11_unit_X11_opens : GoodIn wsX11_unit wsX11_opens := goodIn_r _ [56, 3, 2, 23, 24, 25, 7, 26, 1, 27, 72, 73, 74, 75, 76, 77, 78, 79, 80, 81, 82, 83, 84, 85, 86, 87, 88, 89, 90, 91, 92, 93, 94, 95, 96, 97, 98, 99, 100, 101, 102, 103, 104, 105, 106, 107, 108, 109, 110, 111, 112, 113] (by decide +kernel) (by decide +kernel)
set_option maxRecDepth 20000 in
theorem gX11_unit_X11_opens : GoodIn wsX11_unit (wsV RX11 148 RX11 yX11_opens wsX11_opens) := goodIn_app (goodIn_of _ (by decide +kernel)) ggX11_unit_X11_opens
set_option maxRecDepth 20000 in
theorem ggX11_unit_X11_sum : GoodIn wsX11_unit wsX11_sum := goodIn_r _ [68, 1, 2, 69, 70, 71, 7, 4, 5, 6, 8, 9, 10, 11, 12, 13, 14, 28, 29, 30, 31, 32, 33, 64, 65, 66, 67, 0, 3, 15, 16, 17, 18, 19, 20, 21, 22, 23, 24, 25, 26, 27, 34, 35, 36, 37, 38, 39, 40, 41, 42, 43, 44, 45, 46, 47, 48, 49, 50, 51, 52, 53, 54, 55, 56, 57, 58, 59, 60, 61, 62, 63, 72, 73, 74, 75, 76, 77, 78, 79, 80, 81, 82, 83, 84, 85, 86, 87, 88, 89, 90, 91, 92, 93, 94, 95, 96, 97, 98, 99, 100, 101, 102, 103, 104, 105, 106, 107, 108, 109, 110, 111, 112, 113] (by decide +kernel) (by decide +kernel)
set_option maxRecDepth 20000 in
theorem gX11_unit_X11_sum : GoodIn wsX11_unit (wsV RX11 151 RX11 yX11_sum wsX11_sum) := goodIn_app (goodIn_of _ (by decide +kernel)) ggX11_unit_X11_sum
set_option maxRecDepth 20000 in
theorem ggX11_unit_X11_sign : GoodIn wsX11_unit wsX11_sign := goodIn_r _ [63, 1, 2, 4, 5, 6, 7, 8, 9, 10, 11, 12, 13, 14, 23, 24, 25, 26, 27, 72, 73, 74, 75, 76, 77, 78, 79, 80, 81, 82, 83, 84, 85, 86, 87, 88, 89, 90, 91, 92, 93, 94, 95, 96, 97, 98, 99, 100, 101, 102, 103, 104, 105, 106, 107, 108, 109, 110, 111, 112, 113] (by decide +kernel) (by decide +kernel)
set_option maxRecDepth 20000 in
theorem gX11_unit_X11_sign : GoodIn wsX11_unit (wsV RX11 154 RX11 yX11_sign wsX11_sign) := goodIn_app (goodIn_of _ (by decide +kernel)) ggX11_unit_X11_sign
theorem dX11_unit_0 : decode cX11_unit 0 = .ok (.aload_n 0, 1) := by decide +kernel
theorem dX11_unit_1 : decode cX11_unit 1 = .ok (.getfield 99, 3) := by decide +kernel
theorem dX11_unit_4 : decode cX11_unit 4 = .ok (.ifCond .eq 4, 3) := by decide +kernel
theorem dX11_unit_7 : decode cX11_unit 7 = .ok (.return_, 1) := by decide +kernel
theorem dX11_unit_8 : decode cX11_unit 8 = .ok (.aload_n 0, 1) := by decide +kernel
theorem dX11_unit_9 : decode cX11_unit 9 = .ok (.invokevirtual 121, 3) := by decide +kernel
theorem dX11_unit_12 : decode cX11_unit 12 = .ok (.aload_n 0, 1) := by decide +kernel
theorem dX11_unit_13 : decode cX11_unit 13 = .ok (.aload_n 0, 1) := by decide +kernel
theorem dX11_unit_14 : decode cX11_unit 14 = .ok (.getfield 92, 3) := by decide +kernel
theorem dX11_unit_17 : decode cX11_unit 17 = .ok (.invokevirtual 95, 3) := by decide +kernel
theorem dX11_unit_20 : decode cX11_unit 20 = .ok (.invokestatic 108, 3) := by decide +kernel
theorem dX11_unit_23 : decode cX11_unit 23 = .ok (.ifCond .eq 8, 3) := by decide +kernel
theorem dX11_unit_26 : decode cX11_unit 26 = .ok (.aload_n 0, 1) := by decide +kernel
theorem dX11_unit_27 : decode cX11_unit 27 = .ok (.invokevirtual 139, 3) := by decide +kernel
theorem dX11_unit_30 : decode cX11_unit 30 = .ok (.return_, 1) := by decide +kernel
theorem dX11_unit_31 : decode cX11_unit 31 = .ok (.aload_n 0, 1) := by decide +kernel
theorem dX11_unit_32 : decode cX11_unit 32 = .ok (.invokevirtual 142, 3) := by decide +kernel
theorem dX11_unit_35 : decode cX11_unit 35 = .ok (.istore_n 1, 1) := by decide +kernel
theorem dX11_unit_36 : decode cX11_unit 36 = .ok (.iload_n 1, 1) := by decide +kernel
theorem dX11_unit_37 : decode cX11_unit 37 = .ok (.iconst (-1), 1) := by decide +kernel
theorem dX11_unit_38 : decode cX11_unit 38 = .ok (.if_icmp .eq 17, 3) := by decide +kernel
theorem dX11_unit_41 : decode cX11_unit 41 = .ok (.aload_n 0, 1) := by decide +kernel
theorem dX11_unit_42 : decode cX11_unit 42 = .ok (.invokevirtual 145, 3) := by decide +kernel
theorem dX11_unit_45 : decode cX11_unit 45 = .ok (.aload_n 0, 1) := by decide +kernel
theorem dX11_unit_46 : decode cX11_unit 46 = .ok (.sipush 10000, 3) := by decide +kernel
theorem dX11_unit_49 : decode cX11_unit 49 = .ok (.iload_n 1, 1) := by decide +kernel
theorem dX11_unit_50 : decode cX11_unit 50 = .ok (.iadd, 1) := by decide +kernel
theorem dX11_unit_51 : decode cX11_unit 51 = .ok (.invokevirtual 117, 3) := by decide +kernel
theorem dX11_unit_54 : decode cX11_unit 54 = .ok (.return_, 1) := by decide +kernel
theorem dX11_unit_55 : decode cX11_unit 55 = .ok (.aload_n 0, 1) := by decide +kernel
theorem dX11_unit_56 : decode cX11_unit 56 = .ok (.bipush 12, 2) := by decide +kernel
theorem dX11_unit_58 : decode cX11_unit 58 = .ok (.iconst 5, 1) := by decide +kernel
theorem dX11_unit_59 : decode cX11_unit 59 = .ok (.iconst 1, 1) := by decide +kernel
theorem dX11_unit_60 : decode cX11_unit 60 = .ok (.bipush 19, 2) := by decide +kernel
theorem dX11_unit_62 : decode cX11_unit 62 = .ok (.bipush 20, 2) := by decide +kernel
theorem dX11_unit_64 : decode cX11_unit 64 = .ok (.iconst 0, 1) := by decide +kernel
theorem dX11_unit_65 : decode cX11_unit 65 = .ok (.invokevirtual 135, 3) := by decide +kernel
theorem dX11_unit_68 : decode cX11_unit 68 = .ok (.ifCond .eq 9, 3) := by decide +kernel
theorem dX11_unit_71 : decode cX11_unit 71 = .ok (.sipush 10024, 3) := by decide +kernel
theorem dX11_unit_74 : decode cX11_unit 74 = .ok (.goto 50, 3) := by decide +kernel
theorem dX11_unit_77 : decode cX11_unit 77 = .ok (.aload_n 0, 1) := by decide +kernel
theorem dX11_unit_78 : decode cX11_unit 78 = .ok (.bipush 13, 2) := by decide +kernel
theorem dX11_unit_80 : decode cX11_unit 80 = .ok (.bipush 15, 2) := by decide +kernel
theorem dX11_unit_82 : decode cX11_unit 82 = .ok (.bipush 19, 2) := by decide +kernel
theorem dX11_unit_84 : decode cX11_unit 84 = .ok (.bipush 20, 2) := by decide +kernel
theorem dX11_unit_86 : decode cX11_unit 86 = .ok (.iconst 0, 1) := by decide +kernel
theorem dX11_unit_87 : decode cX11_unit 87 = .ok (.iconst 0, 1) := by decide +kernel
theorem dX11_unit_88 : decode cX11_unit 88 = .ok (.invokevirtual 135, 3) := by decide +kernel
theorem dX11_unit_91 : decode cX11_unit 91 = .ok (.ifCond .eq 9, 3) := by decide +kernel
theorem dX11_unit_94 : decode cX11_unit 94 = .ok (.sipush 10025, 3) := by decide +kernel
theorem dX11_unit_97 : decode cX11_unit 97 = .ok (.goto 27, 3) := by decide +kernel
theorem dX11_unit_100 : decode cX11_unit 100 = .ok (.aload_n 0, 1) := by decide +kernel
theorem dX11_unit_101 : decode cX11_unit 101 = .ok (.bipush 19, 2) := by decide +kernel
theorem dX11_unit_103 : decode cX11_unit 103 = .ok (.bipush 9, 2) := by decide +kernel
theorem dX11_unit_105 : decode cX11_unit 105 = .ok (.bipush 7, 2) := by decide +kernel
theorem dX11_unit_107 : decode cX11_unit 107 = .ok (.bipush 14, 2) := by decide +kernel
theorem dX11_unit_109 : decode cX11_unit 109 = .ok (.iconst 0, 1) := by decide +kernel
theorem dX11_unit_110 : decode cX11_unit 110 = .ok (.iconst 0, 1) := by decide +kernel
theorem dX11_unit_111 : decode cX11_unit 111 = .ok (.invokevirtual 135, 3) := by decide +kernel
theorem dX11_unit_114 : decode cX11_unit 114 = .ok (.ifCond .eq 9, 3) := by decide +kernel
theorem dX11_unit_117 : decode cX11_unit 117 = .ok (.sipush 10026, 3) := by decide +kernel
theorem dX11_unit_120 : decode cX11_unit 120 = .ok (.goto 4, 3) := by decide +kernel
theorem dX11_unit_123 : decode cX11_unit 123 = .ok (.iconst 0, 1) := by decide +kernel
theorem dX11_unit_124 : decode cX11_unit 124 = .ok (.istore_n 2, 1) := by decide +kernel
theorem dX11_unit_125 : decode cX11_unit 125 = .ok (.iload_n 2, 1) := by decide +kernel
theorem dX11_unit_126 : decode cX11_unit 126 = .ok (.ifCond .eq 7, 3) := by decide +kernel
theorem dX11_unit_129 : decode cX11_unit 129 = .ok (.aload_n 0, 1) := by decide +kernel
theorem dX11_unit_130 : decode cX11_unit 130 = .ok (.invokevirtual 145, 3) := by decide +kernel
theorem dX11_unit_133 : decode cX11_unit 133 = .ok (.aload_n 0, 1) := by decide +kernel
theorem dX11_unit_134 : decode cX11_unit 134 = .ok (.invokevirtual 121, 3) := by decide +kernel
theorem dX11_unit_137 : decode cX11_unit 137 = .ok (.aload_n 0, 1) := by decide +kernel
theorem dX11_unit_138 : decode cX11_unit 138 = .ok (.aload_n 0, 1) := by decide +kernel
theorem dX11_unit_139 : decode cX11_unit 139 = .ok (.getfield 92, 3) := by decide +kernel
theorem dX11_unit_142 : decode cX11_unit 142 = .ok (.invokevirtual 95, 3) := by decide +kernel
theorem dX11_unit_145 : decode cX11_unit 145 = .ok (.bipush 40, 2) := by decide +kernel
theorem dX11_unit_147 : decode cX11_unit 147 = .ok (.if_icmp .eq 13, 3) := by decide +kernel
theorem dX11_unit_150 : decode cX11_unit 150 = .ok (.aload_n 0, 1) := by decide +kernel
theorem dX11_unit_151 : decode cX11_unit 151 = .ok (.iconst 1, 1) := by decide +kernel
theorem dX11_unit_152 : decode cX11_unit 152 = .ok (.aload_n 0, 1) := by decide +kernel
theorem dX11_unit_153 : decode cX11_unit 153 = .ok (.getfield 92, 3) := by decide +kernel
theorem dX11_unit_156 : decode cX11_unit 156 = .ok (.invokevirtual 113, 3) := by decide +kernel
theorem dX11_unit_159 : decode cX11_unit 159 = .ok (.return_, 1) := by decide +kernel
theorem dX11_unit_160 : decode cX11_unit 160 = .ok (.aload_n 0, 1) := by decide +kernel
theorem dX11_unit_161 : decode cX11_unit 161 = .ok (.iconst 1, 1) := by decide +kernel
theorem dX11_unit_162 : decode cX11_unit 162 = .ok (.invokevirtual 148, 3) := by decide +kernel
theorem dX11_unit_165 : decode cX11_unit 165 = .ok (.aload_n 0, 1) := by decide +kernel
theorem dX11_unit_166 : decode cX11_unit 166 = .ok (.invokevirtual 151, 3) := by decide +kernel
theorem dX11_unit_169 : decode cX11_unit 169 = .ok (.iload_n 2, 1) := by decide +kernel
theorem dX11_unit_170 : decode cX11_unit 170 = .ok (.sipush 10024, 3) := by decide +kernel
theorem dX11_unit_173 : decode cX11_unit 173 = .ok (.if_icmp .eq 10, 3) := by decide +kernel
theorem dX11_unit_176 : decode cX11_unit 176 = .ok (.iload_n 2, 1) := by decide +kernel
theorem dX11_unit_177 : decode cX11_unit 177 = .ok (.sipush 10025, 3) := by decide +kernel
theorem dX11_unit_180 : decode cX11_unit 180 = .ok (.if_icmp .ne 13, 3) := by decide +kernel
theorem dX11_unit_183 : decode cX11_unit 183 = .ok (.aload_n 0, 1) := by decide +kernel
theorem dX11_unit_184 : decode cX11_unit 184 = .ok (.bipush 44, 2) := by decide +kernel
theorem dX11_unit_186 : decode cX11_unit 186 = .ok (.invokevirtual 154, 3) := by decide +kernel
theorem dX11_unit_189 : decode cX11_unit 189 = .ok (.aload_n 0, 1) := by decide +kernel
theorem dX11_unit_190 : decode cX11_unit 190 = .ok (.invokevirtual 151, 3) := by decide +kernel
theorem dX11_unit_193 : decode cX11_unit 193 = .ok (.aload_n 0, 1) := by decide +kernel
theorem dX11_unit_194 : decode cX11_unit 194 = .ok (.bipush 41, 2) := by decide +kernel
theorem dX11_unit_196 : decode cX11_unit 196 = .ok (.invokevirtual 154, 3) := by decide +kernel
theorem dX11_unit_199 : decode cX11_unit 199 = .ok (.aload_n 0, 1) := by decide +kernel
theorem dX11_unit_200 : decode cX11_unit 200 = .ok (.dup, 1) := by decide +kernel
theorem dX11_unit_201 : decode cX11_unit 201 = .ok (.getfield 132, 3) := by decide +kernel
theorem dX11_unit_204 : decode cX11_unit 204 = .ok (.iconst 1, 1) := by decide +kernel
theorem dX11_unit_205 : decode cX11_unit 205 = .ok (.isub, 1) := by decide +kernel
theorem dX11_unit_206 : decode cX11_unit 206 = .ok (.putfield 132, 3) := by decide +kernel
theorem dX11_unit_209 : decode cX11_unit 209 = .ok (.iload_n 2, 1) := by decide +kernel
theorem dX11_unit_210 : decode cX11_unit 210 = .ok (.ifCond .eq 8, 3) := by decide +kernel
theorem dX11_unit_213 : decode cX11_unit 213 = .ok (.aload_n 0, 1) := by decide +kernel
theorem dX11_unit_214 : decode cX11_unit 214 = .ok (.iload_n 2, 1) := by decide +kernel
theorem dX11_unit_215 : decode cX11_unit 215 = .ok (.invokevirtual 117, 3) := by decide +kernel
theorem dX11_unit_218 : decode cX11_unit 218 = .ok (.return_, 1) := by decide +kernel
set_option maxRecDepth 20000 in
theorem ggX11_product_X11_unit : GoodIn wsX11_product wsX11_unit := goodIn_r _ [27, 1, 2, 28, 7, 8, 9, 6, 10, 11, 12, 13, 14, 15, 16, 29, 30, 31, 32, 33, 34, 35, 36, 37, 38, 39, 40, 41, 17, 18, 19, 20, 21, 22, 42, 43, 44, 45, 46, 47, 48, 49, 50, 51, 52, 53, 54, 55, 56, 57, 58, 59, 60, 61, 62, 63, 64, 65, 66, 67, 68, 69, 70, 71, 0, 3, 4, 5, 23, 24, 25, 26, 72, 73, 74, 75, 76, 77, 78, 79, 80, 81, 82, 83, 84, 85, 86, 87, 88, 89, 90, 91, 92, 93, 94, 95, 96, 97, 98, 99, 100, 101, 102, 103, 104, 105, 106, 107, 108, 109, 110, 111, 112, 113] (by decide +kernel) (by decide +kernel)
set_option maxRecDepth 20000 in
theorem gX11_product_X11_unit : GoodIn wsX11_product (wsV RX11 157 RX11 yX11_unit wsX11_unit) := goodIn_app (goodIn_of _ (by decide +kernel)) ggX11_product_X11_unit
set_option maxRecDepth 20000 in
theorem ggX11_product_X11_blanks : GoodIn wsX11_product wsX11_blanks := goodIn_r _ [10, 2, 11, 12, 13, 6, 14, 15, 16, 72, 73, 74, 75, 76, 77, 78, 79, 80, 81, 82, 83, 84, 85, 86, 87, 88, 89, 90, 91, 92, 93, 94, 95, 96, 97, 98, 99, 100, 101, 102, 103, 104, 105, 106, 107, 108, 109, 110, 111, 112, 113] (by decide +kernel) (by decide +kernel)
set_option maxRecDepth 20000 in
theorem gX11_product_X11_blanks : GoodIn wsX11_product (wsV RX11 121 RX11 yX11_blanks wsX11_blanks) := goodIn_app (goodIn_of _ (by decide +kernel)) ggX11_product_X11_blanks
set_option maxRecDepth 20000 in
theorem ggX11_product_X11_byteAt : GoodIn wsX11_product wsX11_byteAt := goodIn_r _ [14, 15, 16, 72, 73, 74, 75, 76, 77, 78, 79, 80, 81, 82, 83, 84, 85, 86, 87, 88, 89, 90, 91, 92, 93, 94, 95, 96, 97, 98, 99, 100, 101, 102, 103, 104, 105, 106, 107, 108, 109, 110, 111, 112, 113] (by decide +kernel) (by decide +kernel)
set_option maxRecDepth 20000 in
theorem gX11_product_X11_byteAt : GoodIn wsX11_product (wsV RX11 95 RX11 yX11_byteAt wsX11_byteAt) := goodIn_app (goodIn_of _ (by decide +kernel)) ggX11_product_X11_byteAt
set_option maxRecDepth 20000 in
theorem ggX11_product_X11_tells : GoodIn wsX11_product wsX11_tells := goodIn_r _ [20, 1, 21, 22, 72, 73, 74, 75, 76, 77, 78, 79, 80, 81, 82, 83, 84, 85, 86, 87, 88, 89, 90, 91, 92, 93, 94, 95, 96, 97, 98, 99, 100, 101, 102, 103, 104, 105, 106, 107, 108, 109, 110, 111, 112, 113] (by decide +kernel) (by decide +kernel)
set_option maxRecDepth 20000 in
theorem gX11_product_X11_tells : GoodIn wsX11_product (wsV RX11 117 RX11 yX11_tells wsX11_tells) := goodIn_app (goodIn_of _ (by decide +kernel)) ggX11_product_X11_tells
theorem dX11_product_0 : decode cX11_product 0 = .ok (.aload_n 0, 1) := by decide +kernel
theorem dX11_product_1 : decode cX11_product 1 = .ok (.invokevirtual 157, 3) := by decide +kernel
theorem dX11_product_4 : decode cX11_product 4 = .ok (.aload_n 0, 1) := by decide +kernel
theorem dX11_product_5 : decode cX11_product 5 = .ok (.invokevirtual 121, 3) := by decide +kernel
theorem dX11_product_8 : decode cX11_product 8 = .ok (.aload_n 0, 1) := by decide +kernel
theorem dX11_product_9 : decode cX11_product 9 = .ok (.getfield 99, 3) := by decide +kernel
theorem dX11_product_12 : decode cX11_product 12 = .ok (.ifCond .ne 78, 3) := by decide +kernel
theorem dX11_product_15 : decode cX11_product 15 = .ok (.aload_n 0, 1) := by decide +kernel
theorem dX11_product_16 : decode cX11_product 16 = .ok (.aload_n 0, 1) := by decide +kernel
theorem dX11_product_17 : decode cX11_product 17 = .ok (.getfield 92, 3) := by decide +kernel
theorem dX11_product_20 : decode cX11_product 20 = .ok (.invokevirtual 95, 3) := by decide +kernel
theorem dX11_product_23 : decode cX11_product 23 = .ok (.bipush 42, 2) := by decide +kernel
theorem dX11_product_25 : decode cX11_product 25 = .ok (.if_icmp .eq 16, 3) := by decide +kernel
theorem dX11_product_28 : decode cX11_product 28 = .ok (.aload_n 0, 1) := by decide +kernel
theorem dX11_product_29 : decode cX11_product 29 = .ok (.aload_n 0, 1) := by decide +kernel
theorem dX11_product_30 : decode cX11_product 30 = .ok (.getfield 92, 3) := by decide +kernel
theorem dX11_product_33 : decode cX11_product 33 = .ok (.invokevirtual 95, 3) := by decide +kernel
theorem dX11_product_36 : decode cX11_product 36 = .ok (.bipush 47, 2) := by decide +kernel
theorem dX11_product_38 : decode cX11_product 38 = .ok (.if_icmp .ne 52, 3) := by decide +kernel
theorem dX11_product_41 : decode cX11_product 41 = .ok (.aload_n 0, 1) := by decide +kernel
theorem dX11_product_42 : decode cX11_product 42 = .ok (.aload_n 0, 1) := by decide +kernel
theorem dX11_product_43 : decode cX11_product 43 = .ok (.getfield 92, 3) := by decide +kernel
theorem dX11_product_46 : decode cX11_product 46 = .ok (.invokevirtual 95, 3) := by decide +kernel
theorem dX11_product_49 : decode cX11_product 49 = .ok (.istore_n 1, 1) := by decide +kernel
theorem dX11_product_50 : decode cX11_product 50 = .ok (.aload_n 0, 1) := by decide +kernel
theorem dX11_product_51 : decode cX11_product 51 = .ok (.dup, 1) := by decide +kernel
theorem dX11_product_52 : decode cX11_product 52 = .ok (.getfield 92, 3) := by decide +kernel
theorem dX11_product_55 : decode cX11_product 55 = .ok (.iconst 1, 1) := by decide +kernel
theorem dX11_product_56 : decode cX11_product 56 = .ok (.iadd, 1) := by decide +kernel
theorem dX11_product_57 : decode cX11_product 57 = .ok (.putfield 92, 3) := by decide +kernel
theorem dX11_product_60 : decode cX11_product 60 = .ok (.aload_n 0, 1) := by decide +kernel
theorem dX11_product_61 : decode cX11_product 61 = .ok (.invokevirtual 157, 3) := by decide +kernel
theorem dX11_product_64 : decode cX11_product 64 = .ok (.aload_n 0, 1) := by decide +kernel
theorem dX11_product_65 : decode cX11_product 65 = .ok (.iload_n 1, 1) := by decide +kernel
theorem dX11_product_66 : decode cX11_product 66 = .ok (.bipush 42, 2) := by decide +kernel
theorem dX11_product_68 : decode cX11_product 68 = .ok (.if_icmp .ne 9, 3) := by decide +kernel
theorem dX11_product_71 : decode cX11_product 71 = .ok (.sipush 10022, 3) := by decide +kernel
theorem dX11_product_74 : decode cX11_product 74 = .ok (.goto 6, 3) := by decide +kernel
theorem dX11_product_77 : decode cX11_product 77 = .ok (.sipush 10023, 3) := by decide +kernel
theorem dX11_product_80 : decode cX11_product 80 = .ok (.invokevirtual 117, 3) := by decide +kernel
theorem dX11_product_83 : decode cX11_product 83 = .ok (.aload_n 0, 1) := by decide +kernel
theorem dX11_product_84 : decode cX11_product 84 = .ok (.invokevirtual 121, 3) := by decide +kernel
theorem dX11_product_87 : decode cX11_product 87 = .ok (.goto (-79), 3) := by decide +kernel
theorem dX11_product_90 : decode cX11_product 90 = .ok (.return_, 1) := by decide +kernel
set_option maxRecDepth 20000 in
theorem ggX11_sum_X11_product : GoodIn wsX11_sum wsX11_product := goodIn_r _ [23, 1, 2, 24, 25, 26, 6, 7, 8, 9, 10, 11, 12, 13, 14, 15, 16, 17, 18, 19, 20, 21, 22, 0, 3, 4, 5, 27, 28, 29, 30, 31, 32, 33, 34, 35, 36, 37, 38, 39, 40, 41, 42, 43, 44, 45, 46, 47, 48, 49, 50, 51, 52, 53, 54, 55, 56, 57, 58, 59, 60, 61, 62, 63, 64, 65, 66, 67, 68, 69, 70, 71, 72, 73, 74, 75, 76, 77, 78, 79, 80, 81, 82, 83, 84, 85, 86, 87, 88, 89, 90, 91, 92, 93, 94, 95, 96, 97, 98, 99, 100, 101, 102, 103, 104, 105, 106, 107, 108, 109, 110, 111, 112, 113] (by decide +kernel) (by decide +kernel)
set_option maxRecDepth 20000 in
theorem gX11_sum_X11_product : GoodIn wsX11_sum (wsV RX11 160 RX11 yX11_product wsX11_product) := goodIn_app (goodIn_of _ (by decide +kernel)) ggX11_sum_X11_product
set_option maxRecDepth 20000 in
theorem ggX11_sum_X11_blanks : GoodIn wsX11_sum wsX11_blanks := goodIn_r _ [10, 2, 11, 12, 13, 6, 14, 15, 16, 72, 73, 74, 75, 76, 77, 78, 79, 80, 81, 82, 83, 84, 85, 86, 87, 88, 89, 90, 91, 92, 93, 94, 95, 96, 97, 98, 99, 100, 101, 102, 103, 104, 105, 106, 107, 108, 109, 110, 111, 112, 113] (by decide +kernel) (by decide +kernel)
set_option maxRecDepth 20000 in
theorem gX11_sum_X11_blanks : GoodIn wsX11_sum (wsV RX11 121 RX11 yX11_blanks wsX11_blanks) := goodIn_app (goodIn_of _ (by decide +kernel)) ggX11_sum_X11_blanks
set_option maxRecDepth 20000 in
theorem ggX11_sum_X11_byteAt : GoodIn wsX11_sum wsX11_byteAt := goodIn_r _ [14, 15, 16, 72, 73, 74, 75, 76, 77, 78, 79, 80, 81, 82, 83, 84, 85, 86, 87, 88, 89, 90, 91, 92, 93, 94, 95, 96, 97, 98, 99, 100, 101, 102, 103, 104, 105, 106, 107, 108, 109, 110, 111, 112, 113] (by decide +kernel) (by decide +kernel)
set_option maxRecDepth 20000 in
theorem gX11_sum_X11_byteAt : GoodIn wsX11_sum (wsV RX11 95 RX11 yX11_byteAt wsX11_byteAt) := goodIn_app (goodIn_of _ (by decide +kernel)) ggX11_sum_X11_byteAt
set_option maxRecDepth 20000 in
theorem ggX11_sum_X11_tells : GoodIn wsX11_sum wsX11_tells := goodIn_r _ [20, 1, 21, 22, 72, 73, 74, 75, 76, 77, 78, 79, 80, 81, 82, 83, 84, 85, 86, 87, 88, 89, 90, 91, 92, 93, 94, 95, 96, 97, 98, 99, 100, 101, 102, 103, 104, 105, 106, 107, 108, 109, 110, 111, 112, 113] (by decide +kernel) (by decide +kernel)
set_option maxRecDepth 20000 in
theorem gX11_sum_X11_tells : GoodIn wsX11_sum (wsV RX11 117 RX11 yX11_tells wsX11_tells) := goodIn_app (goodIn_of _ (by decide +kernel)) ggX11_sum_X11_tells
theorem dX11_sum_0 : decode cX11_sum 0 = .ok (.aload_n 0, 1) := by decide +kernel
theorem dX11_sum_1 : decode cX11_sum 1 = .ok (.invokevirtual 160, 3) := by decide +kernel
theorem dX11_sum_4 : decode cX11_sum 4 = .ok (.aload_n 0, 1) := by decide +kernel
theorem dX11_sum_5 : decode cX11_sum 5 = .ok (.invokevirtual 121, 3) := by decide +kernel
theorem dX11_sum_8 : decode cX11_sum 8 = .ok (.aload_n 0, 1) := by decide +kernel
theorem dX11_sum_9 : decode cX11_sum 9 = .ok (.getfield 99, 3) := by decide +kernel
theorem dX11_sum_12 : decode cX11_sum 12 = .ok (.ifCond .ne 78, 3) := by decide +kernel
theorem dX11_sum_15 : decode cX11_sum 15 = .ok (.aload_n 0, 1) := by decide +kernel
theorem dX11_sum_16 : decode cX11_sum 16 = .ok (.aload_n 0, 1) := by decide +kernel
theorem dX11_sum_17 : decode cX11_sum 17 = .ok (.getfield 92, 3) := by decide +kernel
theorem dX11_sum_20 : decode cX11_sum 20 = .ok (.invokevirtual 95, 3) := by decide +kernel
theorem dX11_sum_23 : decode cX11_sum 23 = .ok (.bipush 43, 2) := by decide +kernel
theorem dX11_sum_25 : decode cX11_sum 25 = .ok (.if_icmp .eq 16, 3) := by decide +kernel
theorem dX11_sum_28 : decode cX11_sum 28 = .ok (.aload_n 0, 1) := by decide +kernel
theorem dX11_sum_29 : decode cX11_sum 29 = .ok (.aload_n 0, 1) := by decide +kernel
theorem dX11_sum_30 : decode cX11_sum 30 = .ok (.getfield 92, 3) := by decide +kernel
theorem dX11_sum_33 : decode cX11_sum 33 = .ok (.invokevirtual 95, 3) := by decide +kernel
theorem dX11_sum_36 : decode cX11_sum 36 = .ok (.bipush 45, 2) := by decide +kernel
theorem dX11_sum_38 : decode cX11_sum 38 = .ok (.if_icmp .ne 52, 3) := by decide +kernel
theorem dX11_sum_41 : decode cX11_sum 41 = .ok (.aload_n 0, 1) := by decide +kernel
theorem dX11_sum_42 : decode cX11_sum 42 = .ok (.aload_n 0, 1) := by decide +kernel
theorem dX11_sum_43 : decode cX11_sum 43 = .ok (.getfield 92, 3) := by decide +kernel
theorem dX11_sum_46 : decode cX11_sum 46 = .ok (.invokevirtual 95, 3) := by decide +kernel
theorem dX11_sum_49 : decode cX11_sum 49 = .ok (.istore_n 1, 1) := by decide +kernel
theorem dX11_sum_50 : decode cX11_sum 50 = .ok (.aload_n 0, 1) := by decide +kernel
theorem dX11_sum_51 : decode cX11_sum 51 = .ok (.dup, 1) := by decide +kernel
theorem dX11_sum_52 : decode cX11_sum 52 = .ok (.getfield 92, 3) := by decide +kernel
theorem dX11_sum_55 : decode cX11_sum 55 = .ok (.iconst 1, 1) := by decide +kernel
theorem dX11_sum_56 : decode cX11_sum 56 = .ok (.iadd, 1) := by decide +kernel
theorem dX11_sum_57 : decode cX11_sum 57 = .ok (.putfield 92, 3) := by decide +kernel
theorem dX11_sum_60 : decode cX11_sum 60 = .ok (.aload_n 0, 1) := by decide +kernel
theorem dX11_sum_61 : decode cX11_sum 61 = .ok (.invokevirtual 160, 3) := by decide +kernel
theorem dX11_sum_64 : decode cX11_sum 64 = .ok (.aload_n 0, 1) := by decide +kernel
theorem dX11_sum_65 : decode cX11_sum 65 = .ok (.iload_n 1, 1) := by decide +kernel
theorem dX11_sum_66 : decode cX11_sum 66 = .ok (.bipush 43, 2) := by decide +kernel
theorem dX11_sum_68 : decode cX11_sum 68 = .ok (.if_icmp .ne 9, 3) := by decide +kernel
theorem dX11_sum_71 : decode cX11_sum 71 = .ok (.sipush 10020, 3) := by decide +kernel
theorem dX11_sum_74 : decode cX11_sum 74 = .ok (.goto 6, 3) := by decide +kernel
theorem dX11_sum_77 : decode cX11_sum 77 = .ok (.sipush 10021, 3) := by decide +kernel
theorem dX11_sum_80 : decode cX11_sum 80 = .ok (.invokevirtual 117, 3) := by decide +kernel
theorem dX11_sum_83 : decode cX11_sum 83 = .ok (.aload_n 0, 1) := by decide +kernel
theorem dX11_sum_84 : decode cX11_sum 84 = .ok (.invokevirtual 121, 3) := by decide +kernel
theorem dX11_sum_87 : decode cX11_sum 87 = .ok (.goto (-79), 3) := by decide +kernel
theorem dX11_sum_90 : decode cX11_sum 90 = .ok (.return_, 1) := by decide +kernel
set_option maxRecDepth 20000 in
theorem ggX11_test_X11_isWord : GoodIn wsX11_test wsX11_isWord := goodIn_r _ [8, 9, 10, 11, 7, 12, 3, 13, 14, 15, 16, 17, 18, 19, 20, 21, 22, 23, 24, 25, 84, 85, 86, 87, 88, 89, 90, 91, 92, 93, 94, 95, 96, 97, 98, 99, 100, 101, 102, 103, 104, 105, 106, 107, 108, 109, 110, 111, 112, 113, 114, 115, 116, 117, 118, 119, 120, 121, 122, 123, 124, 125] (by decide +kernel) (by decide +kernel)
set_option maxRecDepth 20000 in
theorem gX11_test_X11_isWord : GoodIn wsX11_test (wsV RX11 135 RX11 yX11_isWord wsX11_isWord) := goodIn_app (goodIn_of _ (by decide +kernel)) ggX11_test_X11_isWord
set_option maxRecDepth 20000 in
theorem ggX11_test_X11_opens : GoodIn wsX11_test wsX11_opens := goodIn_r _ [29, 2, 3, 30, 31, 32, 7, 33, 1, 34, 84, 85, 86, 87, 88, 89, 90, 91, 92, 93, 94, 95, 96, 97, 98, 99, 100, 101, 102, 103, 104, 105, 106, 107, 108, 109, 110, 111, 112, 113, 114, 115, 116, 117, 118, 119, 120, 121, 122, 123, 124, 125] (by decide +kernel) (by decide +kernel)
set_option maxRecDepth 20000 in
theorem gX11_test_X11_opens : GoodIn wsX11_test (wsV RX11 148 RX11 yX11_opens wsX11_opens) := goodIn_app (goodIn_of _ (by decide +kernel)) ggX11_test_X11_opens
set_option maxRecDepth 20000 in
theorem ggX11_test_X11_test : GoodIn wsX11_test wsX11_test := goodIn_r _ [0, 1, 2, 3, 4, 5, 6, 7, 8, 9, 10, 11, 12, 13, 14, 15, 16, 17, 18, 19, 20, 21, 22, 23, 24, 25, 26, 27, 28, 29, 30, 31, 32, 33, 34, 35, 36, 37, 38, 39, 40, 41, 42, 43, 44, 45, 46, 47, 48, 49, 50, 51, 52, 53, 54, 55, 56, 57, 58, 59, 60, 61, 62, 63, 64, 65, 66, 67, 68, 69, 70, 71, 72, 73, 74, 75, 76, 77, 78, 79, 80, 81, 82, 83, 84, 85, 86, 87, 88, 89, 90, 91, 92, 93, 94, 95, 96, 97, 98, 99, 100, 101, 102, 103, 104, 105, 106, 107, 108, 109, 110, 111, 112, 113, 114, 115, 116, 117, 118, 119, 120, 121, 122, 123, 124, 125] (by decide +kernel) (by decide +kernel)
set_option maxRecDepth 20000 in
theorem gX11_test_X11_test : GoodIn wsX11_test (wsV RX11 163 RX11 yX11_test wsX11_test) := goodIn_app (goodIn_of _ (by decide +kernel)) ggX11_test_X11_test
set_option maxRecDepth 20000 in
theorem ggX11_test_X11_tells : GoodIn wsX11_test wsX11_tells := goodIn_r _ [41, 1, 42, 43, 84, 85, 86, 87, 88, 89, 90, 91, 92, 93, 94, 95, 96, 97, 98, 99, 100, 101, 102, 103, 104, 105, 106, 107, 108, 109, 110, 111, 112, 113, 114, 115, 116, 117, 118, 119, 120, 121, 122, 123, 124, 125] (by decide +kernel) (by decide +kernel)
set_option maxRecDepth 20000 in
theorem gX11_test_X11_tells : GoodIn wsX11_test (wsV RX11 117 RX11 yX11_tells wsX11_tells) := goodIn_app (goodIn_of _ (by decide +kernel)) ggX11_test_X11_tells
set_option maxRecDepth 20000 in
theorem ggX11_test_X11_byteAt : GoodIn wsX11_test wsX11_byteAt := goodIn_r _ [20, 21, 22, 84, 85, 86, 87, 88, 89, 90, 91, 92, 93, 94, 95, 96, 97, 98, 99, 100, 101, 102, 103, 104, 105, 106, 107, 108, 109, 110, 111, 112, 113, 114, 115, 116, 117, 118, 119, 120, 121, 122, 123, 124, 125] (by decide +kernel) (by decide +kernel)
set_option maxRecDepth 20000 in
theorem gX11_test_X11_byteAt : GoodIn wsX11_test (wsV RX11 95 RX11 yX11_byteAt wsX11_byteAt) := goodIn_app (goodIn_of _ (by decide +kernel)) ggX11_test_X11_byteAt
set_option maxRecDepth 20000 in
theorem ggX11_test_X11_ors : GoodIn wsX11_test wsX11_ors := goodIn_r _ [80, 1, 81, 82, 83, 7, 4, 5, 6, 8, 9, 10, 11, 12, 3, 13, 14, 15, 16, 17, 18, 19, 20, 21, 22, 23, 24, 25, 75, 76, 77, 78, 38, 39, 40, 41, 42, 43, 79, 35, 36, 37, 0, 2, 26, 27, 28, 29, 30, 31, 32, 33, 34, 44, 45, 46, 47, 48, 49, 50, 51, 52, 53, 54, 55, 56, 57, 58, 59, 60, 61, 62, 63, 64, 65, 66, 67, 68, 69, 70, 71, 72, 73, 74, 84, 85, 86, 87, 88, 89, 90, 91, 92, 93, 94, 95, 96, 97, 98, 99, 100, 101, 102, 103, 104, 105, 106, 107, 108, 109, 110, 111, 112, 113, 114, 115, 116, 117, 118, 119, 120, 121, 122, 123, 124, 125] (by decide +kernel) (by decide +kernel)
set_option maxRecDepth 20000 in
theorem gX11_test_X11_ors : GoodIn wsX11_test (wsV RX11 166 RX11 yX11_ors wsX11_ors) := goodIn_app (goodIn_of _ (by decide +kernel)) ggX11_test_X11_ors
set_option maxRecDepth 20000 in
theorem ggX11_test_X11_sign : GoodIn wsX11_test wsX11_sign := goodIn_r _ [50, 1, 3, 13, 14, 15, 7, 16, 17, 18, 19, 20, 21, 22, 30, 31, 32, 33, 34, 84, 85, 86, 87, 88, 89, 90, 91, 92, 93, 94, 95, 96, 97, 98, 99, 100, 101, 102, 103, 104, 105, 106, 107, 108, 109, 110, 111, 112, 113, 114, 115, 116, 117, 118, 119, 120, 121, 122, 123, 124, 125] (by decide +kernel) (by decide +kernel)
set_option maxRecDepth 20000 in
theorem gX11_test_X11_sign : GoodIn wsX11_test (wsV RX11 154 RX11 yX11_sign wsX11_sign) := goodIn_app (goodIn_of _ (by decide +kernel)) ggX11_test_X11_sign
set_option maxRecDepth 20000 in
theorem ggX11_test_X11_sum : GoodIn wsX11_test wsX11_sum := goodIn_r _ [54, 1, 3, 55, 56, 57, 7, 13, 14, 15, 16, 17, 18, 19, 20, 21, 22, 38, 39, 40, 41, 42, 43, 58, 59, 60, 61, 62, 2, 63, 64, 65, 66, 67, 68, 69, 70, 30, 31, 32, 33, 34, 71, 72, 73, 74, 4, 5, 6, 8, 9, 10, 11, 12, 23, 24, 25, 75, 76, 77, 78, 26, 27, 28, 29, 51, 52, 53, 47, 48, 49, 50, 84, 85, 86, 87, 88, 89, 90, 91, 92, 93, 94, 95, 96, 97, 98, 99, 100, 101, 102, 103, 104, 105, 106, 107, 108, 109, 110, 111, 112, 113, 114, 115, 116, 117, 118, 119, 120, 121, 122, 123, 124, 125] (by decide +kernel) (by decide +kernel)
set_option maxRecDepth 20000 in
theorem gX11_test_X11_sum : GoodIn wsX11_test (wsV RX11 151 RX11 yX11_sum wsX11_sum) := goodIn_app (goodIn_of _ (by decide +kernel)) ggX11_test_X11_sum
set_option maxRecDepth 20000 in
theorem ggX11_test_X11_blanks : GoodIn wsX11_test wsX11_blanks := goodIn_r _ [16, 3, 17, 18, 19, 7, 20, 21, 22, 84, 85, 86, 87, 88, 89, 90, 91, 92, 93, 94, 95, 96, 97, 98, 99, 100, 101, 102, 103, 104, 105, 106, 107, 108, 109, 110, 111, 112, 113, 114, 115, 116, 117, 118, 119, 120, 121, 122, 123, 124, 125] (by decide +kernel) (by decide +kernel)
set_option maxRecDepth 20000 in
theorem gX11_test_X11_blanks : GoodIn wsX11_test (wsV RX11 121 RX11 yX11_blanks wsX11_blanks) := goodIn_app (goodIn_of _ (by decide +kernel)) ggX11_test_X11_blanks
set_option maxRecDepth 20000 in
theorem ggX11_test_X11_wrong : GoodIn wsX11_test wsX11_wrong := goodIn_r _ [33, 1, 34, 84, 85, 86, 87, 88, 89, 90, 91, 92, 93, 94, 95, 96, 97, 98, 99, 100, 101, 102, 103, 104, 105, 106, 107, 108, 109, 110, 111, 112, 113, 114, 115, 116, 117, 118, 119, 120, 121, 122, 123, 124, 125] (by decide +kernel) (by decide +kernel)
set_option maxRecDepth 20000 in
theorem gX11_test_X11_wrong : GoodIn wsX11_test (wsV RX11 113 RX11 yX11_wrong wsX11_wrong) := goodIn_app (goodIn_of _ (by decide +kernel)) ggX11_test_X11_wrong
theorem dX11_test_0 : decode cX11_test 0 = .ok (.aload_n 0, 1) := by decide +kernel
theorem dX11_test_1 : decode cX11_test 1 = .ok (.getfield 99, 3) := by decide +kernel
theorem dX11_test_4 : decode cX11_test 4 = .ok (.ifCond .eq 4, 3) := by decide +kernel
theorem dX11_test_7 : decode cX11_test 7 = .ok (.return_, 1) := by decide +kernel
theorem dX11_test_8 : decode cX11_test 8 = .ok (.aload_n 0, 1) := by decide +kernel
theorem dX11_test_9 : decode cX11_test 9 = .ok (.bipush 14, 2) := by decide +kernel
theorem dX11_test_11 : decode cX11_test 11 = .ok (.bipush 15, 2) := by decide +kernel
theorem dX11_test_13 : decode cX11_test 13 = .ok (.bipush 20, 2) := by decide +kernel
theorem dX11_test_15 : decode cX11_test 15 = .ok (.iconst 0, 1) := by decide +kernel
theorem dX11_test_16 : decode cX11_test 16 = .ok (.iconst 0, 1) := by decide +kernel
theorem dX11_test_17 : decode cX11_test 17 = .ok (.iconst 0, 1) := by decide +kernel
theorem dX11_test_18 : decode cX11_test 18 = .ok (.invokevirtual 135, 3) := by decide +kernel
theorem dX11_test_21 : decode cX11_test 21 = .ok (.ifCond .eq 30, 3) := by decide +kernel
theorem dX11_test_24 : decode cX11_test 24 = .ok (.aload_n 0, 1) := by decide +kernel
theorem dX11_test_25 : decode cX11_test 25 = .ok (.iconst 3, 1) := by decide +kernel
theorem dX11_test_26 : decode cX11_test 26 = .ok (.invokevirtual 148, 3) := by decide +kernel
theorem dX11_test_29 : decode cX11_test 29 = .ok (.aload_n 0, 1) := by decide +kernel
theorem dX11_test_30 : decode cX11_test 30 = .ok (.invokevirtual 163, 3) := by decide +kernel
theorem dX11_test_33 : decode cX11_test 33 = .ok (.aload_n 0, 1) := by decide +kernel
theorem dX11_test_34 : decode cX11_test 34 = .ok (.dup, 1) := by decide +kernel
theorem dX11_test_35 : decode cX11_test 35 = .ok (.getfield 132, 3) := by decide +kernel
theorem dX11_test_38 : decode cX11_test 38 = .ok (.iconst 1, 1) := by decide +kernel
theorem dX11_test_39 : decode cX11_test 39 = .ok (.isub, 1) := by decide +kernel
theorem dX11_test_40 : decode cX11_test 40 = .ok (.putfield 132, 3) := by decide +kernel
theorem dX11_test_43 : decode cX11_test 43 = .ok (.aload_n 0, 1) := by decide +kernel
theorem dX11_test_44 : decode cX11_test 44 = .ok (.sipush 10033, 3) := by decide +kernel
theorem dX11_test_47 : decode cX11_test 47 = .ok (.invokevirtual 117, 3) := by decide +kernel
theorem dX11_test_50 : decode cX11_test 50 = .ok (.return_, 1) := by decide +kernel
theorem dX11_test_51 : decode cX11_test 51 = .ok (.aload_n 0, 1) := by decide +kernel
theorem dX11_test_52 : decode cX11_test 52 = .ok (.aload_n 0, 1) := by decide +kernel
theorem dX11_test_53 : decode cX11_test 53 = .ok (.getfield 92, 3) := by decide +kernel
theorem dX11_test_56 : decode cX11_test 56 = .ok (.invokevirtual 95, 3) := by decide +kernel
theorem dX11_test_59 : decode cX11_test 59 = .ok (.bipush 91, 2) := by decide +kernel
theorem dX11_test_61 : decode cX11_test 61 = .ok (.if_icmp .ne 29, 3) := by decide +kernel
theorem dX11_test_64 : decode cX11_test 64 = .ok (.aload_n 0, 1) := by decide +kernel
theorem dX11_test_65 : decode cX11_test 65 = .ok (.iconst 1, 1) := by decide +kernel
theorem dX11_test_66 : decode cX11_test 66 = .ok (.invokevirtual 148, 3) := by decide +kernel
theorem dX11_test_69 : decode cX11_test 69 = .ok (.aload_n 0, 1) := by decide +kernel
theorem dX11_test_70 : decode cX11_test 70 = .ok (.invokevirtual 166, 3) := by decide +kernel
theorem dX11_test_73 : decode cX11_test 73 = .ok (.aload_n 0, 1) := by decide +kernel
theorem dX11_test_74 : decode cX11_test 74 = .ok (.bipush 93, 2) := by decide +kernel
theorem dX11_test_76 : decode cX11_test 76 = .ok (.invokevirtual 154, 3) := by decide +kernel
theorem dX11_test_79 : decode cX11_test 79 = .ok (.aload_n 0, 1) := by decide +kernel
theorem dX11_test_80 : decode cX11_test 80 = .ok (.dup, 1) := by decide +kernel
theorem dX11_test_81 : decode cX11_test 81 = .ok (.getfield 132, 3) := by decide +kernel
theorem dX11_test_84 : decode cX11_test 84 = .ok (.iconst 1, 1) := by decide +kernel
theorem dX11_test_85 : decode cX11_test 85 = .ok (.isub, 1) := by decide +kernel
theorem dX11_test_86 : decode cX11_test 86 = .ok (.putfield 132, 3) := by decide +kernel
theorem dX11_test_89 : decode cX11_test 89 = .ok (.return_, 1) := by decide +kernel
theorem dX11_test_90 : decode cX11_test 90 = .ok (.aload_n 0, 1) := by decide +kernel
theorem dX11_test_91 : decode cX11_test 91 = .ok (.invokevirtual 151, 3) := by decide +kernel
theorem dX11_test_94 : decode cX11_test 94 = .ok (.aload_n 0, 1) := by decide +kernel
theorem dX11_test_95 : decode cX11_test 95 = .ok (.getfield 99, 3) := by decide +kernel
theorem dX11_test_98 : decode cX11_test 98 = .ok (.ifCond .eq 4, 3) := by decide +kernel
theorem dX11_test_101 : decode cX11_test 101 = .ok (.return_, 1) := by decide +kernel
theorem dX11_test_102 : decode cX11_test 102 = .ok (.aload_n 0, 1) := by decide +kernel
theorem dX11_test_103 : decode cX11_test 103 = .ok (.invokevirtual 121, 3) := by decide +kernel
theorem dX11_test_106 : decode cX11_test 106 = .ok (.aload_n 0, 1) := by decide +kernel
theorem dX11_test_107 : decode cX11_test 107 = .ok (.aload_n 0, 1) := by decide +kernel
theorem dX11_test_108 : decode cX11_test 108 = .ok (.getfield 92, 3) := by decide +kernel
theorem dX11_test_111 : decode cX11_test 111 = .ok (.invokevirtual 95, 3) := by decide +kernel
theorem dX11_test_114 : decode cX11_test 114 = .ok (.istore_n 1, 1) := by decide +kernel
theorem dX11_test_115 : decode cX11_test 115 = .ok (.iload_n 1, 1) := by decide +kernel
theorem dX11_test_116 : decode cX11_test 116 = .ok (.bipush 60, 2) := by decide +kernel
theorem dX11_test_118 : decode cX11_test 118 = .ok (.if_icmp .eq 24, 3) := by decide +kernel
theorem dX11_test_121 : decode cX11_test 121 = .ok (.iload_n 1, 1) := by decide +kernel
theorem dX11_test_122 : decode cX11_test 122 = .ok (.bipush 62, 2) := by decide +kernel
theorem dX11_test_124 : decode cX11_test 124 = .ok (.if_icmp .eq 18, 3) := by decide +kernel
theorem dX11_test_127 : decode cX11_test 127 = .ok (.iload_n 1, 1) := by decide +kernel
theorem dX11_test_128 : decode cX11_test 128 = .ok (.bipush 61, 2) := by decide +kernel
theorem dX11_test_130 : decode cX11_test 130 = .ok (.if_icmp .eq 12, 3) := by decide +kernel
theorem dX11_test_133 : decode cX11_test 133 = .ok (.aload_n 0, 1) := by decide +kernel
theorem dX11_test_134 : decode cX11_test 134 = .ok (.iconst 1, 1) := by decide +kernel
theorem dX11_test_135 : decode cX11_test 135 = .ok (.aload_n 0, 1) := by decide +kernel
theorem dX11_test_136 : decode cX11_test 136 = .ok (.getfield 92, 3) := by decide +kernel
theorem dX11_test_139 : decode cX11_test 139 = .ok (.invokevirtual 113, 3) := by decide +kernel
theorem dX11_test_142 : decode cX11_test 142 = .ok (.aload_n 0, 1) := by decide +kernel
theorem dX11_test_143 : decode cX11_test 143 = .ok (.dup, 1) := by decide +kernel
theorem dX11_test_144 : decode cX11_test 144 = .ok (.getfield 92, 3) := by decide +kernel
theorem dX11_test_147 : decode cX11_test 147 = .ok (.iconst 1, 1) := by decide +kernel
theorem dX11_test_148 : decode cX11_test 148 = .ok (.iadd, 1) := by decide +kernel
theorem dX11_test_149 : decode cX11_test 149 = .ok (.putfield 92, 3) := by decide +kernel
theorem dX11_test_152 : decode cX11_test 152 = .ok (.aload_n 0, 1) := by decide +kernel
theorem dX11_test_153 : decode cX11_test 153 = .ok (.invokevirtual 151, 3) := by decide +kernel
theorem dX11_test_156 : decode cX11_test 156 = .ok (.aload_n 0, 1) := by decide +kernel
theorem dX11_test_157 : decode cX11_test 157 = .ok (.iload_n 1, 1) := by decide +kernel
theorem dX11_test_158 : decode cX11_test 158 = .ok (.bipush 60, 2) := by decide +kernel
theorem dX11_test_160 : decode cX11_test 160 = .ok (.if_icmp .ne 9, 3) := by decide +kernel
theorem dX11_test_163 : decode cX11_test 163 = .ok (.sipush 10030, 3) := by decide +kernel
theorem dX11_test_166 : decode cX11_test 166 = .ok (.goto 18, 3) := by decide +kernel
theorem dX11_test_169 : decode cX11_test 169 = .ok (.iload_n 1, 1) := by decide +kernel
theorem dX11_test_170 : decode cX11_test 170 = .ok (.bipush 62, 2) := by decide +kernel
theorem dX11_test_172 : decode cX11_test 172 = .ok (.if_icmp .ne 9, 3) := by decide +kernel
theorem dX11_test_175 : decode cX11_test 175 = .ok (.sipush 10031, 3) := by decide +kernel
theorem dX11_test_178 : decode cX11_test 178 = .ok (.goto 6, 3) := by decide +kernel
theorem dX11_test_181 : decode cX11_test 181 = .ok (.sipush 10032, 3) := by decide +kernel
theorem dX11_test_184 : decode cX11_test 184 = .ok (.invokevirtual 117, 3) := by decide +kernel
theorem dX11_test_187 : decode cX11_test 187 = .ok (.return_, 1) := by decide +kernel
set_option maxRecDepth 20000 in
theorem ggX11_ands_X11_test : GoodIn wsX11_ands wsX11_test := goodIn_r _ [42, 1, 43, 14, 6, 7, 8, 5, 9, 10, 11, 12, 13, 15, 16, 17, 18, 19, 20, 21, 22, 23, 24, 25, 26, 27, 44, 45, 46, 47, 48, 49, 50, 51, 52, 2, 3, 4, 32, 33, 34, 35, 36, 37, 53, 54, 55, 56, 57, 58, 59, 60, 61, 62, 63, 64, 65, 66, 67, 68, 69, 70, 71, 72, 73, 74, 75, 76, 77, 78, 79, 80, 81, 82, 83, 28, 29, 30, 31, 0, 38, 39, 40, 41, 84, 85, 86, 87, 88, 89, 90, 91, 92, 93, 94, 95, 96, 97, 98, 99, 100, 101, 102, 103, 104, 105, 106, 107, 108, 109, 110, 111, 112, 113, 114, 115, 116, 117, 118, 119, 120, 121, 122, 123, 124, 125] (by decide +kernel) (by decide +kernel)
set_option maxRecDepth 20000 in
theorem gX11_ands_X11_test : GoodIn wsX11_ands (wsV RX11 163 RX11 yX11_test wsX11_test) := goodIn_app (goodIn_of _ (by decide +kernel)) ggX11_ands_X11_test
set_option maxRecDepth 20000 in
theorem ggX11_ands_X11_isWord : GoodIn wsX11_ands wsX11_isWord := goodIn_r _ [9, 10, 11, 12, 5, 13, 14, 15, 16, 17, 18, 19, 20, 21, 22, 23, 24, 25, 26, 27, 84, 85, 86, 87, 88, 89, 90, 91, 92, 93, 94, 95, 96, 97, 98, 99, 100, 101, 102, 103, 104, 105, 106, 107, 108, 109, 110, 111, 112, 113, 114, 115, 116, 117, 118, 119, 120, 121, 122, 123, 124, 125] (by decide +kernel) (by decide +kernel)
set_option maxRecDepth 20000 in
theorem gX11_ands_X11_isWord : GoodIn wsX11_ands (wsV RX11 135 RX11 yX11_isWord wsX11_isWord) := goodIn_app (goodIn_of _ (by decide +kernel)) ggX11_ands_X11_isWord
set_option maxRecDepth 20000 in
theorem ggX11_ands_X11_skipWord : GoodIn wsX11_ands wsX11_skipWord := goodIn_r _ [31, 14, 19, 20, 21, 5, 22, 23, 24, 84, 85, 86, 87, 88, 89, 90, 91, 92, 93, 94, 95, 96, 97, 98, 99, 100, 101, 102, 103, 104, 105, 106, 107, 108, 109, 110, 111, 112, 113, 114, 115, 116, 117, 118, 119, 120, 121, 122, 123, 124, 125] (by decide +kernel) (by decide +kernel)
set_option maxRecDepth 20000 in
theorem gX11_ands_X11_skipWord : GoodIn wsX11_ands (wsV RX11 145 RX11 yX11_skipWord wsX11_skipWord) := goodIn_app (goodIn_of _ (by decide +kernel)) ggX11_ands_X11_skipWord
set_option maxRecDepth 20000 in
theorem ggX11_ands_X11_tells : GoodIn wsX11_ands wsX11_tells := goodIn_r _ [35, 1, 36, 37, 84, 85, 86, 87, 88, 89, 90, 91, 92, 93, 94, 95, 96, 97, 98, 99, 100, 101, 102, 103, 104, 105, 106, 107, 108, 109, 110, 111, 112, 113, 114, 115, 116, 117, 118, 119, 120, 121, 122, 123, 124, 125] (by decide +kernel) (by decide +kernel)
set_option maxRecDepth 20000 in
theorem gX11_ands_X11_tells : GoodIn wsX11_ands (wsV RX11 117 RX11 yX11_tells wsX11_tells) := goodIn_app (goodIn_of _ (by decide +kernel)) ggX11_ands_X11_tells
theorem dX11_ands_0 : decode cX11_ands 0 = .ok (.aload_n 0, 1) := by decide +kernel
theorem dX11_ands_1 : decode cX11_ands 1 = .ok (.invokevirtual 163, 3) := by decide +kernel
theorem dX11_ands_4 : decode cX11_ands 4 = .ok (.aload_n 0, 1) := by decide +kernel
theorem dX11_ands_5 : decode cX11_ands 5 = .ok (.getfield 99, 3) := by decide +kernel
theorem dX11_ands_8 : decode cX11_ands 8 = .ok (.ifCond .ne 35, 3) := by decide +kernel
theorem dX11_ands_11 : decode cX11_ands 11 = .ok (.aload_n 0, 1) := by decide +kernel
theorem dX11_ands_12 : decode cX11_ands 12 = .ok (.iconst 1, 1) := by decide +kernel
theorem dX11_ands_13 : decode cX11_ands 13 = .ok (.bipush 14, 2) := by decide +kernel
theorem dX11_ands_15 : decode cX11_ands 15 = .ok (.iconst 4, 1) := by decide +kernel
theorem dX11_ands_16 : decode cX11_ands 16 = .ok (.iconst 0, 1) := by decide +kernel
theorem dX11_ands_17 : decode cX11_ands 17 = .ok (.iconst 0, 1) := by decide +kernel
theorem dX11_ands_18 : decode cX11_ands 18 = .ok (.iconst 0, 1) := by decide +kernel
theorem dX11_ands_19 : decode cX11_ands 19 = .ok (.invokevirtual 135, 3) := by decide +kernel
theorem dX11_ands_22 : decode cX11_ands 22 = .ok (.ifCond .eq 21, 3) := by decide +kernel
theorem dX11_ands_25 : decode cX11_ands 25 = .ok (.aload_n 0, 1) := by decide +kernel
theorem dX11_ands_26 : decode cX11_ands 26 = .ok (.invokevirtual 145, 3) := by decide +kernel
theorem dX11_ands_29 : decode cX11_ands 29 = .ok (.aload_n 0, 1) := by decide +kernel
theorem dX11_ands_30 : decode cX11_ands 30 = .ok (.invokevirtual 163, 3) := by decide +kernel
theorem dX11_ands_33 : decode cX11_ands 33 = .ok (.aload_n 0, 1) := by decide +kernel
theorem dX11_ands_34 : decode cX11_ands 34 = .ok (.sipush 10034, 3) := by decide +kernel
theorem dX11_ands_37 : decode cX11_ands 37 = .ok (.invokevirtual 117, 3) := by decide +kernel
theorem dX11_ands_40 : decode cX11_ands 40 = .ok (.goto (-36), 3) := by decide +kernel
theorem dX11_ands_43 : decode cX11_ands 43 = .ok (.return_, 1) := by decide +kernel
set_option maxRecDepth 20000 in
theorem ggX11_ors_X11_ands : GoodIn wsX11_ors wsX11_ands := goodIn_r _ [38, 1, 39, 40, 41, 5, 6, 7, 8, 9, 10, 11, 12, 13, 14, 15, 16, 17, 18, 19, 20, 21, 22, 23, 24, 25, 26, 27, 28, 29, 30, 31, 32, 33, 34, 35, 36, 37, 0, 2, 3, 4, 42, 43, 44, 45, 46, 47, 48, 49, 50, 51, 52, 53, 54, 55, 56, 57, 58, 59, 60, 61, 62, 63, 64, 65, 66, 67, 68, 69, 70, 71, 72, 73, 74, 75, 76, 77, 78, 79, 80, 81, 82, 83, 84, 85, 86, 87, 88, 89, 90, 91, 92, 93, 94, 95, 96, 97, 98, 99, 100, 101, 102, 103, 104, 105, 106, 107, 108, 109, 110, 111, 112, 113, 114, 115, 116, 117, 118, 119, 120, 121, 122, 123, 124, 125] (by decide +kernel) (by decide +kernel)
set_option maxRecDepth 20000 in
theorem gX11_ors_X11_ands : GoodIn wsX11_ors (wsV RX11 169 RX11 yX11_ands wsX11_ands) := goodIn_app (goodIn_of _ (by decide +kernel)) ggX11_ors_X11_ands
set_option maxRecDepth 20000 in
theorem ggX11_ors_X11_isWord : GoodIn wsX11_ors wsX11_isWord := goodIn_r _ [9, 10, 11, 12, 5, 13, 14, 15, 16, 17, 18, 19, 20, 21, 22, 23, 24, 25, 26, 27, 84, 85, 86, 87, 88, 89, 90, 91, 92, 93, 94, 95, 96, 97, 98, 99, 100, 101, 102, 103, 104, 105, 106, 107, 108, 109, 110, 111, 112, 113, 114, 115, 116, 117, 118, 119, 120, 121, 122, 123, 124, 125] (by decide +kernel) (by decide +kernel)
set_option maxRecDepth 20000 in
theorem gX11_ors_X11_isWord : GoodIn wsX11_ors (wsV RX11 135 RX11 yX11_isWord wsX11_isWord) := goodIn_app (goodIn_of _ (by decide +kernel)) ggX11_ors_X11_isWord
set_option maxRecDepth 20000 in
theorem ggX11_ors_X11_skipWord : GoodIn wsX11_ors wsX11_skipWord := goodIn_r _ [31, 14, 19, 20, 21, 5, 22, 23, 24, 84, 85, 86, 87, 88, 89, 90, 91, 92, 93, 94, 95, 96, 97, 98, 99, 100, 101, 102, 103, 104, 105, 106, 107, 108, 109, 110, 111, 112, 113, 114, 115, 116, 117, 118, 119, 120, 121, 122, 123, 124, 125] (by decide +kernel) (by decide +kernel)
set_option maxRecDepth 20000 in
theorem gX11_ors_X11_skipWord : GoodIn wsX11_ors (wsV RX11 145 RX11 yX11_skipWord wsX11_skipWord) := goodIn_app (goodIn_of _ (by decide +kernel)) ggX11_ors_X11_skipWord
set_option maxRecDepth 20000 in
theorem ggX11_ors_X11_tells : GoodIn wsX11_ors wsX11_tells := goodIn_r _ [35, 1, 36, 37, 84, 85, 86, 87, 88, 89, 90, 91, 92, 93, 94, 95, 96, 97, 98, 99, 100, 101, 102, 103, 104, 105, 106, 107, 108, 109, 110, 111, 112, 113, 114, 115, 116, 117, 118, 119, 120, 121, 122, 123, 124, 125] (by decide +kernel) (by decide +kernel)
set_option maxRecDepth 20000 in
theorem gX11_ors_X11_tells : GoodIn wsX11_ors (wsV RX11 117 RX11 yX11_tells wsX11_tells) := goodIn_app (goodIn_of _ (by decide +kernel)) ggX11_ors_X11_tells
theorem dX11_ors_0 : decode cX11_ors 0 = .ok (.aload_n 0, 1) := by decide +kernel
theorem dX11_ors_1 : decode cX11_ors 1 = .ok (.invokevirtual 169, 3) := by decide +kernel
theorem dX11_ors_4 : decode cX11_ors 4 = .ok (.aload_n 0, 1) := by decide +kernel
theorem dX11_ors_5 : decode cX11_ors 5 = .ok (.getfield 99, 3) := by decide +kernel
theorem dX11_ors_8 : decode cX11_ors 8 = .ok (.ifCond .ne 36, 3) := by decide +kernel
theorem dX11_ors_11 : decode cX11_ors 11 = .ok (.aload_n 0, 1) := by decide +kernel
theorem dX11_ors_12 : decode cX11_ors 12 = .ok (.bipush 15, 2) := by decide +kernel
theorem dX11_ors_14 : decode cX11_ors 14 = .ok (.bipush 18, 2) := by decide +kernel
theorem dX11_ors_16 : decode cX11_ors 16 = .ok (.iconst 0, 1) := by decide +kernel
theorem dX11_ors_17 : decode cX11_ors 17 = .ok (.iconst 0, 1) := by decide +kernel
theorem dX11_ors_18 : decode cX11_ors 18 = .ok (.iconst 0, 1) := by decide +kernel
theorem dX11_ors_19 : decode cX11_ors 19 = .ok (.iconst 0, 1) := by decide +kernel
theorem dX11_ors_20 : decode cX11_ors 20 = .ok (.invokevirtual 135, 3) := by decide +kernel
theorem dX11_ors_23 : decode cX11_ors 23 = .ok (.ifCond .eq 21, 3) := by decide +kernel
theorem dX11_ors_26 : decode cX11_ors 26 = .ok (.aload_n 0, 1) := by decide +kernel
theorem dX11_ors_27 : decode cX11_ors 27 = .ok (.invokevirtual 145, 3) := by decide +kernel
theorem dX11_ors_30 : decode cX11_ors 30 = .ok (.aload_n 0, 1) := by decide +kernel
theorem dX11_ors_31 : decode cX11_ors 31 = .ok (.invokevirtual 169, 3) := by decide +kernel
theorem dX11_ors_34 : decode cX11_ors 34 = .ok (.aload_n 0, 1) := by decide +kernel
theorem dX11_ors_35 : decode cX11_ors 35 = .ok (.sipush 10035, 3) := by decide +kernel
theorem dX11_ors_38 : decode cX11_ors 38 = .ok (.invokevirtual 117, 3) := by decide +kernel
theorem dX11_ors_41 : decode cX11_ors 41 = .ok (.goto (-37), 3) := by decide +kernel
theorem dX11_ors_44 : decode cX11_ors 44 = .ok (.return_, 1) := by decide +kernel
set_option maxRecDepth 20000 in
theorem ggX11_clause_X11_isWord : GoodIn wsX11_clause wsX11_isWord := goodIn_r _ [7, 8, 9, 10, 6, 11, 1, 12, 13, 14, 15, 16, 17, 18, 19, 20, 21, 22, 23, 24, 85, 86, 87, 88, 89, 90, 91, 92, 93, 94, 95, 96, 97, 98, 99, 100, 101, 102, 103, 104, 105, 106, 107, 108, 109, 110, 111, 112, 113, 114, 115, 116, 117, 118, 119, 120, 121, 122, 123, 124, 125, 126] (by decide +kernel) (by decide +kernel)
set_option maxRecDepth 20000 in
theorem gX11_clause_X11_isWord : GoodIn wsX11_clause (wsV RX11 135 RX11 yX11_isWord wsX11_isWord) := goodIn_app (goodIn_of _ (by decide +kernel)) ggX11_clause_X11_isWord
set_option maxRecDepth 20000 in
theorem ggX11_clause_X11_wrong : GoodIn wsX11_clause wsX11_wrong := goodIn_r _ [28, 2, 29, 85, 86, 87, 88, 89, 90, 91, 92, 93, 94, 95, 96, 97, 98, 99, 100, 101, 102, 103, 104, 105, 106, 107, 108, 109, 110, 111, 112, 113, 114, 115, 116, 117, 118, 119, 120, 121, 122, 123, 124, 125, 126] (by decide +kernel) (by decide +kernel)
set_option maxRecDepth 20000 in
theorem gX11_clause_X11_wrong : GoodIn wsX11_clause (wsV RX11 113 RX11 yX11_wrong wsX11_wrong) := goodIn_app (goodIn_of _ (by decide +kernel)) ggX11_clause_X11_wrong
set_option maxRecDepth 20000 in
theorem ggX11_clause_X11_skipWord : GoodIn wsX11_clause wsX11_skipWord := goodIn_r _ [33, 1, 16, 17, 18, 6, 19, 20, 21, 85, 86, 87, 88, 89, 90, 91, 92, 93, 94, 95, 96, 97, 98, 99, 100, 101, 102, 103, 104, 105, 106, 107, 108, 109, 110, 111, 112, 113, 114, 115, 116, 117, 118, 119, 120, 121, 122, 123, 124, 125, 126] (by decide +kernel) (by decide +kernel)
set_option maxRecDepth 20000 in
theorem gX11_clause_X11_skipWord : GoodIn wsX11_clause (wsV RX11 145 RX11 yX11_skipWord wsX11_skipWord) := goodIn_app (goodIn_of _ (by decide +kernel)) ggX11_clause_X11_skipWord
set_option maxRecDepth 20000 in
theorem ggX11_clause_X11_sum : GoodIn wsX11_clause wsX11_sum := goodIn_r _ [37, 2, 1, 38, 39, 40, 6, 12, 13, 14, 15, 16, 17, 18, 19, 20, 21, 41, 42, 43, 44, 45, 46, 47, 48, 49, 50, 51, 52, 53, 54, 55, 56, 57, 58, 59, 60, 25, 26, 27, 28, 29, 61, 62, 63, 64, 3, 4, 5, 7, 8, 9, 10, 11, 22, 23, 24, 30, 31, 32, 33, 65, 66, 67, 68, 34, 35, 36, 69, 70, 71, 72, 85, 86, 87, 88, 89, 90, 91, 92, 93, 94, 95, 96, 97, 98, 99, 100, 101, 102, 103, 104, 105, 106, 107, 108, 109, 110, 111, 112, 113, 114, 115, 116, 117, 118, 119, 120, 121, 122, 123, 124, 125, 126] (by decide +kernel) (by decide +kernel)
set_option maxRecDepth 20000 in
theorem gX11_clause_X11_sum : GoodIn wsX11_clause (wsV RX11 151 RX11 yX11_sum wsX11_sum) := goodIn_app (goodIn_of _ (by decide +kernel)) ggX11_clause_X11_sum
set_option maxRecDepth 20000 in
theorem ggX11_clause_X11_ors : GoodIn wsX11_clause wsX11_ors := goodIn_r _ [76, 2, 77, 78, 79, 6, 3, 4, 5, 7, 8, 9, 10, 11, 1, 12, 13, 14, 15, 16, 17, 18, 19, 20, 21, 22, 23, 24, 30, 31, 32, 33, 41, 42, 43, 44, 45, 46, 80, 81, 82, 83, 84, 52, 65, 66, 67, 68, 25, 26, 27, 28, 29, 73, 74, 75, 69, 70, 71, 72, 34, 35, 36, 37, 38, 39, 40, 47, 48, 49, 50, 51, 53, 54, 55, 56, 57, 58, 59, 60, 61, 62, 63, 64, 85, 86, 87, 88, 89, 90, 91, 92, 93, 94, 95, 96, 97, 98, 99, 100, 101, 102, 103, 104, 105, 106, 107, 108, 109, 110, 111, 112, 113, 114, 115, 116, 117, 118, 119, 120, 121, 122, 123, 124, 125, 126] (by decide +kernel) (by decide +kernel)
set_option maxRecDepth 20000 in
theorem gX11_clause_X11_ors : GoodIn wsX11_clause (wsV RX11 166 RX11 yX11_ors wsX11_ors) := goodIn_app (goodIn_of _ (by decide +kernel)) ggX11_clause_X11_ors
set_option maxRecDepth 20000 in
theorem ggX11_clause_X11_sign : GoodIn wsX11_clause wsX11_sign := goodIn_r _ [72, 2, 1, 12, 13, 14, 6, 15, 16, 17, 18, 19, 20, 21, 25, 26, 27, 28, 29, 85, 86, 87, 88, 89, 90, 91, 92, 93, 94, 95, 96, 97, 98, 99, 100, 101, 102, 103, 104, 105, 106, 107, 108, 109, 110, 111, 112, 113, 114, 115, 116, 117, 118, 119, 120, 121, 122, 123, 124, 125, 126] (by decide +kernel) (by decide +kernel)
set_option maxRecDepth 20000 in
theorem gX11_clause_X11_sign : GoodIn wsX11_clause (wsV RX11 154 RX11 yX11_sign wsX11_sign) := goodIn_app (goodIn_of _ (by decide +kernel)) ggX11_clause_X11_sign
set_option maxRecDepth 20000 in
theorem ggX11_clause_X11_tells : GoodIn wsX11_clause wsX11_tells := goodIn_r _ [44, 2, 45, 46, 85, 86, 87, 88, 89, 90, 91, 92, 93, 94, 95, 96, 97, 98, 99, 100, 101, 102, 103, 104, 105, 106, 107, 108, 109, 110, 111, 112, 113, 114, 115, 116, 117, 118, 119, 120, 121, 122, 123, 124, 125, 126] (by decide +kernel) (by decide +kernel)
set_option maxRecDepth 20000 in
theorem gX11_clause_X11_tells : GoodIn wsX11_clause (wsV RX11 117 RX11 yX11_tells wsX11_tells) := goodIn_app (goodIn_of _ (by decide +kernel)) ggX11_clause_X11_tells
theorem dX11_clause_0 : decode cX11_clause 0 = .ok (.aload_n 0, 1) := by decide +kernel
theorem dX11_clause_1 : decode cX11_clause 1 = .ok (.bipush 12, 2) := by decide +kernel
theorem dX11_clause_3 : decode cX11_clause 3 = .ok (.bipush 9, 2) := by decide +kernel
theorem dX11_clause_5 : decode cX11_clause 5 = .ok (.bipush 6, 2) := by decide +kernel
theorem dX11_clause_7 : decode cX11_clause 7 = .ok (.bipush 20, 2) := by decide +kernel
theorem dX11_clause_9 : decode cX11_clause 9 = .ok (.iconst 0, 1) := by decide +kernel
theorem dX11_clause_10 : decode cX11_clause 10 = .ok (.iconst 0, 1) := by decide +kernel
theorem dX11_clause_11 : decode cX11_clause 11 = .ok (.invokevirtual 135, 3) := by decide +kernel
theorem dX11_clause_14 : decode cX11_clause 14 = .ok (.istore_n 2, 1) := by decide +kernel
theorem dX11_clause_15 : decode cX11_clause 15 = .ok (.aload_n 0, 1) := by decide +kernel
theorem dX11_clause_16 : decode cX11_clause 16 = .ok (.bipush 20, 2) := by decide +kernel
theorem dX11_clause_18 : decode cX11_clause 18 = .ok (.bipush 23, 2) := by decide +kernel
theorem dX11_clause_20 : decode cX11_clause 20 = .ok (.bipush 9, 2) := by decide +kernel
theorem dX11_clause_22 : decode cX11_clause 22 = .ok (.bipush 19, 2) := by decide +kernel
theorem dX11_clause_24 : decode cX11_clause 24 = .ok (.bipush 20, 2) := by decide +kernel
theorem dX11_clause_26 : decode cX11_clause 26 = .ok (.iconst 0, 1) := by decide +kernel
theorem dX11_clause_27 : decode cX11_clause 27 = .ok (.invokevirtual 135, 3) := by decide +kernel
theorem dX11_clause_30 : decode cX11_clause 30 = .ok (.istore_n 3, 1) := by decide +kernel
theorem dX11_clause_31 : decode cX11_clause 31 = .ok (.iload_n 2, 1) := by decide +kernel
theorem dX11_clause_32 : decode cX11_clause 32 = .ok (.ifCond .ne 19, 3) := by decide +kernel
theorem dX11_clause_35 : decode cX11_clause 35 = .ok (.iload_n 3, 1) := by decide +kernel
theorem dX11_clause_36 : decode cX11_clause 36 = .ok (.ifCond .ne 15, 3) := by decide +kernel
theorem dX11_clause_39 : decode cX11_clause 39 = .ok (.aload_n 0, 1) := by decide +kernel
theorem dX11_clause_40 : decode cX11_clause 40 = .ok (.iconst 1, 1) := by decide +kernel
theorem dX11_clause_41 : decode cX11_clause 41 = .ok (.aload_n 0, 1) := by decide +kernel
theorem dX11_clause_42 : decode cX11_clause 42 = .ok (.getfield 92, 3) := by decide +kernel
theorem dX11_clause_45 : decode cX11_clause 45 = .ok (.invokevirtual 113, 3) := by decide +kernel
theorem dX11_clause_48 : decode cX11_clause 48 = .ok (.goto 18, 3) := by decide +kernel
theorem dX11_clause_51 : decode cX11_clause 51 = .ok (.iload_n 1, 1) := by decide +kernel
theorem dX11_clause_52 : decode cX11_clause 52 = .ok (.bipush 12, 2) := by decide +kernel
theorem dX11_clause_54 : decode cX11_clause 54 = .ok (.if_icmp .ne 12, 3) := by decide +kernel
theorem dX11_clause_57 : decode cX11_clause 57 = .ok (.aload_n 0, 1) := by decide +kernel
theorem dX11_clause_58 : decode cX11_clause 58 = .ok (.iconst 3, 1) := by decide +kernel
theorem dX11_clause_59 : decode cX11_clause 59 = .ok (.aload_n 0, 1) := by decide +kernel
theorem dX11_clause_60 : decode cX11_clause 60 = .ok (.getfield 92, 3) := by decide +kernel
theorem dX11_clause_63 : decode cX11_clause 63 = .ok (.invokevirtual 113, 3) := by decide +kernel
theorem dX11_clause_66 : decode cX11_clause 66 = .ok (.aload_n 0, 1) := by decide +kernel
theorem dX11_clause_67 : decode cX11_clause 67 = .ok (.getfield 99, 3) := by decide +kernel
theorem dX11_clause_70 : decode cX11_clause 70 = .ok (.ifCond .eq 4, 3) := by decide +kernel
theorem dX11_clause_73 : decode cX11_clause 73 = .ok (.return_, 1) := by decide +kernel
theorem dX11_clause_74 : decode cX11_clause 74 = .ok (.aload_n 0, 1) := by decide +kernel
theorem dX11_clause_75 : decode cX11_clause 75 = .ok (.invokevirtual 145, 3) := by decide +kernel
theorem dX11_clause_78 : decode cX11_clause 78 = .ok (.aload_n 0, 1) := by decide +kernel
theorem dX11_clause_79 : decode cX11_clause 79 = .ok (.invokevirtual 151, 3) := by decide +kernel

theorem dX11_mended_89 : decode cX11_mended 89 = .ok (.if_icmp .eq 13, 3) := by decide +kernel
theorem dX11_mended_92 : decode cX11_mended 92 = .ok (.iload 6, 2) := by decide +kernel
theorem dX11_mended_94 : decode cX11_mended 94 = .ok (.iload 4, 2) := by decide +kernel
theorem dX11_mended_96 : decode cX11_mended 96 = .ok (.if_icmp .lt 6, 3) := by decide +kernel
theorem dX11_mended_99 : decode cX11_mended 99 = .ok (.goto 114, 3) := by decide +kernel
theorem dX11_mended_102 : decode cX11_mended 102 = .ok (.iconst 0, 1) := by decide +kernel
theorem dX11_mended_103 : decode cX11_mended 103 = .ok (.istore 7, 2) := by decide +kernel
theorem dX11_mended_105 : decode cX11_mended 105 = .ok (.iload 7, 2) := by decide +kernel
theorem dX11_mended_107 : decode cX11_mended 107 = .ok (.bipush 10, 2) := by decide +kernel
theorem dX11_mended_109 : decode cX11_mended 109 = .ok (.if_icmp .ge 23, 3) := by decide +kernel
theorem dX11_mended_112 : decode cX11_mended 112 = .ok (.aload_n 0, 1) := by decide +kernel
theorem dX11_mended_113 : decode cX11_mended 113 = .ok (.getfield 62, 3) := by decide +kernel
theorem dX11_mended_116 : decode cX11_mended 116 = .ok (.iload 7, 2) := by decide +kernel
theorem dX11_mended_118 : decode cX11_mended 118 = .ok (.aload_n 0, 1) := by decide +kernel
theorem dX11_mended_119 : decode cX11_mended 119 = .ok (.getfield 40, 3) := by decide +kernel
theorem dX11_mended_122 : decode cX11_mended 122 = .ok (.iload 7, 2) := by decide +kernel
theorem dX11_mended_124 : decode cX11_mended 124 = .ok (.iaload, 1) := by decide +kernel
theorem dX11_mended_125 : decode cX11_mended 125 = .ok (.iastore, 1) := by decide +kernel
theorem dX11_mended_126 : decode cX11_mended 126 = .ok (.iinc 7 1, 3) := by decide +kernel
theorem dX11_mended_129 : decode cX11_mended 129 = .ok (.goto (-24), 3) := by decide +kernel
theorem dX11_mended_132 : decode cX11_mended 132 = .ok (.iconst 0, 1) := by decide +kernel
theorem dX11_mended_133 : decode cX11_mended 133 = .ok (.istore 7, 2) := by decide +kernel
theorem dX11_mended_135 : decode cX11_mended 135 = .ok (.iload 7, 2) := by decide +kernel
theorem dX11_mended_137 : decode cX11_mended 137 = .ok (.aload_n 0, 1) := by decide +kernel
theorem dX11_mended_138 : decode cX11_mended 138 = .ok (.getfield 283, 3) := by decide +kernel
theorem dX11_mended_141 : decode cX11_mended 141 = .ok (.if_icmp .ge 26, 3) := by decide +kernel
theorem dX11_mended_144 : decode cX11_mended 144 = .ok (.iload 5, 2) := by decide +kernel
theorem dX11_mended_146 : decode cX11_mended 146 = .ok (.iload 7, 2) := by decide +kernel
theorem dX11_mended_148 : decode cX11_mended 148 = .ok (.ishr, 1) := by decide +kernel
theorem dX11_mended_149 : decode cX11_mended 149 = .ok (.iconst 1, 1) := by decide +kernel
theorem dX11_mended_150 : decode cX11_mended 150 = .ok (.iand, 1) := by decide +kernel
theorem dX11_mended_151 : decode cX11_mended 151 = .ok (.iconst 1, 1) := by decide +kernel
theorem dX11_mended_152 : decode cX11_mended 152 = .ok (.if_icmp .ne 9, 3) := by decide +kernel
theorem dX11_mended_155 : decode cX11_mended 155 = .ok (.aload_n 0, 1) := by decide +kernel
theorem dX11_mended_156 : decode cX11_mended 156 = .ok (.iload 7, 2) := by decide +kernel
theorem dX11_mended_158 : decode cX11_mended 158 = .ok (.invokevirtual 289, 3) := by decide +kernel
theorem dX11_mended_161 : decode cX11_mended 161 = .ok (.iinc 7 1, 3) := by decide +kernel
theorem dX11_mended_164 : decode cX11_mended 164 = .ok (.goto (-29), 3) := by decide +kernel
theorem dX11_mended_167 : decode cX11_mended 167 = .ok (.aload_n 0, 1) := by decide +kernel
theorem dX11_mended_168 : decode cX11_mended 168 = .ok (.iload_n 1, 1) := by decide +kernel
theorem dX11_mended_169 : decode cX11_mended 169 = .ok (.iload_n 2, 1) := by decide +kernel
theorem dX11_mended_170 : decode cX11_mended 170 = .ok (.invokevirtual 286, 3) := by decide +kernel
theorem dX11_mended_173 : decode cX11_mended 173 = .ok (.ifCond .eq 10, 3) := by decide +kernel
theorem dX11_mended_176 : decode cX11_mended 176 = .ok (.iload 5, 2) := by decide +kernel
theorem dX11_mended_178 : decode cX11_mended 178 = .ok (.istore_n 3, 1) := by decide +kernel
theorem dX11_mended_179 : decode cX11_mended 179 = .ok (.iload 6, 2) := by decide +kernel
theorem dX11_mended_181 : decode cX11_mended 181 = .ok (.istore 4, 2) := by decide +kernel
theorem dX11_mended_183 : decode cX11_mended 183 = .ok (.iconst 0, 1) := by decide +kernel
theorem dX11_mended_184 : decode cX11_mended 184 = .ok (.istore 7, 2) := by decide +kernel
theorem dX11_mended_186 : decode cX11_mended 186 = .ok (.iload 7, 2) := by decide +kernel
theorem dX11_mended_188 : decode cX11_mended 188 = .ok (.bipush 10, 2) := by decide +kernel
theorem dX11_mended_190 : decode cX11_mended 190 = .ok (.if_icmp .ge 23, 3) := by decide +kernel
theorem dX11_mended_193 : decode cX11_mended 193 = .ok (.aload_n 0, 1) := by decide +kernel
theorem dX11_mended_194 : decode cX11_mended 194 = .ok (.getfield 40, 3) := by decide +kernel
theorem dX11_mended_197 : decode cX11_mended 197 = .ok (.iload 7, 2) := by decide +kernel
theorem dX11_mended_199 : decode cX11_mended 199 = .ok (.aload_n 0, 1) := by decide +kernel
theorem dX11_mended_200 : decode cX11_mended 200 = .ok (.getfield 62, 3) := by decide +kernel
theorem dX11_mended_203 : decode cX11_mended 203 = .ok (.iload 7, 2) := by decide +kernel
theorem dX11_mended_205 : decode cX11_mended 205 = .ok (.iaload, 1) := by decide +kernel
theorem dX11_mended_206 : decode cX11_mended 206 = .ok (.iastore, 1) := by decide +kernel
theorem dX11_mended_207 : decode cX11_mended 207 = .ok (.iinc 7 1, 3) := by decide +kernel
theorem dX11_mended_210 : decode cX11_mended 210 = .ok (.goto (-24), 3) := by decide +kernel
theorem dX11_mended_213 : decode cX11_mended 213 = .ok (.iinc 5 1, 3) := by decide +kernel
theorem dX11_mended_216 : decode cX11_mended 216 = .ok (.goto (-190), 3) := by decide +kernel
theorem dX11_mended_219 : decode cX11_mended 219 = .ok (.iload_n 3, 1) := by decide +kernel
theorem dX11_mended_220 : decode cX11_mended 220 = .ok (.ireturn, 1) := by decide +kernel
set_option maxRecDepth 20000 in
theorem ggX11_calmTo_X11_isCalm : GoodIn wsX11_calmTo wsX11_isCalm := goodIn_r _ [5, 6, 7, 8, 4, 9, 10, 11, 12, 13, 14, 15, 16, 17, 18, 19, 20, 21, 22, 23, 24, 25, 26, 27, 28, 29, 30, 31, 32, 33, 34, 35, 36, 37, 38, 39, 40, 41, 42, 43, 44, 45, 46, 47, 48, 49, 50, 51, 52, 53, 54, 55, 56, 57, 58, 59, 60, 61, 62, 63, 64, 65, 66, 67, 68, 69, 70, 71, 72, 73, 74, 75, 76, 77, 78, 79, 80, 81, 82, 83, 84, 85, 86, 87, 88, 89, 90, 91, 92, 93, 94, 95, 96, 97, 98, 99, 100, 101, 102, 103, 104, 105, 106, 107, 108, 109, 110, 111, 112, 113, 114, 115, 116, 117, 118, 119, 120, 121, 122] (by decide +kernel) (by decide +kernel)
set_option maxRecDepth 20000 in
theorem gX11_calmTo_X11_isCalm : GoodIn wsX11_calmTo (wsV RX11 286 RX11 yX11_isCalm wsX11_isCalm) := goodIn_app (goodIn_of _ (by decide +kernel)) ggX11_calmTo_X11_isCalm
theorem dX11_calmTo_0 : decode cX11_calmTo 0 = .ok (.iconst 0, 1) := by decide +kernel
theorem dX11_calmTo_1 : decode cX11_calmTo 1 = .ok (.istore_n 2, 1) := by decide +kernel
theorem dX11_calmTo_2 : decode cX11_calmTo 2 = .ok (.iload_n 2, 1) := by decide +kernel
theorem dX11_calmTo_3 : decode cX11_calmTo 3 = .ok (.bipush 12, 2) := by decide +kernel
theorem dX11_calmTo_5 : decode cX11_calmTo 5 = .ok (.if_icmp .gt 22, 3) := by decide +kernel
theorem dX11_calmTo_8 : decode cX11_calmTo 8 = .ok (.aload_n 0, 1) := by decide +kernel
theorem dX11_calmTo_9 : decode cX11_calmTo 9 = .ok (.iload_n 1, 1) := by decide +kernel
theorem dX11_calmTo_10 : decode cX11_calmTo 10 = .ok (.iload_n 2, 1) := by decide +kernel
theorem dX11_calmTo_11 : decode cX11_calmTo 11 = .ok (.invokevirtual 286, 3) := by decide +kernel
theorem dX11_calmTo_14 : decode cX11_calmTo 14 = .ok (.ifCond .ne 7, 3) := by decide +kernel
theorem dX11_calmTo_17 : decode cX11_calmTo 17 = .ok (.iload_n 2, 1) := by decide +kernel
theorem dX11_calmTo_18 : decode cX11_calmTo 18 = .ok (.iconst 1, 1) := by decide +kernel
theorem dX11_calmTo_19 : decode cX11_calmTo 19 = .ok (.isub, 1) := by decide +kernel
theorem dX11_calmTo_20 : decode cX11_calmTo 20 = .ok (.ireturn, 1) := by decide +kernel
theorem dX11_calmTo_21 : decode cX11_calmTo 21 = .ok (.iinc 2 1, 3) := by decide +kernel
theorem dX11_calmTo_24 : decode cX11_calmTo 24 = .ok (.goto (-22), 3) := by decide +kernel
theorem dX11_calmTo_27 : decode cX11_calmTo 27 = .ok (.bipush 12, 2) := by decide +kernel
theorem dX11_calmTo_29 : decode cX11_calmTo 29 = .ok (.ireturn, 1) := by decide +kernel
set_option maxRecDepth 20000 in
theorem ggX11_week_X11_isLaw : GoodIn wsX11_week wsX11_isLaw := goodIn_r _ [10, 11, 12, 13, 9, 14, 113, 114, 115, 116, 117, 118, 119, 120, 121, 122, 123, 124, 125, 126, 127, 128, 129, 130, 131, 132, 133, 134, 135, 136, 137, 138, 139, 140, 141, 142, 143, 144, 145, 146, 147, 148, 149, 150, 151, 152, 153, 154] (by decide +kernel) (by decide +kernel)
set_option maxRecDepth 20000 in
theorem gX11_week_X11_isLaw : GoodIn wsX11_week (wsV RX11 242 RX11 yX11_isLaw wsX11_isLaw) := goodIn_app (goodIn_of _ (by decide +kernel)) ggX11_week_X11_isLaw
set_option maxRecDepth 20000 in
theorem ggX11_week_X11_bad : GoodIn wsX11_week wsX11_bad := goodIn_r _ [18, 1, 113, 114, 115, 116, 117, 118, 119, 120, 121, 122, 123, 124, 125, 126, 127, 128, 129, 130, 131, 132, 133, 134, 135, 136, 137, 138, 139, 140, 141, 142, 143, 144, 145, 146, 147, 148, 149, 150, 151, 152, 153, 154] (by decide +kernel) (by decide +kernel)
set_option maxRecDepth 20000 in
theorem gX11_week_X11_bad : GoodIn wsX11_week (wsV RX11 176 RX11 yX11_bad wsX11_bad) := goodIn_app (goodIn_of _ (by decide +kernel)) ggX11_week_X11_bad
set_option maxRecDepth 20000 in
theorem ggX11_week_X11_makes : GoodIn wsX11_week wsX11_makes := goodIn_r _ [22, 23, 4, 24, 25, 9, 26, 27, 28, 29, 30, 31, 32, 33, 113, 114, 115, 116, 117, 118, 119, 120, 121, 122, 123, 124, 125, 126, 127, 128, 129, 130, 131, 132, 133, 134, 135, 136, 137, 138, 139, 140, 141, 142, 143, 144, 145, 146, 147, 148, 149, 150, 151, 152, 153, 154] (by decide +kernel) (by decide +kernel)
set_option maxRecDepth 20000 in
theorem gX11_week_X11_makes : GoodIn wsX11_week (wsV RX11 289 RX11 yX11_makes wsX11_makes) := goodIn_app (goodIn_of _ (by decide +kernel)) ggX11_week_X11_makes
set_option maxRecDepth 20000 in
theorem ggX11_week_X11_calmTo : GoodIn wsX11_week wsX11_calmTo := goodIn_r _ [37, 38, 39, 40, 9, 41, 42, 43, 44, 45, 46, 47, 48, 49, 50, 51, 52, 53, 54, 55, 56, 57, 58, 59, 60, 61, 62, 63, 64, 65, 66, 67, 68, 69, 70, 71, 72, 73, 4, 74, 75, 76, 77, 78, 79, 80, 81, 82, 83, 84, 85, 86, 87, 88, 89, 90, 91, 92, 93, 31, 32, 33, 94, 95, 96, 97, 98, 99, 100, 101, 102, 103, 104, 105, 106, 107, 108, 109, 110, 111, 112, 113, 114, 115, 116, 117, 118, 119, 120, 121, 122, 123, 124, 125, 126, 127, 128, 129, 130, 131, 132, 133, 134, 135, 136, 137, 138, 139, 140, 141, 142, 143, 144, 145, 146, 147, 148, 149, 150, 151, 152, 153, 154] (by decide +kernel) (by decide +kernel)
set_option maxRecDepth 20000 in
theorem gX11_week_X11_calmTo : GoodIn wsX11_week (wsV RX11 292 RX11 yX11_calmTo wsX11_calmTo) := goodIn_app (goodIn_of _ (by decide +kernel)) ggX11_week_X11_calmTo
theorem dX11_week_0 : decode cX11_week 0 = .ok (.aload_n 0, 1) := by decide +kernel
theorem dX11_week_1 : decode cX11_week 1 = .ok (.iconst 0, 1) := by decide +kernel
theorem dX11_week_2 : decode cX11_week 2 = .ok (.putfield 83, 3) := by decide +kernel
theorem dX11_week_5 : decode cX11_week 5 = .ok (.aload_n 0, 1) := by decide +kernel
theorem dX11_week_6 : decode cX11_week 6 = .ok (.aload_n 0, 1) := by decide +kernel
theorem dX11_week_7 : decode cX11_week 7 = .ok (.iload_n 1, 1) := by decide +kernel
theorem dX11_week_8 : decode cX11_week 8 = .ok (.invokevirtual 242, 3) := by decide +kernel
theorem dX11_week_11 : decode cX11_week 11 = .ok (.ifCond .ne 7, 3) := by decide +kernel
theorem dX11_week_14 : decode cX11_week 14 = .ok (.iconst 1, 1) := by decide +kernel
theorem dX11_week_15 : decode cX11_week 15 = .ok (.goto 4, 3) := by decide +kernel
theorem dX11_week_18 : decode cX11_week 18 = .ok (.iconst 0, 1) := by decide +kernel
theorem dX11_week_19 : decode cX11_week 19 = .ok (.iconst 1, 1) := by decide +kernel
theorem dX11_week_20 : decode cX11_week 20 = .ok (.invokevirtual 176, 3) := by decide +kernel
theorem dX11_week_23 : decode cX11_week 23 = .ok (.ifCond .ne 20, 3) := by decide +kernel
theorem dX11_week_26 : decode cX11_week 26 = .ok (.aload_n 0, 1) := by decide +kernel
theorem dX11_week_27 : decode cX11_week 27 = .ok (.iload_n 2, 1) := by decide +kernel
theorem dX11_week_28 : decode cX11_week 28 = .ok (.ifCond .ge 7, 3) := by decide +kernel
theorem dX11_week_31 : decode cX11_week 31 = .ok (.iconst 1, 1) := by decide +kernel
theorem dX11_week_32 : decode cX11_week 32 = .ok (.goto 4, 3) := by decide +kernel
theorem dX11_week_35 : decode cX11_week 35 = .ok (.iconst 0, 1) := by decide +kernel
theorem dX11_week_36 : decode cX11_week 36 = .ok (.iconst 2, 1) := by decide +kernel
theorem dX11_week_37 : decode cX11_week 37 = .ok (.invokevirtual 176, 3) := by decide +kernel
theorem dX11_week_40 : decode cX11_week 40 = .ok (.ifCond .eq 5, 3) := by decide +kernel
theorem dX11_week_43 : decode cX11_week 43 = .ok (.iconst 0, 1) := by decide +kernel
theorem dX11_week_44 : decode cX11_week 44 = .ok (.ireturn, 1) := by decide +kernel
theorem dX11_week_45 : decode cX11_week 45 = .ok (.iload_n 2, 1) := by decide +kernel
theorem dX11_week_46 : decode cX11_week 46 = .ok (.aload_n 0, 1) := by decide +kernel
theorem dX11_week_47 : decode cX11_week 47 = .ok (.getfield 283, 3) := by decide +kernel
theorem dX11_week_50 : decode cX11_week 50 = .ok (.if_icmp .lt 5, 3) := by decide +kernel
theorem dX11_week_53 : decode cX11_week 53 = .ok (.iconst (-1), 1) := by decide +kernel
theorem dX11_week_54 : decode cX11_week 54 = .ok (.ireturn, 1) := by decide +kernel
theorem dX11_week_55 : decode cX11_week 55 = .ok (.bipush 10, 2) := by decide +kernel
theorem dX11_week_57 : decode cX11_week 57 = .ok (.newarray .int, 2) := by decide +kernel
theorem dX11_week_59 : decode cX11_week 59 = .ok (.astore_n 3, 1) := by decide +kernel
theorem dX11_week_60 : decode cX11_week 60 = .ok (.iconst 0, 1) := by decide +kernel
theorem dX11_week_61 : decode cX11_week 61 = .ok (.istore 4, 2) := by decide +kernel
theorem dX11_week_63 : decode cX11_week 63 = .ok (.iload 4, 2) := by decide +kernel
theorem dX11_week_65 : decode cX11_week 65 = .ok (.bipush 10, 2) := by decide +kernel
theorem dX11_week_67 : decode cX11_week 67 = .ok (.if_icmp .ge 20, 3) := by decide +kernel
theorem dX11_week_70 : decode cX11_week 70 = .ok (.aload_n 3, 1) := by decide +kernel
theorem dX11_week_71 : decode cX11_week 71 = .ok (.iload 4, 2) := by decide +kernel
theorem dX11_week_73 : decode cX11_week 73 = .ok (.aload_n 0, 1) := by decide +kernel
theorem dX11_week_74 : decode cX11_week 74 = .ok (.getfield 40, 3) := by decide +kernel
theorem dX11_week_77 : decode cX11_week 77 = .ok (.iload 4, 2) := by decide +kernel
theorem dX11_week_79 : decode cX11_week 79 = .ok (.iaload, 1) := by decide +kernel
theorem dX11_week_80 : decode cX11_week 80 = .ok (.iastore, 1) := by decide +kernel
theorem dX11_week_81 : decode cX11_week 81 = .ok (.iinc 4 1, 3) := by decide +kernel
theorem dX11_week_84 : decode cX11_week 84 = .ok (.goto (-21), 3) := by decide +kernel
theorem dX11_week_87 : decode cX11_week 87 = .ok (.iconst 0, 1) := by decide +kernel
theorem dX11_week_88 : decode cX11_week 88 = .ok (.istore 4, 2) := by decide +kernel
theorem dX11_week_90 : decode cX11_week 90 = .ok (.iconst (-1), 1) := by decide +kernel
theorem dX11_week_91 : decode cX11_week 91 = .ok (.istore 5, 2) := by decide +kernel
theorem dX11_week_93 : decode cX11_week 93 = .ok (.iconst 0, 1) := by decide +kernel
theorem dX11_week_94 : decode cX11_week 94 = .ok (.istore 6, 2) := by decide +kernel
theorem dX11_week_96 : decode cX11_week 96 = .ok (.iload 6, 2) := by decide +kernel
theorem dX11_week_98 : decode cX11_week 98 = .ok (.iload_n 2, 1) := by decide +kernel
theorem dX11_week_99 : decode cX11_week 99 = .ok (.if_icmp .gt 163, 3) := by decide +kernel
theorem dX11_week_102 : decode cX11_week 102 = .ok (.iconst (-1), 1) := by decide +kernel
theorem dX11_week_103 : decode cX11_week 103 = .ok (.istore 7, 2) := by decide +kernel
theorem dX11_week_105 : decode cX11_week 105 = .ok (.iconst 0, 1) := by decide +kernel
theorem dX11_week_106 : decode cX11_week 106 = .ok (.istore 8, 2) := by decide +kernel
theorem dX11_week_108 : decode cX11_week 108 = .ok (.iconst 0, 1) := by decide +kernel
theorem dX11_week_109 : decode cX11_week 109 = .ok (.istore 9, 2) := by decide +kernel
theorem dX11_week_111 : decode cX11_week 111 = .ok (.iload 9, 2) := by decide +kernel
theorem dX11_week_113 : decode cX11_week 113 = .ok (.aload_n 0, 1) := by decide +kernel
theorem dX11_week_114 : decode cX11_week 114 = .ok (.getfield 283, 3) := by decide +kernel
theorem dX11_week_117 : decode cX11_week 117 = .ok (.if_icmp .ge 120, 3) := by decide +kernel
theorem dX11_week_120 : decode cX11_week 120 = .ok (.iload 4, 2) := by decide +kernel
theorem dX11_week_122 : decode cX11_week 122 = .ok (.iload 9, 2) := by decide +kernel
theorem dX11_week_124 : decode cX11_week 124 = .ok (.ishr, 1) := by decide +kernel
theorem dX11_week_125 : decode cX11_week 125 = .ok (.iconst 1, 1) := by decide +kernel
theorem dX11_week_126 : decode cX11_week 126 = .ok (.iand, 1) := by decide +kernel
theorem dX11_week_127 : decode cX11_week 127 = .ok (.iconst 1, 1) := by decide +kernel
theorem dX11_week_128 : decode cX11_week 128 = .ok (.if_icmp .ne 6, 3) := by decide +kernel
theorem dX11_week_131 : decode cX11_week 131 = .ok (.goto 100, 3) := by decide +kernel
theorem dX11_week_134 : decode cX11_week 134 = .ok (.iconst 0, 1) := by decide +kernel
theorem dX11_week_135 : decode cX11_week 135 = .ok (.istore 10, 2) := by decide +kernel
theorem dX11_week_137 : decode cX11_week 137 = .ok (.iload 10, 2) := by decide +kernel
theorem dX11_week_139 : decode cX11_week 139 = .ok (.bipush 10, 2) := by decide +kernel
theorem dX11_week_141 : decode cX11_week 141 = .ok (.if_icmp .ge 23, 3) := by decide +kernel
theorem dX11_week_144 : decode cX11_week 144 = .ok (.aload_n 0, 1) := by decide +kernel
theorem dX11_week_145 : decode cX11_week 145 = .ok (.getfield 62, 3) := by decide +kernel
theorem dX11_week_148 : decode cX11_week 148 = .ok (.iload 10, 2) := by decide +kernel
theorem dX11_week_150 : decode cX11_week 150 = .ok (.aload_n 0, 1) := by decide +kernel
theorem dX11_week_151 : decode cX11_week 151 = .ok (.getfield 40, 3) := by decide +kernel
theorem dX11_week_154 : decode cX11_week 154 = .ok (.iload 10, 2) := by decide +kernel
theorem dX11_week_156 : decode cX11_week 156 = .ok (.iaload, 1) := by decide +kernel
theorem dX11_week_157 : decode cX11_week 157 = .ok (.iastore, 1) := by decide +kernel
theorem dX11_week_158 : decode cX11_week 158 = .ok (.iinc 10 1, 3) := by decide +kernel
theorem dX11_week_161 : decode cX11_week 161 = .ok (.goto (-24), 3) := by decide +kernel
theorem dX11_week_164 : decode cX11_week 164 = .ok (.aload_n 0, 1) := by decide +kernel
theorem dX11_week_165 : decode cX11_week 165 = .ok (.iload 9, 2) := by decide +kernel
theorem dX11_week_167 : decode cX11_week 167 = .ok (.invokevirtual 289, 3) := by decide +kernel
theorem dX11_week_170 : decode cX11_week 170 = .ok (.aload_n 0, 1) := by decide +kernel
theorem dX11_week_171 : decode cX11_week 171 = .ok (.iload_n 1, 1) := by decide +kernel
theorem dX11_week_172 : decode cX11_week 172 = .ok (.invokevirtual 292, 3) := by decide +kernel
theorem dX11_week_175 : decode cX11_week 175 = .ok (.istore 10, 2) := by decide +kernel
theorem dX11_week_177 : decode cX11_week 177 = .ok (.iconst 0, 1) := by decide +kernel
theorem dX11_week_178 : decode cX11_week 178 = .ok (.istore 11, 2) := by decide +kernel
theorem dX11_week_180 : decode cX11_week 180 = .ok (.iload 11, 2) := by decide +kernel
theorem dX11_week_182 : decode cX11_week 182 = .ok (.bipush 10, 2) := by decide +kernel
theorem dX11_week_184 : decode cX11_week 184 = .ok (.if_icmp .ge 23, 3) := by decide +kernel
theorem dX11_week_187 : decode cX11_week 187 = .ok (.aload_n 0, 1) := by decide +kernel
theorem dX11_week_188 : decode cX11_week 188 = .ok (.getfield 40, 3) := by decide +kernel
theorem dX11_week_191 : decode cX11_week 191 = .ok (.iload 11, 2) := by decide +kernel
theorem dX11_week_193 : decode cX11_week 193 = .ok (.aload_n 0, 1) := by decide +kernel
theorem dX11_week_194 : decode cX11_week 194 = .ok (.getfield 62, 3) := by decide +kernel
theorem dX11_week_197 : decode cX11_week 197 = .ok (.iload 11, 2) := by decide +kernel
theorem dX11_week_199 : decode cX11_week 199 = .ok (.iaload, 1) := by decide +kernel
theorem dX11_week_200 : decode cX11_week 200 = .ok (.iastore, 1) := by decide +kernel
theorem dX11_week_201 : decode cX11_week 201 = .ok (.iinc 11 1, 3) := by decide +kernel
theorem dX11_week_204 : decode cX11_week 204 = .ok (.goto (-24), 3) := by decide +kernel
theorem dX11_week_207 : decode cX11_week 207 = .ok (.iload 7, 2) := by decide +kernel
theorem dX11_week_209 : decode cX11_week 209 = .ok (.iconst (-1), 1) := by decide +kernel
theorem dX11_week_210 : decode cX11_week 210 = .ok (.if_icmp .eq 13, 3) := by decide +kernel
theorem dX11_week_213 : decode cX11_week 213 = .ok (.iload 10, 2) := by decide +kernel
theorem dX11_week_215 : decode cX11_week 215 = .ok (.iload 8, 2) := by decide +kernel
theorem dX11_week_217 : decode cX11_week 217 = .ok (.if_icmp .gt 6, 3) := by decide +kernel
theorem dX11_week_220 : decode cX11_week 220 = .ok (.goto 11, 3) := by decide +kernel
theorem dX11_week_223 : decode cX11_week 223 = .ok (.iload 9, 2) := by decide +kernel
theorem dX11_week_225 : decode cX11_week 225 = .ok (.istore 7, 2) := by decide +kernel
theorem dX11_week_227 : decode cX11_week 227 = .ok (.iload 10, 2) := by decide +kernel
theorem dX11_week_229 : decode cX11_week 229 = .ok (.istore 8, 2) := by decide +kernel
theorem dX11_week_231 : decode cX11_week 231 = .ok (.iinc 9 1, 3) := by decide +kernel
theorem dX11_week_234 : decode cX11_week 234 = .ok (.goto (-123), 3) := by decide +kernel
theorem dX11_week_237 : decode cX11_week 237 = .ok (.aload_n 0, 1) := by decide +kernel
theorem dX11_week_238 : decode cX11_week 238 = .ok (.iload 7, 2) := by decide +kernel
theorem dX11_week_240 : decode cX11_week 240 = .ok (.invokevirtual 289, 3) := by decide +kernel
theorem dX11_week_243 : decode cX11_week 243 = .ok (.iload 4, 2) := by decide +kernel
theorem dX11_week_245 : decode cX11_week 245 = .ok (.iconst 1, 1) := by decide +kernel
theorem dX11_week_246 : decode cX11_week 246 = .ok (.iload 7, 2) := by decide +kernel
theorem dX11_week_248 : decode cX11_week 248 = .ok (.ishl, 1) := by decide +kernel
theorem dX11_week_249 : decode cX11_week 249 = .ok (.ior, 1) := by decide +kernel
theorem dX11_week_250 : decode cX11_week 250 = .ok (.istore 4, 2) := by decide +kernel
theorem dX11_week_252 : decode cX11_week 252 = .ok (.iload 7, 2) := by decide +kernel
theorem dX11_week_254 : decode cX11_week 254 = .ok (.istore 5, 2) := by decide +kernel
theorem dX11_week_256 : decode cX11_week 256 = .ok (.iinc 6 1, 3) := by decide +kernel
theorem dX11_week_259 : decode cX11_week 259 = .ok (.goto (-163), 3) := by decide +kernel
theorem dX11_week_262 : decode cX11_week 262 = .ok (.iconst 0, 1) := by decide +kernel
theorem dX11_week_263 : decode cX11_week 263 = .ok (.istore 6, 2) := by decide +kernel
theorem dX11_week_265 : decode cX11_week 265 = .ok (.iload 6, 2) := by decide +kernel
theorem dX11_week_267 : decode cX11_week 267 = .ok (.bipush 10, 2) := by decide +kernel
theorem dX11_week_269 : decode cX11_week 269 = .ok (.if_icmp .ge 20, 3) := by decide +kernel
theorem dX11_week_272 : decode cX11_week 272 = .ok (.aload_n 0, 1) := by decide +kernel
theorem dX11_week_273 : decode cX11_week 273 = .ok (.getfield 40, 3) := by decide +kernel
theorem dX11_week_276 : decode cX11_week 276 = .ok (.iload 6, 2) := by decide +kernel
theorem dX11_week_278 : decode cX11_week 278 = .ok (.aload_n 3, 1) := by decide +kernel
theorem dX11_week_279 : decode cX11_week 279 = .ok (.iload 6, 2) := by decide +kernel
theorem dX11_week_281 : decode cX11_week 281 = .ok (.iaload, 1) := by decide +kernel
theorem dX11_week_282 : decode cX11_week 282 = .ok (.iastore, 1) := by decide +kernel
theorem dX11_week_283 : decode cX11_week 283 = .ok (.iinc 6 1, 3) := by decide +kernel
theorem dX11_week_286 : decode cX11_week 286 = .ok (.goto (-21), 3) := by decide +kernel
theorem dX11_week_289 : decode cX11_week 289 = .ok (.iload 5, 2) := by decide +kernel
theorem dX11_week_291 : decode cX11_week 291 = .ok (.ireturn, 1) := by decide +kernel
set_option maxRecDepth 20000 in
theorem ggX11_span_X11_badTrial : GoodIn wsX11_span wsX11_badTrial := goodIn_r _ [7, 8, 9, 10, 6, 11, 12, 13, 14, 15, 16, 17, 18, 19, 1, 20, 21, 22, 101, 102, 103, 104, 105, 106, 107, 108, 109, 110, 111, 112, 113, 114, 115, 116, 117, 118, 119, 120, 121, 122, 123, 124, 125, 126, 127, 128, 129, 130, 131, 132, 133, 134, 135, 136, 137, 138, 139, 140, 141, 142] (by decide +kernel) (by decide +kernel)
set_option maxRecDepth 20000 in
theorem gX11_span_X11_badTrial : GoodIn wsX11_span (wsV RX11 260 RX11 yX11_badTrial wsX11_badTrial) := goodIn_app (goodIn_of _ (by decide +kernel)) ggX11_span_X11_badTrial
set_option maxRecDepth 20000 in
theorem ggX11_span_X11_in : GoodIn wsX11_span wsX11_in := goodIn_r _ [15] (by decide +kernel) (by decide +kernel)
set_option maxRecDepth 20000 in
theorem gX11_span_X11_in : GoodIn wsX11_span (va_wsS RX11 172 yX11_in wsX11_in) := goodIn_app (goodIn_of _ (by decide +kernel)) ggX11_span_X11_in
set_option maxRecDepth 20000 in
theorem ggX11_span_X11_bad : GoodIn wsX11_span wsX11_bad := goodIn_r _ [19, 1, 101, 102, 103, 104, 105, 106, 107, 108, 109, 110, 111, 112, 113, 114, 115, 116, 117, 118, 119, 120, 121, 122, 123, 124, 125, 126, 127, 128, 129, 130, 131, 132, 133, 134, 135, 136, 137, 138, 139, 140, 141, 142] (by decide +kernel) (by decide +kernel)
set_option maxRecDepth 20000 in
theorem gX11_span_X11_bad : GoodIn wsX11_span (wsV RX11 176 RX11 yX11_bad wsX11_bad) := goodIn_app (goodIn_of _ (by decide +kernel)) ggX11_span_X11_bad
set_option maxRecDepth 20000 in
theorem ggX11_span_X11_lineOf : GoodIn wsX11_span wsX11_lineOf := goodIn_r _ [26, 27, 28, 29, 6, 30, 31, 32, 33, 34, 35, 36, 37, 38, 39, 40, 41, 42, 43, 44, 45, 46, 47, 48, 49, 50, 51, 52, 53, 54, 55, 56, 57, 58, 59, 60, 61, 62, 63, 64, 65, 66, 67, 68, 69, 70, 71, 72, 73, 74, 75, 2, 76, 77, 78, 79, 80, 81, 82, 83, 84, 85, 86, 87, 88, 89, 90, 91, 92, 93, 94, 95, 96, 97, 98, 99, 100, 101, 102, 103, 104, 105, 106, 107, 108, 109, 110, 111, 112, 113, 114, 115, 116, 117, 118, 119, 120, 121, 122, 123, 124, 125, 126, 127, 128, 129, 130, 131, 132, 133, 134, 135, 136, 137, 138, 139, 140, 141, 142] (by decide +kernel) (by decide +kernel)
set_option maxRecDepth 20000 in
theorem gX11_span_X11_lineOf : GoodIn wsX11_span (wsV RX11 268 RX11 yX11_lineOf wsX11_lineOf) := goodIn_app (goodIn_of _ (by decide +kernel)) ggX11_span_X11_lineOf
theorem dX11_span_0 : decode cX11_span 0 = .ok (.aload_n 0, 1) := by decide +kernel
theorem dX11_span_1 : decode cX11_span 1 = .ok (.iconst 0, 1) := by decide +kernel
theorem dX11_span_2 : decode cX11_span 2 = .ok (.putfield 83, 3) := by decide +kernel
theorem dX11_span_5 : decode cX11_span 5 = .ok (.aload_n 0, 1) := by decide +kernel
theorem dX11_span_6 : decode cX11_span 6 = .ok (.iload_n 1, 1) := by decide +kernel
theorem dX11_span_7 : decode cX11_span 7 = .ok (.iconst 0, 1) := by decide +kernel
theorem dX11_span_8 : decode cX11_span 8 = .ok (.iload_n 2, 1) := by decide +kernel
theorem dX11_span_9 : decode cX11_span 9 = .ok (.iload_n 3, 1) := by decide +kernel
theorem dX11_span_10 : decode cX11_span 10 = .ok (.invokevirtual 260, 3) := by decide +kernel
theorem dX11_span_13 : decode cX11_span 13 = .ok (.ifCond .ne 27, 3) := by decide +kernel
theorem dX11_span_16 : decode cX11_span 16 = .ok (.aload_n 0, 1) := by decide +kernel
theorem dX11_span_17 : decode cX11_span 17 = .ok (.iload 4, 2) := by decide +kernel
theorem dX11_span_19 : decode cX11_span 19 = .ok (.iconst 0, 1) := by decide +kernel
theorem dX11_span_20 : decode cX11_span 20 = .ok (.bipush 50, 2) := by decide +kernel
theorem dX11_span_22 : decode cX11_span 22 = .ok (.invokestatic 172, 3) := by decide +kernel
theorem dX11_span_25 : decode cX11_span 25 = .ok (.ifCond .ne 7, 3) := by decide +kernel
theorem dX11_span_28 : decode cX11_span 28 = .ok (.iconst 1, 1) := by decide +kernel
theorem dX11_span_29 : decode cX11_span 29 = .ok (.goto 4, 3) := by decide +kernel
theorem dX11_span_32 : decode cX11_span 32 = .ok (.iconst 0, 1) := by decide +kernel
theorem dX11_span_33 : decode cX11_span 33 = .ok (.iconst 2, 1) := by decide +kernel
theorem dX11_span_34 : decode cX11_span 34 = .ok (.invokevirtual 176, 3) := by decide +kernel
theorem dX11_span_37 : decode cX11_span 37 = .ok (.ifCond .eq 5, 3) := by decide +kernel
theorem dX11_span_40 : decode cX11_span 40 = .ok (.iconst 0, 1) := by decide +kernel
theorem dX11_span_41 : decode cX11_span 41 = .ok (.ireturn, 1) := by decide +kernel
theorem dX11_span_42 : decode cX11_span 42 = .ok (.iconst (-1), 1) := by decide +kernel
theorem dX11_span_43 : decode cX11_span 43 = .ok (.istore 6, 2) := by decide +kernel
theorem dX11_span_45 : decode cX11_span 45 = .ok (.iconst (-1), 1) := by decide +kernel
theorem dX11_span_46 : decode cX11_span 46 = .ok (.istore 7, 2) := by decide +kernel
theorem dX11_span_48 : decode cX11_span 48 = .ok (.iload 7, 2) := by decide +kernel
theorem dX11_span_50 : decode cX11_span 50 = .ok (.iconst 2, 1) := by decide +kernel
theorem dX11_span_51 : decode cX11_span 51 = .ok (.if_icmp .ge 74, 3) := by decide +kernel
theorem dX11_span_54 : decode cX11_span 54 = .ok (.aload_n 0, 1) := by decide +kernel
theorem dX11_span_55 : decode cX11_span 55 = .ok (.bipush 100, 2) := by decide +kernel
theorem dX11_span_57 : decode cX11_span 57 = .ok (.iload 7, 2) := by decide +kernel
theorem dX11_span_59 : decode cX11_span 59 = .ok (.iload 4, 2) := by decide +kernel
theorem dX11_span_61 : decode cX11_span 61 = .ok (.imul, 1) := by decide +kernel
theorem dX11_span_62 : decode cX11_span 62 = .ok (.iadd, 1) := by decide +kernel
theorem dX11_span_63 : decode cX11_span 63 = .ok (.putfield 34, 3) := by decide +kernel
theorem dX11_span_66 : decode cX11_span 66 = .ok (.aload_n 0, 1) := by decide +kernel
theorem dX11_span_67 : decode cX11_span 67 = .ok (.iload_n 1, 1) := by decide +kernel
theorem dX11_span_68 : decode cX11_span 68 = .ok (.iload_n 2, 1) := by decide +kernel
theorem dX11_span_69 : decode cX11_span 69 = .ok (.iload_n 3, 1) := by decide +kernel
theorem dX11_span_70 : decode cX11_span 70 = .ok (.invokevirtual 268, 3) := by decide +kernel
theorem dX11_span_73 : decode cX11_span 73 = .ok (.istore 8, 2) := by decide +kernel
theorem dX11_span_75 : decode cX11_span 75 = .ok (.aload_n 0, 1) := by decide +kernel
theorem dX11_span_76 : decode cX11_span 76 = .ok (.bipush 100, 2) := by decide +kernel
theorem dX11_span_78 : decode cX11_span 78 = .ok (.putfield 34, 3) := by decide +kernel
theorem dX11_span_81 : decode cX11_span 81 = .ok (.iload 8, 2) := by decide +kernel
theorem dX11_span_83 : decode cX11_span 83 = .ok (.iconst (-1), 1) := by decide +kernel
theorem dX11_span_84 : decode cX11_span 84 = .ok (.if_icmp .eq 35, 3) := by decide +kernel
theorem dX11_span_87 : decode cX11_span 87 = .ok (.iload 6, 2) := by decide +kernel
theorem dX11_span_89 : decode cX11_span 89 = .ok (.iconst (-1), 1) := by decide +kernel
theorem dX11_span_90 : decode cX11_span 90 = .ok (.if_icmp .eq 25, 3) := by decide +kernel
theorem dX11_span_93 : decode cX11_span 93 = .ok (.iload 5, 2) := by decide +kernel
theorem dX11_span_95 : decode cX11_span 95 = .ok (.ifCond .eq 13, 3) := by decide +kernel
theorem dX11_span_98 : decode cX11_span 98 = .ok (.iload 8, 2) := by decide +kernel
theorem dX11_span_100 : decode cX11_span 100 = .ok (.iload 6, 2) := by decide +kernel
theorem dX11_span_102 : decode cX11_span 102 = .ok (.if_icmp .le 17, 3) := by decide +kernel
theorem dX11_span_105 : decode cX11_span 105 = .ok (.goto 10, 3) := by decide +kernel
theorem dX11_span_108 : decode cX11_span 108 = .ok (.iload 8, 2) := by decide +kernel
theorem dX11_span_110 : decode cX11_span 110 = .ok (.iload 6, 2) := by decide +kernel
theorem dX11_span_112 : decode cX11_span 112 = .ok (.if_icmp .ge 7, 3) := by decide +kernel
theorem dX11_span_115 : decode cX11_span 115 = .ok (.iload 8, 2) := by decide +kernel
theorem dX11_span_117 : decode cX11_span 117 = .ok (.istore 6, 2) := by decide +kernel
theorem dX11_span_119 : decode cX11_span 119 = .ok (.iinc 7 1, 3) := by decide +kernel
theorem dX11_span_122 : decode cX11_span 122 = .ok (.goto (-74), 3) := by decide +kernel
theorem dX11_span_125 : decode cX11_span 125 = .ok (.iload 6, 2) := by decide +kernel
theorem dX11_span_127 : decode cX11_span 127 = .ok (.ireturn, 1) := by decide +kernel
set_option maxRecDepth 20000 in
theorem ggX11_bridge_X11_in : GoodIn wsX11_bridge wsX11_in := goodIn_r _ [7] (by decide +kernel) (by decide +kernel)
set_option maxRecDepth 20000 in
theorem gX11_bridge_X11_in : GoodIn wsX11_bridge (va_wsS RX11 172 yX11_in wsX11_in) := goodIn_app (goodIn_of _ (by decide +kernel)) ggX11_bridge_X11_in
set_option maxRecDepth 20000 in
theorem ggX11_bridge_X11_bad : GoodIn wsX11_bridge wsX11_bad := goodIn_r _ [11, 1, 12, 13, 14, 15, 16, 17, 18, 19, 20, 21, 22, 23, 24, 25, 26, 27, 28, 29, 30, 31, 32, 33, 34, 35, 36, 37, 38, 39, 40, 41, 42, 43, 44, 45, 46, 47, 48, 49, 50, 51, 52, 53] (by decide +kernel) (by decide +kernel)
set_option maxRecDepth 20000 in
theorem gX11_bridge_X11_bad : GoodIn wsX11_bridge (wsV RX11 176 RX11 yX11_bad wsX11_bad) := goodIn_app (goodIn_of _ (by decide +kernel)) ggX11_bridge_X11_bad
theorem dX11_bridge_0 : decode cX11_bridge 0 = .ok (.aload_n 0, 1) := by decide +kernel
theorem dX11_bridge_1 : decode cX11_bridge 1 = .ok (.iconst 0, 1) := by decide +kernel
theorem dX11_bridge_2 : decode cX11_bridge 2 = .ok (.putfield 83, 3) := by decide +kernel
theorem dX11_bridge_5 : decode cX11_bridge 5 = .ok (.aload_n 0, 1) := by decide +kernel
theorem dX11_bridge_6 : decode cX11_bridge 6 = .ok (.iload_n 1, 1) := by decide +kernel
theorem dX11_bridge_7 : decode cX11_bridge 7 = .ok (.iconst 0, 1) := by decide +kernel
theorem dX11_bridge_8 : decode cX11_bridge 8 = .ok (.bipush 60, 2) := by decide +kernel
theorem dX11_bridge_10 : decode cX11_bridge 10 = .ok (.invokestatic 172, 3) := by decide +kernel
theorem dX11_bridge_13 : decode cX11_bridge 13 = .ok (.ifCond .ne 7, 3) := by decide +kernel
theorem dX11_bridge_16 : decode cX11_bridge 16 = .ok (.iconst 1, 1) := by decide +kernel
theorem dX11_bridge_17 : decode cX11_bridge 17 = .ok (.goto 4, 3) := by decide +kernel
theorem dX11_bridge_20 : decode cX11_bridge 20 = .ok (.iconst 0, 1) := by decide +kernel
theorem dX11_bridge_21 : decode cX11_bridge 21 = .ok (.iconst 1, 1) := by decide +kernel
theorem dX11_bridge_22 : decode cX11_bridge 22 = .ok (.invokevirtual 176, 3) := by decide +kernel
theorem dX11_bridge_25 : decode cX11_bridge 25 = .ok (.ifCond .eq 5, 3) := by decide +kernel
theorem dX11_bridge_28 : decode cX11_bridge 28 = .ok (.iconst 0, 1) := by decide +kernel
theorem dX11_bridge_29 : decode cX11_bridge 29 = .ok (.ireturn, 1) := by decide +kernel
theorem dX11_bridge_30 : decode cX11_bridge 30 = .ok (.aload_n 0, 1) := by decide +kernel
theorem dX11_bridge_31 : decode cX11_bridge 31 = .ok (.getfield 295, 3) := by decide +kernel
theorem dX11_bridge_34 : decode cX11_bridge 34 = .ok (.bipush 6, 2) := by decide +kernel
theorem dX11_bridge_36 : decode cX11_bridge 36 = .ok (.if_icmp .ne 5, 3) := by decide +kernel
theorem dX11_bridge_39 : decode cX11_bridge 39 = .ok (.iconst (-1), 1) := by decide +kernel
theorem dX11_bridge_40 : decode cX11_bridge 40 = .ok (.ireturn, 1) := by decide +kernel
theorem dX11_bridge_41 : decode cX11_bridge 41 = .ok (.aload_n 0, 1) := by decide +kernel
theorem dX11_bridge_42 : decode cX11_bridge 42 = .ok (.getfield 74, 3) := by decide +kernel
theorem dX11_bridge_45 : decode cX11_bridge 45 = .ok (.aload_n 0, 1) := by decide +kernel
theorem dX11_bridge_46 : decode cX11_bridge 46 = .ok (.getfield 295, 3) := by decide +kernel
theorem dX11_bridge_49 : decode cX11_bridge 49 = .ok (.aaload, 1) := by decide +kernel
theorem dX11_bridge_50 : decode cX11_bridge 50 = .ok (.bipush 10, 2) := by decide +kernel
theorem dX11_bridge_52 : decode cX11_bridge 52 = .ok (.iload_n 1, 1) := by decide +kernel
theorem dX11_bridge_53 : decode cX11_bridge 53 = .ok (.iastore, 1) := by decide +kernel
theorem dX11_bridge_54 : decode cX11_bridge 54 = .ok (.iconst 0, 1) := by decide +kernel
theorem dX11_bridge_55 : decode cX11_bridge 55 = .ok (.istore_n 2, 1) := by decide +kernel
theorem dX11_bridge_56 : decode cX11_bridge 56 = .ok (.iload_n 2, 1) := by decide +kernel
theorem dX11_bridge_57 : decode cX11_bridge 57 = .ok (.bipush 10, 2) := by decide +kernel
theorem dX11_bridge_59 : decode cX11_bridge 59 = .ok (.if_icmp .ge 21, 3) := by decide +kernel
theorem dX11_bridge_62 : decode cX11_bridge 62 = .ok (.aload_n 0, 1) := by decide +kernel
theorem dX11_bridge_63 : decode cX11_bridge 63 = .ok (.getfield 74, 3) := by decide +kernel
theorem dX11_bridge_66 : decode cX11_bridge 66 = .ok (.aload_n 0, 1) := by decide +kernel
theorem dX11_bridge_67 : decode cX11_bridge 67 = .ok (.getfield 295, 3) := by decide +kernel
theorem dX11_bridge_70 : decode cX11_bridge 70 = .ok (.aaload, 1) := by decide +kernel
theorem dX11_bridge_71 : decode cX11_bridge 71 = .ok (.iload_n 2, 1) := by decide +kernel
theorem dX11_bridge_72 : decode cX11_bridge 72 = .ok (.iconst 0, 1) := by decide +kernel
theorem dX11_bridge_73 : decode cX11_bridge 73 = .ok (.iastore, 1) := by decide +kernel
theorem dX11_bridge_74 : decode cX11_bridge 74 = .ok (.iinc 2 1, 3) := by decide +kernel
theorem dX11_bridge_77 : decode cX11_bridge 77 = .ok (.goto (-21), 3) := by decide +kernel
theorem dX11_bridge_80 : decode cX11_bridge 80 = .ok (.aload_n 0, 1) := by decide +kernel
theorem dX11_bridge_81 : decode cX11_bridge 81 = .ok (.dup, 1) := by decide +kernel
theorem dX11_bridge_82 : decode cX11_bridge 82 = .ok (.getfield 295, 3) := by decide +kernel
theorem dX11_bridge_85 : decode cX11_bridge 85 = .ok (.iconst 1, 1) := by decide +kernel
theorem dX11_bridge_86 : decode cX11_bridge 86 = .ok (.iadd, 1) := by decide +kernel
theorem dX11_bridge_87 : decode cX11_bridge 87 = .ok (.putfield 295, 3) := by decide +kernel
theorem dX11_bridge_90 : decode cX11_bridge 90 = .ok (.aload_n 0, 1) := by decide +kernel
theorem dX11_bridge_91 : decode cX11_bridge 91 = .ok (.getfield 295, 3) := by decide +kernel
theorem dX11_bridge_94 : decode cX11_bridge 94 = .ok (.iconst 1, 1) := by decide +kernel
theorem dX11_bridge_95 : decode cX11_bridge 95 = .ok (.isub, 1) := by decide +kernel
theorem dX11_bridge_96 : decode cX11_bridge 96 = .ok (.ireturn, 1) := by decide +kernel
set_option maxRecDepth 20000 in
theorem ggX11_isBridge_X11_in : GoodIn wsX11_isBridge wsX11_in := goodIn_r _ [5] (by decide +kernel) (by decide +kernel)
set_option maxRecDepth 20000 in
theorem gX11_isBridge_X11_in : GoodIn wsX11_isBridge (va_wsS RX11 172 yX11_in wsX11_in) := goodIn_app (goodIn_of _ (by decide +kernel)) ggX11_isBridge_X11_in
theorem dX11_isBridge_0 : decode cX11_isBridge 0 = .ok (.iload_n 1, 1) := by decide +kernel
theorem dX11_isBridge_1 : decode cX11_isBridge 1 = .ok (.iconst 0, 1) := by decide +kernel
theorem dX11_isBridge_2 : decode cX11_isBridge 2 = .ok (.aload_n 0, 1) := by decide +kernel
theorem dX11_isBridge_3 : decode cX11_isBridge 3 = .ok (.getfield 295, 3) := by decide +kernel
theorem dX11_isBridge_6 : decode cX11_isBridge 6 = .ok (.iconst 1, 1) := by decide +kernel
theorem dX11_isBridge_7 : decode cX11_isBridge 7 = .ok (.isub, 1) := by decide +kernel
theorem dX11_isBridge_8 : decode cX11_isBridge 8 = .ok (.invokestatic 172, 3) := by decide +kernel
theorem dX11_isBridge_11 : decode cX11_isBridge 11 = .ok (.ireturn, 1) := by decide +kernel
set_option maxRecDepth 20000 in
theorem ggX11_blows_X11_isBridge : GoodIn wsX11_blows wsX11_isBridge := goodIn_r _ [7, 8, 9, 10, 6, 11, 16, 17, 18, 19, 20, 21, 22, 23, 24, 25, 26, 27, 28, 29, 30, 31, 32, 33, 34, 35, 36, 37, 38, 39, 40, 41, 42, 43, 44, 45, 46, 47, 48, 49, 50, 51, 52, 53, 54, 55, 56, 57] (by decide +kernel) (by decide +kernel)
set_option maxRecDepth 20000 in
theorem gX11_blows_X11_isBridge : GoodIn wsX11_blows (wsV RX11 298 RX11 yX11_isBridge wsX11_isBridge) := goodIn_app (goodIn_of _ (by decide +kernel)) ggX11_blows_X11_isBridge
set_option maxRecDepth 20000 in
theorem ggX11_blows_X11_bad : GoodIn wsX11_blows wsX11_bad := goodIn_r _ [15, 1, 16, 17, 18, 19, 20, 21, 22, 23, 24, 25, 26, 27, 28, 29, 30, 31, 32, 33, 34, 35, 36, 37, 38, 39, 40, 41, 42, 43, 44, 45, 46, 47, 48, 49, 50, 51, 52, 53, 54, 55, 56, 57] (by decide +kernel) (by decide +kernel)
set_option maxRecDepth 20000 in
theorem gX11_blows_X11_bad : GoodIn wsX11_blows (wsV RX11 176 RX11 yX11_bad wsX11_bad) := goodIn_app (goodIn_of _ (by decide +kernel)) ggX11_blows_X11_bad
set_option maxRecDepth 20000 in
theorem ggX11_blows_X11_in : GoodIn wsX11_blows wsX11_in := goodIn_r _ [11] (by decide +kernel) (by decide +kernel)
set_option maxRecDepth 20000 in
theorem gX11_blows_X11_in : GoodIn wsX11_blows (va_wsS RX11 172 yX11_in wsX11_in) := goodIn_app (goodIn_of _ (by decide +kernel)) ggX11_blows_X11_in
theorem dX11_blows_0 : decode cX11_blows 0 = .ok (.aload_n 0, 1) := by decide +kernel
theorem dX11_blows_1 : decode cX11_blows 1 = .ok (.iconst 0, 1) := by decide +kernel
theorem dX11_blows_2 : decode cX11_blows 2 = .ok (.putfield 83, 3) := by decide +kernel
theorem dX11_blows_5 : decode cX11_blows 5 = .ok (.aload_n 0, 1) := by decide +kernel
theorem dX11_blows_6 : decode cX11_blows 6 = .ok (.aload_n 0, 1) := by decide +kernel
theorem dX11_blows_7 : decode cX11_blows 7 = .ok (.iload_n 1, 1) := by decide +kernel
theorem dX11_blows_8 : decode cX11_blows 8 = .ok (.invokevirtual 298, 3) := by decide +kernel
theorem dX11_blows_11 : decode cX11_blows 11 = .ok (.ifCond .ne 7, 3) := by decide +kernel
theorem dX11_blows_14 : decode cX11_blows 14 = .ok (.iconst 1, 1) := by decide +kernel
theorem dX11_blows_15 : decode cX11_blows 15 = .ok (.goto 4, 3) := by decide +kernel
theorem dX11_blows_18 : decode cX11_blows 18 = .ok (.iconst 0, 1) := by decide +kernel
theorem dX11_blows_19 : decode cX11_blows 19 = .ok (.iconst 1, 1) := by decide +kernel
theorem dX11_blows_20 : decode cX11_blows 20 = .ok (.invokevirtual 176, 3) := by decide +kernel
theorem dX11_blows_23 : decode cX11_blows 23 = .ok (.ifCond .ne 37, 3) := by decide +kernel
theorem dX11_blows_26 : decode cX11_blows 26 = .ok (.aload_n 0, 1) := by decide +kernel
theorem dX11_blows_27 : decode cX11_blows 27 = .ok (.iload_n 2, 1) := by decide +kernel
theorem dX11_blows_28 : decode cX11_blows 28 = .ok (.iconst 0, 1) := by decide +kernel
theorem dX11_blows_29 : decode cX11_blows 29 = .ok (.bipush 9, 2) := by decide +kernel
theorem dX11_blows_31 : decode cX11_blows 31 = .ok (.invokestatic 172, 3) := by decide +kernel
theorem dX11_blows_34 : decode cX11_blows 34 = .ok (.ifCond .eq 14, 3) := by decide +kernel
theorem dX11_blows_37 : decode cX11_blows 37 = .ok (.iload_n 3, 1) := by decide +kernel
theorem dX11_blows_38 : decode cX11_blows 38 = .ok (.iconst 0, 1) := by decide +kernel
theorem dX11_blows_39 : decode cX11_blows 39 = .ok (.sipush 999, 3) := by decide +kernel
theorem dX11_blows_42 : decode cX11_blows 42 = .ok (.invokestatic 172, 3) := by decide +kernel
theorem dX11_blows_45 : decode cX11_blows 45 = .ok (.ifCond .ne 7, 3) := by decide +kernel
theorem dX11_blows_48 : decode cX11_blows 48 = .ok (.iconst 1, 1) := by decide +kernel
theorem dX11_blows_49 : decode cX11_blows 49 = .ok (.goto 4, 3) := by decide +kernel
theorem dX11_blows_52 : decode cX11_blows 52 = .ok (.iconst 0, 1) := by decide +kernel
theorem dX11_blows_53 : decode cX11_blows 53 = .ok (.iconst 2, 1) := by decide +kernel
theorem dX11_blows_54 : decode cX11_blows 54 = .ok (.invokevirtual 176, 3) := by decide +kernel
theorem dX11_blows_57 : decode cX11_blows 57 = .ok (.ifCond .eq 5, 3) := by decide +kernel
theorem dX11_blows_60 : decode cX11_blows 60 = .ok (.iconst 0, 1) := by decide +kernel
theorem dX11_blows_61 : decode cX11_blows 61 = .ok (.ireturn, 1) := by decide +kernel
theorem dX11_blows_62 : decode cX11_blows 62 = .ok (.aload_n 0, 1) := by decide +kernel
theorem dX11_blows_63 : decode cX11_blows 63 = .ok (.getfield 74, 3) := by decide +kernel
theorem dX11_blows_66 : decode cX11_blows 66 = .ok (.iload_n 1, 1) := by decide +kernel
theorem dX11_blows_67 : decode cX11_blows 67 = .ok (.aaload, 1) := by decide +kernel
theorem dX11_blows_68 : decode cX11_blows 68 = .ok (.iload_n 2, 1) := by decide +kernel
theorem dX11_blows_69 : decode cX11_blows 69 = .ok (.iaload, 1) := by decide +kernel
theorem dX11_blows_70 : decode cX11_blows 70 = .ok (.istore 4, 2) := by decide +kernel
theorem dX11_blows_72 : decode cX11_blows 72 = .ok (.aload_n 0, 1) := by decide +kernel
theorem dX11_blows_73 : decode cX11_blows 73 = .ok (.getfield 74, 3) := by decide +kernel
theorem dX11_blows_76 : decode cX11_blows 76 = .ok (.iload_n 1, 1) := by decide +kernel
theorem dX11_blows_77 : decode cX11_blows 77 = .ok (.aaload, 1) := by decide +kernel
theorem dX11_blows_78 : decode cX11_blows 78 = .ok (.iload_n 2, 1) := by decide +kernel
theorem dX11_blows_79 : decode cX11_blows 79 = .ok (.iload_n 3, 1) := by decide +kernel
theorem dX11_blows_80 : decode cX11_blows 80 = .ok (.iastore, 1) := by decide +kernel
theorem dX11_blows_81 : decode cX11_blows 81 = .ok (.iload 4, 2) := by decide +kernel
theorem dX11_blows_83 : decode cX11_blows 83 = .ok (.ireturn, 1) := by decide +kernel
set_option maxRecDepth 20000 in
theorem ggX11_hours_X11_isBridge : GoodIn wsX11_hours wsX11_isBridge := goodIn_r _ [7, 8, 9, 10, 6, 11, 16, 17, 18, 19, 20, 21, 22, 23, 24, 25, 26, 27, 28, 29, 30, 31, 32, 33, 34, 35, 36, 37, 38, 39, 40, 41, 42, 43, 44, 45, 46, 47, 48, 49, 50, 51, 52, 53, 54, 55, 56, 57] (by decide +kernel) (by decide +kernel)
set_option maxRecDepth 20000 in
theorem gX11_hours_X11_isBridge : GoodIn wsX11_hours (wsV RX11 298 RX11 yX11_isBridge wsX11_isBridge) := goodIn_app (goodIn_of _ (by decide +kernel)) ggX11_hours_X11_isBridge
set_option maxRecDepth 20000 in
theorem ggX11_hours_X11_bad : GoodIn wsX11_hours wsX11_bad := goodIn_r _ [15, 1, 16, 17, 18, 19, 20, 21, 22, 23, 24, 25, 26, 27, 28, 29, 30, 31, 32, 33, 34, 35, 36, 37, 38, 39, 40, 41, 42, 43, 44, 45, 46, 47, 48, 49, 50, 51, 52, 53, 54, 55, 56, 57] (by decide +kernel) (by decide +kernel)
set_option maxRecDepth 20000 in
theorem gX11_hours_X11_bad : GoodIn wsX11_hours (wsV RX11 176 RX11 yX11_bad wsX11_bad) := goodIn_app (goodIn_of _ (by decide +kernel)) ggX11_hours_X11_bad
theorem dX11_hours_0 : decode cX11_hours 0 = .ok (.aload_n 0, 1) := by decide +kernel
theorem dX11_hours_1 : decode cX11_hours 1 = .ok (.iconst 0, 1) := by decide +kernel
theorem dX11_hours_2 : decode cX11_hours 2 = .ok (.putfield 83, 3) := by decide +kernel
theorem dX11_hours_5 : decode cX11_hours 5 = .ok (.aload_n 0, 1) := by decide +kernel
theorem dX11_hours_6 : decode cX11_hours 6 = .ok (.aload_n 0, 1) := by decide +kernel
theorem dX11_hours_7 : decode cX11_hours 7 = .ok (.iload_n 1, 1) := by decide +kernel
theorem dX11_hours_8 : decode cX11_hours 8 = .ok (.invokevirtual 298, 3) := by decide +kernel
theorem dX11_hours_11 : decode cX11_hours 11 = .ok (.ifCond .ne 7, 3) := by decide +kernel
theorem dX11_hours_14 : decode cX11_hours 14 = .ok (.iconst 1, 1) := by decide +kernel
theorem dX11_hours_15 : decode cX11_hours 15 = .ok (.goto 4, 3) := by decide +kernel
theorem dX11_hours_18 : decode cX11_hours 18 = .ok (.iconst 0, 1) := by decide +kernel
theorem dX11_hours_19 : decode cX11_hours 19 = .ok (.iconst 1, 1) := by decide +kernel
theorem dX11_hours_20 : decode cX11_hours 20 = .ok (.invokevirtual 176, 3) := by decide +kernel
theorem dX11_hours_23 : decode cX11_hours 23 = .ok (.ifCond .eq 5, 3) := by decide +kernel
theorem dX11_hours_26 : decode cX11_hours 26 = .ok (.iconst 0, 1) := by decide +kernel
theorem dX11_hours_27 : decode cX11_hours 27 = .ok (.ireturn, 1) := by decide +kernel
theorem dX11_hours_28 : decode cX11_hours 28 = .ok (.iconst 0, 1) := by decide +kernel
theorem dX11_hours_29 : decode cX11_hours 29 = .ok (.istore_n 2, 1) := by decide +kernel
theorem dX11_hours_30 : decode cX11_hours 30 = .ok (.iconst 0, 1) := by decide +kernel
theorem dX11_hours_31 : decode cX11_hours 31 = .ok (.istore_n 3, 1) := by decide +kernel
theorem dX11_hours_32 : decode cX11_hours 32 = .ok (.iload_n 3, 1) := by decide +kernel
theorem dX11_hours_33 : decode cX11_hours 33 = .ok (.bipush 10, 2) := by decide +kernel
theorem dX11_hours_35 : decode cX11_hours 35 = .ok (.if_icmp .ge 40, 3) := by decide +kernel
theorem dX11_hours_38 : decode cX11_hours 38 = .ok (.iload_n 2, 1) := by decide +kernel
theorem dX11_hours_39 : decode cX11_hours 39 = .ok (.bipush 6, 2) := by decide +kernel
theorem dX11_hours_41 : decode cX11_hours 41 = .ok (.iload_n 3, 1) := by decide +kernel
theorem dX11_hours_42 : decode cX11_hours 42 = .ok (.imul, 1) := by decide +kernel
theorem dX11_hours_43 : decode cX11_hours 43 = .ok (.aload_n 0, 1) := by decide +kernel
theorem dX11_hours_44 : decode cX11_hours 44 = .ok (.getfield 74, 3) := by decide +kernel
theorem dX11_hours_47 : decode cX11_hours 47 = .ok (.iload_n 1, 1) := by decide +kernel
theorem dX11_hours_48 : decode cX11_hours 48 = .ok (.aaload, 1) := by decide +kernel
theorem dX11_hours_49 : decode cX11_hours 49 = .ok (.bipush 10, 2) := by decide +kernel
theorem dX11_hours_51 : decode cX11_hours 51 = .ok (.iaload, 1) := by decide +kernel
theorem dX11_hours_52 : decode cX11_hours 52 = .ok (.if_icmp .lt 14, 3) := by decide +kernel
theorem dX11_hours_55 : decode cX11_hours 55 = .ok (.aload_n 0, 1) := by decide +kernel
theorem dX11_hours_56 : decode cX11_hours 56 = .ok (.getfield 74, 3) := by decide +kernel
theorem dX11_hours_59 : decode cX11_hours 59 = .ok (.iload_n 1, 1) := by decide +kernel
theorem dX11_hours_60 : decode cX11_hours 60 = .ok (.aaload, 1) := by decide +kernel
theorem dX11_hours_61 : decode cX11_hours 61 = .ok (.iload_n 3, 1) := by decide +kernel
theorem dX11_hours_62 : decode cX11_hours 62 = .ok (.iaload, 1) := by decide +kernel
theorem dX11_hours_63 : decode cX11_hours 63 = .ok (.goto 4, 3) := by decide +kernel
theorem dX11_hours_66 : decode cX11_hours 66 = .ok (.iconst 0, 1) := by decide +kernel
theorem dX11_hours_67 : decode cX11_hours 67 = .ok (.iadd, 1) := by decide +kernel
theorem dX11_hours_68 : decode cX11_hours 68 = .ok (.istore_n 2, 1) := by decide +kernel
theorem dX11_hours_69 : decode cX11_hours 69 = .ok (.iinc 3 1, 3) := by decide +kernel
theorem dX11_hours_72 : decode cX11_hours 72 = .ok (.goto (-40), 3) := by decide +kernel
theorem dX11_hours_75 : decode cX11_hours 75 = .ok (.iload_n 2, 1) := by decide +kernel
theorem dX11_hours_76 : decode cX11_hours 76 = .ok (.ireturn, 1) := by decide +kernel
set_option maxRecDepth 20000 in
theorem ggX11_paper_X11_in : GoodIn wsX11_paper wsX11_in := goodIn_r _ [7] (by decide +kernel) (by decide +kernel)
set_option maxRecDepth 20000 in
theorem gX11_paper_X11_in : GoodIn wsX11_paper (va_wsS RX11 172 yX11_in wsX11_in) := goodIn_app (goodIn_of _ (by decide +kernel)) ggX11_paper_X11_in
set_option maxRecDepth 20000 in
theorem ggX11_paper_X11_bad : GoodIn wsX11_paper wsX11_bad := goodIn_r _ [11, 1, 12, 13, 14, 15, 16, 17, 18, 19, 20, 21, 22, 23, 24, 25, 26, 27, 28, 29, 30, 31, 32, 33, 34, 35, 36, 37, 38, 39, 40, 41, 42, 43, 44, 45, 46, 47, 48, 49, 50, 51, 52, 53] (by decide +kernel) (by decide +kernel)
set_option maxRecDepth 20000 in
theorem gX11_paper_X11_bad : GoodIn wsX11_paper (wsV RX11 176 RX11 yX11_bad wsX11_bad) := goodIn_app (goodIn_of _ (by decide +kernel)) ggX11_paper_X11_bad
theorem dX11_paper_0 : decode cX11_paper 0 = .ok (.aload_n 0, 1) := by decide +kernel
theorem dX11_paper_1 : decode cX11_paper 1 = .ok (.iconst 0, 1) := by decide +kernel
theorem dX11_paper_2 : decode cX11_paper 2 = .ok (.putfield 83, 3) := by decide +kernel
theorem dX11_paper_5 : decode cX11_paper 5 = .ok (.aload_n 0, 1) := by decide +kernel
theorem dX11_paper_6 : decode cX11_paper 6 = .ok (.iload_n 1, 1) := by decide +kernel
theorem dX11_paper_7 : decode cX11_paper 7 = .ok (.iconst 0, 1) := by decide +kernel
theorem dX11_paper_8 : decode cX11_paper 8 = .ok (.sipush 999, 3) := by decide +kernel
theorem dX11_paper_11 : decode cX11_paper 11 = .ok (.invokestatic 172, 3) := by decide +kernel
theorem dX11_paper_14 : decode cX11_paper 14 = .ok (.ifCond .eq 25, 3) := by decide +kernel
theorem dX11_paper_17 : decode cX11_paper 17 = .ok (.iload_n 2, 1) := by decide +kernel
theorem dX11_paper_18 : decode cX11_paper 18 = .ok (.iconst 0, 1) := by decide +kernel
theorem dX11_paper_19 : decode cX11_paper 19 = .ok (.sipush 255, 3) := by decide +kernel
theorem dX11_paper_22 : decode cX11_paper 22 = .ok (.invokestatic 172, 3) := by decide +kernel
theorem dX11_paper_25 : decode cX11_paper 25 = .ok (.ifCond .eq 14, 3) := by decide +kernel
theorem dX11_paper_28 : decode cX11_paper 28 = .ok (.iload_n 3, 1) := by decide +kernel
theorem dX11_paper_29 : decode cX11_paper 29 = .ok (.iconst 0, 1) := by decide +kernel
theorem dX11_paper_30 : decode cX11_paper 30 = .ok (.sipush 255, 3) := by decide +kernel
theorem dX11_paper_33 : decode cX11_paper 33 = .ok (.invokestatic 172, 3) := by decide +kernel
theorem dX11_paper_36 : decode cX11_paper 36 = .ok (.ifCond .ne 7, 3) := by decide +kernel
theorem dX11_paper_39 : decode cX11_paper 39 = .ok (.iconst 1, 1) := by decide +kernel
theorem dX11_paper_40 : decode cX11_paper 40 = .ok (.goto 4, 3) := by decide +kernel
theorem dX11_paper_43 : decode cX11_paper 43 = .ok (.iconst 0, 1) := by decide +kernel
theorem dX11_paper_44 : decode cX11_paper 44 = .ok (.iconst 1, 1) := by decide +kernel
theorem dX11_paper_45 : decode cX11_paper 45 = .ok (.invokevirtual 176, 3) := by decide +kernel
theorem dX11_paper_48 : decode cX11_paper 48 = .ok (.ifCond .eq 5, 3) := by decide +kernel
theorem dX11_paper_51 : decode cX11_paper 51 = .ok (.iconst 0, 1) := by decide +kernel
theorem dX11_paper_52 : decode cX11_paper 52 = .ok (.ireturn, 1) := by decide +kernel
theorem dX11_paper_53 : decode cX11_paper 53 = .ok (.aload_n 0, 1) := by decide +kernel
theorem dX11_paper_54 : decode cX11_paper 54 = .ok (.getfield 301, 3) := by decide +kernel
theorem dX11_paper_57 : decode cX11_paper 57 = .ok (.bipush 10, 2) := by decide +kernel
theorem dX11_paper_59 : decode cX11_paper 59 = .ok (.if_icmp .ne 5, 3) := by decide +kernel
theorem dX11_paper_62 : decode cX11_paper 62 = .ok (.iconst (-1), 1) := by decide +kernel
theorem dX11_paper_63 : decode cX11_paper 63 = .ok (.ireturn, 1) := by decide +kernel
theorem dX11_paper_64 : decode cX11_paper 64 = .ok (.aload_n 0, 1) := by decide +kernel
theorem dX11_paper_65 : decode cX11_paper 65 = .ok (.getfield 77, 3) := by decide +kernel
theorem dX11_paper_68 : decode cX11_paper 68 = .ok (.aload_n 0, 1) := by decide +kernel
theorem dX11_paper_69 : decode cX11_paper 69 = .ok (.getfield 301, 3) := by decide +kernel
theorem dX11_paper_72 : decode cX11_paper 72 = .ok (.aaload, 1) := by decide +kernel
theorem dX11_paper_73 : decode cX11_paper 73 = .ok (.iconst 0, 1) := by decide +kernel
theorem dX11_paper_74 : decode cX11_paper 74 = .ok (.iload_n 1, 1) := by decide +kernel
theorem dX11_paper_75 : decode cX11_paper 75 = .ok (.iastore, 1) := by decide +kernel
theorem dX11_paper_76 : decode cX11_paper 76 = .ok (.aload_n 0, 1) := by decide +kernel
theorem dX11_paper_77 : decode cX11_paper 77 = .ok (.getfield 77, 3) := by decide +kernel
theorem dX11_paper_80 : decode cX11_paper 80 = .ok (.aload_n 0, 1) := by decide +kernel
theorem dX11_paper_81 : decode cX11_paper 81 = .ok (.getfield 301, 3) := by decide +kernel
theorem dX11_paper_84 : decode cX11_paper 84 = .ok (.aaload, 1) := by decide +kernel
theorem dX11_paper_85 : decode cX11_paper 85 = .ok (.iconst 1, 1) := by decide +kernel
theorem dX11_paper_86 : decode cX11_paper 86 = .ok (.iload_n 2, 1) := by decide +kernel
theorem dX11_paper_87 : decode cX11_paper 87 = .ok (.iastore, 1) := by decide +kernel
theorem dX11_paper_88 : decode cX11_paper 88 = .ok (.aload_n 0, 1) := by decide +kernel
theorem dX11_paper_89 : decode cX11_paper 89 = .ok (.getfield 77, 3) := by decide +kernel
theorem dX11_paper_92 : decode cX11_paper 92 = .ok (.aload_n 0, 1) := by decide +kernel
theorem dX11_paper_93 : decode cX11_paper 93 = .ok (.getfield 301, 3) := by decide +kernel
theorem dX11_paper_96 : decode cX11_paper 96 = .ok (.aaload, 1) := by decide +kernel
theorem dX11_paper_97 : decode cX11_paper 97 = .ok (.iconst 2, 1) := by decide +kernel
theorem dX11_paper_98 : decode cX11_paper 98 = .ok (.iload_n 3, 1) := by decide +kernel
theorem dX11_paper_99 : decode cX11_paper 99 = .ok (.iastore, 1) := by decide +kernel
theorem dX11_paper_100 : decode cX11_paper 100 = .ok (.aload_n 0, 1) := by decide +kernel
theorem dX11_paper_101 : decode cX11_paper 101 = .ok (.dup, 1) := by decide +kernel
theorem dX11_paper_102 : decode cX11_paper 102 = .ok (.getfield 301, 3) := by decide +kernel
theorem dX11_paper_105 : decode cX11_paper 105 = .ok (.iconst 1, 1) := by decide +kernel
theorem dX11_paper_106 : decode cX11_paper 106 = .ok (.iadd, 1) := by decide +kernel
theorem dX11_paper_107 : decode cX11_paper 107 = .ok (.putfield 301, 3) := by decide +kernel
theorem dX11_paper_110 : decode cX11_paper 110 = .ok (.aload_n 0, 1) := by decide +kernel
theorem dX11_paper_111 : decode cX11_paper 111 = .ok (.getfield 301, 3) := by decide +kernel
theorem dX11_paper_114 : decode cX11_paper 114 = .ok (.ireturn, 1) := by decide +kernel
theorem dX11_knownOn_0 : decode cX11_knownOn 0 = .ok (.iconst 0, 1) := by decide +kernel
theorem dX11_knownOn_1 : decode cX11_knownOn 1 = .ok (.istore_n 2, 1) := by decide +kernel
theorem dX11_knownOn_2 : decode cX11_knownOn 2 = .ok (.iconst 0, 1) := by decide +kernel
theorem dX11_knownOn_3 : decode cX11_knownOn 3 = .ok (.istore_n 3, 1) := by decide +kernel
theorem dX11_knownOn_4 : decode cX11_knownOn 4 = .ok (.iload_n 3, 1) := by decide +kernel
theorem dX11_knownOn_5 : decode cX11_knownOn 5 = .ok (.bipush 10, 2) := by decide +kernel
theorem dX11_knownOn_7 : decode cX11_knownOn 7 = .ok (.if_icmp .ge 68, 3) := by decide +kernel
theorem dX11_knownOn_10 : decode cX11_knownOn 10 = .ok (.iconst 0, 1) := by decide +kernel
theorem dX11_knownOn_11 : decode cX11_knownOn 11 = .ok (.istore 4, 2) := by decide +kernel
theorem dX11_knownOn_13 : decode cX11_knownOn 13 = .ok (.iload 4, 2) := by decide +kernel
theorem dX11_knownOn_15 : decode cX11_knownOn 15 = .ok (.aload_n 0, 1) := by decide +kernel
theorem dX11_knownOn_16 : decode cX11_knownOn 16 = .ok (.getfield 301, 3) := by decide +kernel
theorem dX11_knownOn_19 : decode cX11_knownOn 19 = .ok (.if_icmp .ge 50, 3) := by decide +kernel
theorem dX11_knownOn_22 : decode cX11_knownOn 22 = .ok (.aload_n 0, 1) := by decide +kernel
theorem dX11_knownOn_23 : decode cX11_knownOn 23 = .ok (.getfield 77, 3) := by decide +kernel
theorem dX11_knownOn_26 : decode cX11_knownOn 26 = .ok (.iload 4, 2) := by decide +kernel
theorem dX11_knownOn_28 : decode cX11_knownOn 28 = .ok (.aaload, 1) := by decide +kernel
theorem dX11_knownOn_29 : decode cX11_knownOn 29 = .ok (.iconst 0, 1) := by decide +kernel
theorem dX11_knownOn_30 : decode cX11_knownOn 30 = .ok (.iaload, 1) := by decide +kernel
theorem dX11_knownOn_31 : decode cX11_knownOn 31 = .ok (.iload_n 1, 1) := by decide +kernel
theorem dX11_knownOn_32 : decode cX11_knownOn 32 = .ok (.if_icmp .gt 31, 3) := by decide +kernel
theorem dX11_knownOn_35 : decode cX11_knownOn 35 = .ok (.aload_n 0, 1) := by decide +kernel
theorem dX11_knownOn_36 : decode cX11_knownOn 36 = .ok (.getfield 77, 3) := by decide +kernel
theorem dX11_knownOn_39 : decode cX11_knownOn 39 = .ok (.iload 4, 2) := by decide +kernel
theorem dX11_knownOn_41 : decode cX11_knownOn 41 = .ok (.aaload, 1) := by decide +kernel
theorem dX11_knownOn_42 : decode cX11_knownOn 42 = .ok (.iconst 2, 1) := by decide +kernel
theorem dX11_knownOn_43 : decode cX11_knownOn 43 = .ok (.iaload, 1) := by decide +kernel
theorem dX11_knownOn_44 : decode cX11_knownOn 44 = .ok (.iload_n 2, 1) := by decide +kernel
theorem dX11_knownOn_45 : decode cX11_knownOn 45 = .ok (.iconst (-1), 1) := by decide +kernel
theorem dX11_knownOn_46 : decode cX11_knownOn 46 = .ok (.ixor, 1) := by decide +kernel
theorem dX11_knownOn_47 : decode cX11_knownOn 47 = .ok (.iand, 1) := by decide +kernel
theorem dX11_knownOn_48 : decode cX11_knownOn 48 = .ok (.ifCond .ne 15, 3) := by decide +kernel
theorem dX11_knownOn_51 : decode cX11_knownOn 51 = .ok (.iload_n 2, 1) := by decide +kernel
theorem dX11_knownOn_52 : decode cX11_knownOn 52 = .ok (.aload_n 0, 1) := by decide +kernel
theorem dX11_knownOn_53 : decode cX11_knownOn 53 = .ok (.getfield 77, 3) := by decide +kernel
theorem dX11_knownOn_56 : decode cX11_knownOn 56 = .ok (.iload 4, 2) := by decide +kernel
theorem dX11_knownOn_58 : decode cX11_knownOn 58 = .ok (.aaload, 1) := by decide +kernel
theorem dX11_knownOn_59 : decode cX11_knownOn 59 = .ok (.iconst 1, 1) := by decide +kernel
theorem dX11_knownOn_60 : decode cX11_knownOn 60 = .ok (.iaload, 1) := by decide +kernel
theorem dX11_knownOn_61 : decode cX11_knownOn 61 = .ok (.ior, 1) := by decide +kernel
theorem dX11_knownOn_62 : decode cX11_knownOn 62 = .ok (.istore_n 2, 1) := by decide +kernel

theorem dX11_clause_82 : decode cX11_clause 82 = .ok (.aload_n 0, 1) := by decide +kernel
theorem dX11_clause_83 : decode cX11_clause 83 = .ok (.getfield 99, 3) := by decide +kernel
theorem dX11_clause_86 : decode cX11_clause 86 = .ok (.ifCond .ne 22, 3) := by decide +kernel
theorem dX11_clause_89 : decode cX11_clause 89 = .ok (.aload_n 0, 1) := by decide +kernel
theorem dX11_clause_90 : decode cX11_clause 90 = .ok (.bipush 9, 2) := by decide +kernel
theorem dX11_clause_92 : decode cX11_clause 92 = .ok (.bipush 6, 2) := by decide +kernel
theorem dX11_clause_94 : decode cX11_clause 94 = .ok (.iconst 0, 1) := by decide +kernel
theorem dX11_clause_95 : decode cX11_clause 95 = .ok (.iconst 0, 1) := by decide +kernel
theorem dX11_clause_96 : decode cX11_clause 96 = .ok (.iconst 0, 1) := by decide +kernel
theorem dX11_clause_97 : decode cX11_clause 97 = .ok (.iconst 0, 1) := by decide +kernel
theorem dX11_clause_98 : decode cX11_clause 98 = .ok (.invokevirtual 135, 3) := by decide +kernel
theorem dX11_clause_101 : decode cX11_clause 101 = .ok (.ifCond .eq 7, 3) := by decide +kernel
theorem dX11_clause_104 : decode cX11_clause 104 = .ok (.iconst 1, 1) := by decide +kernel
theorem dX11_clause_105 : decode cX11_clause 105 = .ok (.goto 4, 3) := by decide +kernel
theorem dX11_clause_108 : decode cX11_clause 108 = .ok (.iconst 0, 1) := by decide +kernel
theorem dX11_clause_109 : decode cX11_clause 109 = .ok (.istore 4, 2) := by decide +kernel
theorem dX11_clause_111 : decode cX11_clause 111 = .ok (.iload 4, 2) := by decide +kernel
theorem dX11_clause_113 : decode cX11_clause 113 = .ok (.ifCond .eq 11, 3) := by decide +kernel
theorem dX11_clause_116 : decode cX11_clause 116 = .ok (.aload_n 0, 1) := by decide +kernel
theorem dX11_clause_117 : decode cX11_clause 117 = .ok (.invokevirtual 145, 3) := by decide +kernel
theorem dX11_clause_120 : decode cX11_clause 120 = .ok (.aload_n 0, 1) := by decide +kernel
theorem dX11_clause_121 : decode cX11_clause 121 = .ok (.invokevirtual 166, 3) := by decide +kernel
theorem dX11_clause_124 : decode cX11_clause 124 = .ok (.aload_n 0, 1) := by decide +kernel
theorem dX11_clause_125 : decode cX11_clause 125 = .ok (.bipush 59, 2) := by decide +kernel
theorem dX11_clause_127 : decode cX11_clause 127 = .ok (.invokevirtual 154, 3) := by decide +kernel
theorem dX11_clause_130 : decode cX11_clause 130 = .ok (.aload_n 0, 1) := by decide +kernel
theorem dX11_clause_131 : decode cX11_clause 131 = .ok (.iload 4, 2) := by decide +kernel
theorem dX11_clause_133 : decode cX11_clause 133 = .ok (.ifCond .eq 19, 3) := by decide +kernel
theorem dX11_clause_136 : decode cX11_clause 136 = .ok (.iload_n 2, 1) := by decide +kernel
theorem dX11_clause_137 : decode cX11_clause 137 = .ok (.ifCond .eq 9, 3) := by decide +kernel
theorem dX11_clause_140 : decode cX11_clause 140 = .ok (.sipush 10042, 3) := by decide +kernel
theorem dX11_clause_143 : decode cX11_clause 143 = .ok (.goto 22, 3) := by decide +kernel
theorem dX11_clause_146 : decode cX11_clause 146 = .ok (.sipush 10043, 3) := by decide +kernel
theorem dX11_clause_149 : decode cX11_clause 149 = .ok (.goto 16, 3) := by decide +kernel
theorem dX11_clause_152 : decode cX11_clause 152 = .ok (.iload_n 2, 1) := by decide +kernel
theorem dX11_clause_153 : decode cX11_clause 153 = .ok (.ifCond .eq 9, 3) := by decide +kernel
theorem dX11_clause_156 : decode cX11_clause 156 = .ok (.sipush 10040, 3) := by decide +kernel
theorem dX11_clause_159 : decode cX11_clause 159 = .ok (.goto 6, 3) := by decide +kernel
theorem dX11_clause_162 : decode cX11_clause 162 = .ok (.sipush 10041, 3) := by decide +kernel
theorem dX11_clause_165 : decode cX11_clause 165 = .ok (.invokevirtual 117, 3) := by decide +kernel
theorem dX11_clause_168 : decode cX11_clause 168 = .ok (.return_, 1) := by decide +kernel
set_option maxRecDepth 20000 in
theorem ggX11_law_X11_in : GoodIn wsX11_law wsX11_in := goodIn_r _ [17] (by decide +kernel) (by decide +kernel)
set_option maxRecDepth 20000 in
theorem gX11_law_X11_in : GoodIn wsX11_law (va_wsS RX11 172 yX11_in wsX11_in) := goodIn_app (goodIn_of _ (by decide +kernel)) ggX11_law_X11_in
set_option maxRecDepth 20000 in
theorem ggX11_law_X11_bad : GoodIn wsX11_law wsX11_bad := goodIn_r _ [21, 1, 102, 103, 104, 105, 106, 107, 108, 109, 110, 111, 112, 113, 114, 115, 116, 117, 118, 119, 120, 121, 122, 123, 124, 125, 126, 127, 128, 129, 130, 131, 132, 133, 134, 135, 136, 137, 138, 139, 140, 141, 142, 143] (by decide +kernel) (by decide +kernel)
set_option maxRecDepth 20000 in
theorem gX11_law_X11_bad : GoodIn wsX11_law (wsV RX11 176 RX11 yX11_bad wsX11_bad) := goodIn_app (goodIn_of _ (by decide +kernel)) ggX11_law_X11_bad
set_option maxRecDepth 20000 in
theorem ggX11_law_X11_blanks : GoodIn wsX11_law wsX11_blanks := goodIn_r _ [25, 6, 26, 27, 28, 16, 29, 5, 30, 102, 103, 104, 105, 106, 107, 108, 109, 110, 111, 112, 113, 114, 115, 116, 117, 118, 119, 120, 121, 122, 123, 124, 125, 126, 127, 128, 129, 130, 131, 132, 133, 134, 135, 136, 137, 138, 139, 140, 141, 142, 143] (by decide +kernel) (by decide +kernel)
set_option maxRecDepth 20000 in
theorem gX11_law_X11_blanks : GoodIn wsX11_law (wsV RX11 121 RX11 yX11_blanks wsX11_blanks) := goodIn_app (goodIn_of _ (by decide +kernel)) ggX11_law_X11_blanks
set_option maxRecDepth 20000 in
theorem ggX11_law_X11_clause : GoodIn wsX11_law wsX11_clause := goodIn_r _ [34, 6, 8, 35, 36, 37, 16, 38, 39, 40, 41, 42, 22, 23, 24, 25, 26, 27, 28, 29, 5, 30, 43, 44, 45, 46, 47, 48, 49, 9, 50, 51, 52, 53, 54, 55, 56, 57, 58, 59, 60, 61, 62, 63, 64, 12, 10, 65, 66, 67, 68, 69, 7, 70, 71, 72, 73, 74, 75, 76, 77, 78, 79, 80, 81, 82, 83, 84, 85, 86, 87, 88, 89, 90, 91, 92, 93, 94, 95, 96, 97, 98, 99, 100, 101, 102, 103, 104, 105, 106, 107, 108, 109, 110, 111, 112, 113, 114, 115, 116, 117, 118, 119, 120, 121, 122, 123, 124, 125, 126, 127, 128, 129, 130, 131, 132, 133, 134, 135, 136, 137, 138, 139, 140, 141, 142, 143] (by decide +kernel) (by decide +kernel)
set_option maxRecDepth 20000 in
theorem gX11_law_X11_clause : GoodIn wsX11_law (wsV RX11 183 RX11 yX11_clause wsX11_clause) := goodIn_app (goodIn_of _ (by decide +kernel)) ggX11_law_X11_clause
theorem dX11_law_0 : decode cX11_law 0 = .ok (.aload_n 0, 1) := by decide +kernel
theorem dX11_law_1 : decode cX11_law 1 = .ok (.iconst 0, 1) := by decide +kernel
theorem dX11_law_2 : decode cX11_law 2 = .ok (.putfield 83, 3) := by decide +kernel
theorem dX11_law_5 : decode cX11_law 5 = .ok (.aload_n 0, 1) := by decide +kernel
theorem dX11_law_6 : decode cX11_law 6 = .ok (.iload_n 1, 1) := by decide +kernel
theorem dX11_law_7 : decode cX11_law 7 = .ok (.iconst 0, 1) := by decide +kernel
theorem dX11_law_8 : decode cX11_law 8 = .ok (.aload_n 0, 1) := by decide +kernel
theorem dX11_law_9 : decode cX11_law 9 = .ok (.getfield 86, 3) := by decide +kernel
theorem dX11_law_12 : decode cX11_law 12 = .ok (.invokestatic 172, 3) := by decide +kernel
theorem dX11_law_15 : decode cX11_law 15 = .ok (.ifCond .ne 7, 3) := by decide +kernel
theorem dX11_law_18 : decode cX11_law 18 = .ok (.iconst 1, 1) := by decide +kernel
theorem dX11_law_19 : decode cX11_law 19 = .ok (.goto 4, 3) := by decide +kernel
theorem dX11_law_22 : decode cX11_law 22 = .ok (.iconst 0, 1) := by decide +kernel
theorem dX11_law_23 : decode cX11_law 23 = .ok (.iconst 1, 1) := by decide +kernel
theorem dX11_law_24 : decode cX11_law 24 = .ok (.invokevirtual 176, 3) := by decide +kernel
theorem dX11_law_27 : decode cX11_law 27 = .ok (.ifCond .eq 5, 3) := by decide +kernel
theorem dX11_law_30 : decode cX11_law 30 = .ok (.iconst 0, 1) := by decide +kernel
theorem dX11_law_31 : decode cX11_law 31 = .ok (.ireturn, 1) := by decide +kernel
theorem dX11_law_32 : decode cX11_law 32 = .ok (.aload_n 0, 1) := by decide +kernel
theorem dX11_law_33 : decode cX11_law 33 = .ok (.iconst 0, 1) := by decide +kernel
theorem dX11_law_34 : decode cX11_law 34 = .ok (.putfield 86, 3) := by decide +kernel
theorem dX11_law_37 : decode cX11_law 37 = .ok (.aload_n 0, 1) := by decide +kernel
theorem dX11_law_38 : decode cX11_law 38 = .ok (.iconst (-1), 1) := by decide +kernel
theorem dX11_law_39 : decode cX11_law 39 = .ok (.putfield 9, 3) := by decide +kernel
theorem dX11_law_42 : decode cX11_law 42 = .ok (.aload_n 0, 1) := by decide +kernel
theorem dX11_law_43 : decode cX11_law 43 = .ok (.getfield 180, 3) := by decide +kernel
theorem dX11_law_46 : decode cX11_law 46 = .ok (.iconst 4, 1) := by decide +kernel
theorem dX11_law_47 : decode cX11_law 47 = .ok (.if_icmp .ne 5, 3) := by decide +kernel
theorem dX11_law_50 : decode cX11_law 50 = .ok (.iconst (-1), 1) := by decide +kernel
theorem dX11_law_51 : decode cX11_law 51 = .ok (.ireturn, 1) := by decide +kernel
theorem dX11_law_52 : decode cX11_law 52 = .ok (.aload_n 0, 1) := by decide +kernel
theorem dX11_law_53 : decode cX11_law 53 = .ok (.iload_n 1, 1) := by decide +kernel
theorem dX11_law_54 : decode cX11_law 54 = .ok (.putfield 89, 3) := by decide +kernel
theorem dX11_law_57 : decode cX11_law 57 = .ok (.aload_n 0, 1) := by decide +kernel
theorem dX11_law_58 : decode cX11_law 58 = .ok (.iconst 0, 1) := by decide +kernel
theorem dX11_law_59 : decode cX11_law 59 = .ok (.putfield 92, 3) := by decide +kernel
theorem dX11_law_62 : decode cX11_law 62 = .ok (.aload_n 0, 1) := by decide +kernel
theorem dX11_law_63 : decode cX11_law 63 = .ok (.iconst 0, 1) := by decide +kernel
theorem dX11_law_64 : decode cX11_law 64 = .ok (.putfield 132, 3) := by decide +kernel
theorem dX11_law_67 : decode cX11_law 67 = .ok (.aload_n 0, 1) := by decide +kernel
theorem dX11_law_68 : decode cX11_law 68 = .ok (.iconst 0, 1) := by decide +kernel
theorem dX11_law_69 : decode cX11_law 69 = .ok (.putfield 99, 3) := by decide +kernel
theorem dX11_law_72 : decode cX11_law 72 = .ok (.aload_n 0, 1) := by decide +kernel
theorem dX11_law_73 : decode cX11_law 73 = .ok (.iconst (-1), 1) := by decide +kernel
theorem dX11_law_74 : decode cX11_law 74 = .ok (.putfield 102, 3) := by decide +kernel
theorem dX11_law_77 : decode cX11_law 77 = .ok (.aload_n 0, 1) := by decide +kernel
theorem dX11_law_78 : decode cX11_law 78 = .ok (.iconst 0, 1) := by decide +kernel
theorem dX11_law_79 : decode cX11_law 79 = .ok (.putfield 105, 3) := by decide +kernel
theorem dX11_law_82 : decode cX11_law 82 = .ok (.aload_n 0, 1) := by decide +kernel
theorem dX11_law_83 : decode cX11_law 83 = .ok (.invokevirtual 121, 3) := by decide +kernel
theorem dX11_law_86 : decode cX11_law 86 = .ok (.iconst 0, 1) := by decide +kernel
theorem dX11_law_87 : decode cX11_law 87 = .ok (.istore_n 2, 1) := by decide +kernel
theorem dX11_law_88 : decode cX11_law 88 = .ok (.aload_n 0, 1) := by decide +kernel
theorem dX11_law_89 : decode cX11_law 89 = .ok (.getfield 99, 3) := by decide +kernel
theorem dX11_law_92 : decode cX11_law 92 = .ok (.ifCond .ne 29, 3) := by decide +kernel
theorem dX11_law_95 : decode cX11_law 95 = .ok (.aload_n 0, 1) := by decide +kernel
theorem dX11_law_96 : decode cX11_law 96 = .ok (.getfield 92, 3) := by decide +kernel
theorem dX11_law_99 : decode cX11_law 99 = .ok (.aload_n 0, 1) := by decide +kernel
theorem dX11_law_100 : decode cX11_law 100 = .ok (.getfield 89, 3) := by decide +kernel
theorem dX11_law_103 : decode cX11_law 103 = .ok (.if_icmp .ge 18, 3) := by decide +kernel
theorem dX11_law_106 : decode cX11_law 106 = .ok (.aload_n 0, 1) := by decide +kernel
theorem dX11_law_107 : decode cX11_law 107 = .ok (.iload_n 2, 1) := by decide +kernel
theorem dX11_law_108 : decode cX11_law 108 = .ok (.invokevirtual 183, 3) := by decide +kernel
theorem dX11_law_111 : decode cX11_law 111 = .ok (.aload_n 0, 1) := by decide +kernel
theorem dX11_law_112 : decode cX11_law 112 = .ok (.invokevirtual 121, 3) := by decide +kernel
theorem dX11_law_115 : decode cX11_law 115 = .ok (.iinc 2 1, 3) := by decide +kernel
theorem dX11_law_118 : decode cX11_law 118 = .ok (.goto (-30), 3) := by decide +kernel
theorem dX11_law_121 : decode cX11_law 121 = .ok (.aload_n 0, 1) := by decide +kernel
theorem dX11_law_122 : decode cX11_law 122 = .ok (.aload_n 0, 1) := by decide +kernel
theorem dX11_law_123 : decode cX11_law 123 = .ok (.getfield 102, 3) := by decide +kernel
theorem dX11_law_126 : decode cX11_law 126 = .ok (.putfield 9, 3) := by decide +kernel
theorem dX11_law_129 : decode cX11_law 129 = .ok (.aload_n 0, 1) := by decide +kernel
theorem dX11_law_130 : decode cX11_law 130 = .ok (.getfield 99, 3) := by decide +kernel
theorem dX11_law_133 : decode cX11_law 133 = .ok (.ifCond .eq 11, 3) := by decide +kernel
theorem dX11_law_136 : decode cX11_law 136 = .ok (.aload_n 0, 1) := by decide +kernel
theorem dX11_law_137 : decode cX11_law 137 = .ok (.getfield 99, 3) := by decide +kernel
theorem dX11_law_140 : decode cX11_law 140 = .ok (.bipush 10, 2) := by decide +kernel
theorem dX11_law_142 : decode cX11_law 142 = .ok (.isub, 1) := by decide +kernel
theorem dX11_law_143 : decode cX11_law 143 = .ok (.ireturn, 1) := by decide +kernel
theorem dX11_law_144 : decode cX11_law 144 = .ok (.iconst 0, 1) := by decide +kernel
theorem dX11_law_145 : decode cX11_law 145 = .ok (.istore_n 2, 1) := by decide +kernel
theorem dX11_law_146 : decode cX11_law 146 = .ok (.iload_n 2, 1) := by decide +kernel
theorem dX11_law_147 : decode cX11_law 147 = .ok (.aload_n 0, 1) := by decide +kernel
theorem dX11_law_148 : decode cX11_law 148 = .ok (.getfield 105, 3) := by decide +kernel
theorem dX11_law_151 : decode cX11_law 151 = .ok (.if_icmp .ge 26, 3) := by decide +kernel
theorem dX11_law_154 : decode cX11_law 154 = .ok (.aload_n 0, 1) := by decide +kernel
theorem dX11_law_155 : decode cX11_law 155 = .ok (.getfield 22, 3) := by decide +kernel
theorem dX11_law_158 : decode cX11_law 158 = .ok (.aload_n 0, 1) := by decide +kernel
theorem dX11_law_159 : decode cX11_law 159 = .ok (.getfield 180, 3) := by decide +kernel
theorem dX11_law_162 : decode cX11_law 162 = .ok (.aaload, 1) := by decide +kernel
theorem dX11_law_163 : decode cX11_law 163 = .ok (.iload_n 2, 1) := by decide +kernel
theorem dX11_law_164 : decode cX11_law 164 = .ok (.aload_n 0, 1) := by decide +kernel
theorem dX11_law_165 : decode cX11_law 165 = .ok (.getfield 17, 3) := by decide +kernel
theorem dX11_law_168 : decode cX11_law 168 = .ok (.iload_n 2, 1) := by decide +kernel
theorem dX11_law_169 : decode cX11_law 169 = .ok (.iaload, 1) := by decide +kernel
theorem dX11_law_170 : decode cX11_law 170 = .ok (.iastore, 1) := by decide +kernel
theorem dX11_law_171 : decode cX11_law 171 = .ok (.iinc 2 1, 3) := by decide +kernel
theorem dX11_law_174 : decode cX11_law 174 = .ok (.goto (-28), 3) := by decide +kernel
theorem dX11_law_177 : decode cX11_law 177 = .ok (.aload_n 0, 1) := by decide +kernel
theorem dX11_law_178 : decode cX11_law 178 = .ok (.getfield 25, 3) := by decide +kernel
theorem dX11_law_181 : decode cX11_law 181 = .ok (.aload_n 0, 1) := by decide +kernel
theorem dX11_law_182 : decode cX11_law 182 = .ok (.getfield 180, 3) := by decide +kernel
theorem dX11_law_185 : decode cX11_law 185 = .ok (.aload_n 0, 1) := by decide +kernel
theorem dX11_law_186 : decode cX11_law 186 = .ok (.getfield 105, 3) := by decide +kernel
theorem dX11_law_189 : decode cX11_law 189 = .ok (.iastore, 1) := by decide +kernel
theorem dX11_law_190 : decode cX11_law 190 = .ok (.aload_n 0, 1) := by decide +kernel
theorem dX11_law_191 : decode cX11_law 191 = .ok (.dup, 1) := by decide +kernel
theorem dX11_law_192 : decode cX11_law 192 = .ok (.getfield 180, 3) := by decide +kernel
theorem dX11_law_195 : decode cX11_law 195 = .ok (.iconst 1, 1) := by decide +kernel
theorem dX11_law_196 : decode cX11_law 196 = .ok (.iadd, 1) := by decide +kernel
theorem dX11_law_197 : decode cX11_law 197 = .ok (.putfield 180, 3) := by decide +kernel
theorem dX11_law_200 : decode cX11_law 200 = .ok (.aload_n 0, 1) := by decide +kernel
theorem dX11_law_201 : decode cX11_law 201 = .ok (.getfield 180, 3) := by decide +kernel
theorem dX11_law_204 : decode cX11_law 204 = .ok (.iconst 1, 1) := by decide +kernel
theorem dX11_law_205 : decode cX11_law 205 = .ok (.isub, 1) := by decide +kernel
theorem dX11_law_206 : decode cX11_law 206 = .ok (.ireturn, 1) := by decide +kernel
theorem dX11_fault_0 : decode cX11_fault 0 = .ok (.aload_n 0, 1) := by decide +kernel
theorem dX11_fault_1 : decode cX11_fault 1 = .ok (.iconst 0, 1) := by decide +kernel
theorem dX11_fault_2 : decode cX11_fault 2 = .ok (.putfield 83, 3) := by decide +kernel
theorem dX11_fault_5 : decode cX11_fault 5 = .ok (.aload_n 0, 1) := by decide +kernel
theorem dX11_fault_6 : decode cX11_fault 6 = .ok (.getfield 9, 3) := by decide +kernel
theorem dX11_fault_9 : decode cX11_fault 9 = .ok (.ireturn, 1) := by decide +kernel
theorem dX11_worked_0 : decode cX11_worked 0 = .ok (.iload_n 0, 1) := by decide +kernel
theorem dX11_worked_1 : decode cX11_worked 1 = .ok (.tableswitch 158 10020 10034 #[75, 79, 83, 87, 99, 110, 158, 158, 158, 158, 121, 132, 143, 158, 154], 75) := by decide +kernel
theorem dX11_worked_76 : decode cX11_worked 76 = .ok (.iload_n 1, 1) := by decide +kernel
theorem dX11_worked_77 : decode cX11_worked 77 = .ok (.iload_n 2, 1) := by decide +kernel
theorem dX11_worked_78 : decode cX11_worked 78 = .ok (.iadd, 1) := by decide +kernel
theorem dX11_worked_79 : decode cX11_worked 79 = .ok (.ireturn, 1) := by decide +kernel
theorem dX11_worked_80 : decode cX11_worked 80 = .ok (.iload_n 1, 1) := by decide +kernel
theorem dX11_worked_81 : decode cX11_worked 81 = .ok (.iload_n 2, 1) := by decide +kernel
theorem dX11_worked_82 : decode cX11_worked 82 = .ok (.isub, 1) := by decide +kernel
theorem dX11_worked_83 : decode cX11_worked 83 = .ok (.ireturn, 1) := by decide +kernel
theorem dX11_worked_84 : decode cX11_worked 84 = .ok (.iload_n 1, 1) := by decide +kernel
theorem dX11_worked_85 : decode cX11_worked 85 = .ok (.iload_n 2, 1) := by decide +kernel
theorem dX11_worked_86 : decode cX11_worked 86 = .ok (.imul, 1) := by decide +kernel
theorem dX11_worked_87 : decode cX11_worked 87 = .ok (.ireturn, 1) := by decide +kernel
theorem dX11_worked_88 : decode cX11_worked 88 = .ok (.iload_n 2, 1) := by decide +kernel
theorem dX11_worked_89 : decode cX11_worked 89 = .ok (.ifCond .ne 7, 3) := by decide +kernel
theorem dX11_worked_92 : decode cX11_worked 92 = .ok (.iconst 0, 1) := by decide +kernel
theorem dX11_worked_93 : decode cX11_worked 93 = .ok (.goto 6, 3) := by decide +kernel
theorem dX11_worked_96 : decode cX11_worked 96 = .ok (.iload_n 1, 1) := by decide +kernel
theorem dX11_worked_97 : decode cX11_worked 97 = .ok (.iload_n 2, 1) := by decide +kernel
theorem dX11_worked_98 : decode cX11_worked 98 = .ok (.idiv, 1) := by decide +kernel
theorem dX11_worked_99 : decode cX11_worked 99 = .ok (.ireturn, 1) := by decide +kernel
theorem dX11_worked_100 : decode cX11_worked 100 = .ok (.iload_n 1, 1) := by decide +kernel
theorem dX11_worked_101 : decode cX11_worked 101 = .ok (.iload_n 2, 1) := by decide +kernel
theorem dX11_worked_102 : decode cX11_worked 102 = .ok (.if_icmp .ge 7, 3) := by decide +kernel
theorem dX11_worked_105 : decode cX11_worked 105 = .ok (.iload_n 1, 1) := by decide +kernel
theorem dX11_worked_106 : decode cX11_worked 106 = .ok (.goto 4, 3) := by decide +kernel
theorem dX11_worked_109 : decode cX11_worked 109 = .ok (.iload_n 2, 1) := by decide +kernel
theorem dX11_worked_110 : decode cX11_worked 110 = .ok (.ireturn, 1) := by decide +kernel
theorem dX11_worked_111 : decode cX11_worked 111 = .ok (.iload_n 1, 1) := by decide +kernel
theorem dX11_worked_112 : decode cX11_worked 112 = .ok (.iload_n 2, 1) := by decide +kernel
theorem dX11_worked_113 : decode cX11_worked 113 = .ok (.if_icmp .le 7, 3) := by decide +kernel
theorem dX11_worked_116 : decode cX11_worked 116 = .ok (.iload_n 1, 1) := by decide +kernel
theorem dX11_worked_117 : decode cX11_worked 117 = .ok (.goto 4, 3) := by decide +kernel
theorem dX11_worked_120 : decode cX11_worked 120 = .ok (.iload_n 2, 1) := by decide +kernel
theorem dX11_worked_121 : decode cX11_worked 121 = .ok (.ireturn, 1) := by decide +kernel
theorem dX11_worked_122 : decode cX11_worked 122 = .ok (.iload_n 1, 1) := by decide +kernel
theorem dX11_worked_123 : decode cX11_worked 123 = .ok (.iload_n 2, 1) := by decide +kernel
theorem dX11_worked_124 : decode cX11_worked 124 = .ok (.if_icmp .ge 7, 3) := by decide +kernel
theorem dX11_worked_127 : decode cX11_worked 127 = .ok (.iconst 1, 1) := by decide +kernel
theorem dX11_worked_128 : decode cX11_worked 128 = .ok (.goto 4, 3) := by decide +kernel
theorem dX11_worked_131 : decode cX11_worked 131 = .ok (.iconst 0, 1) := by decide +kernel
theorem dX11_worked_132 : decode cX11_worked 132 = .ok (.ireturn, 1) := by decide +kernel
theorem dX11_worked_133 : decode cX11_worked 133 = .ok (.iload_n 1, 1) := by decide +kernel
theorem dX11_worked_134 : decode cX11_worked 134 = .ok (.iload_n 2, 1) := by decide +kernel
theorem dX11_worked_135 : decode cX11_worked 135 = .ok (.if_icmp .le 7, 3) := by decide +kernel
theorem dX11_worked_138 : decode cX11_worked 138 = .ok (.iconst 1, 1) := by decide +kernel
theorem dX11_worked_139 : decode cX11_worked 139 = .ok (.goto 4, 3) := by decide +kernel
theorem dX11_worked_142 : decode cX11_worked 142 = .ok (.iconst 0, 1) := by decide +kernel
theorem dX11_worked_143 : decode cX11_worked 143 = .ok (.ireturn, 1) := by decide +kernel
theorem dX11_worked_144 : decode cX11_worked 144 = .ok (.iload_n 1, 1) := by decide +kernel
theorem dX11_worked_145 : decode cX11_worked 145 = .ok (.iload_n 2, 1) := by decide +kernel
theorem dX11_worked_146 : decode cX11_worked 146 = .ok (.if_icmp .ne 7, 3) := by decide +kernel
theorem dX11_worked_149 : decode cX11_worked 149 = .ok (.iconst 1, 1) := by decide +kernel
theorem dX11_worked_150 : decode cX11_worked 150 = .ok (.goto 4, 3) := by decide +kernel
theorem dX11_worked_153 : decode cX11_worked 153 = .ok (.iconst 0, 1) := by decide +kernel
theorem dX11_worked_154 : decode cX11_worked 154 = .ok (.ireturn, 1) := by decide +kernel
theorem dX11_worked_155 : decode cX11_worked 155 = .ok (.iload_n 1, 1) := by decide +kernel
theorem dX11_worked_156 : decode cX11_worked 156 = .ok (.iload_n 2, 1) := by decide +kernel
theorem dX11_worked_157 : decode cX11_worked 157 = .ok (.iand, 1) := by decide +kernel
theorem dX11_worked_158 : decode cX11_worked 158 = .ok (.ireturn, 1) := by decide +kernel
theorem dX11_worked_159 : decode cX11_worked 159 = .ok (.iload_n 1, 1) := by decide +kernel
theorem dX11_worked_160 : decode cX11_worked 160 = .ok (.iload_n 2, 1) := by decide +kernel
theorem dX11_worked_161 : decode cX11_worked 161 = .ok (.ior, 1) := by decide +kernel
theorem dX11_worked_162 : decode cX11_worked 162 = .ok (.ireturn, 1) := by decide +kernel
set_option maxRecDepth 20000 in
theorem ggX11_asks_X11_worked : GoodIn wsX11_asks wsX11_worked := goodIn_r _ [13] (by decide +kernel) (by decide +kernel)
set_option maxRecDepth 20000 in
theorem gX11_asks_X11_worked : GoodIn wsX11_asks (va_wsS RX11 186 yX11_worked wsX11_worked) := goodIn_app (goodIn_of _ (by decide +kernel)) ggX11_asks_X11_worked
set_option maxRecDepth 20000 in
theorem ggX11_asks_X11_within : GoodIn wsX11_asks wsX11_within := goodIn_r _ [16] (by decide +kernel) (by decide +kernel)
set_option maxRecDepth 20000 in
theorem gX11_asks_X11_within : GoodIn wsX11_asks (va_wsS RX11 191 yX11_within wsX11_within) := goodIn_app (goodIn_of _ (by decide +kernel)) ggX11_asks_X11_within
theorem dX11_asks_0 : decode cX11_asks 0 = .ok (.iconst 0, 1) := by decide +kernel
theorem dX11_asks_1 : decode cX11_asks 1 = .ok (.istore_n 2, 1) := by decide +kernel
theorem dX11_asks_2 : decode cX11_asks 2 = .ok (.iconst 0, 1) := by decide +kernel
theorem dX11_asks_3 : decode cX11_asks 3 = .ok (.istore_n 3, 1) := by decide +kernel
theorem dX11_asks_4 : decode cX11_asks 4 = .ok (.iconst 0, 1) := by decide +kernel
theorem dX11_asks_5 : decode cX11_asks 5 = .ok (.istore 4, 2) := by decide +kernel
theorem dX11_asks_7 : decode cX11_asks 7 = .ok (.iconst 0, 1) := by decide +kernel
theorem dX11_asks_8 : decode cX11_asks 8 = .ok (.istore 5, 2) := by decide +kernel
theorem dX11_asks_10 : decode cX11_asks 10 = .ok (.iload 5, 2) := by decide +kernel
theorem dX11_asks_12 : decode cX11_asks 12 = .ok (.aload_n 0, 1) := by decide +kernel
theorem dX11_asks_13 : decode cX11_asks 13 = .ok (.getfield 25, 3) := by decide +kernel
theorem dX11_asks_16 : decode cX11_asks 16 = .ok (.iload_n 1, 1) := by decide +kernel
theorem dX11_asks_17 : decode cX11_asks 17 = .ok (.iaload, 1) := by decide +kernel
theorem dX11_asks_18 : decode cX11_asks 18 = .ok (.if_icmp .ge 256, 3) := by decide +kernel
theorem dX11_asks_21 : decode cX11_asks 21 = .ok (.aload_n 0, 1) := by decide +kernel
theorem dX11_asks_22 : decode cX11_asks 22 = .ok (.getfield 22, 3) := by decide +kernel
theorem dX11_asks_25 : decode cX11_asks 25 = .ok (.iload_n 1, 1) := by decide +kernel
theorem dX11_asks_26 : decode cX11_asks 26 = .ok (.aaload, 1) := by decide +kernel
theorem dX11_asks_27 : decode cX11_asks 27 = .ok (.iload 5, 2) := by decide +kernel
theorem dX11_asks_29 : decode cX11_asks 29 = .ok (.iaload, 1) := by decide +kernel
theorem dX11_asks_30 : decode cX11_asks 30 = .ok (.istore 6, 2) := by decide +kernel
theorem dX11_asks_32 : decode cX11_asks 32 = .ok (.iload 6, 2) := by decide +kernel
theorem dX11_asks_34 : decode cX11_asks 34 = .ok (.sipush 10020, 3) := by decide +kernel
theorem dX11_asks_37 : decode cX11_asks 37 = .ok (.if_icmp .ge 39, 3) := by decide +kernel
theorem dX11_asks_40 : decode cX11_asks 40 = .ok (.aload_n 0, 1) := by decide +kernel
theorem dX11_asks_41 : decode cX11_asks 41 = .ok (.getfield 28, 3) := by decide +kernel
theorem dX11_asks_44 : decode cX11_asks 44 = .ok (.iload_n 2, 1) := by decide +kernel
theorem dX11_asks_45 : decode cX11_asks 45 = .ok (.iload 6, 2) := by decide +kernel
theorem dX11_asks_47 : decode cX11_asks 47 = .ok (.sipush 10000, 3) := by decide +kernel
theorem dX11_asks_50 : decode cX11_asks 50 = .ok (.if_icmp .ge 8, 3) := by decide +kernel
theorem dX11_asks_53 : decode cX11_asks 53 = .ok (.iload 6, 2) := by decide +kernel
theorem dX11_asks_55 : decode cX11_asks 55 = .ok (.goto 14, 3) := by decide +kernel
theorem dX11_asks_58 : decode cX11_asks 58 = .ok (.aload_n 0, 1) := by decide +kernel
theorem dX11_asks_59 : decode cX11_asks 59 = .ok (.getfield 31, 3) := by decide +kernel
theorem dX11_asks_62 : decode cX11_asks 62 = .ok (.iload 6, 2) := by decide +kernel
theorem dX11_asks_64 : decode cX11_asks 64 = .ok (.sipush 10000, 3) := by decide +kernel
theorem dX11_asks_67 : decode cX11_asks 67 = .ok (.isub, 1) := by decide +kernel
theorem dX11_asks_68 : decode cX11_asks 68 = .ok (.iaload, 1) := by decide +kernel
theorem dX11_asks_69 : decode cX11_asks 69 = .ok (.iastore, 1) := by decide +kernel
theorem dX11_asks_70 : decode cX11_asks 70 = .ok (.iinc 2 1, 3) := by decide +kernel
theorem dX11_asks_73 : decode cX11_asks 73 = .ok (.goto 195, 3) := by decide +kernel
theorem dX11_asks_76 : decode cX11_asks 76 = .ok (.iload 6, 2) := by decide +kernel
theorem dX11_asks_78 : decode cX11_asks 78 = .ok (.sipush 10026, 3) := by decide +kernel
theorem dX11_asks_81 : decode cX11_asks 81 = .ok (.if_icmp .ne 45, 3) := by decide +kernel
theorem dX11_asks_84 : decode cX11_asks 84 = .ok (.aload_n 0, 1) := by decide +kernel
theorem dX11_asks_85 : decode cX11_asks 85 = .ok (.getfield 28, 3) := by decide +kernel
theorem dX11_asks_88 : decode cX11_asks 88 = .ok (.iload_n 2, 1) := by decide +kernel
theorem dX11_asks_89 : decode cX11_asks 89 = .ok (.iconst 1, 1) := by decide +kernel
theorem dX11_asks_90 : decode cX11_asks 90 = .ok (.isub, 1) := by decide +kernel
theorem dX11_asks_91 : decode cX11_asks 91 = .ok (.aload_n 0, 1) := by decide +kernel
theorem dX11_asks_92 : decode cX11_asks 92 = .ok (.getfield 28, 3) := by decide +kernel
theorem dX11_asks_95 : decode cX11_asks 95 = .ok (.iload_n 2, 1) := by decide +kernel
theorem dX11_asks_96 : decode cX11_asks 96 = .ok (.iconst 1, 1) := by decide +kernel
theorem dX11_asks_97 : decode cX11_asks 97 = .ok (.isub, 1) := by decide +kernel
theorem dX11_asks_98 : decode cX11_asks 98 = .ok (.iaload, 1) := by decide +kernel
theorem dX11_asks_99 : decode cX11_asks 99 = .ok (.ifCond .le 7, 3) := by decide +kernel
theorem dX11_asks_102 : decode cX11_asks 102 = .ok (.iconst 1, 1) := by decide +kernel
theorem dX11_asks_103 : decode cX11_asks 103 = .ok (.goto 19, 3) := by decide +kernel
theorem dX11_asks_106 : decode cX11_asks 106 = .ok (.aload_n 0, 1) := by decide +kernel
theorem dX11_asks_107 : decode cX11_asks 107 = .ok (.getfield 28, 3) := by decide +kernel
theorem dX11_asks_110 : decode cX11_asks 110 = .ok (.iload_n 2, 1) := by decide +kernel
theorem dX11_asks_111 : decode cX11_asks 111 = .ok (.iconst 1, 1) := by decide +kernel
theorem dX11_asks_112 : decode cX11_asks 112 = .ok (.isub, 1) := by decide +kernel
theorem dX11_asks_113 : decode cX11_asks 113 = .ok (.iaload, 1) := by decide +kernel
theorem dX11_asks_114 : decode cX11_asks 114 = .ok (.ifCond .ge 7, 3) := by decide +kernel
theorem dX11_asks_117 : decode cX11_asks 117 = .ok (.iconst (-1), 1) := by decide +kernel
theorem dX11_asks_118 : decode cX11_asks 118 = .ok (.goto 4, 3) := by decide +kernel
theorem dX11_asks_121 : decode cX11_asks 121 = .ok (.iconst 0, 1) := by decide +kernel
theorem dX11_asks_122 : decode cX11_asks 122 = .ok (.iastore, 1) := by decide +kernel
theorem dX11_asks_123 : decode cX11_asks 123 = .ok (.goto 145, 3) := by decide +kernel
theorem dX11_asks_126 : decode cX11_asks 126 = .ok (.iload 6, 2) := by decide +kernel
theorem dX11_asks_128 : decode cX11_asks 128 = .ok (.sipush 10033, 3) := by decide +kernel
theorem dX11_asks_131 : decode cX11_asks 131 = .ok (.if_icmp .ne 24, 3) := by decide +kernel
theorem dX11_asks_134 : decode cX11_asks 134 = .ok (.aload_n 0, 1) := by decide +kernel
theorem dX11_asks_135 : decode cX11_asks 135 = .ok (.getfield 28, 3) := by decide +kernel
theorem dX11_asks_138 : decode cX11_asks 138 = .ok (.iload_n 2, 1) := by decide +kernel
theorem dX11_asks_139 : decode cX11_asks 139 = .ok (.iconst 1, 1) := by decide +kernel
theorem dX11_asks_140 : decode cX11_asks 140 = .ok (.isub, 1) := by decide +kernel
theorem dX11_asks_141 : decode cX11_asks 141 = .ok (.iconst 1, 1) := by decide +kernel
theorem dX11_asks_142 : decode cX11_asks 142 = .ok (.aload_n 0, 1) := by decide +kernel
theorem dX11_asks_143 : decode cX11_asks 143 = .ok (.getfield 28, 3) := by decide +kernel
theorem dX11_asks_146 : decode cX11_asks 146 = .ok (.iload_n 2, 1) := by decide +kernel
theorem dX11_asks_147 : decode cX11_asks 147 = .ok (.iconst 1, 1) := by decide +kernel
theorem dX11_asks_148 : decode cX11_asks 148 = .ok (.isub, 1) := by decide +kernel
theorem dX11_asks_149 : decode cX11_asks 149 = .ok (.iaload, 1) := by decide +kernel
theorem dX11_asks_150 : decode cX11_asks 150 = .ok (.isub, 1) := by decide +kernel
theorem dX11_asks_151 : decode cX11_asks 151 = .ok (.iastore, 1) := by decide +kernel
theorem dX11_asks_152 : decode cX11_asks 152 = .ok (.goto 116, 3) := by decide +kernel
theorem dX11_asks_155 : decode cX11_asks 155 = .ok (.iload 6, 2) := by decide +kernel
theorem dX11_asks_157 : decode cX11_asks 157 = .ok (.sipush 10040, 3) := by decide +kernel
theorem dX11_asks_160 : decode cX11_asks 160 = .ok (.if_icmp .ge 36, 3) := by decide +kernel
theorem dX11_asks_163 : decode cX11_asks 163 = .ok (.iinc 2 (-1), 3) := by decide +kernel
theorem dX11_asks_166 : decode cX11_asks 166 = .ok (.aload_n 0, 1) := by decide +kernel
theorem dX11_asks_167 : decode cX11_asks 167 = .ok (.getfield 28, 3) := by decide +kernel
theorem dX11_asks_170 : decode cX11_asks 170 = .ok (.iload_n 2, 1) := by decide +kernel
theorem dX11_asks_171 : decode cX11_asks 171 = .ok (.iconst 1, 1) := by decide +kernel
theorem dX11_asks_172 : decode cX11_asks 172 = .ok (.isub, 1) := by decide +kernel
theorem dX11_asks_173 : decode cX11_asks 173 = .ok (.iload 6, 2) := by decide +kernel
theorem dX11_asks_175 : decode cX11_asks 175 = .ok (.aload_n 0, 1) := by decide +kernel
theorem dX11_asks_176 : decode cX11_asks 176 = .ok (.getfield 28, 3) := by decide +kernel
theorem dX11_asks_179 : decode cX11_asks 179 = .ok (.iload_n 2, 1) := by decide +kernel
theorem dX11_asks_180 : decode cX11_asks 180 = .ok (.iconst 1, 1) := by decide +kernel
theorem dX11_asks_181 : decode cX11_asks 181 = .ok (.isub, 1) := by decide +kernel
theorem dX11_asks_182 : decode cX11_asks 182 = .ok (.iaload, 1) := by decide +kernel
theorem dX11_asks_183 : decode cX11_asks 183 = .ok (.aload_n 0, 1) := by decide +kernel
theorem dX11_asks_184 : decode cX11_asks 184 = .ok (.getfield 28, 3) := by decide +kernel
theorem dX11_asks_187 : decode cX11_asks 187 = .ok (.iload_n 2, 1) := by decide +kernel
theorem dX11_asks_188 : decode cX11_asks 188 = .ok (.iaload, 1) := by decide +kernel
theorem dX11_asks_189 : decode cX11_asks 189 = .ok (.invokestatic 186, 3) := by decide +kernel
theorem dX11_asks_192 : decode cX11_asks 192 = .ok (.iastore, 1) := by decide +kernel
theorem dX11_asks_193 : decode cX11_asks 193 = .ok (.goto 75, 3) := by decide +kernel
theorem dX11_asks_196 : decode cX11_asks 196 = .ok (.iload 6, 2) := by decide +kernel
theorem dX11_asks_198 : decode cX11_asks 198 = .ok (.sipush 10042, 3) := by decide +kernel
theorem dX11_asks_201 : decode cX11_asks 201 = .ok (.if_icmp .ge 12, 3) := by decide +kernel
theorem dX11_asks_204 : decode cX11_asks 204 = .ok (.aload_n 0, 1) := by decide +kernel
theorem dX11_asks_205 : decode cX11_asks 205 = .ok (.getfield 28, 3) := by decide +kernel
theorem dX11_asks_208 : decode cX11_asks 208 = .ok (.iconst 0, 1) := by decide +kernel
theorem dX11_asks_209 : decode cX11_asks 209 = .ok (.iaload, 1) := by decide +kernel
theorem dX11_asks_210 : decode cX11_asks 210 = .ok (.goto 23, 3) := by decide +kernel
theorem dX11_asks_213 : decode cX11_asks 213 = .ok (.aload_n 0, 1) := by decide +kernel
theorem dX11_asks_214 : decode cX11_asks 214 = .ok (.getfield 28, 3) := by decide +kernel
theorem dX11_asks_217 : decode cX11_asks 217 = .ok (.iconst 1, 1) := by decide +kernel
theorem dX11_asks_218 : decode cX11_asks 218 = .ok (.iaload, 1) := by decide +kernel
theorem dX11_asks_219 : decode cX11_asks 219 = .ok (.iconst 1, 1) := by decide +kernel
theorem dX11_asks_220 : decode cX11_asks 220 = .ok (.if_icmp .ne 12, 3) := by decide +kernel
theorem dX11_asks_223 : decode cX11_asks 223 = .ok (.aload_n 0, 1) := by decide +kernel
theorem dX11_asks_224 : decode cX11_asks 224 = .ok (.getfield 28, 3) := by decide +kernel
theorem dX11_asks_227 : decode cX11_asks 227 = .ok (.iconst 0, 1) := by decide +kernel
theorem dX11_asks_228 : decode cX11_asks 228 = .ok (.iaload, 1) := by decide +kernel
theorem dX11_asks_229 : decode cX11_asks 229 = .ok (.goto 4, 3) := by decide +kernel
theorem dX11_asks_232 : decode cX11_asks 232 = .ok (.iconst 0, 1) := by decide +kernel
theorem dX11_asks_233 : decode cX11_asks 233 = .ok (.istore 7, 2) := by decide +kernel
theorem dX11_asks_235 : decode cX11_asks 235 = .ok (.iload 6, 2) := by decide +kernel
theorem dX11_asks_237 : decode cX11_asks 237 = .ok (.sipush 10040, 3) := by decide +kernel
theorem dX11_asks_240 : decode cX11_asks 240 = .ok (.if_icmp .eq 11, 3) := by decide +kernel
theorem dX11_asks_243 : decode cX11_asks 243 = .ok (.iload 6, 2) := by decide +kernel
theorem dX11_asks_245 : decode cX11_asks 245 = .ok (.sipush 10042, 3) := by decide +kernel
theorem dX11_asks_248 : decode cX11_asks 248 = .ok (.if_icmp .ne 11, 3) := by decide +kernel
theorem dX11_asks_251 : decode cX11_asks 251 = .ok (.iload_n 3, 1) := by decide +kernel
theorem dX11_asks_252 : decode cX11_asks 252 = .ok (.iload 7, 2) := by decide +kernel
theorem dX11_asks_254 : decode cX11_asks 254 = .ok (.iadd, 1) := by decide +kernel
theorem dX11_asks_255 : decode cX11_asks 255 = .ok (.istore_n 3, 1) := by decide +kernel
theorem dX11_asks_256 : decode cX11_asks 256 = .ok (.goto 10, 3) := by decide +kernel
theorem dX11_asks_259 : decode cX11_asks 259 = .ok (.iload 4, 2) := by decide +kernel
theorem dX11_asks_261 : decode cX11_asks 261 = .ok (.iload 7, 2) := by decide +kernel
theorem dX11_asks_263 : decode cX11_asks 263 = .ok (.iadd, 1) := by decide +kernel
theorem dX11_asks_264 : decode cX11_asks 264 = .ok (.istore 4, 2) := by decide +kernel
theorem dX11_asks_266 : decode cX11_asks 266 = .ok (.iconst 0, 1) := by decide +kernel
theorem dX11_asks_267 : decode cX11_asks 267 = .ok (.istore_n 2, 1) := by decide +kernel
theorem dX11_asks_268 : decode cX11_asks 268 = .ok (.iinc 5 1, 3) := by decide +kernel
theorem dX11_asks_271 : decode cX11_asks 271 = .ok (.goto (-261), 3) := by decide +kernel
theorem dX11_asks_274 : decode cX11_asks 274 = .ok (.aload_n 0, 1) := by decide +kernel
theorem dX11_asks_275 : decode cX11_asks 275 = .ok (.iload_n 3, 1) := by decide +kernel
theorem dX11_asks_276 : decode cX11_asks 276 = .ok (.ldc 190, 2) := by decide +kernel
theorem dX11_asks_278 : decode cX11_asks 278 = .ok (.ldc 112, 2) := by decide +kernel
theorem dX11_asks_280 : decode cX11_asks 280 = .ok (.invokestatic 191, 3) := by decide +kernel
theorem dX11_asks_283 : decode cX11_asks 283 = .ok (.aload_n 0, 1) := by decide +kernel
theorem dX11_asks_284 : decode cX11_asks 284 = .ok (.getfield 34, 3) := by decide +kernel
theorem dX11_asks_287 : decode cX11_asks 287 = .ok (.imul, 1) := by decide +kernel
theorem dX11_asks_288 : decode cX11_asks 288 = .ok (.bipush 100, 2) := by decide +kernel
theorem dX11_asks_290 : decode cX11_asks 290 = .ok (.idiv, 1) := by decide +kernel
theorem dX11_asks_291 : decode cX11_asks 291 = .ok (.putfield 194, 3) := by decide +kernel
theorem dX11_asks_294 : decode cX11_asks 294 = .ok (.aload_n 0, 1) := by decide +kernel
theorem dX11_asks_295 : decode cX11_asks 295 = .ok (.iload 4, 2) := by decide +kernel
theorem dX11_asks_297 : decode cX11_asks 297 = .ok (.ldc 190, 2) := by decide +kernel
theorem dX11_asks_299 : decode cX11_asks 299 = .ok (.ldc 112, 2) := by decide +kernel
theorem dX11_asks_301 : decode cX11_asks 301 = .ok (.invokestatic 191, 3) := by decide +kernel
theorem dX11_asks_304 : decode cX11_asks 304 = .ok (.aload_n 0, 1) := by decide +kernel
theorem dX11_asks_305 : decode cX11_asks 305 = .ok (.getfield 34, 3) := by decide +kernel
theorem dX11_asks_308 : decode cX11_asks 308 = .ok (.imul, 1) := by decide +kernel
theorem dX11_asks_309 : decode cX11_asks 309 = .ok (.bipush 100, 2) := by decide +kernel
theorem dX11_asks_311 : decode cX11_asks 311 = .ok (.idiv, 1) := by decide +kernel
theorem dX11_asks_312 : decode cX11_asks 312 = .ok (.putfield 197, 3) := by decide +kernel
theorem dX11_asks_315 : decode cX11_asks 315 = .ok (.return_, 1) := by decide +kernel
set_option maxRecDepth 20000 in
theorem ggX11_deck_X11_in : GoodIn wsX11_deck wsX11_in := goodIn_r _ [10] (by decide +kernel) (by decide +kernel)
set_option maxRecDepth 20000 in
theorem gX11_deck_X11_in : GoodIn wsX11_deck (va_wsS RX11 172 yX11_in wsX11_in) := goodIn_app (goodIn_of _ (by decide +kernel)) ggX11_deck_X11_in
set_option maxRecDepth 20000 in
theorem ggX11_deck_X11_bad : GoodIn wsX11_deck wsX11_bad := goodIn_r _ [14, 1, 15, 16, 17, 18, 19, 20, 21, 22, 23, 24, 25, 26, 27, 28, 29, 30, 31, 32, 33, 34, 35, 36, 37, 38, 39, 40, 41, 42, 43, 44, 45, 46, 47, 48, 49, 50, 51, 52, 53, 54, 55, 56] (by decide +kernel) (by decide +kernel)
set_option maxRecDepth 20000 in
theorem gX11_deck_X11_bad : GoodIn wsX11_deck (wsV RX11 176 RX11 yX11_bad wsX11_bad) := goodIn_app (goodIn_of _ (by decide +kernel)) ggX11_deck_X11_bad
theorem dX11_deck_0 : decode cX11_deck 0 = .ok (.aload_n 0, 1) := by decide +kernel
theorem dX11_deck_1 : decode cX11_deck 1 = .ok (.iconst 0, 1) := by decide +kernel
theorem dX11_deck_2 : decode cX11_deck 2 = .ok (.putfield 83, 3) := by decide +kernel
theorem dX11_deck_5 : decode cX11_deck 5 = .ok (.aload_n 0, 1) := by decide +kernel
theorem dX11_deck_6 : decode cX11_deck 6 = .ok (.iload_n 1, 1) := by decide +kernel
theorem dX11_deck_7 : decode cX11_deck 7 = .ok (.iconst 2, 1) := by decide +kernel
theorem dX11_deck_8 : decode cX11_deck 8 = .ok (.bipush 8, 2) := by decide +kernel
theorem dX11_deck_10 : decode cX11_deck 10 = .ok (.invokestatic 172, 3) := by decide +kernel
theorem dX11_deck_13 : decode cX11_deck 13 = .ok (.ifCond .ne 7, 3) := by decide +kernel
theorem dX11_deck_16 : decode cX11_deck 16 = .ok (.iconst 1, 1) := by decide +kernel
theorem dX11_deck_17 : decode cX11_deck 17 = .ok (.goto 4, 3) := by decide +kernel
theorem dX11_deck_20 : decode cX11_deck 20 = .ok (.iconst 0, 1) := by decide +kernel
theorem dX11_deck_21 : decode cX11_deck 21 = .ok (.iconst 1, 1) := by decide +kernel
theorem dX11_deck_22 : decode cX11_deck 22 = .ok (.invokevirtual 176, 3) := by decide +kernel
theorem dX11_deck_25 : decode cX11_deck 25 = .ok (.ifCond .eq 5, 3) := by decide +kernel
theorem dX11_deck_28 : decode cX11_deck 28 = .ok (.iconst 0, 1) := by decide +kernel
theorem dX11_deck_29 : decode cX11_deck 29 = .ok (.ireturn, 1) := by decide +kernel
theorem dX11_deck_30 : decode cX11_deck 30 = .ok (.aload_n 0, 1) := by decide +kernel
theorem dX11_deck_31 : decode cX11_deck 31 = .ok (.getfield 37, 3) := by decide +kernel
theorem dX11_deck_34 : decode cX11_deck 34 = .ok (.istore_n 2, 1) := by decide +kernel
theorem dX11_deck_35 : decode cX11_deck 35 = .ok (.aload_n 0, 1) := by decide +kernel
theorem dX11_deck_36 : decode cX11_deck 36 = .ok (.iload_n 1, 1) := by decide +kernel
theorem dX11_deck_37 : decode cX11_deck 37 = .ok (.putfield 37, 3) := by decide +kernel
theorem dX11_deck_40 : decode cX11_deck 40 = .ok (.aload_n 0, 1) := by decide +kernel
theorem dX11_deck_41 : decode cX11_deck 41 = .ok (.iconst 0, 1) := by decide +kernel
theorem dX11_deck_42 : decode cX11_deck 42 = .ok (.putfield 200, 3) := by decide +kernel
theorem dX11_deck_45 : decode cX11_deck 45 = .ok (.iconst 0, 1) := by decide +kernel
theorem dX11_deck_46 : decode cX11_deck 46 = .ok (.istore_n 3, 1) := by decide +kernel
theorem dX11_deck_47 : decode cX11_deck 47 = .ok (.iload_n 3, 1) := by decide +kernel
theorem dX11_deck_48 : decode cX11_deck 48 = .ok (.bipush 8, 2) := by decide +kernel
theorem dX11_deck_50 : decode cX11_deck 50 = .ok (.if_icmp .ge 48, 3) := by decide +kernel
theorem dX11_deck_53 : decode cX11_deck 53 = .ok (.iconst 0, 1) := by decide +kernel
theorem dX11_deck_54 : decode cX11_deck 54 = .ok (.istore 4, 2) := by decide +kernel
theorem dX11_deck_56 : decode cX11_deck 56 = .ok (.iload 4, 2) := by decide +kernel
theorem dX11_deck_58 : decode cX11_deck 58 = .ok (.iconst 4, 1) := by decide +kernel
theorem dX11_deck_59 : decode cX11_deck 59 = .ok (.if_icmp .ge 19, 3) := by decide +kernel
theorem dX11_deck_62 : decode cX11_deck 62 = .ok (.aload_n 0, 1) := by decide +kernel
theorem dX11_deck_63 : decode cX11_deck 63 = .ok (.getfield 43, 3) := by decide +kernel
theorem dX11_deck_66 : decode cX11_deck 66 = .ok (.iload 4, 2) := by decide +kernel
theorem dX11_deck_68 : decode cX11_deck 68 = .ok (.aaload, 1) := by decide +kernel
theorem dX11_deck_69 : decode cX11_deck 69 = .ok (.iload_n 3, 1) := by decide +kernel
theorem dX11_deck_70 : decode cX11_deck 70 = .ok (.iconst 0, 1) := by decide +kernel
theorem dX11_deck_71 : decode cX11_deck 71 = .ok (.iastore, 1) := by decide +kernel
theorem dX11_deck_72 : decode cX11_deck 72 = .ok (.iinc 4 1, 3) := by decide +kernel
theorem dX11_deck_75 : decode cX11_deck 75 = .ok (.goto (-19), 3) := by decide +kernel
theorem dX11_deck_78 : decode cX11_deck 78 = .ok (.aload_n 0, 1) := by decide +kernel
theorem dX11_deck_79 : decode cX11_deck 79 = .ok (.getfield 49, 3) := by decide +kernel
theorem dX11_deck_82 : decode cX11_deck 82 = .ok (.iload_n 3, 1) := by decide +kernel
theorem dX11_deck_83 : decode cX11_deck 83 = .ok (.iconst 2, 1) := by decide +kernel
theorem dX11_deck_84 : decode cX11_deck 84 = .ok (.iastore, 1) := by decide +kernel
theorem dX11_deck_85 : decode cX11_deck 85 = .ok (.aload_n 0, 1) := by decide +kernel
theorem dX11_deck_86 : decode cX11_deck 86 = .ok (.getfield 52, 3) := by decide +kernel
theorem dX11_deck_89 : decode cX11_deck 89 = .ok (.iload_n 3, 1) := by decide +kernel
theorem dX11_deck_90 : decode cX11_deck 90 = .ok (.iconst 0, 1) := by decide +kernel
theorem dX11_deck_91 : decode cX11_deck 91 = .ok (.bastore, 1) := by decide +kernel
theorem dX11_deck_92 : decode cX11_deck 92 = .ok (.iinc 3 1, 3) := by decide +kernel
theorem dX11_deck_95 : decode cX11_deck 95 = .ok (.goto (-48), 3) := by decide +kernel
theorem dX11_deck_98 : decode cX11_deck 98 = .ok (.iload_n 2, 1) := by decide +kernel
theorem dX11_deck_99 : decode cX11_deck 99 = .ok (.ireturn, 1) := by decide +kernel
theorem dX11_lowest_0 : decode cX11_lowest 0 = .ok (.iload_n 0, 1) := by decide +kernel
theorem dX11_lowest_1 : decode cX11_lowest 1 = .ok (.ifCond .ne 7, 3) := by decide +kernel
theorem dX11_lowest_4 : decode cX11_lowest 4 = .ok (.iconst 1, 1) := by decide +kernel
theorem dX11_lowest_5 : decode cX11_lowest 5 = .ok (.goto 4, 3) := by decide +kernel
theorem dX11_lowest_8 : decode cX11_lowest 8 = .ok (.iconst 0, 1) := by decide +kernel
theorem dX11_lowest_9 : decode cX11_lowest 9 = .ok (.ireturn, 1) := by decide +kernel
theorem dX11_highest_0 : decode cX11_highest 0 = .ok (.iload_n 0, 1) := by decide +kernel
theorem dX11_highest_1 : decode cX11_highest 1 = .ok (.bipush 7, 2) := by decide +kernel
theorem dX11_highest_3 : decode cX11_highest 3 = .ok (.if_icmp .ne 9, 3) := by decide +kernel
theorem dX11_highest_6 : decode cX11_highest 6 = .ok (.sipush 9999, 3) := by decide +kernel
theorem dX11_highest_9 : decode cX11_highest 9 = .ok (.goto 16, 3) := by decide +kernel
theorem dX11_highest_12 : decode cX11_highest 12 = .ok (.iload_n 0, 1) := by decide +kernel
theorem dX11_highest_13 : decode cX11_highest 13 = .ok (.bipush 9, 2) := by decide +kernel
theorem dX11_highest_15 : decode cX11_highest 15 = .ok (.if_icmp .ne 8, 3) := by decide +kernel
theorem dX11_highest_18 : decode cX11_highest 18 = .ok (.ldc 203, 2) := by decide +kernel
theorem dX11_highest_20 : decode cX11_highest 20 = .ok (.goto 5, 3) := by decide +kernel
theorem dX11_highest_23 : decode cX11_highest 23 = .ok (.bipush 99, 2) := by decide +kernel
theorem dX11_highest_25 : decode cX11_highest 25 = .ok (.ireturn, 1) := by decide +kernel
set_option maxRecDepth 20000 in
theorem ggX11_set_X11_in : GoodIn wsX11_set wsX11_in := goodIn_r _ [6] (by decide +kernel) (by decide +kernel)
set_option maxRecDepth 20000 in
theorem gX11_set_X11_in : GoodIn wsX11_set (va_wsS RX11 172 yX11_in wsX11_in) := goodIn_app (goodIn_of _ (by decide +kernel)) ggX11_set_X11_in
set_option maxRecDepth 20000 in
theorem ggX11_set_X11_bad : GoodIn wsX11_set wsX11_bad := goodIn_r _ [10, 1, 18, 19, 20, 21, 22, 23, 24, 25, 26, 27, 28, 29, 30, 31, 32, 33, 34, 35, 36, 37, 38, 39, 40, 41, 42, 43, 44, 45, 46, 47, 48, 49, 50, 51, 52, 53, 54, 55, 56, 57, 58, 59] (by decide +kernel) (by decide +kernel)
set_option maxRecDepth 20000 in
theorem gX11_set_X11_bad : GoodIn wsX11_set (wsV RX11 176 RX11 yX11_bad wsX11_bad) := goodIn_app (goodIn_of _ (by decide +kernel)) ggX11_set_X11_bad
set_option maxRecDepth 20000 in
theorem ggX11_set_X11_lowest : GoodIn wsX11_set wsX11_lowest := goodIn_r _ [13] (by decide +kernel) (by decide +kernel)
set_option maxRecDepth 20000 in
theorem gX11_set_X11_lowest : GoodIn wsX11_set (va_wsS RX11 204 yX11_lowest wsX11_lowest) := goodIn_app (goodIn_of _ (by decide +kernel)) ggX11_set_X11_lowest
set_option maxRecDepth 20000 in
theorem ggX11_set_X11_highest : GoodIn wsX11_set wsX11_highest := goodIn_r _ [16, 17] (by decide +kernel) (by decide +kernel)
set_option maxRecDepth 20000 in
theorem gX11_set_X11_highest : GoodIn wsX11_set (va_wsS RX11 207 yX11_highest wsX11_highest) := goodIn_app (goodIn_of _ (by decide +kernel)) ggX11_set_X11_highest
theorem dX11_set_0 : decode cX11_set 0 = .ok (.aload_n 0, 1) := by decide +kernel
theorem dX11_set_1 : decode cX11_set 1 = .ok (.iconst 0, 1) := by decide +kernel
theorem dX11_set_2 : decode cX11_set 2 = .ok (.putfield 83, 3) := by decide +kernel
theorem dX11_set_5 : decode cX11_set 5 = .ok (.aload_n 0, 1) := by decide +kernel
theorem dX11_set_6 : decode cX11_set 6 = .ok (.iload_n 1, 1) := by decide +kernel
theorem dX11_set_7 : decode cX11_set 7 = .ok (.iconst 0, 1) := by decide +kernel
theorem dX11_set_8 : decode cX11_set 8 = .ok (.bipush 9, 2) := by decide +kernel
theorem dX11_set_10 : decode cX11_set 10 = .ok (.invokestatic 172, 3) := by decide +kernel
theorem dX11_set_13 : decode cX11_set 13 = .ok (.ifCond .ne 7, 3) := by decide +kernel
theorem dX11_set_16 : decode cX11_set 16 = .ok (.iconst 1, 1) := by decide +kernel
theorem dX11_set_17 : decode cX11_set 17 = .ok (.goto 4, 3) := by decide +kernel
theorem dX11_set_20 : decode cX11_set 20 = .ok (.iconst 0, 1) := by decide +kernel
theorem dX11_set_21 : decode cX11_set 21 = .ok (.iconst 1, 1) := by decide +kernel
theorem dX11_set_22 : decode cX11_set 22 = .ok (.invokevirtual 176, 3) := by decide +kernel
theorem dX11_set_25 : decode cX11_set 25 = .ok (.ifCond .ne 31, 3) := by decide +kernel
theorem dX11_set_28 : decode cX11_set 28 = .ok (.aload_n 0, 1) := by decide +kernel
theorem dX11_set_29 : decode cX11_set 29 = .ok (.iload_n 2, 1) := by decide +kernel
theorem dX11_set_30 : decode cX11_set 30 = .ok (.iload_n 1, 1) := by decide +kernel
theorem dX11_set_31 : decode cX11_set 31 = .ok (.invokestatic 204, 3) := by decide +kernel
theorem dX11_set_34 : decode cX11_set 34 = .ok (.iload_n 1, 1) := by decide +kernel
theorem dX11_set_35 : decode cX11_set 35 = .ok (.invokestatic 207, 3) := by decide +kernel
theorem dX11_set_38 : decode cX11_set 38 = .ok (.invokestatic 172, 3) := by decide +kernel
theorem dX11_set_41 : decode cX11_set 41 = .ok (.ifCond .ne 7, 3) := by decide +kernel
theorem dX11_set_44 : decode cX11_set 44 = .ok (.iconst 1, 1) := by decide +kernel
theorem dX11_set_45 : decode cX11_set 45 = .ok (.goto 4, 3) := by decide +kernel
theorem dX11_set_48 : decode cX11_set 48 = .ok (.iconst 0, 1) := by decide +kernel
theorem dX11_set_49 : decode cX11_set 49 = .ok (.iconst 1, 1) := by decide +kernel
theorem dX11_set_50 : decode cX11_set 50 = .ok (.invokevirtual 176, 3) := by decide +kernel
theorem dX11_set_53 : decode cX11_set 53 = .ok (.ifCond .eq 5, 3) := by decide +kernel
theorem dX11_set_56 : decode cX11_set 56 = .ok (.iconst 0, 1) := by decide +kernel
theorem dX11_set_57 : decode cX11_set 57 = .ok (.ireturn, 1) := by decide +kernel
theorem dX11_set_58 : decode cX11_set 58 = .ok (.aload_n 0, 1) := by decide +kernel
theorem dX11_set_59 : decode cX11_set 59 = .ok (.getfield 40, 3) := by decide +kernel
theorem dX11_set_62 : decode cX11_set 62 = .ok (.iload_n 1, 1) := by decide +kernel
theorem dX11_set_63 : decode cX11_set 63 = .ok (.iaload, 1) := by decide +kernel
theorem dX11_set_64 : decode cX11_set 64 = .ok (.istore_n 3, 1) := by decide +kernel
theorem dX11_set_65 : decode cX11_set 65 = .ok (.aload_n 0, 1) := by decide +kernel
theorem dX11_set_66 : decode cX11_set 66 = .ok (.getfield 40, 3) := by decide +kernel
theorem dX11_set_69 : decode cX11_set 69 = .ok (.iload_n 1, 1) := by decide +kernel
theorem dX11_set_70 : decode cX11_set 70 = .ok (.iload_n 2, 1) := by decide +kernel
theorem dX11_set_71 : decode cX11_set 71 = .ok (.iastore, 1) := by decide +kernel
theorem dX11_set_72 : decode cX11_set 72 = .ok (.iload_n 3, 1) := by decide +kernel
theorem dX11_set_73 : decode cX11_set 73 = .ok (.ireturn, 1) := by decide +kernel
set_option maxRecDepth 20000 in
theorem ggX11_isPiece_X11_in : GoodIn wsX11_isPiece wsX11_in := goodIn_r _ [5] (by decide +kernel) (by decide +kernel)
set_option maxRecDepth 20000 in
theorem gX11_isPiece_X11_in : GoodIn wsX11_isPiece (va_wsS RX11 172 yX11_in wsX11_in) := goodIn_app (goodIn_of _ (by decide +kernel)) ggX11_isPiece_X11_in
theorem dX11_isPiece_0 : decode cX11_isPiece 0 = .ok (.iload_n 1, 1) := by decide +kernel
theorem dX11_isPiece_1 : decode cX11_isPiece 1 = .ok (.iconst 0, 1) := by decide +kernel
theorem dX11_isPiece_2 : decode cX11_isPiece 2 = .ok (.aload_n 0, 1) := by decide +kernel
theorem dX11_isPiece_3 : decode cX11_isPiece 3 = .ok (.getfield 37, 3) := by decide +kernel
theorem dX11_isPiece_6 : decode cX11_isPiece 6 = .ok (.iconst 1, 1) := by decide +kernel
theorem dX11_isPiece_7 : decode cX11_isPiece 7 = .ok (.isub, 1) := by decide +kernel
theorem dX11_isPiece_8 : decode cX11_isPiece 8 = .ok (.invokestatic 172, 3) := by decide +kernel
theorem dX11_isPiece_11 : decode cX11_isPiece 11 = .ok (.ireturn, 1) := by decide +kernel
set_option maxRecDepth 20000 in
theorem ggX11_stay_X11_isPiece : GoodIn wsX11_stay wsX11_isPiece := goodIn_r _ [7, 8, 9, 10, 6, 11, 16, 17, 18, 19, 20, 21, 22, 23, 24, 25, 26, 27, 28, 29, 30, 31, 32, 33, 34, 35, 36, 37, 38, 39, 40, 41, 42, 43, 44, 45, 46, 47, 48, 49, 50, 51, 52, 53, 54, 55, 56, 57] (by decide +kernel) (by decide +kernel)
set_option maxRecDepth 20000 in
theorem gX11_stay_X11_isPiece : GoodIn wsX11_stay (wsV RX11 210 RX11 yX11_isPiece wsX11_isPiece) := goodIn_app (goodIn_of _ (by decide +kernel)) ggX11_stay_X11_isPiece
set_option maxRecDepth 20000 in
theorem ggX11_stay_X11_bad : GoodIn wsX11_stay wsX11_bad := goodIn_r _ [15, 1, 16, 17, 18, 19, 20, 21, 22, 23, 24, 25, 26, 27, 28, 29, 30, 31, 32, 33, 34, 35, 36, 37, 38, 39, 40, 41, 42, 43, 44, 45, 46, 47, 48, 49, 50, 51, 52, 53, 54, 55, 56, 57] (by decide +kernel) (by decide +kernel)
set_option maxRecDepth 20000 in
theorem gX11_stay_X11_bad : GoodIn wsX11_stay (wsV RX11 176 RX11 yX11_bad wsX11_bad) := goodIn_app (goodIn_of _ (by decide +kernel)) ggX11_stay_X11_bad
theorem dX11_stay_0 : decode cX11_stay 0 = .ok (.aload_n 0, 1) := by decide +kernel
theorem dX11_stay_1 : decode cX11_stay 1 = .ok (.iconst 0, 1) := by decide +kernel
theorem dX11_stay_2 : decode cX11_stay 2 = .ok (.putfield 83, 3) := by decide +kernel
theorem dX11_stay_5 : decode cX11_stay 5 = .ok (.aload_n 0, 1) := by decide +kernel
theorem dX11_stay_6 : decode cX11_stay 6 = .ok (.aload_n 0, 1) := by decide +kernel
theorem dX11_stay_7 : decode cX11_stay 7 = .ok (.iload_n 1, 1) := by decide +kernel
theorem dX11_stay_8 : decode cX11_stay 8 = .ok (.invokevirtual 210, 3) := by decide +kernel
theorem dX11_stay_11 : decode cX11_stay 11 = .ok (.ifCond .ne 7, 3) := by decide +kernel
theorem dX11_stay_14 : decode cX11_stay 14 = .ok (.iconst 1, 1) := by decide +kernel
theorem dX11_stay_15 : decode cX11_stay 15 = .ok (.goto 4, 3) := by decide +kernel
theorem dX11_stay_18 : decode cX11_stay 18 = .ok (.iconst 0, 1) := by decide +kernel
theorem dX11_stay_19 : decode cX11_stay 19 = .ok (.iconst 1, 1) := by decide +kernel
theorem dX11_stay_20 : decode cX11_stay 20 = .ok (.invokevirtual 176, 3) := by decide +kernel
theorem dX11_stay_23 : decode cX11_stay 23 = .ok (.ifCond .eq 5, 3) := by decide +kernel
theorem dX11_stay_26 : decode cX11_stay 26 = .ok (.iconst 0, 1) := by decide +kernel
theorem dX11_stay_27 : decode cX11_stay 27 = .ok (.ireturn, 1) := by decide +kernel
theorem dX11_stay_28 : decode cX11_stay 28 = .ok (.aload_n 0, 1) := by decide +kernel
theorem dX11_stay_29 : decode cX11_stay 29 = .ok (.getfield 49, 3) := by decide +kernel
theorem dX11_stay_32 : decode cX11_stay 32 = .ok (.iload_n 1, 1) := by decide +kernel
theorem dX11_stay_33 : decode cX11_stay 33 = .ok (.iaload, 1) := by decide +kernel
theorem dX11_stay_34 : decode cX11_stay 34 = .ok (.istore_n 3, 1) := by decide +kernel
theorem dX11_stay_35 : decode cX11_stay 35 = .ok (.iload_n 2, 1) := by decide +kernel
theorem dX11_stay_36 : decode cX11_stay 36 = .ok (.ifCond .eq 7, 3) := by decide +kernel
theorem dX11_stay_39 : decode cX11_stay 39 = .ok (.iload_n 3, 1) := by decide +kernel
theorem dX11_stay_40 : decode cX11_stay 40 = .ok (.ifCond .ne 18, 3) := by decide +kernel
theorem dX11_stay_43 : decode cX11_stay 43 = .ok (.aload_n 0, 1) := by decide +kernel
theorem dX11_stay_44 : decode cX11_stay 44 = .ok (.getfield 49, 3) := by decide +kernel
theorem dX11_stay_47 : decode cX11_stay 47 = .ok (.iload_n 1, 1) := by decide +kernel
theorem dX11_stay_48 : decode cX11_stay 48 = .ok (.iload_n 2, 1) := by decide +kernel
theorem dX11_stay_49 : decode cX11_stay 49 = .ok (.ifCond .eq 7, 3) := by decide +kernel
theorem dX11_stay_52 : decode cX11_stay 52 = .ok (.iconst 2, 1) := by decide +kernel
theorem dX11_stay_53 : decode cX11_stay 53 = .ok (.goto 4, 3) := by decide +kernel
theorem dX11_stay_56 : decode cX11_stay 56 = .ok (.iconst 0, 1) := by decide +kernel
theorem dX11_stay_57 : decode cX11_stay 57 = .ok (.iastore, 1) := by decide +kernel
theorem dX11_stay_58 : decode cX11_stay 58 = .ok (.iload_n 3, 1) := by decide +kernel
theorem dX11_stay_59 : decode cX11_stay 59 = .ok (.ireturn, 1) := by decide +kernel
set_option maxRecDepth 20000 in
theorem ggX11_isShape_X11_in : GoodIn wsX11_isShape wsX11_in := goodIn_r _ [4] (by decide +kernel) (by decide +kernel)
set_option maxRecDepth 20000 in
theorem gX11_isShape_X11_in : GoodIn wsX11_isShape (va_wsS RX11 172 yX11_in wsX11_in) := goodIn_app (goodIn_of _ (by decide +kernel)) ggX11_isShape_X11_in
theorem dX11_isShape_0 : decode cX11_isShape 0 = .ok (.iload_n 0, 1) := by decide +kernel
theorem dX11_isShape_1 : decode cX11_isShape 1 = .ok (.iconst 0, 1) := by decide +kernel
theorem dX11_isShape_2 : decode cX11_isShape 2 = .ok (.iconst 1, 1) := by decide +kernel
theorem dX11_isShape_3 : decode cX11_isShape 3 = .ok (.invokestatic 172, 3) := by decide +kernel
theorem dX11_isShape_6 : decode cX11_isShape 6 = .ok (.ifCond .eq 16, 3) := by decide +kernel
theorem dX11_isShape_9 : decode cX11_isShape 9 = .ok (.iload_n 1, 1) := by decide +kernel
theorem dX11_isShape_10 : decode cX11_isShape 10 = .ok (.iconst 1, 1) := by decide +kernel
theorem dX11_isShape_11 : decode cX11_isShape 11 = .ok (.iconst 4, 1) := by decide +kernel
theorem dX11_isShape_12 : decode cX11_isShape 12 = .ok (.invokestatic 172, 3) := by decide +kernel
theorem dX11_isShape_15 : decode cX11_isShape 15 = .ok (.ifCond .eq 7, 3) := by decide +kernel
theorem dX11_isShape_18 : decode cX11_isShape 18 = .ok (.iconst 1, 1) := by decide +kernel
theorem dX11_isShape_19 : decode cX11_isShape 19 = .ok (.goto 4, 3) := by decide +kernel
theorem dX11_isShape_22 : decode cX11_isShape 22 = .ok (.iconst 0, 1) := by decide +kernel
theorem dX11_isShape_23 : decode cX11_isShape 23 = .ok (.ireturn, 1) := by decide +kernel
theorem dX11_shapes_0 : decode cX11_shapes 0 = .ok (.iconst 0, 1) := by decide +kernel
theorem dX11_shapes_1 : decode cX11_shapes 1 = .ok (.istore 4, 2) := by decide +kernel
theorem dX11_shapes_3 : decode cX11_shapes 3 = .ok (.iload 4, 2) := by decide +kernel
theorem dX11_shapes_5 : decode cX11_shapes 5 = .ok (.aload_n 0, 1) := by decide +kernel
theorem dX11_shapes_6 : decode cX11_shapes 6 = .ok (.getfield 37, 3) := by decide +kernel
theorem dX11_shapes_9 : decode cX11_shapes 9 = .ok (.if_icmp .ge 64, 3) := by decide +kernel
theorem dX11_shapes_12 : decode cX11_shapes 12 = .ok (.iconst 0, 1) := by decide +kernel

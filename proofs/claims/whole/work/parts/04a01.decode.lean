theorem dX6_init_22 : decode cX6_init 22 = .ok (.dup, 1) := by decide +kernel
theorem dX6_init_23 : decode cX6_init 23 = .ok (.invokespecial 22, 3) := by decide +kernel
theorem dX6_init_26 : decode cX6_init 26 = .ok (.putfield 23, 3) := by decide +kernel
theorem dX6_init_29 : decode cX6_init 29 = .ok (.return_, 1) := by decide +kernel
theorem dX6_read_0 : decode cX6_read 0 = .ok (.aload_n 0, 1) := by decide +kernel
theorem dX6_read_1 : decode cX6_read 1 = .ok (.getfield 23, 3) := by decide +kernel
theorem dX6_read_4 : decode cX6_read 4 = .ok (.aload_n 1, 1) := by decide +kernel
theorem dX6_read_5 : decode cX6_read 5 = .ok (.iload_n 2, 1) := by decide +kernel
theorem dX6_read_6 : decode cX6_read 6 = .ok (.invokevirtual 27, 3) := by decide +kernel
theorem dX6_read_9 : decode cX6_read 9 = .ok (.aload_n 0, 1) := by decide +kernel
theorem dX6_read_10 : decode cX6_read 10 = .ok (.iconst 0, 1) := by decide +kernel
theorem dX6_read_11 : decode cX6_read 11 = .ok (.putfield 31, 3) := by decide +kernel
theorem dX6_read_14 : decode cX6_read 14 = .ok (.aload_n 0, 1) := by decide +kernel
theorem dX6_read_15 : decode cX6_read 15 = .ok (.iconst 0, 1) := by decide +kernel
theorem dX6_read_16 : decode cX6_read 16 = .ok (.putfield 35, 3) := by decide +kernel
theorem dX6_read_19 : decode cX6_read 19 = .ok (.aload_n 0, 1) := by decide +kernel
theorem dX6_read_20 : decode cX6_read 20 = .ok (.iconst (-1), 1) := by decide +kernel
theorem dX6_read_21 : decode cX6_read 21 = .ok (.putfield 38, 3) := by decide +kernel
theorem dX6_read_24 : decode cX6_read 24 = .ok (.aload_n 0, 1) := by decide +kernel
theorem dX6_read_25 : decode cX6_read 25 = .ok (.iconst (-1), 1) := by decide +kernel
theorem dX6_read_26 : decode cX6_read 26 = .ok (.putfield 41, 3) := by decide +kernel
theorem dX6_read_29 : decode cX6_read 29 = .ok (.aload_n 0, 1) := by decide +kernel
theorem dX6_read_30 : decode cX6_read 30 = .ok (.invokevirtual 44, 3) := by decide +kernel
theorem dX6_read_33 : decode cX6_read 33 = .ok (.iconst 0, 1) := by decide +kernel
theorem dX6_read_34 : decode cX6_read 34 = .ok (.istore_n 3, 1) := by decide +kernel
theorem dX6_read_35 : decode cX6_read 35 = .ok (.iload_n 3, 1) := by decide +kernel
theorem dX6_read_36 : decode cX6_read 36 = .ok (.bipush 12, 2) := by decide +kernel
theorem dX6_read_38 : decode cX6_read 38 = .ok (.if_icmp .gt 120, 3) := by decide +kernel
theorem dX6_read_41 : decode cX6_read 41 = .ok (.aload_n 0, 1) := by decide +kernel
theorem dX6_read_42 : decode cX6_read 42 = .ok (.getfield 47, 3) := by decide +kernel
theorem dX6_read_45 : decode cX6_read 45 = .ok (.sipush 401, 3) := by decide +kernel
theorem dX6_read_48 : decode cX6_read 48 = .ok (.if_icmp .eq 110, 3) := by decide +kernel
theorem dX6_read_51 : decode cX6_read 51 = .ok (.aload_n 0, 1) := by decide +kernel
theorem dX6_read_52 : decode cX6_read 52 = .ok (.getfield 47, 3) := by decide +kernel
theorem dX6_read_55 : decode cX6_read 55 = .ok (.sipush 402, 3) := by decide +kernel
theorem dX6_read_58 : decode cX6_read 58 = .ok (.if_icmp .eq 100, 3) := by decide +kernel
theorem dX6_read_61 : decode cX6_read 61 = .ok (.aload_n 0, 1) := by decide +kernel
theorem dX6_read_62 : decode cX6_read 62 = .ok (.getfield 47, 3) := by decide +kernel
theorem dX6_read_65 : decode cX6_read 65 = .ok (.istore 4, 2) := by decide +kernel
theorem dX6_read_67 : decode cX6_read 67 = .ok (.iload 4, 2) := by decide +kernel
theorem dX6_read_69 : decode cX6_read 69 = .ok (.sipush 309, 3) := by decide +kernel
theorem dX6_read_72 : decode cX6_read 72 = .ok (.if_icmp .eq 19, 3) := by decide +kernel
theorem dX6_read_75 : decode cX6_read 75 = .ok (.iload 4, 2) := by decide +kernel
theorem dX6_read_77 : decode cX6_read 77 = .ok (.sipush 310, 3) := by decide +kernel
theorem dX6_read_80 : decode cX6_read 80 = .ok (.if_icmp .eq 11, 3) := by decide +kernel
theorem dX6_read_83 : decode cX6_read 83 = .ok (.aload_n 0, 1) := by decide +kernel
theorem dX6_read_84 : decode cX6_read 84 = .ok (.iconst 1, 1) := by decide +kernel
theorem dX6_read_85 : decode cX6_read 85 = .ok (.invokevirtual 50, 3) := by decide +kernel
theorem dX6_read_88 : decode cX6_read 88 = .ok (.goto 64, 3) := by decide +kernel
theorem dX6_read_91 : decode cX6_read 91 = .ok (.iload_n 3, 1) := by decide +kernel
theorem dX6_read_92 : decode cX6_read 92 = .ok (.bipush 12, 2) := by decide +kernel
theorem dX6_read_94 : decode cX6_read 94 = .ok (.if_icmp .ne 11, 3) := by decide +kernel
theorem dX6_read_97 : decode cX6_read 97 = .ok (.aload_n 0, 1) := by decide +kernel
theorem dX6_read_98 : decode cX6_read 98 = .ok (.iconst 3, 1) := by decide +kernel
theorem dX6_read_99 : decode cX6_read 99 = .ok (.invokevirtual 50, 3) := by decide +kernel
theorem dX6_read_102 : decode cX6_read 102 = .ok (.goto 50, 3) := by decide +kernel
theorem dX6_read_105 : decode cX6_read 105 = .ok (.aload_n 0, 1) := by decide +kernel
theorem dX6_read_106 : decode cX6_read 106 = .ok (.invokevirtual 44, 3) := by decide +kernel
theorem dX6_read_109 : decode cX6_read 109 = .ok (.aload_n 0, 1) := by decide +kernel
theorem dX6_read_110 : decode cX6_read 110 = .ok (.iconst 0, 1) := by decide +kernel
theorem dX6_read_111 : decode cX6_read 111 = .ok (.invokevirtual 53, 3) := by decide +kernel
theorem dX6_read_114 : decode cX6_read 114 = .ok (.aload_n 0, 1) := by decide +kernel
theorem dX6_read_115 : decode cX6_read 115 = .ok (.getfield 47, 3) := by decide +kernel
theorem dX6_read_118 : decode cX6_read 118 = .ok (.sipush 311, 3) := by decide +kernel
theorem dX6_read_121 : decode cX6_read 121 = .ok (.if_icmp .ne 19, 3) := by decide +kernel
theorem dX6_read_124 : decode cX6_read 124 = .ok (.aload_n 0, 1) := by decide +kernel
theorem dX6_read_125 : decode cX6_read 125 = .ok (.invokevirtual 44, 3) := by decide +kernel
theorem dX6_read_128 : decode cX6_read 128 = .ok (.aload_n 0, 1) := by decide +kernel
theorem dX6_read_129 : decode cX6_read 129 = .ok (.iconst 0, 1) := by decide +kernel
theorem dX6_read_130 : decode cX6_read 130 = .ok (.invokevirtual 56, 3) := by decide +kernel
theorem dX6_read_133 : decode cX6_read 133 = .ok (.aload_n 0, 1) := by decide +kernel
theorem dX6_read_134 : decode cX6_read 134 = .ok (.sipush 311, 3) := by decide +kernel
theorem dX6_read_137 : decode cX6_read 137 = .ok (.invokevirtual 59, 3) := by decide +kernel
theorem dX6_read_140 : decode cX6_read 140 = .ok (.aload_n 0, 1) := by decide +kernel
theorem dX6_read_141 : decode cX6_read 141 = .ok (.bipush 59, 2) := by decide +kernel
theorem dX6_read_143 : decode cX6_read 143 = .ok (.invokevirtual 62, 3) := by decide +kernel
theorem dX6_read_146 : decode cX6_read 146 = .ok (.aload_n 0, 1) := by decide +kernel
theorem dX6_read_147 : decode cX6_read 147 = .ok (.iload 4, 2) := by decide +kernel
theorem dX6_read_149 : decode cX6_read 149 = .ok (.invokevirtual 59, 3) := by decide +kernel
theorem dX6_read_152 : decode cX6_read 152 = .ok (.iinc 3 1, 3) := by decide +kernel
theorem dX6_read_155 : decode cX6_read 155 = .ok (.goto (-120), 3) := by decide +kernel
theorem dX6_read_158 : decode cX6_read 158 = .ok (.return_, 1) := by decide +kernel
theorem dX6_sum_0 : decode cX6_sum 0 = .ok (.iconst (-1), 1) := by decide +kernel
theorem dX6_sum_1 : decode cX6_sum 1 = .ok (.istore_n 2, 1) := by decide +kernel
theorem dX6_sum_2 : decode cX6_sum 2 = .ok (.iconst 0, 1) := by decide +kernel
theorem dX6_sum_3 : decode cX6_sum 3 = .ok (.istore_n 3, 1) := by decide +kernel
theorem dX6_sum_4 : decode cX6_sum 4 = .ok (.iload_n 3, 1) := by decide +kernel
theorem dX6_sum_5 : decode cX6_sum 5 = .ok (.sipush 300, 3) := by decide +kernel
theorem dX6_sum_8 : decode cX6_sum 8 = .ok (.if_icmp .ge 108, 3) := by decide +kernel
theorem dX6_sum_11 : decode cX6_sum 11 = .ok (.aload_n 0, 1) := by decide +kernel
theorem dX6_sum_12 : decode cX6_sum 12 = .ok (.iload_n 1, 1) := by decide +kernel
theorem dX6_sum_13 : decode cX6_sum 13 = .ok (.invokevirtual 65, 3) := by decide +kernel
theorem dX6_sum_16 : decode cX6_sum 16 = .ok (.iconst 0, 1) := by decide +kernel
theorem dX6_sum_17 : decode cX6_sum 17 = .ok (.istore 4, 2) := by decide +kernel
theorem dX6_sum_19 : decode cX6_sum 19 = .ok (.iload 4, 2) := by decide +kernel
theorem dX6_sum_21 : decode cX6_sum 21 = .ok (.sipush 300, 3) := by decide +kernel
theorem dX6_sum_24 : decode cX6_sum 24 = .ok (.if_icmp .ge 48, 3) := by decide +kernel
theorem dX6_sum_27 : decode cX6_sum 27 = .ok (.aload_n 0, 1) := by decide +kernel
theorem dX6_sum_28 : decode cX6_sum 28 = .ok (.getfield 47, 3) := by decide +kernel
theorem dX6_sum_31 : decode cX6_sum 31 = .ok (.bipush 42, 2) := by decide +kernel
theorem dX6_sum_33 : decode cX6_sum 33 = .ok (.if_icmp .eq 12, 3) := by decide +kernel
theorem dX6_sum_36 : decode cX6_sum 36 = .ok (.aload_n 0, 1) := by decide +kernel
theorem dX6_sum_37 : decode cX6_sum 37 = .ok (.getfield 47, 3) := by decide +kernel
theorem dX6_sum_40 : decode cX6_sum 40 = .ok (.bipush 47, 2) := by decide +kernel
theorem dX6_sum_42 : decode cX6_sum 42 = .ok (.if_icmp .ne 30, 3) := by decide +kernel
theorem dX6_sum_45 : decode cX6_sum 45 = .ok (.aload_n 0, 1) := by decide +kernel
theorem dX6_sum_46 : decode cX6_sum 46 = .ok (.getfield 47, 3) := by decide +kernel
theorem dX6_sum_49 : decode cX6_sum 49 = .ok (.istore 5, 2) := by decide +kernel
theorem dX6_sum_51 : decode cX6_sum 51 = .ok (.aload_n 0, 1) := by decide +kernel
theorem dX6_sum_52 : decode cX6_sum 52 = .ok (.invokevirtual 44, 3) := by decide +kernel
theorem dX6_sum_55 : decode cX6_sum 55 = .ok (.aload_n 0, 1) := by decide +kernel
theorem dX6_sum_56 : decode cX6_sum 56 = .ok (.iload_n 1, 1) := by decide +kernel
theorem dX6_sum_57 : decode cX6_sum 57 = .ok (.invokevirtual 65, 3) := by decide +kernel
theorem dX6_sum_60 : decode cX6_sum 60 = .ok (.aload_n 0, 1) := by decide +kernel
theorem dX6_sum_61 : decode cX6_sum 61 = .ok (.iload 5, 2) := by decide +kernel
theorem dX6_sum_63 : decode cX6_sum 63 = .ok (.invokevirtual 59, 3) := by decide +kernel
theorem dX6_sum_66 : decode cX6_sum 66 = .ok (.iinc 4 1, 3) := by decide +kernel
theorem dX6_sum_69 : decode cX6_sum 69 = .ok (.goto (-50), 3) := by decide +kernel
theorem dX6_sum_72 : decode cX6_sum 72 = .ok (.iload_n 2, 1) := by decide +kernel
theorem dX6_sum_73 : decode cX6_sum 73 = .ok (.iconst (-1), 1) := by decide +kernel
theorem dX6_sum_74 : decode cX6_sum 74 = .ok (.if_icmp .eq 8, 3) := by decide +kernel
theorem dX6_sum_77 : decode cX6_sum 77 = .ok (.aload_n 0, 1) := by decide +kernel
theorem dX6_sum_78 : decode cX6_sum 78 = .ok (.iload_n 2, 1) := by decide +kernel
theorem dX6_sum_79 : decode cX6_sum 79 = .ok (.invokevirtual 59, 3) := by decide +kernel
theorem dX6_sum_82 : decode cX6_sum 82 = .ok (.aload_n 0, 1) := by decide +kernel
theorem dX6_sum_83 : decode cX6_sum 83 = .ok (.getfield 47, 3) := by decide +kernel
theorem dX6_sum_86 : decode cX6_sum 86 = .ok (.bipush 43, 2) := by decide +kernel
theorem dX6_sum_88 : decode cX6_sum 88 = .ok (.if_icmp .eq 13, 3) := by decide +kernel
theorem dX6_sum_91 : decode cX6_sum 91 = .ok (.aload_n 0, 1) := by decide +kernel
theorem dX6_sum_92 : decode cX6_sum 92 = .ok (.getfield 47, 3) := by decide +kernel
theorem dX6_sum_95 : decode cX6_sum 95 = .ok (.bipush 45, 2) := by decide +kernel
theorem dX6_sum_97 : decode cX6_sum 97 = .ok (.if_icmp .eq 4, 3) := by decide +kernel
theorem dX6_sum_100 : decode cX6_sum 100 = .ok (.return_, 1) := by decide +kernel
theorem dX6_sum_101 : decode cX6_sum 101 = .ok (.aload_n 0, 1) := by decide +kernel
theorem dX6_sum_102 : decode cX6_sum 102 = .ok (.getfield 47, 3) := by decide +kernel
theorem dX6_sum_105 : decode cX6_sum 105 = .ok (.istore_n 2, 1) := by decide +kernel
theorem dX6_sum_106 : decode cX6_sum 106 = .ok (.aload_n 0, 1) := by decide +kernel
theorem dX6_sum_107 : decode cX6_sum 107 = .ok (.invokevirtual 44, 3) := by decide +kernel
theorem dX6_sum_110 : decode cX6_sum 110 = .ok (.iinc 3 1, 3) := by decide +kernel
theorem dX6_sum_113 : decode cX6_sum 113 = .ok (.goto (-109), 3) := by decide +kernel
theorem dX6_sum_116 : decode cX6_sum 116 = .ok (.return_, 1) := by decide +kernel
theorem dX6_factor_0 : decode cX6_factor 0 = .ok (.aload_n 0, 1) := by decide +kernel
theorem dX6_factor_1 : decode cX6_factor 1 = .ok (.getfield 47, 3) := by decide +kernel
theorem dX6_factor_4 : decode cX6_factor 4 = .ok (.istore_n 2, 1) := by decide +kernel
theorem dX6_factor_5 : decode cX6_factor 5 = .ok (.iload_n 2, 1) := by decide +kernel
theorem dX6_factor_6 : decode cX6_factor 6 = .ok (.sipush 400, 3) := by decide +kernel
theorem dX6_factor_9 : decode cX6_factor 9 = .ok (.if_icmp .ne 21, 3) := by decide +kernel
theorem dX6_factor_12 : decode cX6_factor 12 = .ok (.aload_n 0, 1) := by decide +kernel
theorem dX6_factor_13 : decode cX6_factor 13 = .ok (.getfield 68, 3) := by decide +kernel
theorem dX6_factor_16 : decode cX6_factor 16 = .ok (.sipush 9999, 3) := by decide +kernel
theorem dX6_factor_19 : decode cX6_factor 19 = .ok (.if_icmp .le 11, 3) := by decide +kernel
theorem dX6_factor_22 : decode cX6_factor 22 = .ok (.aload_n 0, 1) := by decide +kernel
theorem dX6_factor_23 : decode cX6_factor 23 = .ok (.iconst 2, 1) := by decide +kernel
theorem dX6_factor_24 : decode cX6_factor 24 = .ok (.invokevirtual 50, 3) := by decide +kernel
theorem dX6_factor_27 : decode cX6_factor 27 = .ok (.goto 161, 3) := by decide +kernel
theorem dX6_factor_30 : decode cX6_factor 30 = .ok (.iload_n 2, 1) := by decide +kernel
theorem dX6_factor_31 : decode cX6_factor 31 = .ok (.sipush 400, 3) := by decide +kernel
theorem dX6_factor_34 : decode cX6_factor 34 = .ok (.if_icmp .ne 22, 3) := by decide +kernel
theorem dX6_factor_37 : decode cX6_factor 37 = .ok (.aload_n 0, 1) := by decide +kernel
theorem dX6_factor_38 : decode cX6_factor 38 = .ok (.sipush 1000, 3) := by decide +kernel
theorem dX6_factor_41 : decode cX6_factor 41 = .ok (.aload_n 0, 1) := by decide +kernel
theorem dX6_factor_42 : decode cX6_factor 42 = .ok (.getfield 68, 3) := by decide +kernel
theorem dX6_factor_45 : decode cX6_factor 45 = .ok (.iadd, 1) := by decide +kernel
theorem dX6_factor_46 : decode cX6_factor 46 = .ok (.invokevirtual 59, 3) := by decide +kernel
theorem dX6_factor_49 : decode cX6_factor 49 = .ok (.aload_n 0, 1) := by decide +kernel
theorem dX6_factor_50 : decode cX6_factor 50 = .ok (.invokevirtual 44, 3) := by decide +kernel
theorem dX6_factor_53 : decode cX6_factor 53 = .ok (.goto 135, 3) := by decide +kernel
theorem dX6_factor_56 : decode cX6_factor 56 = .ok (.iload_n 2, 1) := by decide +kernel
theorem dX6_factor_57 : decode cX6_factor 57 = .ok (.sipush 300, 3) := by decide +kernel
theorem dX6_factor_60 : decode cX6_factor 60 = .ok (.if_icmp .lt 22, 3) := by decide +kernel
theorem dX6_factor_63 : decode cX6_factor 63 = .ok (.iload_n 2, 1) := by decide +kernel
theorem dX6_factor_64 : decode cX6_factor 64 = .ok (.sipush 309, 3) := by decide +kernel
theorem dX6_factor_67 : decode cX6_factor 67 = .ok (.if_icmp .ge 15, 3) := by decide +kernel
theorem dX6_factor_70 : decode cX6_factor 70 = .ok (.aload_n 0, 1) := by decide +kernel
theorem dX6_factor_71 : decode cX6_factor 71 = .ok (.iload_n 2, 1) := by decide +kernel
theorem dX6_factor_72 : decode cX6_factor 72 = .ok (.invokevirtual 59, 3) := by decide +kernel
theorem dX6_factor_75 : decode cX6_factor 75 = .ok (.aload_n 0, 1) := by decide +kernel
theorem dX6_factor_76 : decode cX6_factor 76 = .ok (.invokevirtual 44, 3) := by decide +kernel
theorem dX6_factor_79 : decode cX6_factor 79 = .ok (.goto 109, 3) := by decide +kernel
theorem dX6_factor_82 : decode cX6_factor 82 = .ok (.iload_n 2, 1) := by decide +kernel
theorem dX6_factor_83 : decode cX6_factor 83 = .ok (.sipush 315, 3) := by decide +kernel
theorem dX6_factor_86 : decode cX6_factor 86 = .ok (.if_icmp .eq 23, 3) := by decide +kernel
theorem dX6_factor_89 : decode cX6_factor 89 = .ok (.iload_n 2, 1) := by decide +kernel
theorem dX6_factor_90 : decode cX6_factor 90 = .ok (.sipush 316, 3) := by decide +kernel
theorem dX6_factor_93 : decode cX6_factor 93 = .ok (.if_icmp .eq 16, 3) := by decide +kernel
theorem dX6_factor_96 : decode cX6_factor 96 = .ok (.iload_n 2, 1) := by decide +kernel
theorem dX6_factor_97 : decode cX6_factor 97 = .ok (.sipush 317, 3) := by decide +kernel
theorem dX6_factor_100 : decode cX6_factor 100 = .ok (.if_icmp .eq 9, 3) := by decide +kernel
theorem dX6_factor_103 : decode cX6_factor 103 = .ok (.iload_n 2, 1) := by decide +kernel
theorem dX6_factor_104 : decode cX6_factor 104 = .ok (.bipush 40, 2) := by decide +kernel
theorem dX6_factor_106 : decode cX6_factor 106 = .ok (.if_icmp .ne 77, 3) := by decide +kernel
theorem dX6_factor_109 : decode cX6_factor 109 = .ok (.iload_n 2, 1) := by decide +kernel
theorem dX6_factor_110 : decode cX6_factor 110 = .ok (.bipush 40, 2) := by decide +kernel
theorem dX6_factor_112 : decode cX6_factor 112 = .ok (.if_icmp .eq 7, 3) := by decide +kernel
theorem dX6_factor_115 : decode cX6_factor 115 = .ok (.aload_n 0, 1) := by decide +kernel
theorem dX6_factor_116 : decode cX6_factor 116 = .ok (.invokevirtual 44, 3) := by decide +kernel
theorem dX6_factor_119 : decode cX6_factor 119 = .ok (.aload_n 0, 1) := by decide +kernel
theorem dX6_factor_120 : decode cX6_factor 120 = .ok (.bipush 40, 2) := by decide +kernel
theorem dX6_factor_122 : decode cX6_factor 122 = .ok (.iload_n 1, 1) := by decide +kernel
theorem dX6_factor_123 : decode cX6_factor 123 = .ok (.invokevirtual 71, 3) := by decide +kernel
theorem dX6_factor_126 : decode cX6_factor 126 = .ok (.ifCond .eq 62, 3) := by decide +kernel
theorem dX6_factor_129 : decode cX6_factor 129 = .ok (.aload_n 0, 1) := by decide +kernel
theorem dX6_factor_130 : decode cX6_factor 130 = .ok (.iload_n 1, 1) := by decide +kernel
theorem dX6_factor_131 : decode cX6_factor 131 = .ok (.iconst 1, 1) := by decide +kernel
theorem dX6_factor_132 : decode cX6_factor 132 = .ok (.iadd, 1) := by decide +kernel
theorem dX6_factor_133 : decode cX6_factor 133 = .ok (.invokevirtual 53, 3) := by decide +kernel
theorem dX6_factor_136 : decode cX6_factor 136 = .ok (.iload_n 2, 1) := by decide +kernel
theorem dX6_factor_137 : decode cX6_factor 137 = .ok (.sipush 315, 3) := by decide +kernel
theorem dX6_factor_140 : decode cX6_factor 140 = .ok (.if_icmp .eq 10, 3) := by decide +kernel
theorem dX6_factor_143 : decode cX6_factor 143 = .ok (.iload_n 2, 1) := by decide +kernel
theorem dX6_factor_144 : decode cX6_factor 144 = .ok (.sipush 316, 3) := by decide +kernel
theorem dX6_factor_147 : decode cX6_factor 147 = .ok (.if_icmp .ne 16, 3) := by decide +kernel
theorem dX6_factor_150 : decode cX6_factor 150 = .ok (.aload_n 0, 1) := by decide +kernel
theorem dX6_factor_151 : decode cX6_factor 151 = .ok (.bipush 44, 2) := by decide +kernel
theorem dX6_factor_153 : decode cX6_factor 153 = .ok (.invokevirtual 62, 3) := by decide +kernel
theorem dX6_factor_156 : decode cX6_factor 156 = .ok (.aload_n 0, 1) := by decide +kernel
theorem dX6_factor_157 : decode cX6_factor 157 = .ok (.iload_n 1, 1) := by decide +kernel
theorem dX6_factor_158 : decode cX6_factor 158 = .ok (.iconst 1, 1) := by decide +kernel
theorem dX6_factor_159 : decode cX6_factor 159 = .ok (.iadd, 1) := by decide +kernel
theorem dX6_factor_160 : decode cX6_factor 160 = .ok (.invokevirtual 53, 3) := by decide +kernel
theorem dX6_factor_163 : decode cX6_factor 163 = .ok (.aload_n 0, 1) := by decide +kernel
theorem dX6_factor_164 : decode cX6_factor 164 = .ok (.bipush 41, 2) := by decide +kernel
theorem dX6_factor_166 : decode cX6_factor 166 = .ok (.invokevirtual 62, 3) := by decide +kernel
theorem dX6_factor_169 : decode cX6_factor 169 = .ok (.iload_n 2, 1) := by decide +kernel
theorem dX6_factor_170 : decode cX6_factor 170 = .ok (.bipush 40, 2) := by decide +kernel
theorem dX6_factor_172 : decode cX6_factor 172 = .ok (.if_icmp .eq 16, 3) := by decide +kernel
theorem dX6_factor_175 : decode cX6_factor 175 = .ok (.aload_n 0, 1) := by decide +kernel
theorem dX6_factor_176 : decode cX6_factor 176 = .ok (.iload_n 2, 1) := by decide +kernel
theorem dX6_factor_177 : decode cX6_factor 177 = .ok (.invokevirtual 59, 3) := by decide +kernel
theorem dX6_factor_180 : decode cX6_factor 180 = .ok (.goto 8, 3) := by decide +kernel
theorem dX6_factor_183 : decode cX6_factor 183 = .ok (.aload_n 0, 1) := by decide +kernel
theorem dX6_factor_184 : decode cX6_factor 184 = .ok (.iconst 1, 1) := by decide +kernel
theorem dX6_factor_185 : decode cX6_factor 185 = .ok (.invokevirtual 50, 3) := by decide +kernel
theorem dX6_factor_188 : decode cX6_factor 188 = .ok (.return_, 1) := by decide +kernel
theorem dX6_condition_0 : decode cX6_condition 0 = .ok (.iconst 0, 1) := by decide +kernel
theorem dX6_condition_1 : decode cX6_condition 1 = .ok (.istore_n 2, 1) := by decide +kernel
theorem dX6_condition_2 : decode cX6_condition 2 = .ok (.iconst 0, 1) := by decide +kernel
theorem dX6_condition_3 : decode cX6_condition 3 = .ok (.istore_n 3, 1) := by decide +kernel
theorem dX6_condition_4 : decode cX6_condition 4 = .ok (.iload_n 3, 1) := by decide +kernel
theorem dX6_condition_5 : decode cX6_condition 5 = .ok (.sipush 300, 3) := by decide +kernel
theorem dX6_condition_8 : decode cX6_condition 8 = .ok (.if_icmp .ge 85, 3) := by decide +kernel
theorem dX6_condition_11 : decode cX6_condition 11 = .ok (.aload_n 0, 1) := by decide +kernel
theorem dX6_condition_12 : decode cX6_condition 12 = .ok (.iload_n 1, 1) := by decide +kernel
theorem dX6_condition_13 : decode cX6_condition 13 = .ok (.invokevirtual 75, 3) := by decide +kernel
theorem dX6_condition_16 : decode cX6_condition 16 = .ok (.iconst 0, 1) := by decide +kernel
theorem dX6_condition_17 : decode cX6_condition 17 = .ok (.istore 4, 2) := by decide +kernel
theorem dX6_condition_19 : decode cX6_condition 19 = .ok (.iload 4, 2) := by decide +kernel
theorem dX6_condition_21 : decode cX6_condition 21 = .ok (.sipush 300, 3) := by decide +kernel
theorem dX6_condition_24 : decode cX6_condition 24 = .ok (.if_icmp .ge 35, 3) := by decide +kernel
theorem dX6_condition_27 : decode cX6_condition 27 = .ok (.aload_n 0, 1) := by decide +kernel
theorem dX6_condition_28 : decode cX6_condition 28 = .ok (.getfield 47, 3) := by decide +kernel
theorem dX6_condition_31 : decode cX6_condition 31 = .ok (.sipush 313, 3) := by decide +kernel
theorem dX6_condition_34 : decode cX6_condition 34 = .ok (.if_icmp .ne 25, 3) := by decide +kernel
theorem dX6_condition_37 : decode cX6_condition 37 = .ok (.aload_n 0, 1) := by decide +kernel
theorem dX6_condition_38 : decode cX6_condition 38 = .ok (.invokevirtual 44, 3) := by decide +kernel
theorem dX6_condition_41 : decode cX6_condition 41 = .ok (.aload_n 0, 1) := by decide +kernel
theorem dX6_condition_42 : decode cX6_condition 42 = .ok (.iload_n 1, 1) := by decide +kernel
theorem dX6_condition_43 : decode cX6_condition 43 = .ok (.invokevirtual 75, 3) := by decide +kernel
theorem dX6_condition_46 : decode cX6_condition 46 = .ok (.aload_n 0, 1) := by decide +kernel
theorem dX6_condition_47 : decode cX6_condition 47 = .ok (.sipush 313, 3) := by decide +kernel
theorem dX6_condition_50 : decode cX6_condition 50 = .ok (.invokevirtual 59, 3) := by decide +kernel
theorem dX6_condition_53 : decode cX6_condition 53 = .ok (.iinc 4 1, 3) := by decide +kernel
theorem dX6_condition_56 : decode cX6_condition 56 = .ok (.goto (-37), 3) := by decide +kernel
theorem dX6_condition_59 : decode cX6_condition 59 = .ok (.iload_n 2, 1) := by decide +kernel
theorem dX6_condition_60 : decode cX6_condition 60 = .ok (.ifCond .eq 10, 3) := by decide +kernel
theorem dX6_condition_63 : decode cX6_condition 63 = .ok (.aload_n 0, 1) := by decide +kernel
theorem dX6_condition_64 : decode cX6_condition 64 = .ok (.sipush 312, 3) := by decide +kernel
theorem dX6_condition_67 : decode cX6_condition 67 = .ok (.invokevirtual 59, 3) := by decide +kernel
theorem dX6_condition_70 : decode cX6_condition 70 = .ok (.aload_n 0, 1) := by decide +kernel
theorem dX6_condition_71 : decode cX6_condition 71 = .ok (.getfield 47, 3) := by decide +kernel
theorem dX6_condition_74 : decode cX6_condition 74 = .ok (.sipush 312, 3) := by decide +kernel
theorem dX6_condition_77 : decode cX6_condition 77 = .ok (.if_icmp .eq 4, 3) := by decide +kernel
theorem dX6_condition_80 : decode cX6_condition 80 = .ok (.return_, 1) := by decide +kernel
theorem dX6_condition_81 : decode cX6_condition 81 = .ok (.iconst 1, 1) := by decide +kernel
theorem dX6_condition_82 : decode cX6_condition 82 = .ok (.istore_n 2, 1) := by decide +kernel
theorem dX6_condition_83 : decode cX6_condition 83 = .ok (.aload_n 0, 1) := by decide +kernel
theorem dX6_condition_84 : decode cX6_condition 84 = .ok (.invokevirtual 44, 3) := by decide +kernel
theorem dX6_condition_87 : decode cX6_condition 87 = .ok (.iinc 3 1, 3) := by decide +kernel
theorem dX6_condition_90 : decode cX6_condition 90 = .ok (.goto (-86), 3) := by decide +kernel
theorem dX6_condition_93 : decode cX6_condition 93 = .ok (.return_, 1) := by decide +kernel
theorem dX6_comparison_0 : decode cX6_comparison 0 = .ok (.aload_n 0, 1) := by decide +kernel
theorem dX6_comparison_1 : decode cX6_comparison 1 = .ok (.getfield 47, 3) := by decide +kernel
theorem dX6_comparison_4 : decode cX6_comparison 4 = .ok (.sipush 314, 3) := by decide +kernel
theorem dX6_comparison_7 : decode cX6_comparison 7 = .ok (.if_icmp .ne 31, 3) := by decide +kernel
theorem dX6_comparison_10 : decode cX6_comparison 10 = .ok (.aload_n 0, 1) := by decide +kernel
theorem dX6_comparison_11 : decode cX6_comparison 11 = .ok (.sipush 314, 3) := by decide +kernel
theorem dX6_comparison_14 : decode cX6_comparison 14 = .ok (.iload_n 1, 1) := by decide +kernel
theorem dX6_comparison_15 : decode cX6_comparison 15 = .ok (.invokevirtual 71, 3) := by decide +kernel
theorem dX6_comparison_18 : decode cX6_comparison 18 = .ok (.ifCond .eq 105, 3) := by decide +kernel
theorem dX6_comparison_21 : decode cX6_comparison 21 = .ok (.aload_n 0, 1) := by decide +kernel
theorem dX6_comparison_22 : decode cX6_comparison 22 = .ok (.iload_n 1, 1) := by decide +kernel
theorem dX6_comparison_23 : decode cX6_comparison 23 = .ok (.iconst 1, 1) := by decide +kernel
theorem dX6_comparison_24 : decode cX6_comparison 24 = .ok (.iadd, 1) := by decide +kernel
theorem dX6_comparison_25 : decode cX6_comparison 25 = .ok (.invokevirtual 75, 3) := by decide +kernel
theorem dX6_comparison_28 : decode cX6_comparison 28 = .ok (.aload_n 0, 1) := by decide +kernel
theorem dX6_comparison_29 : decode cX6_comparison 29 = .ok (.sipush 314, 3) := by decide +kernel
theorem dX6_comparison_32 : decode cX6_comparison 32 = .ok (.invokevirtual 59, 3) := by decide +kernel
theorem dX6_comparison_35 : decode cX6_comparison 35 = .ok (.goto 88, 3) := by decide +kernel
theorem dX6_comparison_38 : decode cX6_comparison 38 = .ok (.aload_n 0, 1) := by decide +kernel
theorem dX6_comparison_39 : decode cX6_comparison 39 = .ok (.getfield 47, 3) := by decide +kernel
theorem dX6_comparison_42 : decode cX6_comparison 42 = .ok (.bipush 91, 2) := by decide +kernel
theorem dX6_comparison_44 : decode cX6_comparison 44 = .ok (.if_icmp .ne 29, 3) := by decide +kernel
theorem dX6_comparison_47 : decode cX6_comparison 47 = .ok (.aload_n 0, 1) := by decide +kernel
theorem dX6_comparison_48 : decode cX6_comparison 48 = .ok (.bipush 91, 2) := by decide +kernel
theorem dX6_comparison_50 : decode cX6_comparison 50 = .ok (.iload_n 1, 1) := by decide +kernel
theorem dX6_comparison_51 : decode cX6_comparison 51 = .ok (.invokevirtual 71, 3) := by decide +kernel
theorem dX6_comparison_54 : decode cX6_comparison 54 = .ok (.ifCond .eq 69, 3) := by decide +kernel
theorem dX6_comparison_57 : decode cX6_comparison 57 = .ok (.aload_n 0, 1) := by decide +kernel
theorem dX6_comparison_58 : decode cX6_comparison 58 = .ok (.iload_n 1, 1) := by decide +kernel
theorem dX6_comparison_59 : decode cX6_comparison 59 = .ok (.iconst 1, 1) := by decide +kernel
theorem dX6_comparison_60 : decode cX6_comparison 60 = .ok (.iadd, 1) := by decide +kernel
theorem dX6_comparison_61 : decode cX6_comparison 61 = .ok (.invokevirtual 56, 3) := by decide +kernel
theorem dX6_comparison_64 : decode cX6_comparison 64 = .ok (.aload_n 0, 1) := by decide +kernel
theorem dX6_comparison_65 : decode cX6_comparison 65 = .ok (.bipush 93, 2) := by decide +kernel
theorem dX6_comparison_67 : decode cX6_comparison 67 = .ok (.invokevirtual 62, 3) := by decide +kernel
theorem dX6_comparison_70 : decode cX6_comparison 70 = .ok (.goto 53, 3) := by decide +kernel
theorem dX6_comparison_73 : decode cX6_comparison 73 = .ok (.aload_n 0, 1) := by decide +kernel
theorem dX6_comparison_74 : decode cX6_comparison 74 = .ok (.iload_n 1, 1) := by decide +kernel
theorem dX6_comparison_75 : decode cX6_comparison 75 = .ok (.invokevirtual 53, 3) := by decide +kernel
theorem dX6_comparison_78 : decode cX6_comparison 78 = .ok (.aload_n 0, 1) := by decide +kernel
theorem dX6_comparison_79 : decode cX6_comparison 79 = .ok (.getfield 47, 3) := by decide +kernel
theorem dX6_comparison_82 : decode cX6_comparison 82 = .ok (.istore_n 2, 1) := by decide +kernel
theorem dX6_comparison_83 : decode cX6_comparison 83 = .ok (.iload_n 2, 1) := by decide +kernel
theorem dX6_comparison_84 : decode cX6_comparison 84 = .ok (.bipush 60, 2) := by decide +kernel
theorem dX6_comparison_86 : decode cX6_comparison 86 = .ok (.if_icmp .eq 15, 3) := by decide +kernel
theorem dX6_comparison_89 : decode cX6_comparison 89 = .ok (.iload_n 2, 1) := by decide +kernel
theorem dX6_comparison_90 : decode cX6_comparison 90 = .ok (.bipush 62, 2) := by decide +kernel
theorem dX6_comparison_92 : decode cX6_comparison 92 = .ok (.if_icmp .eq 9, 3) := by decide +kernel
theorem dX6_comparison_95 : decode cX6_comparison 95 = .ok (.iload_n 2, 1) := by decide +kernel
theorem dX6_comparison_96 : decode cX6_comparison 96 = .ok (.bipush 61, 2) := by decide +kernel
theorem dX6_comparison_98 : decode cX6_comparison 98 = .ok (.if_icmp .ne 20, 3) := by decide +kernel
theorem dX6_comparison_101 : decode cX6_comparison 101 = .ok (.aload_n 0, 1) := by decide +kernel
theorem dX6_comparison_102 : decode cX6_comparison 102 = .ok (.invokevirtual 44, 3) := by decide +kernel
theorem dX6_comparison_105 : decode cX6_comparison 105 = .ok (.aload_n 0, 1) := by decide +kernel
theorem dX6_comparison_106 : decode cX6_comparison 106 = .ok (.iload_n 1, 1) := by decide +kernel
theorem dX6_comparison_107 : decode cX6_comparison 107 = .ok (.invokevirtual 53, 3) := by decide +kernel
theorem dX6_comparison_110 : decode cX6_comparison 110 = .ok (.aload_n 0, 1) := by decide +kernel
theorem dX6_comparison_111 : decode cX6_comparison 111 = .ok (.iload_n 2, 1) := by decide +kernel
theorem dX6_comparison_112 : decode cX6_comparison 112 = .ok (.invokevirtual 59, 3) := by decide +kernel
theorem dX6_comparison_115 : decode cX6_comparison 115 = .ok (.goto 8, 3) := by decide +kernel
theorem dX6_comparison_118 : decode cX6_comparison 118 = .ok (.aload_n 0, 1) := by decide +kernel
theorem dX6_comparison_119 : decode cX6_comparison 119 = .ok (.iconst 1, 1) := by decide +kernel
theorem dX6_comparison_120 : decode cX6_comparison 120 = .ok (.invokevirtual 50, 3) := by decide +kernel
theorem dX6_comparison_123 : decode cX6_comparison 123 = .ok (.return_, 1) := by decide +kernel
theorem dX6_enters_0 : decode cX6_enters 0 = .ok (.aload_n 0, 1) := by decide +kernel
theorem dX6_enters_1 : decode cX6_enters 1 = .ok (.getfield 47, 3) := by decide +kernel
theorem dX6_enters_4 : decode cX6_enters 4 = .ok (.iload_n 1, 1) := by decide +kernel
theorem dX6_enters_5 : decode cX6_enters 5 = .ok (.if_icmp .eq 10, 3) := by decide +kernel
theorem dX6_enters_8 : decode cX6_enters 8 = .ok (.aload_n 0, 1) := by decide +kernel
theorem dX6_enters_9 : decode cX6_enters 9 = .ok (.iconst 1, 1) := by decide +kernel
theorem dX6_enters_10 : decode cX6_enters 10 = .ok (.invokevirtual 50, 3) := by decide +kernel
theorem dX6_enters_13 : decode cX6_enters 13 = .ok (.iconst 0, 1) := by decide +kernel
theorem dX6_enters_14 : decode cX6_enters 14 = .ok (.ireturn, 1) := by decide +kernel
theorem dX6_enters_15 : decode cX6_enters 15 = .ok (.iload_n 2, 1) := by decide +kernel
theorem dX6_enters_16 : decode cX6_enters 16 = .ok (.bipush 6, 2) := by decide +kernel
theorem dX6_enters_18 : decode cX6_enters 18 = .ok (.if_icmp .lt 10, 3) := by decide +kernel
theorem dX6_enters_21 : decode cX6_enters 21 = .ok (.aload_n 0, 1) := by decide +kernel
theorem dX6_enters_22 : decode cX6_enters 22 = .ok (.iconst 3, 1) := by decide +kernel
theorem dX6_enters_23 : decode cX6_enters 23 = .ok (.invokevirtual 50, 3) := by decide +kernel
theorem dX6_enters_26 : decode cX6_enters 26 = .ok (.iconst 0, 1) := by decide +kernel
theorem dX6_enters_27 : decode cX6_enters 27 = .ok (.ireturn, 1) := by decide +kernel
theorem dX6_enters_28 : decode cX6_enters 28 = .ok (.aload_n 0, 1) := by decide +kernel
theorem dX6_enters_29 : decode cX6_enters 29 = .ok (.invokevirtual 44, 3) := by decide +kernel
theorem dX6_enters_32 : decode cX6_enters 32 = .ok (.iconst 1, 1) := by decide +kernel
theorem dX6_enters_33 : decode cX6_enters 33 = .ok (.ireturn, 1) := by decide +kernel
theorem dX6_expect_0 : decode cX6_expect 0 = .ok (.aload_n 0, 1) := by decide +kernel
theorem dX6_expect_1 : decode cX6_expect 1 = .ok (.getfield 47, 3) := by decide +kernel
theorem dX6_expect_4 : decode cX6_expect 4 = .ok (.iload_n 1, 1) := by decide +kernel
theorem dX6_expect_5 : decode cX6_expect 5 = .ok (.if_icmp .ne 10, 3) := by decide +kernel
theorem dX6_expect_8 : decode cX6_expect 8 = .ok (.aload_n 0, 1) := by decide +kernel
theorem dX6_expect_9 : decode cX6_expect 9 = .ok (.invokevirtual 44, 3) := by decide +kernel
theorem dX6_expect_12 : decode cX6_expect 12 = .ok (.goto 8, 3) := by decide +kernel
theorem dX6_expect_15 : decode cX6_expect 15 = .ok (.aload_n 0, 1) := by decide +kernel
theorem dX6_expect_16 : decode cX6_expect 16 = .ok (.iconst 1, 1) := by decide +kernel
theorem dX6_expect_17 : decode cX6_expect 17 = .ok (.invokevirtual 50, 3) := by decide +kernel
theorem dX6_expect_20 : decode cX6_expect 20 = .ok (.return_, 1) := by decide +kernel
theorem dX6_step_0 : decode cX6_step 0 = .ok (.aload_n 0, 1) := by decide +kernel
theorem dX6_step_1 : decode cX6_step 1 = .ok (.dup, 1) := by decide +kernel
theorem dX6_step_2 : decode cX6_step 2 = .ok (.getfield 41, 3) := by decide +kernel
theorem dX6_step_5 : decode cX6_step 5 = .ok (.iconst 1, 1) := by decide +kernel
theorem dX6_step_6 : decode cX6_step 6 = .ok (.iadd, 1) := by decide +kernel
theorem dX6_step_7 : decode cX6_step 7 = .ok (.putfield 41, 3) := by decide +kernel
theorem dX6_step_10 : decode cX6_step 10 = .ok (.aload_n 0, 1) := by decide +kernel
theorem dX6_step_11 : decode cX6_step 11 = .ok (.aload_n 0, 1) := by decide +kernel
theorem dX6_step_12 : decode cX6_step 12 = .ok (.getfield 41, 3) := by decide +kernel
theorem dX6_step_15 : decode cX6_step 15 = .ok (.ifCond .lt 33, 3) := by decide +kernel
theorem dX6_step_18 : decode cX6_step 18 = .ok (.aload_n 0, 1) := by decide +kernel
theorem dX6_step_19 : decode cX6_step 19 = .ok (.getfield 41, 3) := by decide +kernel
theorem dX6_step_22 : decode cX6_step 22 = .ok (.aload_n 0, 1) := by decide +kernel
theorem dX6_step_23 : decode cX6_step 23 = .ok (.getfield 23, 3) := by decide +kernel
theorem dX6_step_26 : decode cX6_step 26 = .ok (.getfield 78, 3) := by decide +kernel
theorem dX6_step_29 : decode cX6_step 29 = .ok (.arraylength, 1) := by decide +kernel
theorem dX6_step_30 : decode cX6_step 30 = .ok (.if_icmp .ge 18, 3) := by decide +kernel
theorem dX6_step_33 : decode cX6_step 33 = .ok (.aload_n 0, 1) := by decide +kernel
theorem dX6_step_34 : decode cX6_step 34 = .ok (.getfield 23, 3) := by decide +kernel
theorem dX6_step_37 : decode cX6_step 37 = .ok (.getfield 78, 3) := by decide +kernel
theorem dX6_step_40 : decode cX6_step 40 = .ok (.aload_n 0, 1) := by decide +kernel
theorem dX6_step_41 : decode cX6_step 41 = .ok (.getfield 41, 3) := by decide +kernel
theorem dX6_step_44 : decode cX6_step 44 = .ok (.iaload, 1) := by decide +kernel
theorem dX6_step_45 : decode cX6_step 45 = .ok (.goto 6, 3) := by decide +kernel
theorem dX6_step_48 : decode cX6_step 48 = .ok (.sipush 401, 3) := by decide +kernel
theorem dX6_step_51 : decode cX6_step 51 = .ok (.putfield 47, 3) := by decide +kernel
theorem dX6_step_54 : decode cX6_step 54 = .ok (.aload_n 0, 1) := by decide +kernel
theorem dX6_step_55 : decode cX6_step 55 = .ok (.aload_n 0, 1) := by decide +kernel
theorem dX6_step_56 : decode cX6_step 56 = .ok (.getfield 41, 3) := by decide +kernel
theorem dX6_step_59 : decode cX6_step 59 = .ok (.ifCond .lt 33, 3) := by decide +kernel
theorem dX6_step_62 : decode cX6_step 62 = .ok (.aload_n 0, 1) := by decide +kernel
theorem dX6_step_63 : decode cX6_step 63 = .ok (.getfield 41, 3) := by decide +kernel
theorem dX6_step_66 : decode cX6_step 66 = .ok (.aload_n 0, 1) := by decide +kernel
theorem dX6_step_67 : decode cX6_step 67 = .ok (.getfield 23, 3) := by decide +kernel
theorem dX6_step_70 : decode cX6_step 70 = .ok (.getfield 82, 3) := by decide +kernel
theorem dX6_step_73 : decode cX6_step 73 = .ok (.arraylength, 1) := by decide +kernel
theorem dX6_step_74 : decode cX6_step 74 = .ok (.if_icmp .ge 18, 3) := by decide +kernel
theorem dX6_step_77 : decode cX6_step 77 = .ok (.aload_n 0, 1) := by decide +kernel
theorem dX6_step_78 : decode cX6_step 78 = .ok (.getfield 23, 3) := by decide +kernel
theorem dX6_step_81 : decode cX6_step 81 = .ok (.getfield 82, 3) := by decide +kernel
theorem dX6_step_84 : decode cX6_step 84 = .ok (.aload_n 0, 1) := by decide +kernel
theorem dX6_step_85 : decode cX6_step 85 = .ok (.getfield 41, 3) := by decide +kernel
theorem dX6_step_88 : decode cX6_step 88 = .ok (.iaload, 1) := by decide +kernel
theorem dX6_step_89 : decode cX6_step 89 = .ok (.goto 4, 3) := by decide +kernel
theorem dX6_step_92 : decode cX6_step 92 = .ok (.iconst 0, 1) := by decide +kernel
theorem dX6_step_93 : decode cX6_step 93 = .ok (.putfield 85, 3) := by decide +kernel
theorem dX6_step_96 : decode cX6_step 96 = .ok (.aload_n 0, 1) := by decide +kernel
theorem dX6_step_97 : decode cX6_step 97 = .ok (.aload_n 0, 1) := by decide +kernel
theorem dX6_step_98 : decode cX6_step 98 = .ok (.getfield 41, 3) := by decide +kernel
theorem dX6_step_101 : decode cX6_step 101 = .ok (.ifCond .lt 33, 3) := by decide +kernel
theorem dX6_step_104 : decode cX6_step 104 = .ok (.aload_n 0, 1) := by decide +kernel
theorem dX6_step_105 : decode cX6_step 105 = .ok (.getfield 41, 3) := by decide +kernel
theorem dX6_step_108 : decode cX6_step 108 = .ok (.aload_n 0, 1) := by decide +kernel
theorem dX6_step_109 : decode cX6_step 109 = .ok (.getfield 23, 3) := by decide +kernel
theorem dX6_step_112 : decode cX6_step 112 = .ok (.getfield 88, 3) := by decide +kernel
theorem dX6_step_115 : decode cX6_step 115 = .ok (.arraylength, 1) := by decide +kernel
theorem dX6_step_116 : decode cX6_step 116 = .ok (.if_icmp .ge 18, 3) := by decide +kernel
theorem dX6_step_119 : decode cX6_step 119 = .ok (.aload_n 0, 1) := by decide +kernel
theorem dX6_step_120 : decode cX6_step 120 = .ok (.getfield 23, 3) := by decide +kernel
theorem dX6_step_123 : decode cX6_step 123 = .ok (.getfield 88, 3) := by decide +kernel
theorem dX6_step_126 : decode cX6_step 126 = .ok (.aload_n 0, 1) := by decide +kernel
theorem dX6_step_127 : decode cX6_step 127 = .ok (.getfield 41, 3) := by decide +kernel
theorem dX6_step_130 : decode cX6_step 130 = .ok (.iaload, 1) := by decide +kernel
theorem dX6_step_131 : decode cX6_step 131 = .ok (.goto 4, 3) := by decide +kernel
theorem dX6_step_134 : decode cX6_step 134 = .ok (.iconst 0, 1) := by decide +kernel
theorem dX6_step_135 : decode cX6_step 135 = .ok (.putfield 68, 3) := by decide +kernel
theorem dX6_step_138 : decode cX6_step 138 = .ok (.return_, 1) := by decide +kernel
theorem dX6_emit_0 : decode cX6_emit 0 = .ok (.aload_n 0, 1) := by decide +kernel
theorem dX6_emit_1 : decode cX6_emit 1 = .ok (.getfield 14, 3) := by decide +kernel
theorem dX6_emit_4 : decode cX6_emit 4 = .ok (.aload_n 0, 1) := by decide +kernel
theorem dX6_emit_5 : decode cX6_emit 5 = .ok (.getfield 31, 3) := by decide +kernel
theorem dX6_emit_8 : decode cX6_emit 8 = .ok (.iload_n 1, 1) := by decide +kernel
theorem dX6_emit_9 : decode cX6_emit 9 = .ok (.invokevirtual 91, 3) := by decide +kernel
theorem dX6_emit_12 : decode cX6_emit 12 = .ok (.aload_n 0, 1) := by decide +kernel
theorem dX6_emit_13 : decode cX6_emit 13 = .ok (.dup, 1) := by decide +kernel
theorem dX6_emit_14 : decode cX6_emit 14 = .ok (.getfield 31, 3) := by decide +kernel
theorem dX6_emit_17 : decode cX6_emit 17 = .ok (.iconst 1, 1) := by decide +kernel
theorem dX6_emit_18 : decode cX6_emit 18 = .ok (.iadd, 1) := by decide +kernel
theorem dX6_emit_19 : decode cX6_emit 19 = .ok (.putfield 31, 3) := by decide +kernel
theorem dX6_emit_22 : decode cX6_emit 22 = .ok (.return_, 1) := by decide +kernel
theorem dX6_fail_0 : decode cX6_fail 0 = .ok (.aload_n 0, 1) := by decide +kernel
theorem dX6_fail_1 : decode cX6_fail 1 = .ok (.getfield 35, 3) := by decide +kernel
theorem dX6_fail_4 : decode cX6_fail 4 = .ok (.ifCond .ne 23, 3) := by decide +kernel
theorem dX6_fail_7 : decode cX6_fail 7 = .ok (.aload_n 0, 1) := by decide +kernel
theorem dX6_fail_8 : decode cX6_fail 8 = .ok (.iload_n 1, 1) := by decide +kernel
theorem dX6_fail_9 : decode cX6_fail 9 = .ok (.putfield 35, 3) := by decide +kernel
theorem dX6_fail_12 : decode cX6_fail 12 = .ok (.aload_n 0, 1) := by decide +kernel
theorem dX6_fail_13 : decode cX6_fail 13 = .ok (.aload_n 0, 1) := by decide +kernel
theorem dX6_fail_14 : decode cX6_fail 14 = .ok (.getfield 85, 3) := by decide +kernel
theorem dX6_fail_17 : decode cX6_fail 17 = .ok (.putfield 38, 3) := by decide +kernel
theorem dX6_fail_20 : decode cX6_fail 20 = .ok (.aload_n 0, 1) := by decide +kernel
theorem dX6_fail_21 : decode cX6_fail 21 = .ok (.sipush 402, 3) := by decide +kernel
theorem dX6_fail_24 : decode cX6_fail 24 = .ok (.putfield 47, 3) := by decide +kernel
theorem dX6_fail_27 : decode cX6_fail 27 = .ok (.return_, 1) := by decide +kernel
theorem dX7_init_0 : decode cX7_init 0 = .ok (.aload_n 0, 1) := by decide +kernel
theorem dX7_init_1 : decode cX7_init 1 = .ok (.invokespecial 1, 3) := by decide +kernel
theorem dX7_init_4 : decode cX7_init 4 = .ok (.aload_n 0, 1) := by decide +kernel
theorem dX7_init_5 : decode cX7_init 5 = .ok (.new 7, 3) := by decide +kernel
theorem dX7_init_8 : decode cX7_init 8 = .ok (.dup, 1) := by decide +kernel
theorem dX7_init_9 : decode cX7_init 9 = .ok (.invokespecial 9, 3) := by decide +kernel
theorem dX7_init_12 : decode cX7_init 12 = .ok (.putfield 10, 3) := by decide +kernel
theorem dX7_init_15 : decode cX7_init 15 = .ok (.aload_n 0, 1) := by decide +kernel
theorem dX7_init_16 : decode cX7_init 16 = .ok (.new 16, 3) := by decide +kernel
theorem dX7_init_19 : decode cX7_init 19 = .ok (.dup, 1) := by decide +kernel
theorem dX7_init_20 : decode cX7_init 20 = .ok (.invokespecial 18, 3) := by decide +kernel
theorem dX7_init_23 : decode cX7_init 23 = .ok (.putfield 19, 3) := by decide +kernel
theorem dX7_init_26 : decode cX7_init 26 = .ok (.aload_n 0, 1) := by decide +kernel
theorem dX7_init_27 : decode cX7_init 27 = .ok (.new 23, 3) := by decide +kernel
theorem dX7_init_30 : decode cX7_init 30 = .ok (.dup, 1) := by decide +kernel
theorem dX7_init_31 : decode cX7_init 31 = .ok (.invokespecial 25, 3) := by decide +kernel
theorem dX7_init_34 : decode cX7_init 34 = .ok (.putfield 26, 3) := by decide +kernel
theorem dX7_init_37 : decode cX7_init 37 = .ok (.aload_n 0, 1) := by decide +kernel
theorem dX7_init_38 : decode cX7_init 38 = .ok (.new 30, 3) := by decide +kernel
theorem dX7_init_41 : decode cX7_init 41 = .ok (.dup, 1) := by decide +kernel
theorem dX7_init_42 : decode cX7_init 42 = .ok (.invokespecial 32, 3) := by decide +kernel
theorem dX7_init_45 : decode cX7_init 45 = .ok (.putfield 33, 3) := by decide +kernel
theorem dX7_init_48 : decode cX7_init 48 = .ok (.aload_n 0, 1) := by decide +kernel
theorem dX7_init_49 : decode cX7_init 49 = .ok (.new 37, 3) := by decide +kernel
theorem dX7_init_52 : decode cX7_init 52 = .ok (.dup, 1) := by decide +kernel
theorem dX7_init_53 : decode cX7_init 53 = .ok (.invokespecial 39, 3) := by decide +kernel
theorem dX7_init_56 : decode cX7_init 56 = .ok (.putfield 40, 3) := by decide +kernel
theorem dX7_init_59 : decode cX7_init 59 = .ok (.return_, 1) := by decide +kernel
theorem dX7_copy_0 : decode cX7_copy 0 = .ok (.aload_n 0, 1) := by decide +kernel
theorem dX7_copy_1 : decode cX7_copy 1 = .ok (.getfield 10, 3) := by decide +kernel
theorem dX7_copy_4 : decode cX7_copy 4 = .ok (.aload_n 1, 1) := by decide +kernel
theorem dX7_copy_5 : decode cX7_copy 5 = .ok (.getfield 10, 3) := by decide +kernel
theorem dX7_copy_8 : decode cX7_copy 8 = .ok (.invokevirtual 44, 3) := by decide +kernel
theorem dX7_copy_11 : decode cX7_copy 11 = .ok (.aload_n 0, 1) := by decide +kernel
theorem dX7_copy_12 : decode cX7_copy 12 = .ok (.getfield 19, 3) := by decide +kernel
theorem dX7_copy_15 : decode cX7_copy 15 = .ok (.aload_n 1, 1) := by decide +kernel
theorem dX7_copy_16 : decode cX7_copy 16 = .ok (.getfield 19, 3) := by decide +kernel
theorem dX7_copy_19 : decode cX7_copy 19 = .ok (.invokevirtual 48, 3) := by decide +kernel
theorem dX7_copy_22 : decode cX7_copy 22 = .ok (.aload_n 0, 1) := by decide +kernel
theorem dX7_copy_23 : decode cX7_copy 23 = .ok (.getfield 26, 3) := by decide +kernel
theorem dX7_copy_26 : decode cX7_copy 26 = .ok (.aload_n 1, 1) := by decide +kernel
theorem dX7_copy_27 : decode cX7_copy 27 = .ok (.getfield 26, 3) := by decide +kernel
theorem dX7_copy_30 : decode cX7_copy 30 = .ok (.invokevirtual 51, 3) := by decide +kernel
theorem dX7_copy_33 : decode cX7_copy 33 = .ok (.aload_n 0, 1) := by decide +kernel
theorem dX7_copy_34 : decode cX7_copy 34 = .ok (.getfield 33, 3) := by decide +kernel
theorem dX7_copy_37 : decode cX7_copy 37 = .ok (.aload_n 1, 1) := by decide +kernel
theorem dX7_copy_38 : decode cX7_copy 38 = .ok (.getfield 33, 3) := by decide +kernel
theorem dX7_copy_41 : decode cX7_copy 41 = .ok (.invokevirtual 54, 3) := by decide +kernel
theorem dX7_copy_44 : decode cX7_copy 44 = .ok (.aload_n 0, 1) := by decide +kernel
theorem dX7_copy_45 : decode cX7_copy 45 = .ok (.getfield 40, 3) := by decide +kernel
theorem dX7_copy_48 : decode cX7_copy 48 = .ok (.aload_n 1, 1) := by decide +kernel
theorem dX7_copy_49 : decode cX7_copy 49 = .ok (.getfield 40, 3) := by decide +kernel
theorem dX7_copy_52 : decode cX7_copy 52 = .ok (.invokevirtual 57, 3) := by decide +kernel
theorem dX7_copy_55 : decode cX7_copy 55 = .ok (.return_, 1) := by decide +kernel
theorem dX8_init_0 : decode cX8_init 0 = .ok (.aload_n 0, 1) := by decide +kernel
theorem dX8_init_1 : decode cX8_init 1 = .ok (.invokespecial 1, 3) := by decide +kernel
theorem dX8_init_4 : decode cX8_init 4 = .ok (.aload_n 0, 1) := by decide +kernel
theorem dX8_init_5 : decode cX8_init 5 = .ok (.iconst 0, 1) := by decide +kernel
theorem dX8_init_6 : decode cX8_init 6 = .ok (.iload_n 1, 1) := by decide +kernel
theorem dX8_init_7 : decode cX8_init 7 = .ok (.invokestatic 7, 3) := by decide +kernel
theorem dX8_init_10 : decode cX8_init 10 = .ok (.newarray .int, 2) := by decide +kernel
theorem dX8_init_12 : decode cX8_init 12 = .ok (.putfield 13, 3) := by decide +kernel
theorem dX8_init_15 : decode cX8_init 15 = .ok (.return_, 1) := by decide +kernel
theorem dX8_at_0 : decode cX8_at 0 = .ok (.iload_n 1, 1) := by decide +kernel
theorem dX8_at_1 : decode cX8_at 1 = .ok (.ifCond .lt 21, 3) := by decide +kernel
theorem dX8_at_4 : decode cX8_at 4 = .ok (.iload_n 1, 1) := by decide +kernel
theorem dX8_at_5 : decode cX8_at 5 = .ok (.aload_n 0, 1) := by decide +kernel
theorem dX8_at_6 : decode cX8_at 6 = .ok (.getfield 13, 3) := by decide +kernel
theorem dX8_at_9 : decode cX8_at 9 = .ok (.arraylength, 1) := by decide +kernel
theorem dX8_at_10 : decode cX8_at 10 = .ok (.if_icmp .ge 12, 3) := by decide +kernel
theorem dX8_at_13 : decode cX8_at 13 = .ok (.aload_n 0, 1) := by decide +kernel
theorem dX8_at_14 : decode cX8_at 14 = .ok (.getfield 13, 3) := by decide +kernel
theorem dX8_at_17 : decode cX8_at 17 = .ok (.iload_n 1, 1) := by decide +kernel
theorem dX8_at_18 : decode cX8_at 18 = .ok (.iaload, 1) := by decide +kernel
theorem dX8_at_19 : decode cX8_at 19 = .ok (.goto 4, 3) := by decide +kernel
theorem dX8_at_22 : decode cX8_at 22 = .ok (.iconst 0, 1) := by decide +kernel
theorem dX8_at_23 : decode cX8_at 23 = .ok (.ireturn, 1) := by decide +kernel
theorem dX8_put_0 : decode cX8_put 0 = .ok (.iload_n 1, 1) := by decide +kernel
theorem dX8_put_1 : decode cX8_put 1 = .ok (.ifCond .lt 19, 3) := by decide +kernel
theorem dX8_put_4 : decode cX8_put 4 = .ok (.iload_n 1, 1) := by decide +kernel
theorem dX8_put_5 : decode cX8_put 5 = .ok (.aload_n 0, 1) := by decide +kernel
theorem dX8_put_6 : decode cX8_put 6 = .ok (.getfield 13, 3) := by decide +kernel
theorem dX8_put_9 : decode cX8_put 9 = .ok (.arraylength, 1) := by decide +kernel
theorem dX8_put_10 : decode cX8_put 10 = .ok (.if_icmp .ge 10, 3) := by decide +kernel
theorem dX8_put_13 : decode cX8_put 13 = .ok (.aload_n 0, 1) := by decide +kernel
theorem dX8_put_14 : decode cX8_put 14 = .ok (.getfield 13, 3) := by decide +kernel
theorem dX8_put_17 : decode cX8_put 17 = .ok (.iload_n 1, 1) := by decide +kernel
theorem dX8_put_18 : decode cX8_put 18 = .ok (.iload_n 2, 1) := by decide +kernel
theorem dX8_put_19 : decode cX8_put 19 = .ok (.iastore, 1) := by decide +kernel
theorem dX8_put_20 : decode cX8_put 20 = .ok (.return_, 1) := by decide +kernel
theorem dX8_fill_0 : decode cX8_fill 0 = .ok (.iconst 0, 1) := by decide +kernel
theorem dX8_fill_1 : decode cX8_fill 1 = .ok (.istore_n 2, 1) := by decide +kernel
theorem dX8_fill_2 : decode cX8_fill 2 = .ok (.iload_n 2, 1) := by decide +kernel
theorem dX8_fill_3 : decode cX8_fill 3 = .ok (.aload_n 0, 1) := by decide +kernel
theorem dX8_fill_4 : decode cX8_fill 4 = .ok (.getfield 13, 3) := by decide +kernel
theorem dX8_fill_7 : decode cX8_fill 7 = .ok (.arraylength, 1) := by decide +kernel
theorem dX8_fill_8 : decode cX8_fill 8 = .ok (.if_icmp .ge 16, 3) := by decide +kernel
theorem dX8_fill_11 : decode cX8_fill 11 = .ok (.aload_n 0, 1) := by decide +kernel
theorem dX8_fill_12 : decode cX8_fill 12 = .ok (.getfield 13, 3) := by decide +kernel
theorem dX8_fill_15 : decode cX8_fill 15 = .ok (.iload_n 2, 1) := by decide +kernel
theorem dX8_fill_16 : decode cX8_fill 16 = .ok (.iload_n 1, 1) := by decide +kernel
theorem dX8_fill_17 : decode cX8_fill 17 = .ok (.iastore, 1) := by decide +kernel
theorem dX8_fill_18 : decode cX8_fill 18 = .ok (.iinc 2 1, 3) := by decide +kernel
theorem dX8_fill_21 : decode cX8_fill 21 = .ok (.goto (-19), 3) := by decide +kernel
theorem dX8_fill_24 : decode cX8_fill 24 = .ok (.return_, 1) := by decide +kernel
theorem dX8_copy_0 : decode cX8_copy 0 = .ok (.iconst 0, 1) := by decide +kernel
theorem dX8_copy_1 : decode cX8_copy 1 = .ok (.istore_n 2, 1) := by decide +kernel
theorem dX8_copy_2 : decode cX8_copy 2 = .ok (.iload_n 2, 1) := by decide +kernel
theorem dX8_copy_3 : decode cX8_copy 3 = .ok (.aload_n 0, 1) := by decide +kernel
theorem dX8_copy_4 : decode cX8_copy 4 = .ok (.getfield 13, 3) := by decide +kernel
theorem dX8_copy_7 : decode cX8_copy 7 = .ok (.arraylength, 1) := by decide +kernel
theorem dX8_copy_8 : decode cX8_copy 8 = .ok (.if_icmp .ge 30, 3) := by decide +kernel
theorem dX8_copy_11 : decode cX8_copy 11 = .ok (.iload_n 2, 1) := by decide +kernel
theorem dX8_copy_12 : decode cX8_copy 12 = .ok (.aload_n 1, 1) := by decide +kernel
theorem dX8_copy_13 : decode cX8_copy 13 = .ok (.getfield 13, 3) := by decide +kernel
theorem dX8_copy_16 : decode cX8_copy 16 = .ok (.arraylength, 1) := by decide +kernel
theorem dX8_copy_17 : decode cX8_copy 17 = .ok (.if_icmp .ge 21, 3) := by decide +kernel
theorem dX8_copy_20 : decode cX8_copy 20 = .ok (.aload_n 0, 1) := by decide +kernel
theorem dX8_copy_21 : decode cX8_copy 21 = .ok (.getfield 13, 3) := by decide +kernel
theorem dX8_copy_24 : decode cX8_copy 24 = .ok (.iload_n 2, 1) := by decide +kernel
theorem dX8_copy_25 : decode cX8_copy 25 = .ok (.aload_n 1, 1) := by decide +kernel
theorem dX8_copy_26 : decode cX8_copy 26 = .ok (.getfield 13, 3) := by decide +kernel
theorem dX8_copy_29 : decode cX8_copy 29 = .ok (.iload_n 2, 1) := by decide +kernel
theorem dX8_copy_30 : decode cX8_copy 30 = .ok (.iaload, 1) := by decide +kernel
theorem dX8_copy_31 : decode cX8_copy 31 = .ok (.iastore, 1) := by decide +kernel
theorem dX8_copy_32 : decode cX8_copy 32 = .ok (.iinc 2 1, 3) := by decide +kernel
theorem dX8_copy_35 : decode cX8_copy 35 = .ok (.goto (-33), 3) := by decide +kernel
theorem dX8_copy_38 : decode cX8_copy 38 = .ok (.return_, 1) := by decide +kernel
theorem dX9_init_0 : decode cX9_init 0 = .ok (.aload_n 0, 1) := by decide +kernel
theorem dX9_init_1 : decode cX9_init 1 = .ok (.invokespecial 3, 3) := by decide +kernel
theorem dX9_init_4 : decode cX9_init 4 = .ok (.aload_n 0, 1) := by decide +kernel
theorem dX9_init_5 : decode cX9_init 5 = .ok (.sipush 301, 3) := by decide +kernel
theorem dX9_init_8 : decode cX9_init 8 = .ok (.newarray .int, 2) := by decide +kernel
theorem dX9_init_10 : decode cX9_init 10 = .ok (.putfield 9, 3) := by decide +kernel
theorem dX9_init_13 : decode cX9_init 13 = .ok (.aload_n 0, 1) := by decide +kernel
theorem dX9_init_14 : decode cX9_init 14 = .ok (.sipush 301, 3) := by decide +kernel
theorem dX9_init_17 : decode cX9_init 17 = .ok (.newarray .int, 2) := by decide +kernel
theorem dX9_init_19 : decode cX9_init 19 = .ok (.putfield 15, 3) := by decide +kernel
theorem dX9_init_22 : decode cX9_init 22 = .ok (.aload_n 0, 1) := by decide +kernel
theorem dX9_init_23 : decode cX9_init 23 = .ok (.sipush 301, 3) := by decide +kernel
theorem dX9_init_26 : decode cX9_init 26 = .ok (.newarray .int, 2) := by decide +kernel
theorem dX9_init_28 : decode cX9_init 28 = .ok (.putfield 18, 3) := by decide +kernel
theorem dX9_init_31 : decode cX9_init 31 = .ok (.return_, 1) := by decide +kernel
theorem dX9_scan_0 : decode cX9_scan 0 = .ok (.aload_n 0, 1) := by decide +kernel
theorem dX9_scan_1 : decode cX9_scan 1 = .ok (.iconst 0, 1) := by decide +kernel
theorem dX9_scan_2 : decode cX9_scan 2 = .ok (.putfield 21, 3) := by decide +kernel
theorem dX9_scan_5 : decode cX9_scan 5 = .ok (.iconst 0, 1) := by decide +kernel
theorem dX9_scan_6 : decode cX9_scan 6 = .ok (.istore_n 3, 1) := by decide +kernel
theorem dX9_scan_7 : decode cX9_scan 7 = .ok (.iconst 0, 1) := by decide +kernel
theorem dX9_scan_8 : decode cX9_scan 8 = .ok (.istore 4, 2) := by decide +kernel
theorem dX9_scan_10 : decode cX9_scan 10 = .ok (.iload 4, 2) := by decide +kernel
theorem dX9_scan_12 : decode cX9_scan 12 = .ok (.sipush 300, 3) := by decide +kernel
theorem dX9_scan_15 : decode cX9_scan 15 = .ok (.if_icmp .ge 38, 3) := by decide +kernel
theorem dX9_scan_18 : decode cX9_scan 18 = .ok (.iload_n 3, 1) := by decide +kernel
theorem dX9_scan_19 : decode cX9_scan 19 = .ok (.iload_n 2, 1) := by decide +kernel
theorem dX9_scan_20 : decode cX9_scan 20 = .ok (.if_icmp .ge 33, 3) := by decide +kernel
theorem dX9_scan_23 : decode cX9_scan 23 = .ok (.aload_n 1, 1) := by decide +kernel
theorem dX9_scan_24 : decode cX9_scan 24 = .ok (.iload_n 3, 1) := by decide +kernel
theorem dX9_scan_25 : decode cX9_scan 25 = .ok (.invokevirtual 25, 3) := by decide +kernel
theorem dX9_scan_28 : decode cX9_scan 28 = .ok (.bipush 32, 2) := by decide +kernel
theorem dX9_scan_30 : decode cX9_scan 30 = .ok (.if_icmp .ne 9, 3) := by decide +kernel
theorem dX9_scan_33 : decode cX9_scan 33 = .ok (.iinc 3 1, 3) := by decide +kernel
theorem dX9_scan_36 : decode cX9_scan 36 = .ok (.goto 11, 3) := by decide +kernel
theorem dX9_scan_39 : decode cX9_scan 39 = .ok (.aload_n 0, 1) := by decide +kernel
theorem dX9_scan_40 : decode cX9_scan 40 = .ok (.aload_n 1, 1) := by decide +kernel
theorem dX9_scan_41 : decode cX9_scan 41 = .ok (.iload_n 3, 1) := by decide +kernel
theorem dX9_scan_42 : decode cX9_scan 42 = .ok (.iload_n 2, 1) := by decide +kernel
theorem dX9_scan_43 : decode cX9_scan 43 = .ok (.invokevirtual 31, 3) := by decide +kernel
theorem dX9_scan_46 : decode cX9_scan 46 = .ok (.istore_n 3, 1) := by decide +kernel
theorem dX9_scan_47 : decode cX9_scan 47 = .ok (.iinc 4 1, 3) := by decide +kernel
theorem dX9_scan_50 : decode cX9_scan 50 = .ok (.goto (-40), 3) := by decide +kernel
theorem dX9_scan_53 : decode cX9_scan 53 = .ok (.aload_n 0, 1) := by decide +kernel
theorem dX9_scan_54 : decode cX9_scan 54 = .ok (.sipush 401, 3) := by decide +kernel
theorem dX9_scan_57 : decode cX9_scan 57 = .ok (.iload_n 2, 1) := by decide +kernel
theorem dX9_scan_58 : decode cX9_scan 58 = .ok (.iconst 0, 1) := by decide +kernel
theorem dX9_scan_59 : decode cX9_scan 59 = .ok (.invokevirtual 35, 3) := by decide +kernel
theorem dX9_scan_62 : decode cX9_scan 62 = .ok (.return_, 1) := by decide +kernel
theorem dX9_scanOne_0 : decode cX9_scanOne 0 = .ok (.aload_n 1, 1) := by decide +kernel
theorem dX9_scanOne_1 : decode cX9_scanOne 1 = .ok (.iload_n 2, 1) := by decide +kernel
theorem dX9_scanOne_2 : decode cX9_scanOne 2 = .ok (.invokevirtual 25, 3) := by decide +kernel
theorem dX9_scanOne_5 : decode cX9_scanOne 5 = .ok (.istore 4, 2) := by decide +kernel
theorem dX9_scanOne_7 : decode cX9_scanOne 7 = .ok (.iconst 0, 1) := by decide +kernel
theorem dX9_scanOne_8 : decode cX9_scanOne 8 = .ok (.istore 5, 2) := by decide +kernel
theorem dX9_scanOne_10 : decode cX9_scanOne 10 = .ok (.iload_n 2, 1) := by decide +kernel
theorem dX9_scanOne_11 : decode cX9_scanOne 11 = .ok (.iconst 1, 1) := by decide +kernel
theorem dX9_scanOne_12 : decode cX9_scanOne 12 = .ok (.iadd, 1) := by decide +kernel
theorem dX9_scanOne_13 : decode cX9_scanOne 13 = .ok (.istore 6, 2) := by decide +kernel
theorem dX9_scanOne_15 : decode cX9_scanOne 15 = .ok (.iload 4, 2) := by decide +kernel
theorem dX9_scanOne_17 : decode cX9_scanOne 17 = .ok (.invokestatic 39, 3) := by decide +kernel
theorem dX9_scanOne_20 : decode cX9_scanOne 20 = .ok (.ifCond .eq 65, 3) := by decide +kernel
theorem dX9_scanOne_23 : decode cX9_scanOne 23 = .ok (.iload 4, 2) := by decide +kernel
theorem dX9_scanOne_25 : decode cX9_scanOne 25 = .ok (.bipush 48, 2) := by decide +kernel
theorem dX9_scanOne_27 : decode cX9_scanOne 27 = .ok (.isub, 1) := by decide +kernel
theorem dX9_scanOne_28 : decode cX9_scanOne 28 = .ok (.istore 5, 2) := by decide +kernel
theorem dX9_scanOne_30 : decode cX9_scanOne 30 = .ok (.iload 6, 2) := by decide +kernel
theorem dX9_scanOne_32 : decode cX9_scanOne 32 = .ok (.iload_n 3, 1) := by decide +kernel
theorem dX9_scanOne_33 : decode cX9_scanOne 33 = .ok (.if_icmp .ge 44, 3) := by decide +kernel
theorem dX9_scanOne_36 : decode cX9_scanOne 36 = .ok (.aload_n 1, 1) := by decide +kernel
theorem dX9_scanOne_37 : decode cX9_scanOne 37 = .ok (.iload 6, 2) := by decide +kernel
theorem dX9_scanOne_39 : decode cX9_scanOne 39 = .ok (.invokevirtual 25, 3) := by decide +kernel
theorem dX9_scanOne_42 : decode cX9_scanOne 42 = .ok (.invokestatic 39, 3) := by decide +kernel
theorem dX9_scanOne_45 : decode cX9_scanOne 45 = .ok (.ifCond .eq 32, 3) := by decide +kernel
theorem dX9_scanOne_48 : decode cX9_scanOne 48 = .ok (.sipush 10000, 3) := by decide +kernel
theorem dX9_scanOne_51 : decode cX9_scanOne 51 = .ok (.iload 5, 2) := by decide +kernel
theorem dX9_scanOne_53 : decode cX9_scanOne 53 = .ok (.bipush 10, 2) := by decide +kernel
theorem dX9_scanOne_55 : decode cX9_scanOne 55 = .ok (.imul, 1) := by decide +kernel
theorem dX9_scanOne_56 : decode cX9_scanOne 56 = .ok (.aload_n 1, 1) := by decide +kernel
theorem dX9_scanOne_57 : decode cX9_scanOne 57 = .ok (.iload 6, 2) := by decide +kernel
theorem dX9_scanOne_59 : decode cX9_scanOne 59 = .ok (.invokevirtual 25, 3) := by decide +kernel
theorem dX9_scanOne_62 : decode cX9_scanOne 62 = .ok (.iadd, 1) := by decide +kernel
theorem dX9_scanOne_63 : decode cX9_scanOne 63 = .ok (.bipush 48, 2) := by decide +kernel
theorem dX9_scanOne_65 : decode cX9_scanOne 65 = .ok (.isub, 1) := by decide +kernel
theorem dX9_scanOne_66 : decode cX9_scanOne 66 = .ok (.invokestatic 45, 3) := by decide +kernel
theorem dX9_scanOne_69 : decode cX9_scanOne 69 = .ok (.istore 5, 2) := by decide +kernel
theorem dX9_scanOne_71 : decode cX9_scanOne 71 = .ok (.iinc 6 1, 3) := by decide +kernel
theorem dX9_scanOne_74 : decode cX9_scanOne 74 = .ok (.goto (-44), 3) := by decide +kernel
theorem dX9_scanOne_77 : decode cX9_scanOne 77 = .ok (.sipush 400, 3) := by decide +kernel
theorem dX9_scanOne_80 : decode cX9_scanOne 80 = .ok (.istore 4, 2) := by decide +kernel
theorem dX9_scanOne_82 : decode cX9_scanOne 82 = .ok (.goto 44, 3) := by decide +kernel
theorem dX9_scanOne_85 : decode cX9_scanOne 85 = .ok (.iload 4, 2) := by decide +kernel
theorem dX9_scanOne_87 : decode cX9_scanOne 87 = .ok (.invokestatic 51, 3) := by decide +kernel
theorem dX9_scanOne_90 : decode cX9_scanOne 90 = .ok (.ifCond .eq 36, 3) := by decide +kernel
theorem dX9_scanOne_93 : decode cX9_scanOne 93 = .ok (.iload 6, 2) := by decide +kernel
theorem dX9_scanOne_95 : decode cX9_scanOne 95 = .ok (.iload_n 3, 1) := by decide +kernel
theorem dX9_scanOne_96 : decode cX9_scanOne 96 = .ok (.if_icmp .ge 21, 3) := by decide +kernel
theorem dX9_scanOne_99 : decode cX9_scanOne 99 = .ok (.aload_n 1, 1) := by decide +kernel
theorem dX9_scanOne_100 : decode cX9_scanOne 100 = .ok (.iload 6, 2) := by decide +kernel
theorem dX9_scanOne_102 : decode cX9_scanOne 102 = .ok (.invokevirtual 25, 3) := by decide +kernel
theorem dX9_scanOne_105 : decode cX9_scanOne 105 = .ok (.invokestatic 51, 3) := by decide +kernel
theorem dX9_scanOne_108 : decode cX9_scanOne 108 = .ok (.ifCond .eq 9, 3) := by decide +kernel
theorem dX9_scanOne_111 : decode cX9_scanOne 111 = .ok (.iinc 6 1, 3) := by decide +kernel
theorem dX9_scanOne_114 : decode cX9_scanOne 114 = .ok (.goto (-21), 3) := by decide +kernel
theorem dX9_scanOne_117 : decode cX9_scanOne 117 = .ok (.aload_n 1, 1) := by decide +kernel
theorem dX9_scanOne_118 : decode cX9_scanOne 118 = .ok (.iload_n 2, 1) := by decide +kernel
theorem dX9_scanOne_119 : decode cX9_scanOne 119 = .ok (.iload 6, 2) := by decide +kernel
theorem dX9_scanOne_121 : decode cX9_scanOne 121 = .ok (.invokestatic 54, 3) := by decide +kernel
theorem dX9_scanOne_124 : decode cX9_scanOne 124 = .ok (.istore 4, 2) := by decide +kernel
theorem dX9_scanOne_126 : decode cX9_scanOne 126 = .ok (.aload_n 0, 1) := by decide +kernel
theorem dX9_scanOne_127 : decode cX9_scanOne 127 = .ok (.iload 4, 2) := by decide +kernel
theorem dX9_scanOne_129 : decode cX9_scanOne 129 = .ok (.iload_n 2, 1) := by decide +kernel
theorem dX9_scanOne_130 : decode cX9_scanOne 130 = .ok (.iload 5, 2) := by decide +kernel
theorem dX9_scanOne_132 : decode cX9_scanOne 132 = .ok (.invokevirtual 35, 3) := by decide +kernel
theorem dX9_scanOne_135 : decode cX9_scanOne 135 = .ok (.iload 6, 2) := by decide +kernel
theorem dX9_scanOne_137 : decode cX9_scanOne 137 = .ok (.ireturn, 1) := by decide +kernel
theorem dX9_add_0 : decode cX9_add 0 = .ok (.aload_n 0, 1) := by decide +kernel
theorem dX9_add_1 : decode cX9_add 1 = .ok (.getfield 21, 3) := by decide +kernel
theorem dX9_add_4 : decode cX9_add 4 = .ok (.ifCond .lt 79, 3) := by decide +kernel
theorem dX9_add_7 : decode cX9_add 7 = .ok (.aload_n 0, 1) := by decide +kernel
theorem dX9_add_8 : decode cX9_add 8 = .ok (.getfield 21, 3) := by decide +kernel
theorem dX9_add_11 : decode cX9_add 11 = .ok (.aload_n 0, 1) := by decide +kernel
theorem dX9_add_12 : decode cX9_add 12 = .ok (.getfield 9, 3) := by decide +kernel
theorem dX9_add_15 : decode cX9_add 15 = .ok (.arraylength, 1) := by decide +kernel
theorem dX9_add_16 : decode cX9_add 16 = .ok (.if_icmp .ge 67, 3) := by decide +kernel
theorem dX9_add_19 : decode cX9_add 19 = .ok (.aload_n 0, 1) := by decide +kernel
theorem dX9_add_20 : decode cX9_add 20 = .ok (.getfield 21, 3) := by decide +kernel
theorem dX9_add_23 : decode cX9_add 23 = .ok (.aload_n 0, 1) := by decide +kernel
theorem dX9_add_24 : decode cX9_add 24 = .ok (.getfield 15, 3) := by decide +kernel
theorem dX9_add_27 : decode cX9_add 27 = .ok (.arraylength, 1) := by decide +kernel
theorem dX9_add_28 : decode cX9_add 28 = .ok (.if_icmp .ge 55, 3) := by decide +kernel
theorem dX9_add_31 : decode cX9_add 31 = .ok (.aload_n 0, 1) := by decide +kernel
theorem dX9_add_32 : decode cX9_add 32 = .ok (.getfield 21, 3) := by decide +kernel
theorem dX9_add_35 : decode cX9_add 35 = .ok (.aload_n 0, 1) := by decide +kernel
theorem dX9_add_36 : decode cX9_add 36 = .ok (.getfield 18, 3) := by decide +kernel
theorem dX9_add_39 : decode cX9_add 39 = .ok (.arraylength, 1) := by decide +kernel
theorem dX9_add_40 : decode cX9_add 40 = .ok (.if_icmp .ge 43, 3) := by decide +kernel
theorem dX9_add_43 : decode cX9_add 43 = .ok (.aload_n 0, 1) := by decide +kernel
theorem dX9_add_44 : decode cX9_add 44 = .ok (.getfield 9, 3) := by decide +kernel
theorem dX9_add_47 : decode cX9_add 47 = .ok (.aload_n 0, 1) := by decide +kernel
theorem dX9_add_48 : decode cX9_add 48 = .ok (.getfield 21, 3) := by decide +kernel
theorem dX9_add_51 : decode cX9_add 51 = .ok (.iload_n 1, 1) := by decide +kernel
theorem dX9_add_52 : decode cX9_add 52 = .ok (.iastore, 1) := by decide +kernel
theorem dX9_add_53 : decode cX9_add 53 = .ok (.aload_n 0, 1) := by decide +kernel
theorem dX9_add_54 : decode cX9_add 54 = .ok (.getfield 15, 3) := by decide +kernel
theorem dX9_add_57 : decode cX9_add 57 = .ok (.aload_n 0, 1) := by decide +kernel
theorem dX9_add_58 : decode cX9_add 58 = .ok (.getfield 21, 3) := by decide +kernel
theorem dX9_add_61 : decode cX9_add 61 = .ok (.iload_n 2, 1) := by decide +kernel
theorem dX9_add_62 : decode cX9_add 62 = .ok (.iastore, 1) := by decide +kernel
theorem dX9_add_63 : decode cX9_add 63 = .ok (.aload_n 0, 1) := by decide +kernel
theorem dX9_add_64 : decode cX9_add 64 = .ok (.getfield 18, 3) := by decide +kernel
theorem dX9_add_67 : decode cX9_add 67 = .ok (.aload_n 0, 1) := by decide +kernel
theorem dX9_add_68 : decode cX9_add 68 = .ok (.getfield 21, 3) := by decide +kernel
theorem dX9_add_71 : decode cX9_add 71 = .ok (.iload_n 3, 1) := by decide +kernel
theorem dX9_add_72 : decode cX9_add 72 = .ok (.iastore, 1) := by decide +kernel
theorem dX9_add_73 : decode cX9_add 73 = .ok (.aload_n 0, 1) := by decide +kernel
theorem dX9_add_74 : decode cX9_add 74 = .ok (.dup, 1) := by decide +kernel
theorem dX9_add_75 : decode cX9_add 75 = .ok (.getfield 21, 3) := by decide +kernel
theorem dX9_add_78 : decode cX9_add 78 = .ok (.iconst 1, 1) := by decide +kernel
theorem dX9_add_79 : decode cX9_add 79 = .ok (.iadd, 1) := by decide +kernel
theorem dX9_add_80 : decode cX9_add 80 = .ok (.putfield 21, 3) := by decide +kernel
theorem dX9_add_83 : decode cX9_add 83 = .ok (.return_, 1) := by decide +kernel
theorem dX9_isDigit_0 : decode cX9_isDigit 0 = .ok (.iload_n 0, 1) := by decide +kernel
theorem dX9_isDigit_1 : decode cX9_isDigit 1 = .ok (.bipush 48, 2) := by decide +kernel
theorem dX9_isDigit_3 : decode cX9_isDigit 3 = .ok (.if_icmp .lt 13, 3) := by decide +kernel
theorem dX9_isDigit_6 : decode cX9_isDigit 6 = .ok (.iload_n 0, 1) := by decide +kernel
theorem dX9_isDigit_7 : decode cX9_isDigit 7 = .ok (.bipush 57, 2) := by decide +kernel
theorem dX9_isDigit_9 : decode cX9_isDigit 9 = .ok (.if_icmp .gt 7, 3) := by decide +kernel
theorem dX9_isDigit_12 : decode cX9_isDigit 12 = .ok (.iconst 1, 1) := by decide +kernel
theorem dX9_isDigit_13 : decode cX9_isDigit 13 = .ok (.goto 4, 3) := by decide +kernel
theorem dX9_isDigit_16 : decode cX9_isDigit 16 = .ok (.iconst 0, 1) := by decide +kernel
theorem dX9_isDigit_17 : decode cX9_isDigit 17 = .ok (.ireturn, 1) := by decide +kernel
theorem dX9_isLetter_0 : decode cX9_isLetter 0 = .ok (.iload_n 0, 1) := by decide +kernel
theorem dX9_isLetter_1 : decode cX9_isLetter 1 = .ok (.bipush 97, 2) := by decide +kernel
theorem dX9_isLetter_3 : decode cX9_isLetter 3 = .ok (.if_icmp .lt 13, 3) := by decide +kernel
theorem dX9_isLetter_6 : decode cX9_isLetter 6 = .ok (.iload_n 0, 1) := by decide +kernel
theorem dX9_isLetter_7 : decode cX9_isLetter 7 = .ok (.bipush 122, 2) := by decide +kernel
theorem dX9_isLetter_9 : decode cX9_isLetter 9 = .ok (.if_icmp .gt 7, 3) := by decide +kernel
theorem dX9_isLetter_12 : decode cX9_isLetter 12 = .ok (.iconst 1, 1) := by decide +kernel
theorem dX9_isLetter_13 : decode cX9_isLetter 13 = .ok (.goto 4, 3) := by decide +kernel
theorem dX9_isLetter_16 : decode cX9_isLetter 16 = .ok (.iconst 0, 1) := by decide +kernel
theorem dX9_isLetter_17 : decode cX9_isLetter 17 = .ok (.ireturn, 1) := by decide +kernel
theorem dX9_wordAt_0 : decode cX9_wordAt 0 = .ok (.sipush 300, 3) := by decide +kernel
theorem dX9_wordAt_3 : decode cX9_wordAt 3 = .ok (.istore_n 3, 1) := by decide +kernel
theorem dX9_wordAt_4 : decode cX9_wordAt 4 = .ok (.iload_n 1, 1) := by decide +kernel
theorem dX9_wordAt_5 : decode cX9_wordAt 5 = .ok (.istore 4, 2) := by decide +kernel
theorem dX9_wordAt_7 : decode cX9_wordAt 7 = .ok (.iconst 1, 1) := by decide +kernel
theorem dX9_wordAt_8 : decode cX9_wordAt 8 = .ok (.istore 5, 2) := by decide +kernel
theorem dX9_wordAt_10 : decode cX9_wordAt 10 = .ok (.iconst 0, 1) := by decide +kernel
theorem dX9_wordAt_11 : decode cX9_wordAt 11 = .ok (.istore 6, 2) := by decide +kernel
theorem dX9_wordAt_13 : decode cX9_wordAt 13 = .ok (.iload 6, 2) := by decide +kernel
theorem dX9_wordAt_15 : decode cX9_wordAt 15 = .ok (.ldc 57, 2) := by decide +kernel
theorem dX9_wordAt_17 : decode cX9_wordAt 17 = .ok (.invokevirtual 59, 3) := by decide +kernel
theorem dX9_wordAt_20 : decode cX9_wordAt 20 = .ok (.if_icmp .ge 82, 3) := by decide +kernel
theorem dX9_wordAt_23 : decode cX9_wordAt 23 = .ok (.ldc 57, 2) := by decide +kernel
theorem dX9_wordAt_25 : decode cX9_wordAt 25 = .ok (.iload 6, 2) := by decide +kernel
theorem dX9_wordAt_27 : decode cX9_wordAt 27 = .ok (.invokevirtual 65, 3) := by decide +kernel
theorem dX9_wordAt_30 : decode cX9_wordAt 30 = .ok (.istore 7, 2) := by decide +kernel
theorem dX9_wordAt_32 : decode cX9_wordAt 32 = .ok (.iload 7, 2) := by decide +kernel
theorem dX9_wordAt_34 : decode cX9_wordAt 34 = .ok (.bipush 32, 2) := by decide +kernel
theorem dX9_wordAt_36 : decode cX9_wordAt 36 = .ok (.if_icmp .eq 38, 3) := by decide +kernel
theorem dX9_wordAt_39 : decode cX9_wordAt 39 = .ok (.iload 5, 2) := by decide +kernel
theorem dX9_wordAt_41 : decode cX9_wordAt 41 = .ok (.ifCond .eq 24, 3) := by decide +kernel
theorem dX9_wordAt_44 : decode cX9_wordAt 44 = .ok (.iload 4, 2) := by decide +kernel
theorem dX9_wordAt_46 : decode cX9_wordAt 46 = .ok (.iload_n 2, 1) := by decide +kernel
theorem dX9_wordAt_47 : decode cX9_wordAt 47 = .ok (.if_icmp .ge 18, 3) := by decide +kernel
theorem dX9_wordAt_50 : decode cX9_wordAt 50 = .ok (.aload_n 0, 1) := by decide +kernel
theorem dX9_wordAt_51 : decode cX9_wordAt 51 = .ok (.iload 4, 2) := by decide +kernel
theorem dX9_wordAt_53 : decode cX9_wordAt 53 = .ok (.invokevirtual 25, 3) := by decide +kernel
theorem dX9_wordAt_56 : decode cX9_wordAt 56 = .ok (.iload 7, 2) := by decide +kernel
theorem dX9_wordAt_58 : decode cX9_wordAt 58 = .ok (.if_icmp .ne 7, 3) := by decide +kernel
theorem dX9_wordAt_61 : decode cX9_wordAt 61 = .ok (.iconst 1, 1) := by decide +kernel
theorem dX9_wordAt_62 : decode cX9_wordAt 62 = .ok (.goto 4, 3) := by decide +kernel
theorem dX9_wordAt_65 : decode cX9_wordAt 65 = .ok (.iconst 0, 1) := by decide +kernel
theorem dX9_wordAt_66 : decode cX9_wordAt 66 = .ok (.istore 5, 2) := by decide +kernel
theorem dX9_wordAt_68 : decode cX9_wordAt 68 = .ok (.iinc 4 1, 3) := by decide +kernel
theorem dX9_wordAt_71 : decode cX9_wordAt 71 = .ok (.goto 25, 3) := by decide +kernel
theorem dX9_wordAt_74 : decode cX9_wordAt 74 = .ok (.iload 5, 2) := by decide +kernel
theorem dX9_wordAt_76 : decode cX9_wordAt 76 = .ok (.ifCond .eq 11, 3) := by decide +kernel
theorem dX9_wordAt_79 : decode cX9_wordAt 79 = .ok (.iload 4, 2) := by decide +kernel
theorem dX9_wordAt_81 : decode cX9_wordAt 81 = .ok (.iload_n 2, 1) := by decide +kernel
theorem dX9_wordAt_82 : decode cX9_wordAt 82 = .ok (.if_icmp .ne 5, 3) := by decide +kernel
theorem dX9_wordAt_85 : decode cX9_wordAt 85 = .ok (.iload_n 3, 1) := by decide +kernel
theorem dX9_wordAt_86 : decode cX9_wordAt 86 = .ok (.ireturn, 1) := by decide +kernel
theorem dX9_wordAt_87 : decode cX9_wordAt 87 = .ok (.iinc 3 1, 3) := by decide +kernel
theorem dX9_wordAt_90 : decode cX9_wordAt 90 = .ok (.iload_n 1, 1) := by decide +kernel
theorem dX9_wordAt_91 : decode cX9_wordAt 91 = .ok (.istore 4, 2) := by decide +kernel
theorem dX9_wordAt_93 : decode cX9_wordAt 93 = .ok (.iconst 1, 1) := by decide +kernel
theorem dX9_wordAt_94 : decode cX9_wordAt 94 = .ok (.istore 5, 2) := by decide +kernel
theorem dX9_wordAt_96 : decode cX9_wordAt 96 = .ok (.iinc 6 1, 3) := by decide +kernel
theorem dX9_wordAt_99 : decode cX9_wordAt 99 = .ok (.goto (-86), 3) := by decide +kernel
theorem dX9_wordAt_102 : decode cX9_wordAt 102 = .ok (.sipush 318, 3) := by decide +kernel
theorem dX9_wordAt_105 : decode cX9_wordAt 105 = .ok (.ireturn, 1) := by decide +kernel

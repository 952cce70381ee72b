theorem dX11_shut_5 : decode cX11_shut 5 = .ok (.aload_n 0, 1) := by decide +kernel
theorem dX11_shut_6 : decode cX11_shut 6 = .ok (.aload_n 0, 1) := by decide +kernel
theorem dX11_shut_7 : decode cX11_shut 7 = .ok (.iload_n 1, 1) := by decide +kernel
theorem dX11_shut_8 : decode cX11_shut 8 = .ok (.invokevirtual 242, 3) := by decide +kernel
theorem dX11_shut_11 : decode cX11_shut 11 = .ok (.ifCond .ne 7, 3) := by decide +kernel
theorem dX11_shut_14 : decode cX11_shut 14 = .ok (.iconst 1, 1) := by decide +kernel
theorem dX11_shut_15 : decode cX11_shut 15 = .ok (.goto 4, 3) := by decide +kernel
theorem dX11_shut_18 : decode cX11_shut 18 = .ok (.iconst 0, 1) := by decide +kernel
theorem dX11_shut_19 : decode cX11_shut 19 = .ok (.iconst 1, 1) := by decide +kernel
theorem dX11_shut_20 : decode cX11_shut 20 = .ok (.invokevirtual 176, 3) := by decide +kernel
theorem dX11_shut_23 : decode cX11_shut 23 = .ok (.ifCond .ne 58, 3) := by decide +kernel
theorem dX11_shut_26 : decode cX11_shut 26 = .ok (.aload_n 0, 1) := by decide +kernel
theorem dX11_shut_27 : decode cX11_shut 27 = .ok (.iload_n 2, 1) := by decide +kernel
theorem dX11_shut_28 : decode cX11_shut 28 = .ok (.iconst 0, 1) := by decide +kernel
theorem dX11_shut_29 : decode cX11_shut 29 = .ok (.bipush 99, 2) := by decide +kernel
theorem dX11_shut_31 : decode cX11_shut 31 = .ok (.invokestatic 172, 3) := by decide +kernel
theorem dX11_shut_34 : decode cX11_shut 34 = .ok (.ifCond .eq 35, 3) := by decide +kernel
theorem dX11_shut_37 : decode cX11_shut 37 = .ok (.iload_n 3, 1) := by decide +kernel
theorem dX11_shut_38 : decode cX11_shut 38 = .ok (.iload 4, 2) := by decide +kernel
theorem dX11_shut_40 : decode cX11_shut 40 = .ok (.invokestatic 213, 3) := by decide +kernel
theorem dX11_shut_43 : decode cX11_shut 43 = .ok (.ifCond .eq 26, 3) := by decide +kernel
theorem dX11_shut_46 : decode cX11_shut 46 = .ok (.iload 5, 2) := by decide +kernel
theorem dX11_shut_48 : decode cX11_shut 48 = .ok (.iconst 1, 1) := by decide +kernel
theorem dX11_shut_49 : decode cX11_shut 49 = .ok (.sipush 9999, 3) := by decide +kernel
theorem dX11_shut_52 : decode cX11_shut 52 = .ok (.invokestatic 172, 3) := by decide +kernel
theorem dX11_shut_55 : decode cX11_shut 55 = .ok (.ifCond .eq 14, 3) := by decide +kernel
theorem dX11_shut_58 : decode cX11_shut 58 = .ok (.iload 6, 2) := by decide +kernel
theorem dX11_shut_60 : decode cX11_shut 60 = .ok (.iconst 0, 1) := by decide +kernel
theorem dX11_shut_61 : decode cX11_shut 61 = .ok (.ldc 241, 2) := by decide +kernel
theorem dX11_shut_63 : decode cX11_shut 63 = .ok (.invokestatic 172, 3) := by decide +kernel
theorem dX11_shut_66 : decode cX11_shut 66 = .ok (.ifCond .ne 7, 3) := by decide +kernel
theorem dX11_shut_69 : decode cX11_shut 69 = .ok (.iconst 1, 1) := by decide +kernel
theorem dX11_shut_70 : decode cX11_shut 70 = .ok (.goto 4, 3) := by decide +kernel
theorem dX11_shut_73 : decode cX11_shut 73 = .ok (.iconst 0, 1) := by decide +kernel
theorem dX11_shut_74 : decode cX11_shut 74 = .ok (.iconst 2, 1) := by decide +kernel
theorem dX11_shut_75 : decode cX11_shut 75 = .ok (.invokevirtual 176, 3) := by decide +kernel
theorem dX11_shut_78 : decode cX11_shut 78 = .ok (.ifCond .eq 5, 3) := by decide +kernel
theorem dX11_shut_81 : decode cX11_shut 81 = .ok (.iconst 0, 1) := by decide +kernel
theorem dX11_shut_82 : decode cX11_shut 82 = .ok (.ireturn, 1) := by decide +kernel
theorem dX11_shut_83 : decode cX11_shut 83 = .ok (.aload_n 0, 1) := by decide +kernel
theorem dX11_shut_84 : decode cX11_shut 84 = .ok (.iload_n 3, 1) := by decide +kernel
theorem dX11_shut_85 : decode cX11_shut 85 = .ok (.iload 4, 2) := by decide +kernel
theorem dX11_shut_87 : decode cX11_shut 87 = .ok (.iload 5, 2) := by decide +kernel
theorem dX11_shut_89 : decode cX11_shut 89 = .ok (.invokevirtual 254, 3) := by decide +kernel
theorem dX11_shut_92 : decode cX11_shut 92 = .ok (.iconst (-1), 1) := by decide +kernel
theorem dX11_shut_93 : decode cX11_shut 93 = .ok (.istore 7, 2) := by decide +kernel
theorem dX11_shut_95 : decode cX11_shut 95 = .ok (.iconst 1, 1) := by decide +kernel
theorem dX11_shut_96 : decode cX11_shut 96 = .ok (.istore 8, 2) := by decide +kernel
theorem dX11_shut_98 : decode cX11_shut 98 = .ok (.iload 8, 2) := by decide +kernel
theorem dX11_shut_100 : decode cX11_shut 100 = .ok (.bipush 100, 2) := by decide +kernel
theorem dX11_shut_102 : decode cX11_shut 102 = .ok (.if_icmp .gt 39, 3) := by decide +kernel
theorem dX11_shut_105 : decode cX11_shut 105 = .ok (.iload 7, 2) := by decide +kernel
theorem dX11_shut_107 : decode cX11_shut 107 = .ok (.iconst (-1), 1) := by decide +kernel
theorem dX11_shut_108 : decode cX11_shut 108 = .ok (.if_icmp .ne 33, 3) := by decide +kernel
theorem dX11_shut_111 : decode cX11_shut 111 = .ok (.aload_n 0, 1) := by decide +kernel
theorem dX11_shut_112 : decode cX11_shut 112 = .ok (.iload_n 1, 1) := by decide +kernel
theorem dX11_shut_113 : decode cX11_shut 113 = .ok (.iload_n 2, 1) := by decide +kernel
theorem dX11_shut_114 : decode cX11_shut 114 = .ok (.invokevirtual 245, 3) := by decide +kernel
theorem dX11_shut_117 : decode cX11_shut 117 = .ok (.aload_n 0, 1) := by decide +kernel
theorem dX11_shut_118 : decode cX11_shut 118 = .ok (.iload_n 3, 1) := by decide +kernel
theorem dX11_shut_119 : decode cX11_shut 119 = .ok (.invokevirtual 221, 3) := by decide +kernel
theorem dX11_shut_122 : decode cX11_shut 122 = .ok (.iload 6, 2) := by decide +kernel
theorem dX11_shut_124 : decode cX11_shut 124 = .ok (.if_icmp .le 8, 3) := by decide +kernel
theorem dX11_shut_127 : decode cX11_shut 127 = .ok (.iload 8, 2) := by decide +kernel
theorem dX11_shut_129 : decode cX11_shut 129 = .ok (.goto 4, 3) := by decide +kernel
theorem dX11_shut_132 : decode cX11_shut 132 = .ok (.iconst (-1), 1) := by decide +kernel
theorem dX11_shut_133 : decode cX11_shut 133 = .ok (.istore 7, 2) := by decide +kernel
theorem dX11_shut_135 : decode cX11_shut 135 = .ok (.iinc 8 1, 3) := by decide +kernel
theorem dX11_shut_138 : decode cX11_shut 138 = .ok (.goto (-40), 3) := by decide +kernel
theorem dX11_shut_141 : decode cX11_shut 141 = .ok (.aload_n 0, 1) := by decide +kernel
theorem dX11_shut_142 : decode cX11_shut 142 = .ok (.invokevirtual 257, 3) := by decide +kernel
theorem dX11_shut_145 : decode cX11_shut 145 = .ok (.iload 7, 2) := by decide +kernel
theorem dX11_shut_147 : decode cX11_shut 147 = .ok (.ireturn, 1) := by decide +kernel
theorem dX11_mend_0 : decode cX11_mend 0 = .ok (.aload_n 0, 1) := by decide +kernel
theorem dX11_mend_1 : decode cX11_mend 1 = .ok (.iconst 0, 1) := by decide +kernel
theorem dX11_mend_2 : decode cX11_mend 2 = .ok (.putfield 83, 3) := by decide +kernel
theorem dX11_mend_5 : decode cX11_mend 5 = .ok (.aload_n 0, 1) := by decide +kernel
theorem dX11_mend_6 : decode cX11_mend 6 = .ok (.iload_n 1, 1) := by decide +kernel
theorem dX11_mend_7 : decode cX11_mend 7 = .ok (.iconst 0, 1) := by decide +kernel
theorem dX11_mend_8 : decode cX11_mend 8 = .ok (.bipush 9, 2) := by decide +kernel
theorem dX11_mend_10 : decode cX11_mend 10 = .ok (.invokestatic 172, 3) := by decide +kernel
theorem dX11_mend_13 : decode cX11_mend 13 = .ok (.ifCond .eq 26, 3) := by decide +kernel
theorem dX11_mend_16 : decode cX11_mend 16 = .ok (.iload_n 2, 1) := by decide +kernel
theorem dX11_mend_17 : decode cX11_mend 17 = .ok (.ldc_w 282, 3) := by decide +kernel
theorem dX11_mend_20 : decode cX11_mend 20 = .ok (.ldc 203, 2) := by decide +kernel
theorem dX11_mend_22 : decode cX11_mend 22 = .ok (.invokestatic 172, 3) := by decide +kernel
theorem dX11_mend_25 : decode cX11_mend 25 = .ok (.ifCond .eq 14, 3) := by decide +kernel
theorem dX11_mend_28 : decode cX11_mend 28 = .ok (.iload_n 3, 1) := by decide +kernel
theorem dX11_mend_29 : decode cX11_mend 29 = .ok (.iconst 0, 1) := by decide +kernel
theorem dX11_mend_30 : decode cX11_mend 30 = .ok (.sipush 999, 3) := by decide +kernel
theorem dX11_mend_33 : decode cX11_mend 33 = .ok (.invokestatic 172, 3) := by decide +kernel
theorem dX11_mend_36 : decode cX11_mend 36 = .ok (.ifCond .ne 7, 3) := by decide +kernel
theorem dX11_mend_39 : decode cX11_mend 39 = .ok (.iconst 1, 1) := by decide +kernel
theorem dX11_mend_40 : decode cX11_mend 40 = .ok (.goto 4, 3) := by decide +kernel
theorem dX11_mend_43 : decode cX11_mend 43 = .ok (.iconst 0, 1) := by decide +kernel
theorem dX11_mend_44 : decode cX11_mend 44 = .ok (.iconst 1, 1) := by decide +kernel
theorem dX11_mend_45 : decode cX11_mend 45 = .ok (.invokevirtual 176, 3) := by decide +kernel
theorem dX11_mend_48 : decode cX11_mend 48 = .ok (.ifCond .eq 5, 3) := by decide +kernel
theorem dX11_mend_51 : decode cX11_mend 51 = .ok (.iconst 0, 1) := by decide +kernel
theorem dX11_mend_52 : decode cX11_mend 52 = .ok (.ireturn, 1) := by decide +kernel
theorem dX11_mend_53 : decode cX11_mend 53 = .ok (.aload_n 0, 1) := by decide +kernel
theorem dX11_mend_54 : decode cX11_mend 54 = .ok (.getfield 283, 3) := by decide +kernel
theorem dX11_mend_57 : decode cX11_mend 57 = .ok (.iconst 5, 1) := by decide +kernel
theorem dX11_mend_58 : decode cX11_mend 58 = .ok (.if_icmp .ne 5, 3) := by decide +kernel
theorem dX11_mend_61 : decode cX11_mend 61 = .ok (.iconst (-1), 1) := by decide +kernel
theorem dX11_mend_62 : decode cX11_mend 62 = .ok (.ireturn, 1) := by decide +kernel
theorem dX11_mend_63 : decode cX11_mend 63 = .ok (.aload_n 0, 1) := by decide +kernel
theorem dX11_mend_64 : decode cX11_mend 64 = .ok (.getfield 71, 3) := by decide +kernel
theorem dX11_mend_67 : decode cX11_mend 67 = .ok (.aload_n 0, 1) := by decide +kernel
theorem dX11_mend_68 : decode cX11_mend 68 = .ok (.getfield 283, 3) := by decide +kernel
theorem dX11_mend_71 : decode cX11_mend 71 = .ok (.aaload, 1) := by decide +kernel
theorem dX11_mend_72 : decode cX11_mend 72 = .ok (.iconst 0, 1) := by decide +kernel
theorem dX11_mend_73 : decode cX11_mend 73 = .ok (.iload_n 1, 1) := by decide +kernel
theorem dX11_mend_74 : decode cX11_mend 74 = .ok (.iastore, 1) := by decide +kernel
theorem dX11_mend_75 : decode cX11_mend 75 = .ok (.aload_n 0, 1) := by decide +kernel
theorem dX11_mend_76 : decode cX11_mend 76 = .ok (.getfield 71, 3) := by decide +kernel
theorem dX11_mend_79 : decode cX11_mend 79 = .ok (.aload_n 0, 1) := by decide +kernel
theorem dX11_mend_80 : decode cX11_mend 80 = .ok (.getfield 283, 3) := by decide +kernel
theorem dX11_mend_83 : decode cX11_mend 83 = .ok (.aaload, 1) := by decide +kernel
theorem dX11_mend_84 : decode cX11_mend 84 = .ok (.iconst 1, 1) := by decide +kernel
theorem dX11_mend_85 : decode cX11_mend 85 = .ok (.iload_n 2, 1) := by decide +kernel
theorem dX11_mend_86 : decode cX11_mend 86 = .ok (.iastore, 1) := by decide +kernel
theorem dX11_mend_87 : decode cX11_mend 87 = .ok (.aload_n 0, 1) := by decide +kernel
theorem dX11_mend_88 : decode cX11_mend 88 = .ok (.getfield 71, 3) := by decide +kernel
theorem dX11_mend_91 : decode cX11_mend 91 = .ok (.aload_n 0, 1) := by decide +kernel
theorem dX11_mend_92 : decode cX11_mend 92 = .ok (.getfield 283, 3) := by decide +kernel
theorem dX11_mend_95 : decode cX11_mend 95 = .ok (.aaload, 1) := by decide +kernel
theorem dX11_mend_96 : decode cX11_mend 96 = .ok (.iconst 2, 1) := by decide +kernel
theorem dX11_mend_97 : decode cX11_mend 97 = .ok (.iload_n 3, 1) := by decide +kernel
theorem dX11_mend_98 : decode cX11_mend 98 = .ok (.iastore, 1) := by decide +kernel
theorem dX11_mend_99 : decode cX11_mend 99 = .ok (.aload_n 0, 1) := by decide +kernel
theorem dX11_mend_100 : decode cX11_mend 100 = .ok (.dup, 1) := by decide +kernel
theorem dX11_mend_101 : decode cX11_mend 101 = .ok (.getfield 283, 3) := by decide +kernel
theorem dX11_mend_104 : decode cX11_mend 104 = .ok (.iconst 1, 1) := by decide +kernel
theorem dX11_mend_105 : decode cX11_mend 105 = .ok (.iadd, 1) := by decide +kernel
theorem dX11_mend_106 : decode cX11_mend 106 = .ok (.putfield 283, 3) := by decide +kernel
theorem dX11_mend_109 : decode cX11_mend 109 = .ok (.aload_n 0, 1) := by decide +kernel
theorem dX11_mend_110 : decode cX11_mend 110 = .ok (.getfield 283, 3) := by decide +kernel
theorem dX11_mend_113 : decode cX11_mend 113 = .ok (.iconst 1, 1) := by decide +kernel
theorem dX11_mend_114 : decode cX11_mend 114 = .ok (.isub, 1) := by decide +kernel
theorem dX11_mend_115 : decode cX11_mend 115 = .ok (.ireturn, 1) := by decide +kernel
theorem dX11_makes_0 : decode cX11_makes 0 = .ok (.aload_n 0, 1) := by decide +kernel
theorem dX11_makes_1 : decode cX11_makes 1 = .ok (.getfield 71, 3) := by decide +kernel
theorem dX11_makes_4 : decode cX11_makes 4 = .ok (.iload_n 1, 1) := by decide +kernel
theorem dX11_makes_5 : decode cX11_makes 5 = .ok (.aaload, 1) := by decide +kernel
theorem dX11_makes_6 : decode cX11_makes 6 = .ok (.iconst 0, 1) := by decide +kernel
theorem dX11_makes_7 : decode cX11_makes 7 = .ok (.iaload, 1) := by decide +kernel
theorem dX11_makes_8 : decode cX11_makes 8 = .ok (.istore_n 2, 1) := by decide +kernel
theorem dX11_makes_9 : decode cX11_makes 9 = .ok (.aload_n 0, 1) := by decide +kernel
theorem dX11_makes_10 : decode cX11_makes 10 = .ok (.getfield 40, 3) := by decide +kernel
theorem dX11_makes_13 : decode cX11_makes 13 = .ok (.iload_n 2, 1) := by decide +kernel
theorem dX11_makes_14 : decode cX11_makes 14 = .ok (.aload_n 0, 1) := by decide +kernel
theorem dX11_makes_15 : decode cX11_makes 15 = .ok (.getfield 40, 3) := by decide +kernel
theorem dX11_makes_18 : decode cX11_makes 18 = .ok (.iload_n 2, 1) := by decide +kernel
theorem dX11_makes_19 : decode cX11_makes 19 = .ok (.iaload, 1) := by decide +kernel
theorem dX11_makes_20 : decode cX11_makes 20 = .ok (.aload_n 0, 1) := by decide +kernel
theorem dX11_makes_21 : decode cX11_makes 21 = .ok (.getfield 71, 3) := by decide +kernel
theorem dX11_makes_24 : decode cX11_makes 24 = .ok (.iload_n 1, 1) := by decide +kernel
theorem dX11_makes_25 : decode cX11_makes 25 = .ok (.aaload, 1) := by decide +kernel
theorem dX11_makes_26 : decode cX11_makes 26 = .ok (.iconst 1, 1) := by decide +kernel
theorem dX11_makes_27 : decode cX11_makes 27 = .ok (.iaload, 1) := by decide +kernel
theorem dX11_makes_28 : decode cX11_makes 28 = .ok (.iadd, 1) := by decide +kernel
theorem dX11_makes_29 : decode cX11_makes 29 = .ok (.iload_n 2, 1) := by decide +kernel
theorem dX11_makes_30 : decode cX11_makes 30 = .ok (.invokestatic 204, 3) := by decide +kernel
theorem dX11_makes_33 : decode cX11_makes 33 = .ok (.iload_n 2, 1) := by decide +kernel
theorem dX11_makes_34 : decode cX11_makes 34 = .ok (.invokestatic 207, 3) := by decide +kernel
theorem dX11_makes_37 : decode cX11_makes 37 = .ok (.invokestatic 191, 3) := by decide +kernel
theorem dX11_makes_40 : decode cX11_makes 40 = .ok (.iastore, 1) := by decide +kernel
theorem dX11_makes_41 : decode cX11_makes 41 = .ok (.return_, 1) := by decide +kernel
theorem dX11_isCalm_0 : decode cX11_isCalm 0 = .ok (.iconst 0, 1) := by decide +kernel
theorem dX11_isCalm_1 : decode cX11_isCalm 1 = .ok (.istore_n 3, 1) := by decide +kernel
theorem dX11_isCalm_2 : decode cX11_isCalm 2 = .ok (.iload_n 3, 1) := by decide +kernel
theorem dX11_isCalm_3 : decode cX11_isCalm 3 = .ok (.iconst 2, 1) := by decide +kernel
theorem dX11_isCalm_4 : decode cX11_isCalm 4 = .ok (.if_icmp .ge 40, 3) := by decide +kernel
theorem dX11_isCalm_7 : decode cX11_isCalm 7 = .ok (.iconst 1, 1) := by decide +kernel
theorem dX11_isCalm_8 : decode cX11_isCalm 8 = .ok (.istore 4, 2) := by decide +kernel
theorem dX11_isCalm_10 : decode cX11_isCalm 10 = .ok (.iload 4, 2) := by decide +kernel
theorem dX11_isCalm_12 : decode cX11_isCalm 12 = .ok (.iconst 4, 1) := by decide +kernel
theorem dX11_isCalm_13 : decode cX11_isCalm 13 = .ok (.if_icmp .ge 25, 3) := by decide +kernel
theorem dX11_isCalm_16 : decode cX11_isCalm 16 = .ok (.aload_n 0, 1) := by decide +kernel
theorem dX11_isCalm_17 : decode cX11_isCalm 17 = .ok (.iload_n 1, 1) := by decide +kernel
theorem dX11_isCalm_18 : decode cX11_isCalm 18 = .ok (.iload_n 2, 1) := by decide +kernel
theorem dX11_isCalm_19 : decode cX11_isCalm 19 = .ok (.iload_n 3, 1) := by decide +kernel
theorem dX11_isCalm_20 : decode cX11_isCalm 20 = .ok (.iload 4, 2) := by decide +kernel
theorem dX11_isCalm_22 : decode cX11_isCalm 22 = .ok (.bipush 100, 2) := by decide +kernel
theorem dX11_isCalm_24 : decode cX11_isCalm 24 = .ok (.invokevirtual 264, 3) := by decide +kernel
theorem dX11_isCalm_27 : decode cX11_isCalm 27 = .ok (.ifCond .eq 5, 3) := by decide +kernel
theorem dX11_isCalm_30 : decode cX11_isCalm 30 = .ok (.iconst 0, 1) := by decide +kernel
theorem dX11_isCalm_31 : decode cX11_isCalm 31 = .ok (.ireturn, 1) := by decide +kernel
theorem dX11_isCalm_32 : decode cX11_isCalm 32 = .ok (.iinc 4 1, 3) := by decide +kernel
theorem dX11_isCalm_35 : decode cX11_isCalm 35 = .ok (.goto (-25), 3) := by decide +kernel
theorem dX11_isCalm_38 : decode cX11_isCalm 38 = .ok (.iinc 3 1, 3) := by decide +kernel
theorem dX11_isCalm_41 : decode cX11_isCalm 41 = .ok (.goto (-39), 3) := by decide +kernel
theorem dX11_isCalm_44 : decode cX11_isCalm 44 = .ok (.iconst 1, 1) := by decide +kernel
theorem dX11_isCalm_45 : decode cX11_isCalm 45 = .ok (.ireturn, 1) := by decide +kernel
theorem dX11_calm_0 : decode cX11_calm 0 = .ok (.aload_n 0, 1) := by decide +kernel
theorem dX11_calm_1 : decode cX11_calm 1 = .ok (.iconst 0, 1) := by decide +kernel
theorem dX11_calm_2 : decode cX11_calm 2 = .ok (.putfield 83, 3) := by decide +kernel
theorem dX11_calm_5 : decode cX11_calm 5 = .ok (.aload_n 0, 1) := by decide +kernel
theorem dX11_calm_6 : decode cX11_calm 6 = .ok (.iload_n 1, 1) := by decide +kernel
theorem dX11_calm_7 : decode cX11_calm 7 = .ok (.iload_n 2, 1) := by decide +kernel
theorem dX11_calm_8 : decode cX11_calm 8 = .ok (.iconst 0, 1) := by decide +kernel
theorem dX11_calm_9 : decode cX11_calm 9 = .ok (.iconst 1, 1) := by decide +kernel
theorem dX11_calm_10 : decode cX11_calm 10 = .ok (.invokevirtual 260, 3) := by decide +kernel
theorem dX11_calm_13 : decode cX11_calm 13 = .ok (.ifCond .eq 5, 3) := by decide +kernel
theorem dX11_calm_16 : decode cX11_calm 16 = .ok (.iconst 0, 1) := by decide +kernel
theorem dX11_calm_17 : decode cX11_calm 17 = .ok (.ireturn, 1) := by decide +kernel
theorem dX11_calm_18 : decode cX11_calm 18 = .ok (.aload_n 0, 1) := by decide +kernel
theorem dX11_calm_19 : decode cX11_calm 19 = .ok (.iload_n 1, 1) := by decide +kernel
theorem dX11_calm_20 : decode cX11_calm 20 = .ok (.iload_n 2, 1) := by decide +kernel
theorem dX11_calm_21 : decode cX11_calm 21 = .ok (.invokevirtual 286, 3) := by decide +kernel
theorem dX11_calm_24 : decode cX11_calm 24 = .ok (.ireturn, 1) := by decide +kernel
theorem dX11_mended_0 : decode cX11_mended 0 = .ok (.aload_n 0, 1) := by decide +kernel
theorem dX11_mended_1 : decode cX11_mended 1 = .ok (.iconst 0, 1) := by decide +kernel
theorem dX11_mended_2 : decode cX11_mended 2 = .ok (.putfield 83, 3) := by decide +kernel
theorem dX11_mended_5 : decode cX11_mended 5 = .ok (.aload_n 0, 1) := by decide +kernel
theorem dX11_mended_6 : decode cX11_mended 6 = .ok (.iload_n 1, 1) := by decide +kernel
theorem dX11_mended_7 : decode cX11_mended 7 = .ok (.iload_n 2, 1) := by decide +kernel
theorem dX11_mended_8 : decode cX11_mended 8 = .ok (.iconst 0, 1) := by decide +kernel
theorem dX11_mended_9 : decode cX11_mended 9 = .ok (.iconst 1, 1) := by decide +kernel
theorem dX11_mended_10 : decode cX11_mended 10 = .ok (.invokevirtual 260, 3) := by decide +kernel
theorem dX11_mended_13 : decode cX11_mended 13 = .ok (.ifCond .eq 5, 3) := by decide +kernel
theorem dX11_mended_16 : decode cX11_mended 16 = .ok (.iconst 0, 1) := by decide +kernel
theorem dX11_mended_17 : decode cX11_mended 17 = .ok (.ireturn, 1) := by decide +kernel
theorem dX11_mended_18 : decode cX11_mended 18 = .ok (.iconst (-1), 1) := by decide +kernel
theorem dX11_mended_19 : decode cX11_mended 19 = .ok (.istore_n 3, 1) := by decide +kernel
theorem dX11_mended_20 : decode cX11_mended 20 = .ok (.iconst 0, 1) := by decide +kernel
theorem dX11_mended_21 : decode cX11_mended 21 = .ok (.istore 4, 2) := by decide +kernel
theorem dX11_mended_23 : decode cX11_mended 23 = .ok (.iconst 0, 1) := by decide +kernel
theorem dX11_mended_24 : decode cX11_mended 24 = .ok (.istore 5, 2) := by decide +kernel
theorem dX11_mended_26 : decode cX11_mended 26 = .ok (.iload 5, 2) := by decide +kernel
theorem dX11_mended_28 : decode cX11_mended 28 = .ok (.iconst 1, 1) := by decide +kernel
theorem dX11_mended_29 : decode cX11_mended 29 = .ok (.aload_n 0, 1) := by decide +kernel
theorem dX11_mended_30 : decode cX11_mended 30 = .ok (.getfield 283, 3) := by decide +kernel
theorem dX11_mended_33 : decode cX11_mended 33 = .ok (.ishl, 1) := by decide +kernel
theorem dX11_mended_34 : decode cX11_mended 34 = .ok (.if_icmp .ge 185, 3) := by decide +kernel
theorem dX11_mended_37 : decode cX11_mended 37 = .ok (.iconst 0, 1) := by decide +kernel
theorem dX11_mended_38 : decode cX11_mended 38 = .ok (.istore 6, 2) := by decide +kernel
theorem dX11_mended_40 : decode cX11_mended 40 = .ok (.iconst 0, 1) := by decide +kernel
theorem dX11_mended_41 : decode cX11_mended 41 = .ok (.istore 7, 2) := by decide +kernel
theorem dX11_mended_43 : decode cX11_mended 43 = .ok (.iload 7, 2) := by decide +kernel
theorem dX11_mended_45 : decode cX11_mended 45 = .ok (.aload_n 0, 1) := by decide +kernel
theorem dX11_mended_46 : decode cX11_mended 46 = .ok (.getfield 283, 3) := by decide +kernel
theorem dX11_mended_49 : decode cX11_mended 49 = .ok (.if_icmp .ge 38, 3) := by decide +kernel
theorem dX11_mended_52 : decode cX11_mended 52 = .ok (.iload 6, 2) := by decide +kernel
theorem dX11_mended_54 : decode cX11_mended 54 = .ok (.iload 5, 2) := by decide +kernel
theorem dX11_mended_56 : decode cX11_mended 56 = .ok (.iload 7, 2) := by decide +kernel
theorem dX11_mended_58 : decode cX11_mended 58 = .ok (.ishr, 1) := by decide +kernel
theorem dX11_mended_59 : decode cX11_mended 59 = .ok (.iconst 1, 1) := by decide +kernel
theorem dX11_mended_60 : decode cX11_mended 60 = .ok (.iand, 1) := by decide +kernel
theorem dX11_mended_61 : decode cX11_mended 61 = .ok (.iconst 1, 1) := by decide +kernel
theorem dX11_mended_62 : decode cX11_mended 62 = .ok (.if_icmp .ne 15, 3) := by decide +kernel
theorem dX11_mended_65 : decode cX11_mended 65 = .ok (.aload_n 0, 1) := by decide +kernel
theorem dX11_mended_66 : decode cX11_mended 66 = .ok (.getfield 71, 3) := by decide +kernel
theorem dX11_mended_69 : decode cX11_mended 69 = .ok (.iload 7, 2) := by decide +kernel
theorem dX11_mended_71 : decode cX11_mended 71 = .ok (.aaload, 1) := by decide +kernel
theorem dX11_mended_72 : decode cX11_mended 72 = .ok (.iconst 2, 1) := by decide +kernel
theorem dX11_mended_73 : decode cX11_mended 73 = .ok (.iaload, 1) := by decide +kernel
theorem dX11_mended_74 : decode cX11_mended 74 = .ok (.goto 4, 3) := by decide +kernel
theorem dX11_mended_77 : decode cX11_mended 77 = .ok (.iconst 0, 1) := by decide +kernel
theorem dX11_mended_78 : decode cX11_mended 78 = .ok (.iadd, 1) := by decide +kernel
theorem dX11_mended_79 : decode cX11_mended 79 = .ok (.istore 6, 2) := by decide +kernel
theorem dX11_mended_81 : decode cX11_mended 81 = .ok (.iinc 7 1, 3) := by decide +kernel
theorem dX11_mended_84 : decode cX11_mended 84 = .ok (.goto (-41), 3) := by decide +kernel
theorem dX11_mended_87 : decode cX11_mended 87 = .ok (.iload_n 3, 1) := by decide +kernel
theorem dX11_mended_88 : decode cX11_mended 88 = .ok (.iconst (-1), 1) := by decide +kernel
theorem dX11_mended_89 : decode cX11_mended 89 = .ok (.if_icmp .eq 13, 3) := by decide +kernel
theorem dX11_mended_92 : decode cX11_mended 92 = .ok (.iload 6, 2) := by decide +kernel
theorem dX11_mended_94 : decode cX11_mended 94 = .ok (.iload 4, 2) := by decide +kernel
theorem dX11_mended_96 : decode cX11_mended 96 = .ok (.if_icmp .lt 6, 3) := by decide +kernel
theorem dX11_mended_99 : decode cX11_mended 99 = .ok (.goto 114, 3) := by decide +kernel
theorem dX11_mended_102 : decode cX11_mended 102 = .ok (.iconst 0, 1) := by decide +kernel
theorem dX11_mended_103 : decode cX11_mended 103 = .ok (.istore 7, 2) := by decide +kernel
theorem dX11_mended_105 : decode cX11_mended 105 = .ok (.iload 7, 2) := by decide +kernel
theorem dX11_mended_107 : decode cX11_mended 107 = .ok (.bipush 10, 2) := by decide +kernel
theorem dX11_mended_109 : decode cX11_mended 109 = .ok (.if_icmp .ge 23, 3) := by decide +kernel
theorem dX11_mended_112 : decode cX11_mended 112 = .ok (.aload_n 0, 1) := by decide +kernel
theorem dX11_mended_113 : decode cX11_mended 113 = .ok (.getfield 62, 3) := by decide +kernel
theorem dX11_mended_116 : decode cX11_mended 116 = .ok (.iload 7, 2) := by decide +kernel
theorem dX11_mended_118 : decode cX11_mended 118 = .ok (.aload_n 0, 1) := by decide +kernel
theorem dX11_mended_119 : decode cX11_mended 119 = .ok (.getfield 40, 3) := by decide +kernel
theorem dX11_mended_122 : decode cX11_mended 122 = .ok (.iload 7, 2) := by decide +kernel
theorem dX11_mended_124 : decode cX11_mended 124 = .ok (.iaload, 1) := by decide +kernel
theorem dX11_mended_125 : decode cX11_mended 125 = .ok (.iastore, 1) := by decide +kernel
theorem dX11_mended_126 : decode cX11_mended 126 = .ok (.iinc 7 1, 3) := by decide +kernel
theorem dX11_mended_129 : decode cX11_mended 129 = .ok (.goto (-24), 3) := by decide +kernel
theorem dX11_mended_132 : decode cX11_mended 132 = .ok (.iconst 0, 1) := by decide +kernel
theorem dX11_mended_133 : decode cX11_mended 133 = .ok (.istore 7, 2) := by decide +kernel
theorem dX11_mended_135 : decode cX11_mended 135 = .ok (.iload 7, 2) := by decide +kernel
theorem dX11_mended_137 : decode cX11_mended 137 = .ok (.aload_n 0, 1) := by decide +kernel
theorem dX11_mended_138 : decode cX11_mended 138 = .ok (.getfield 283, 3) := by decide +kernel
theorem dX11_mended_141 : decode cX11_mended 141 = .ok (.if_icmp .ge 26, 3) := by decide +kernel
theorem dX11_mended_144 : decode cX11_mended 144 = .ok (.iload 5, 2) := by decide +kernel
theorem dX11_mended_146 : decode cX11_mended 146 = .ok (.iload 7, 2) := by decide +kernel
theorem dX11_mended_148 : decode cX11_mended 148 = .ok (.ishr, 1) := by decide +kernel
theorem dX11_mended_149 : decode cX11_mended 149 = .ok (.iconst 1, 1) := by decide +kernel
theorem dX11_mended_150 : decode cX11_mended 150 = .ok (.iand, 1) := by decide +kernel
theorem dX11_mended_151 : decode cX11_mended 151 = .ok (.iconst 1, 1) := by decide +kernel
theorem dX11_mended_152 : decode cX11_mended 152 = .ok (.if_icmp .ne 9, 3) := by decide +kernel
theorem dX11_mended_155 : decode cX11_mended 155 = .ok (.aload_n 0, 1) := by decide +kernel
theorem dX11_mended_156 : decode cX11_mended 156 = .ok (.iload 7, 2) := by decide +kernel
theorem dX11_mended_158 : decode cX11_mended 158 = .ok (.invokevirtual 289, 3) := by decide +kernel
theorem dX11_mended_161 : decode cX11_mended 161 = .ok (.iinc 7 1, 3) := by decide +kernel
theorem dX11_mended_164 : decode cX11_mended 164 = .ok (.goto (-29), 3) := by decide +kernel
theorem dX11_mended_167 : decode cX11_mended 167 = .ok (.aload_n 0, 1) := by decide +kernel
theorem dX11_mended_168 : decode cX11_mended 168 = .ok (.iload_n 1, 1) := by decide +kernel
theorem dX11_mended_169 : decode cX11_mended 169 = .ok (.iload_n 2, 1) := by decide +kernel
theorem dX11_mended_170 : decode cX11_mended 170 = .ok (.invokevirtual 286, 3) := by decide +kernel
theorem dX11_mended_173 : decode cX11_mended 173 = .ok (.ifCond .eq 10, 3) := by decide +kernel
theorem dX11_mended_176 : decode cX11_mended 176 = .ok (.iload 5, 2) := by decide +kernel
theorem dX11_mended_178 : decode cX11_mended 178 = .ok (.istore_n 3, 1) := by decide +kernel
theorem dX11_mended_179 : decode cX11_mended 179 = .ok (.iload 6, 2) := by decide +kernel
theorem dX11_mended_181 : decode cX11_mended 181 = .ok (.istore 4, 2) := by decide +kernel
theorem dX11_mended_183 : decode cX11_mended 183 = .ok (.iconst 0, 1) := by decide +kernel
theorem dX11_mended_184 : decode cX11_mended 184 = .ok (.istore 7, 2) := by decide +kernel
theorem dX11_mended_186 : decode cX11_mended 186 = .ok (.iload 7, 2) := by decide +kernel
theorem dX11_mended_188 : decode cX11_mended 188 = .ok (.bipush 10, 2) := by decide +kernel
theorem dX11_mended_190 : decode cX11_mended 190 = .ok (.if_icmp .ge 23, 3) := by decide +kernel
theorem dX11_mended_193 : decode cX11_mended 193 = .ok (.aload_n 0, 1) := by decide +kernel
theorem dX11_mended_194 : decode cX11_mended 194 = .ok (.getfield 40, 3) := by decide +kernel
theorem dX11_mended_197 : decode cX11_mended 197 = .ok (.iload 7, 2) := by decide +kernel
theorem dX11_mended_199 : decode cX11_mended 199 = .ok (.aload_n 0, 1) := by decide +kernel
theorem dX11_mended_200 : decode cX11_mended 200 = .ok (.getfield 62, 3) := by decide +kernel
theorem dX11_mended_203 : decode cX11_mended 203 = .ok (.iload 7, 2) := by decide +kernel
theorem dX11_mended_205 : decode cX11_mended 205 = .ok (.iaload, 1) := by decide +kernel
theorem dX11_mended_206 : decode cX11_mended 206 = .ok (.iastore, 1) := by decide +kernel
theorem dX11_mended_207 : decode cX11_mended 207 = .ok (.iinc 7 1, 3) := by decide +kernel
theorem dX11_mended_210 : decode cX11_mended 210 = .ok (.goto (-24), 3) := by decide +kernel
theorem dX11_mended_213 : decode cX11_mended 213 = .ok (.iinc 5 1, 3) := by decide +kernel
theorem dX11_mended_216 : decode cX11_mended 216 = .ok (.goto (-190), 3) := by decide +kernel
theorem dX11_mended_219 : decode cX11_mended 219 = .ok (.iload_n 3, 1) := by decide +kernel
theorem dX11_mended_220 : decode cX11_mended 220 = .ok (.ireturn, 1) := by decide +kernel
theorem dX11_calmTo_0 : decode cX11_calmTo 0 = .ok (.iconst 0, 1) := by decide +kernel
theorem dX11_calmTo_1 : decode cX11_calmTo 1 = .ok (.istore_n 2, 1) := by decide +kernel
theorem dX11_calmTo_2 : decode cX11_calmTo 2 = .ok (.iload_n 2, 1) := by decide +kernel
theorem dX11_calmTo_3 : decode cX11_calmTo 3 = .ok (.bipush 12, 2) := by decide +kernel
theorem dX11_calmTo_5 : decode cX11_calmTo 5 = .ok (.if_icmp .gt 22, 3) := by decide +kernel
theorem dX11_calmTo_8 : decode cX11_calmTo 8 = .ok (.aload_n 0, 1) := by decide +kernel
theorem dX11_calmTo_9 : decode cX11_calmTo 9 = .ok (.iload_n 1, 1) := by decide +kernel
theorem dX11_calmTo_10 : decode cX11_calmTo 10 = .ok (.iload_n 2, 1) := by decide +kernel
theorem dX11_calmTo_11 : decode cX11_calmTo 11 = .ok (.invokevirtual 286, 3) := by decide +kernel
theorem dX11_calmTo_14 : decode cX11_calmTo 14 = .ok (.ifCond .ne 7, 3) := by decide +kernel
theorem dX11_calmTo_17 : decode cX11_calmTo 17 = .ok (.iload_n 2, 1) := by decide +kernel
theorem dX11_calmTo_18 : decode cX11_calmTo 18 = .ok (.iconst 1, 1) := by decide +kernel
theorem dX11_calmTo_19 : decode cX11_calmTo 19 = .ok (.isub, 1) := by decide +kernel
theorem dX11_calmTo_20 : decode cX11_calmTo 20 = .ok (.ireturn, 1) := by decide +kernel
theorem dX11_calmTo_21 : decode cX11_calmTo 21 = .ok (.iinc 2 1, 3) := by decide +kernel
theorem dX11_calmTo_24 : decode cX11_calmTo 24 = .ok (.goto (-22), 3) := by decide +kernel
theorem dX11_calmTo_27 : decode cX11_calmTo 27 = .ok (.bipush 12, 2) := by decide +kernel
theorem dX11_calmTo_29 : decode cX11_calmTo 29 = .ok (.ireturn, 1) := by decide +kernel
theorem dX11_week_0 : decode cX11_week 0 = .ok (.aload_n 0, 1) := by decide +kernel
theorem dX11_week_1 : decode cX11_week 1 = .ok (.iconst 0, 1) := by decide +kernel
theorem dX11_week_2 : decode cX11_week 2 = .ok (.putfield 83, 3) := by decide +kernel
theorem dX11_week_5 : decode cX11_week 5 = .ok (.aload_n 0, 1) := by decide +kernel
theorem dX11_week_6 : decode cX11_week 6 = .ok (.aload_n 0, 1) := by decide +kernel
theorem dX11_week_7 : decode cX11_week 7 = .ok (.iload_n 1, 1) := by decide +kernel
theorem dX11_week_8 : decode cX11_week 8 = .ok (.invokevirtual 242, 3) := by decide +kernel
theorem dX11_week_11 : decode cX11_week 11 = .ok (.ifCond .ne 7, 3) := by decide +kernel
theorem dX11_week_14 : decode cX11_week 14 = .ok (.iconst 1, 1) := by decide +kernel
theorem dX11_week_15 : decode cX11_week 15 = .ok (.goto 4, 3) := by decide +kernel
theorem dX11_week_18 : decode cX11_week 18 = .ok (.iconst 0, 1) := by decide +kernel
theorem dX11_week_19 : decode cX11_week 19 = .ok (.iconst 1, 1) := by decide +kernel
theorem dX11_week_20 : decode cX11_week 20 = .ok (.invokevirtual 176, 3) := by decide +kernel
theorem dX11_week_23 : decode cX11_week 23 = .ok (.ifCond .ne 20, 3) := by decide +kernel
theorem dX11_week_26 : decode cX11_week 26 = .ok (.aload_n 0, 1) := by decide +kernel
theorem dX11_week_27 : decode cX11_week 27 = .ok (.iload_n 2, 1) := by decide +kernel
theorem dX11_week_28 : decode cX11_week 28 = .ok (.ifCond .ge 7, 3) := by decide +kernel
theorem dX11_week_31 : decode cX11_week 31 = .ok (.iconst 1, 1) := by decide +kernel
theorem dX11_week_32 : decode cX11_week 32 = .ok (.goto 4, 3) := by decide +kernel
theorem dX11_week_35 : decode cX11_week 35 = .ok (.iconst 0, 1) := by decide +kernel
theorem dX11_week_36 : decode cX11_week 36 = .ok (.iconst 2, 1) := by decide +kernel
theorem dX11_week_37 : decode cX11_week 37 = .ok (.invokevirtual 176, 3) := by decide +kernel
theorem dX11_week_40 : decode cX11_week 40 = .ok (.ifCond .eq 5, 3) := by decide +kernel
theorem dX11_week_43 : decode cX11_week 43 = .ok (.iconst 0, 1) := by decide +kernel
theorem dX11_week_44 : decode cX11_week 44 = .ok (.ireturn, 1) := by decide +kernel
theorem dX11_week_45 : decode cX11_week 45 = .ok (.iload_n 2, 1) := by decide +kernel
theorem dX11_week_46 : decode cX11_week 46 = .ok (.aload_n 0, 1) := by decide +kernel
theorem dX11_week_47 : decode cX11_week 47 = .ok (.getfield 283, 3) := by decide +kernel
theorem dX11_week_50 : decode cX11_week 50 = .ok (.if_icmp .lt 5, 3) := by decide +kernel
theorem dX11_week_53 : decode cX11_week 53 = .ok (.iconst (-1), 1) := by decide +kernel
theorem dX11_week_54 : decode cX11_week 54 = .ok (.ireturn, 1) := by decide +kernel
theorem dX11_week_55 : decode cX11_week 55 = .ok (.bipush 10, 2) := by decide +kernel
theorem dX11_week_57 : decode cX11_week 57 = .ok (.newarray .int, 2) := by decide +kernel
theorem dX11_week_59 : decode cX11_week 59 = .ok (.astore_n 3, 1) := by decide +kernel
theorem dX11_week_60 : decode cX11_week 60 = .ok (.iconst 0, 1) := by decide +kernel
theorem dX11_week_61 : decode cX11_week 61 = .ok (.istore 4, 2) := by decide +kernel
theorem dX11_week_63 : decode cX11_week 63 = .ok (.iload 4, 2) := by decide +kernel
theorem dX11_week_65 : decode cX11_week 65 = .ok (.bipush 10, 2) := by decide +kernel
theorem dX11_week_67 : decode cX11_week 67 = .ok (.if_icmp .ge 20, 3) := by decide +kernel
theorem dX11_week_70 : decode cX11_week 70 = .ok (.aload_n 3, 1) := by decide +kernel
theorem dX11_week_71 : decode cX11_week 71 = .ok (.iload 4, 2) := by decide +kernel
theorem dX11_week_73 : decode cX11_week 73 = .ok (.aload_n 0, 1) := by decide +kernel
theorem dX11_week_74 : decode cX11_week 74 = .ok (.getfield 40, 3) := by decide +kernel
theorem dX11_week_77 : decode cX11_week 77 = .ok (.iload 4, 2) := by decide +kernel
theorem dX11_week_79 : decode cX11_week 79 = .ok (.iaload, 1) := by decide +kernel
theorem dX11_week_80 : decode cX11_week 80 = .ok (.iastore, 1) := by decide +kernel
theorem dX11_week_81 : decode cX11_week 81 = .ok (.iinc 4 1, 3) := by decide +kernel
theorem dX11_week_84 : decode cX11_week 84 = .ok (.goto (-21), 3) := by decide +kernel
theorem dX11_week_87 : decode cX11_week 87 = .ok (.iconst 0, 1) := by decide +kernel
theorem dX11_week_88 : decode cX11_week 88 = .ok (.istore 4, 2) := by decide +kernel
theorem dX11_week_90 : decode cX11_week 90 = .ok (.iconst (-1), 1) := by decide +kernel
theorem dX11_week_91 : decode cX11_week 91 = .ok (.istore 5, 2) := by decide +kernel
theorem dX11_week_93 : decode cX11_week 93 = .ok (.iconst 0, 1) := by decide +kernel
theorem dX11_week_94 : decode cX11_week 94 = .ok (.istore 6, 2) := by decide +kernel
theorem dX11_week_96 : decode cX11_week 96 = .ok (.iload 6, 2) := by decide +kernel
theorem dX11_week_98 : decode cX11_week 98 = .ok (.iload_n 2, 1) := by decide +kernel
theorem dX11_week_99 : decode cX11_week 99 = .ok (.if_icmp .gt 163, 3) := by decide +kernel
theorem dX11_week_102 : decode cX11_week 102 = .ok (.iconst (-1), 1) := by decide +kernel
theorem dX11_week_103 : decode cX11_week 103 = .ok (.istore 7, 2) := by decide +kernel
theorem dX11_week_105 : decode cX11_week 105 = .ok (.iconst 0, 1) := by decide +kernel
theorem dX11_week_106 : decode cX11_week 106 = .ok (.istore 8, 2) := by decide +kernel
theorem dX11_week_108 : decode cX11_week 108 = .ok (.iconst 0, 1) := by decide +kernel
theorem dX11_week_109 : decode cX11_week 109 = .ok (.istore 9, 2) := by decide +kernel
theorem dX11_week_111 : decode cX11_week 111 = .ok (.iload 9, 2) := by decide +kernel
theorem dX11_week_113 : decode cX11_week 113 = .ok (.aload_n 0, 1) := by decide +kernel
theorem dX11_week_114 : decode cX11_week 114 = .ok (.getfield 283, 3) := by decide +kernel
theorem dX11_week_117 : decode cX11_week 117 = .ok (.if_icmp .ge 120, 3) := by decide +kernel
theorem dX11_week_120 : decode cX11_week 120 = .ok (.iload 4, 2) := by decide +kernel
theorem dX11_week_122 : decode cX11_week 122 = .ok (.iload 9, 2) := by decide +kernel
theorem dX11_week_124 : decode cX11_week 124 = .ok (.ishr, 1) := by decide +kernel
theorem dX11_week_125 : decode cX11_week 125 = .ok (.iconst 1, 1) := by decide +kernel
theorem dX11_week_126 : decode cX11_week 126 = .ok (.iand, 1) := by decide +kernel
theorem dX11_week_127 : decode cX11_week 127 = .ok (.iconst 1, 1) := by decide +kernel
theorem dX11_week_128 : decode cX11_week 128 = .ok (.if_icmp .ne 6, 3) := by decide +kernel
theorem dX11_week_131 : decode cX11_week 131 = .ok (.goto 100, 3) := by decide +kernel
theorem dX11_week_134 : decode cX11_week 134 = .ok (.iconst 0, 1) := by decide +kernel
theorem dX11_week_135 : decode cX11_week 135 = .ok (.istore 10, 2) := by decide +kernel
theorem dX11_week_137 : decode cX11_week 137 = .ok (.iload 10, 2) := by decide +kernel
theorem dX11_week_139 : decode cX11_week 139 = .ok (.bipush 10, 2) := by decide +kernel
theorem dX11_week_141 : decode cX11_week 141 = .ok (.if_icmp .ge 23, 3) := by decide +kernel
theorem dX11_week_144 : decode cX11_week 144 = .ok (.aload_n 0, 1) := by decide +kernel
theorem dX11_week_145 : decode cX11_week 145 = .ok (.getfield 62, 3) := by decide +kernel
theorem dX11_week_148 : decode cX11_week 148 = .ok (.iload 10, 2) := by decide +kernel
theorem dX11_week_150 : decode cX11_week 150 = .ok (.aload_n 0, 1) := by decide +kernel
theorem dX11_week_151 : decode cX11_week 151 = .ok (.getfield 40, 3) := by decide +kernel
theorem dX11_week_154 : decode cX11_week 154 = .ok (.iload 10, 2) := by decide +kernel
theorem dX11_week_156 : decode cX11_week 156 = .ok (.iaload, 1) := by decide +kernel
theorem dX11_week_157 : decode cX11_week 157 = .ok (.iastore, 1) := by decide +kernel
theorem dX11_week_158 : decode cX11_week 158 = .ok (.iinc 10 1, 3) := by decide +kernel
theorem dX11_week_161 : decode cX11_week 161 = .ok (.goto (-24), 3) := by decide +kernel
theorem dX11_week_164 : decode cX11_week 164 = .ok (.aload_n 0, 1) := by decide +kernel
theorem dX11_week_165 : decode cX11_week 165 = .ok (.iload 9, 2) := by decide +kernel
theorem dX11_week_167 : decode cX11_week 167 = .ok (.invokevirtual 289, 3) := by decide +kernel
theorem dX11_week_170 : decode cX11_week 170 = .ok (.aload_n 0, 1) := by decide +kernel
theorem dX11_week_171 : decode cX11_week 171 = .ok (.iload_n 1, 1) := by decide +kernel
theorem dX11_week_172 : decode cX11_week 172 = .ok (.invokevirtual 292, 3) := by decide +kernel
theorem dX11_week_175 : decode cX11_week 175 = .ok (.istore 10, 2) := by decide +kernel
theorem dX11_week_177 : decode cX11_week 177 = .ok (.iconst 0, 1) := by decide +kernel
theorem dX11_week_178 : decode cX11_week 178 = .ok (.istore 11, 2) := by decide +kernel
theorem dX11_week_180 : decode cX11_week 180 = .ok (.iload 11, 2) := by decide +kernel
theorem dX11_week_182 : decode cX11_week 182 = .ok (.bipush 10, 2) := by decide +kernel
theorem dX11_week_184 : decode cX11_week 184 = .ok (.if_icmp .ge 23, 3) := by decide +kernel
theorem dX11_week_187 : decode cX11_week 187 = .ok (.aload_n 0, 1) := by decide +kernel
theorem dX11_week_188 : decode cX11_week 188 = .ok (.getfield 40, 3) := by decide +kernel
theorem dX11_week_191 : decode cX11_week 191 = .ok (.iload 11, 2) := by decide +kernel
theorem dX11_week_193 : decode cX11_week 193 = .ok (.aload_n 0, 1) := by decide +kernel
theorem dX11_week_194 : decode cX11_week 194 = .ok (.getfield 62, 3) := by decide +kernel
theorem dX11_week_197 : decode cX11_week 197 = .ok (.iload 11, 2) := by decide +kernel
theorem dX11_week_199 : decode cX11_week 199 = .ok (.iaload, 1) := by decide +kernel
theorem dX11_week_200 : decode cX11_week 200 = .ok (.iastore, 1) := by decide +kernel
theorem dX11_week_201 : decode cX11_week 201 = .ok (.iinc 11 1, 3) := by decide +kernel
theorem dX11_week_204 : decode cX11_week 204 = .ok (.goto (-24), 3) := by decide +kernel
theorem dX11_week_207 : decode cX11_week 207 = .ok (.iload 7, 2) := by decide +kernel
theorem dX11_week_209 : decode cX11_week 209 = .ok (.iconst (-1), 1) := by decide +kernel
theorem dX11_week_210 : decode cX11_week 210 = .ok (.if_icmp .eq 13, 3) := by decide +kernel
theorem dX11_week_213 : decode cX11_week 213 = .ok (.iload 10, 2) := by decide +kernel
theorem dX11_week_215 : decode cX11_week 215 = .ok (.iload 8, 2) := by decide +kernel
theorem dX11_week_217 : decode cX11_week 217 = .ok (.if_icmp .gt 6, 3) := by decide +kernel
theorem dX11_week_220 : decode cX11_week 220 = .ok (.goto 11, 3) := by decide +kernel
theorem dX11_week_223 : decode cX11_week 223 = .ok (.iload 9, 2) := by decide +kernel
theorem dX11_week_225 : decode cX11_week 225 = .ok (.istore 7, 2) := by decide +kernel
theorem dX11_week_227 : decode cX11_week 227 = .ok (.iload 10, 2) := by decide +kernel
theorem dX11_week_229 : decode cX11_week 229 = .ok (.istore 8, 2) := by decide +kernel
theorem dX11_week_231 : decode cX11_week 231 = .ok (.iinc 9 1, 3) := by decide +kernel
theorem dX11_week_234 : decode cX11_week 234 = .ok (.goto (-123), 3) := by decide +kernel
theorem dX11_week_237 : decode cX11_week 237 = .ok (.aload_n 0, 1) := by decide +kernel
theorem dX11_week_238 : decode cX11_week 238 = .ok (.iload 7, 2) := by decide +kernel
theorem dX11_week_240 : decode cX11_week 240 = .ok (.invokevirtual 289, 3) := by decide +kernel
theorem dX11_week_243 : decode cX11_week 243 = .ok (.iload 4, 2) := by decide +kernel
theorem dX11_week_245 : decode cX11_week 245 = .ok (.iconst 1, 1) := by decide +kernel
theorem dX11_week_246 : decode cX11_week 246 = .ok (.iload 7, 2) := by decide +kernel
theorem dX11_week_248 : decode cX11_week 248 = .ok (.ishl, 1) := by decide +kernel
theorem dX11_week_249 : decode cX11_week 249 = .ok (.ior, 1) := by decide +kernel
theorem dX11_week_250 : decode cX11_week 250 = .ok (.istore 4, 2) := by decide +kernel
theorem dX11_week_252 : decode cX11_week 252 = .ok (.iload 7, 2) := by decide +kernel
theorem dX11_week_254 : decode cX11_week 254 = .ok (.istore 5, 2) := by decide +kernel
theorem dX11_week_256 : decode cX11_week 256 = .ok (.iinc 6 1, 3) := by decide +kernel
theorem dX11_week_259 : decode cX11_week 259 = .ok (.goto (-163), 3) := by decide +kernel
theorem dX11_week_262 : decode cX11_week 262 = .ok (.iconst 0, 1) := by decide +kernel
theorem dX11_week_263 : decode cX11_week 263 = .ok (.istore 6, 2) := by decide +kernel
theorem dX11_week_265 : decode cX11_week 265 = .ok (.iload 6, 2) := by decide +kernel
theorem dX11_week_267 : decode cX11_week 267 = .ok (.bipush 10, 2) := by decide +kernel
theorem dX11_week_269 : decode cX11_week 269 = .ok (.if_icmp .ge 20, 3) := by decide +kernel
theorem dX11_week_272 : decode cX11_week 272 = .ok (.aload_n 0, 1) := by decide +kernel
theorem dX11_week_273 : decode cX11_week 273 = .ok (.getfield 40, 3) := by decide +kernel
theorem dX11_week_276 : decode cX11_week 276 = .ok (.iload 6, 2) := by decide +kernel
theorem dX11_week_278 : decode cX11_week 278 = .ok (.aload_n 3, 1) := by decide +kernel
theorem dX11_week_279 : decode cX11_week 279 = .ok (.iload 6, 2) := by decide +kernel
theorem dX11_week_281 : decode cX11_week 281 = .ok (.iaload, 1) := by decide +kernel
theorem dX11_week_282 : decode cX11_week 282 = .ok (.iastore, 1) := by decide +kernel
theorem dX11_week_283 : decode cX11_week 283 = .ok (.iinc 6 1, 3) := by decide +kernel
theorem dX11_week_286 : decode cX11_week 286 = .ok (.goto (-21), 3) := by decide +kernel
theorem dX11_week_289 : decode cX11_week 289 = .ok (.iload 5, 2) := by decide +kernel
theorem dX11_week_291 : decode cX11_week 291 = .ok (.ireturn, 1) := by decide +kernel
theorem dX11_span_0 : decode cX11_span 0 = .ok (.aload_n 0, 1) := by decide +kernel
theorem dX11_span_1 : decode cX11_span 1 = .ok (.iconst 0, 1) := by decide +kernel
theorem dX11_span_2 : decode cX11_span 2 = .ok (.putfield 83, 3) := by decide +kernel
theorem dX11_span_5 : decode cX11_span 5 = .ok (.aload_n 0, 1) := by decide +kernel
theorem dX11_span_6 : decode cX11_span 6 = .ok (.iload_n 1, 1) := by decide +kernel
theorem dX11_span_7 : decode cX11_span 7 = .ok (.iconst 0, 1) := by decide +kernel
theorem dX11_span_8 : decode cX11_span 8 = .ok (.iload_n 2, 1) := by decide +kernel
theorem dX11_span_9 : decode cX11_span 9 = .ok (.iload_n 3, 1) := by decide +kernel
theorem dX11_span_10 : decode cX11_span 10 = .ok (.invokevirtual 260, 3) := by decide +kernel
theorem dX11_span_13 : decode cX11_span 13 = .ok (.ifCond .ne 27, 3) := by decide +kernel
theorem dX11_span_16 : decode cX11_span 16 = .ok (.aload_n 0, 1) := by decide +kernel
theorem dX11_span_17 : decode cX11_span 17 = .ok (.iload 4, 2) := by decide +kernel
theorem dX11_span_19 : decode cX11_span 19 = .ok (.iconst 0, 1) := by decide +kernel
theorem dX11_span_20 : decode cX11_span 20 = .ok (.bipush 50, 2) := by decide +kernel
theorem dX11_span_22 : decode cX11_span 22 = .ok (.invokestatic 172, 3) := by decide +kernel
theorem dX11_span_25 : decode cX11_span 25 = .ok (.ifCond .ne 7, 3) := by decide +kernel
theorem dX11_span_28 : decode cX11_span 28 = .ok (.iconst 1, 1) := by decide +kernel
theorem dX11_span_29 : decode cX11_span 29 = .ok (.goto 4, 3) := by decide +kernel
theorem dX11_span_32 : decode cX11_span 32 = .ok (.iconst 0, 1) := by decide +kernel
theorem dX11_span_33 : decode cX11_span 33 = .ok (.iconst 2, 1) := by decide +kernel
theorem dX11_span_34 : decode cX11_span 34 = .ok (.invokevirtual 176, 3) := by decide +kernel
theorem dX11_span_37 : decode cX11_span 37 = .ok (.ifCond .eq 5, 3) := by decide +kernel
theorem dX11_span_40 : decode cX11_span 40 = .ok (.iconst 0, 1) := by decide +kernel
theorem dX11_span_41 : decode cX11_span 41 = .ok (.ireturn, 1) := by decide +kernel
theorem dX11_span_42 : decode cX11_span 42 = .ok (.iconst (-1), 1) := by decide +kernel
theorem dX11_span_43 : decode cX11_span 43 = .ok (.istore 6, 2) := by decide +kernel
theorem dX11_span_45 : decode cX11_span 45 = .ok (.iconst (-1), 1) := by decide +kernel
theorem dX11_span_46 : decode cX11_span 46 = .ok (.istore 7, 2) := by decide +kernel
theorem dX11_span_48 : decode cX11_span 48 = .ok (.iload 7, 2) := by decide +kernel
theorem dX11_span_50 : decode cX11_span 50 = .ok (.iconst 2, 1) := by decide +kernel
theorem dX11_span_51 : decode cX11_span 51 = .ok (.if_icmp .ge 74, 3) := by decide +kernel
theorem dX11_span_54 : decode cX11_span 54 = .ok (.aload_n 0, 1) := by decide +kernel
theorem dX11_span_55 : decode cX11_span 55 = .ok (.bipush 100, 2) := by decide +kernel
theorem dX11_span_57 : decode cX11_span 57 = .ok (.iload 7, 2) := by decide +kernel
theorem dX11_span_59 : decode cX11_span 59 = .ok (.iload 4, 2) := by decide +kernel
theorem dX11_span_61 : decode cX11_span 61 = .ok (.imul, 1) := by decide +kernel
theorem dX11_span_62 : decode cX11_span 62 = .ok (.iadd, 1) := by decide +kernel
theorem dX11_span_63 : decode cX11_span 63 = .ok (.putfield 34, 3) := by decide +kernel
theorem dX11_span_66 : decode cX11_span 66 = .ok (.aload_n 0, 1) := by decide +kernel
theorem dX11_span_67 : decode cX11_span 67 = .ok (.iload_n 1, 1) := by decide +kernel
theorem dX11_span_68 : decode cX11_span 68 = .ok (.iload_n 2, 1) := by decide +kernel
theorem dX11_span_69 : decode cX11_span 69 = .ok (.iload_n 3, 1) := by decide +kernel
theorem dX11_span_70 : decode cX11_span 70 = .ok (.invokevirtual 268, 3) := by decide +kernel
theorem dX11_span_73 : decode cX11_span 73 = .ok (.istore 8, 2) := by decide +kernel
theorem dX11_span_75 : decode cX11_span 75 = .ok (.aload_n 0, 1) := by decide +kernel
theorem dX11_span_76 : decode cX11_span 76 = .ok (.bipush 100, 2) := by decide +kernel
theorem dX11_span_78 : decode cX11_span 78 = .ok (.putfield 34, 3) := by decide +kernel
theorem dX11_span_81 : decode cX11_span 81 = .ok (.iload 8, 2) := by decide +kernel
theorem dX11_span_83 : decode cX11_span 83 = .ok (.iconst (-1), 1) := by decide +kernel
theorem dX11_span_84 : decode cX11_span 84 = .ok (.if_icmp .eq 35, 3) := by decide +kernel
theorem dX11_span_87 : decode cX11_span 87 = .ok (.iload 6, 2) := by decide +kernel
theorem dX11_span_89 : decode cX11_span 89 = .ok (.iconst (-1), 1) := by decide +kernel
theorem dX11_span_90 : decode cX11_span 90 = .ok (.if_icmp .eq 25, 3) := by decide +kernel
theorem dX11_span_93 : decode cX11_span 93 = .ok (.iload 5, 2) := by decide +kernel
theorem dX11_span_95 : decode cX11_span 95 = .ok (.ifCond .eq 13, 3) := by decide +kernel
theorem dX11_span_98 : decode cX11_span 98 = .ok (.iload 8, 2) := by decide +kernel
theorem dX11_span_100 : decode cX11_span 100 = .ok (.iload 6, 2) := by decide +kernel
theorem dX11_span_102 : decode cX11_span 102 = .ok (.if_icmp .le 17, 3) := by decide +kernel
theorem dX11_span_105 : decode cX11_span 105 = .ok (.goto 10, 3) := by decide +kernel
theorem dX11_span_108 : decode cX11_span 108 = .ok (.iload 8, 2) := by decide +kernel
theorem dX11_span_110 : decode cX11_span 110 = .ok (.iload 6, 2) := by decide +kernel
theorem dX11_span_112 : decode cX11_span 112 = .ok (.if_icmp .ge 7, 3) := by decide +kernel
theorem dX11_span_115 : decode cX11_span 115 = .ok (.iload 8, 2) := by decide +kernel
theorem dX11_span_117 : decode cX11_span 117 = .ok (.istore 6, 2) := by decide +kernel
theorem dX11_span_119 : decode cX11_span 119 = .ok (.iinc 7 1, 3) := by decide +kernel
theorem dX11_span_122 : decode cX11_span 122 = .ok (.goto (-74), 3) := by decide +kernel
theorem dX11_span_125 : decode cX11_span 125 = .ok (.iload 6, 2) := by decide +kernel
theorem dX11_span_127 : decode cX11_span 127 = .ok (.ireturn, 1) := by decide +kernel
theorem dX11_bridge_0 : decode cX11_bridge 0 = .ok (.aload_n 0, 1) := by decide +kernel
theorem dX11_bridge_1 : decode cX11_bridge 1 = .ok (.iconst 0, 1) := by decide +kernel
theorem dX11_bridge_2 : decode cX11_bridge 2 = .ok (.putfield 83, 3) := by decide +kernel
theorem dX11_bridge_5 : decode cX11_bridge 5 = .ok (.aload_n 0, 1) := by decide +kernel
theorem dX11_bridge_6 : decode cX11_bridge 6 = .ok (.iload_n 1, 1) := by decide +kernel
theorem dX11_bridge_7 : decode cX11_bridge 7 = .ok (.iconst 0, 1) := by decide +kernel
theorem dX11_bridge_8 : decode cX11_bridge 8 = .ok (.bipush 60, 2) := by decide +kernel
theorem dX11_bridge_10 : decode cX11_bridge 10 = .ok (.invokestatic 172, 3) := by decide +kernel
theorem dX11_bridge_13 : decode cX11_bridge 13 = .ok (.ifCond .ne 7, 3) := by decide +kernel
theorem dX11_bridge_16 : decode cX11_bridge 16 = .ok (.iconst 1, 1) := by decide +kernel
theorem dX11_bridge_17 : decode cX11_bridge 17 = .ok (.goto 4, 3) := by decide +kernel
theorem dX11_bridge_20 : decode cX11_bridge 20 = .ok (.iconst 0, 1) := by decide +kernel
theorem dX11_bridge_21 : decode cX11_bridge 21 = .ok (.iconst 1, 1) := by decide +kernel
theorem dX11_bridge_22 : decode cX11_bridge 22 = .ok (.invokevirtual 176, 3) := by decide +kernel
theorem dX11_bridge_25 : decode cX11_bridge 25 = .ok (.ifCond .eq 5, 3) := by decide +kernel
theorem dX11_bridge_28 : decode cX11_bridge 28 = .ok (.iconst 0, 1) := by decide +kernel
theorem dX11_bridge_29 : decode cX11_bridge 29 = .ok (.ireturn, 1) := by decide +kernel
theorem dX11_bridge_30 : decode cX11_bridge 30 = .ok (.aload_n 0, 1) := by decide +kernel
theorem dX11_bridge_31 : decode cX11_bridge 31 = .ok (.getfield 295, 3) := by decide +kernel
theorem dX11_bridge_34 : decode cX11_bridge 34 = .ok (.bipush 6, 2) := by decide +kernel
theorem dX11_bridge_36 : decode cX11_bridge 36 = .ok (.if_icmp .ne 5, 3) := by decide +kernel
theorem dX11_bridge_39 : decode cX11_bridge 39 = .ok (.iconst (-1), 1) := by decide +kernel
theorem dX11_bridge_40 : decode cX11_bridge 40 = .ok (.ireturn, 1) := by decide +kernel
theorem dX11_bridge_41 : decode cX11_bridge 41 = .ok (.aload_n 0, 1) := by decide +kernel
theorem dX11_bridge_42 : decode cX11_bridge 42 = .ok (.getfield 74, 3) := by decide +kernel
theorem dX11_bridge_45 : decode cX11_bridge 45 = .ok (.aload_n 0, 1) := by decide +kernel
theorem dX11_bridge_46 : decode cX11_bridge 46 = .ok (.getfield 295, 3) := by decide +kernel
theorem dX11_bridge_49 : decode cX11_bridge 49 = .ok (.aaload, 1) := by decide +kernel
theorem dX11_bridge_50 : decode cX11_bridge 50 = .ok (.bipush 10, 2) := by decide +kernel
theorem dX11_bridge_52 : decode cX11_bridge 52 = .ok (.iload_n 1, 1) := by decide +kernel
theorem dX11_bridge_53 : decode cX11_bridge 53 = .ok (.iastore, 1) := by decide +kernel
theorem dX11_bridge_54 : decode cX11_bridge 54 = .ok (.iconst 0, 1) := by decide +kernel
theorem dX11_bridge_55 : decode cX11_bridge 55 = .ok (.istore_n 2, 1) := by decide +kernel
theorem dX11_bridge_56 : decode cX11_bridge 56 = .ok (.iload_n 2, 1) := by decide +kernel
theorem dX11_bridge_57 : decode cX11_bridge 57 = .ok (.bipush 10, 2) := by decide +kernel
theorem dX11_bridge_59 : decode cX11_bridge 59 = .ok (.if_icmp .ge 21, 3) := by decide +kernel
theorem dX11_bridge_62 : decode cX11_bridge 62 = .ok (.aload_n 0, 1) := by decide +kernel
theorem dX11_bridge_63 : decode cX11_bridge 63 = .ok (.getfield 74, 3) := by decide +kernel
theorem dX11_bridge_66 : decode cX11_bridge 66 = .ok (.aload_n 0, 1) := by decide +kernel
theorem dX11_bridge_67 : decode cX11_bridge 67 = .ok (.getfield 295, 3) := by decide +kernel
theorem dX11_bridge_70 : decode cX11_bridge 70 = .ok (.aaload, 1) := by decide +kernel
theorem dX11_bridge_71 : decode cX11_bridge 71 = .ok (.iload_n 2, 1) := by decide +kernel
theorem dX11_bridge_72 : decode cX11_bridge 72 = .ok (.iconst 0, 1) := by decide +kernel
theorem dX11_bridge_73 : decode cX11_bridge 73 = .ok (.iastore, 1) := by decide +kernel
theorem dX11_bridge_74 : decode cX11_bridge 74 = .ok (.iinc 2 1, 3) := by decide +kernel
theorem dX11_bridge_77 : decode cX11_bridge 77 = .ok (.goto (-21), 3) := by decide +kernel
theorem dX11_bridge_80 : decode cX11_bridge 80 = .ok (.aload_n 0, 1) := by decide +kernel
theorem dX11_bridge_81 : decode cX11_bridge 81 = .ok (.dup, 1) := by decide +kernel
theorem dX11_bridge_82 : decode cX11_bridge 82 = .ok (.getfield 295, 3) := by decide +kernel
theorem dX11_bridge_85 : decode cX11_bridge 85 = .ok (.iconst 1, 1) := by decide +kernel
theorem dX11_bridge_86 : decode cX11_bridge 86 = .ok (.iadd, 1) := by decide +kernel
theorem dX11_bridge_87 : decode cX11_bridge 87 = .ok (.putfield 295, 3) := by decide +kernel
theorem dX11_bridge_90 : decode cX11_bridge 90 = .ok (.aload_n 0, 1) := by decide +kernel
theorem dX11_bridge_91 : decode cX11_bridge 91 = .ok (.getfield 295, 3) := by decide +kernel
theorem dX11_bridge_94 : decode cX11_bridge 94 = .ok (.iconst 1, 1) := by decide +kernel
theorem dX11_bridge_95 : decode cX11_bridge 95 = .ok (.isub, 1) := by decide +kernel
theorem dX11_bridge_96 : decode cX11_bridge 96 = .ok (.ireturn, 1) := by decide +kernel
theorem dX11_isBridge_0 : decode cX11_isBridge 0 = .ok (.iload_n 1, 1) := by decide +kernel
theorem dX11_isBridge_1 : decode cX11_isBridge 1 = .ok (.iconst 0, 1) := by decide +kernel
theorem dX11_isBridge_2 : decode cX11_isBridge 2 = .ok (.aload_n 0, 1) := by decide +kernel
theorem dX11_isBridge_3 : decode cX11_isBridge 3 = .ok (.getfield 295, 3) := by decide +kernel
theorem dX11_isBridge_6 : decode cX11_isBridge 6 = .ok (.iconst 1, 1) := by decide +kernel
theorem dX11_isBridge_7 : decode cX11_isBridge 7 = .ok (.isub, 1) := by decide +kernel
theorem dX11_isBridge_8 : decode cX11_isBridge 8 = .ok (.invokestatic 172, 3) := by decide +kernel
theorem dX11_isBridge_11 : decode cX11_isBridge 11 = .ok (.ireturn, 1) := by decide +kernel
theorem dX11_blows_0 : decode cX11_blows 0 = .ok (.aload_n 0, 1) := by decide +kernel
theorem dX11_blows_1 : decode cX11_blows 1 = .ok (.iconst 0, 1) := by decide +kernel
theorem dX11_blows_2 : decode cX11_blows 2 = .ok (.putfield 83, 3) := by decide +kernel
theorem dX11_blows_5 : decode cX11_blows 5 = .ok (.aload_n 0, 1) := by decide +kernel
theorem dX11_blows_6 : decode cX11_blows 6 = .ok (.aload_n 0, 1) := by decide +kernel
theorem dX11_blows_7 : decode cX11_blows 7 = .ok (.iload_n 1, 1) := by decide +kernel
theorem dX11_blows_8 : decode cX11_blows 8 = .ok (.invokevirtual 298, 3) := by decide +kernel
theorem dX11_blows_11 : decode cX11_blows 11 = .ok (.ifCond .ne 7, 3) := by decide +kernel
theorem dX11_blows_14 : decode cX11_blows 14 = .ok (.iconst 1, 1) := by decide +kernel
theorem dX11_blows_15 : decode cX11_blows 15 = .ok (.goto 4, 3) := by decide +kernel
theorem dX11_blows_18 : decode cX11_blows 18 = .ok (.iconst 0, 1) := by decide +kernel
theorem dX11_blows_19 : decode cX11_blows 19 = .ok (.iconst 1, 1) := by decide +kernel
theorem dX11_blows_20 : decode cX11_blows 20 = .ok (.invokevirtual 176, 3) := by decide +kernel
theorem dX11_blows_23 : decode cX11_blows 23 = .ok (.ifCond .ne 37, 3) := by decide +kernel
theorem dX11_blows_26 : decode cX11_blows 26 = .ok (.aload_n 0, 1) := by decide +kernel
theorem dX11_blows_27 : decode cX11_blows 27 = .ok (.iload_n 2, 1) := by decide +kernel
theorem dX11_blows_28 : decode cX11_blows 28 = .ok (.iconst 0, 1) := by decide +kernel
theorem dX11_blows_29 : decode cX11_blows 29 = .ok (.bipush 9, 2) := by decide +kernel
theorem dX11_blows_31 : decode cX11_blows 31 = .ok (.invokestatic 172, 3) := by decide +kernel
theorem dX11_blows_34 : decode cX11_blows 34 = .ok (.ifCond .eq 14, 3) := by decide +kernel
theorem dX11_blows_37 : decode cX11_blows 37 = .ok (.iload_n 3, 1) := by decide +kernel
theorem dX11_blows_38 : decode cX11_blows 38 = .ok (.iconst 0, 1) := by decide +kernel
theorem dX11_blows_39 : decode cX11_blows 39 = .ok (.sipush 999, 3) := by decide +kernel
theorem dX11_blows_42 : decode cX11_blows 42 = .ok (.invokestatic 172, 3) := by decide +kernel
theorem dX11_blows_45 : decode cX11_blows 45 = .ok (.ifCond .ne 7, 3) := by decide +kernel
theorem dX11_blows_48 : decode cX11_blows 48 = .ok (.iconst 1, 1) := by decide +kernel
theorem dX11_blows_49 : decode cX11_blows 49 = .ok (.goto 4, 3) := by decide +kernel
theorem dX11_blows_52 : decode cX11_blows 52 = .ok (.iconst 0, 1) := by decide +kernel
theorem dX11_blows_53 : decode cX11_blows 53 = .ok (.iconst 2, 1) := by decide +kernel
theorem dX11_blows_54 : decode cX11_blows 54 = .ok (.invokevirtual 176, 3) := by decide +kernel
theorem dX11_blows_57 : decode cX11_blows 57 = .ok (.ifCond .eq 5, 3) := by decide +kernel
theorem dX11_blows_60 : decode cX11_blows 60 = .ok (.iconst 0, 1) := by decide +kernel
theorem dX11_blows_61 : decode cX11_blows 61 = .ok (.ireturn, 1) := by decide +kernel
theorem dX11_blows_62 : decode cX11_blows 62 = .ok (.aload_n 0, 1) := by decide +kernel
theorem dX11_blows_63 : decode cX11_blows 63 = .ok (.getfield 74, 3) := by decide +kernel
theorem dX11_blows_66 : decode cX11_blows 66 = .ok (.iload_n 1, 1) := by decide +kernel
theorem dX11_blows_67 : decode cX11_blows 67 = .ok (.aaload, 1) := by decide +kernel
theorem dX11_blows_68 : decode cX11_blows 68 = .ok (.iload_n 2, 1) := by decide +kernel
theorem dX11_blows_69 : decode cX11_blows 69 = .ok (.iaload, 1) := by decide +kernel
theorem dX11_blows_70 : decode cX11_blows 70 = .ok (.istore 4, 2) := by decide +kernel
theorem dX11_blows_72 : decode cX11_blows 72 = .ok (.aload_n 0, 1) := by decide +kernel
theorem dX11_blows_73 : decode cX11_blows 73 = .ok (.getfield 74, 3) := by decide +kernel
theorem dX11_blows_76 : decode cX11_blows 76 = .ok (.iload_n 1, 1) := by decide +kernel
theorem dX11_blows_77 : decode cX11_blows 77 = .ok (.aaload, 1) := by decide +kernel
theorem dX11_blows_78 : decode cX11_blows 78 = .ok (.iload_n 2, 1) := by decide +kernel
theorem dX11_blows_79 : decode cX11_blows 79 = .ok (.iload_n 3, 1) := by decide +kernel
theorem dX11_blows_80 : decode cX11_blows 80 = .ok (.iastore, 1) := by decide +kernel
theorem dX11_blows_81 : decode cX11_blows 81 = .ok (.iload 4, 2) := by decide +kernel
theorem dX11_blows_83 : decode cX11_blows 83 = .ok (.ireturn, 1) := by decide +kernel
theorem dX11_hours_0 : decode cX11_hours 0 = .ok (.aload_n 0, 1) := by decide +kernel
theorem dX11_hours_1 : decode cX11_hours 1 = .ok (.iconst 0, 1) := by decide +kernel
theorem dX11_hours_2 : decode cX11_hours 2 = .ok (.putfield 83, 3) := by decide +kernel
theorem dX11_hours_5 : decode cX11_hours 5 = .ok (.aload_n 0, 1) := by decide +kernel
theorem dX11_hours_6 : decode cX11_hours 6 = .ok (.aload_n 0, 1) := by decide +kernel
theorem dX11_hours_7 : decode cX11_hours 7 = .ok (.iload_n 1, 1) := by decide +kernel
theorem dX11_hours_8 : decode cX11_hours 8 = .ok (.invokevirtual 298, 3) := by decide +kernel
theorem dX11_hours_11 : decode cX11_hours 11 = .ok (.ifCond .ne 7, 3) := by decide +kernel
theorem dX11_hours_14 : decode cX11_hours 14 = .ok (.iconst 1, 1) := by decide +kernel
theorem dX11_hours_15 : decode cX11_hours 15 = .ok (.goto 4, 3) := by decide +kernel
theorem dX11_hours_18 : decode cX11_hours 18 = .ok (.iconst 0, 1) := by decide +kernel
theorem dX11_hours_19 : decode cX11_hours 19 = .ok (.iconst 1, 1) := by decide +kernel
theorem dX11_hours_20 : decode cX11_hours 20 = .ok (.invokevirtual 176, 3) := by decide +kernel
theorem dX11_hours_23 : decode cX11_hours 23 = .ok (.ifCond .eq 5, 3) := by decide +kernel
theorem dX11_hours_26 : decode cX11_hours 26 = .ok (.iconst 0, 1) := by decide +kernel
theorem dX11_hours_27 : decode cX11_hours 27 = .ok (.ireturn, 1) := by decide +kernel
theorem dX11_hours_28 : decode cX11_hours 28 = .ok (.iconst 0, 1) := by decide +kernel
theorem dX11_hours_29 : decode cX11_hours 29 = .ok (.istore_n 2, 1) := by decide +kernel
theorem dX11_hours_30 : decode cX11_hours 30 = .ok (.iconst 0, 1) := by decide +kernel
theorem dX11_hours_31 : decode cX11_hours 31 = .ok (.istore_n 3, 1) := by decide +kernel
theorem dX11_hours_32 : decode cX11_hours 32 = .ok (.iload_n 3, 1) := by decide +kernel
theorem dX11_hours_33 : decode cX11_hours 33 = .ok (.bipush 10, 2) := by decide +kernel
theorem dX11_hours_35 : decode cX11_hours 35 = .ok (.if_icmp .ge 40, 3) := by decide +kernel
theorem dX11_hours_38 : decode cX11_hours 38 = .ok (.iload_n 2, 1) := by decide +kernel
theorem dX11_hours_39 : decode cX11_hours 39 = .ok (.bipush 6, 2) := by decide +kernel
theorem dX11_hours_41 : decode cX11_hours 41 = .ok (.iload_n 3, 1) := by decide +kernel
theorem dX11_hours_42 : decode cX11_hours 42 = .ok (.imul, 1) := by decide +kernel
theorem dX11_hours_43 : decode cX11_hours 43 = .ok (.aload_n 0, 1) := by decide +kernel
theorem dX11_hours_44 : decode cX11_hours 44 = .ok (.getfield 74, 3) := by decide +kernel
theorem dX11_hours_47 : decode cX11_hours 47 = .ok (.iload_n 1, 1) := by decide +kernel
theorem dX11_hours_48 : decode cX11_hours 48 = .ok (.aaload, 1) := by decide +kernel
theorem dX11_hours_49 : decode cX11_hours 49 = .ok (.bipush 10, 2) := by decide +kernel
theorem dX11_hours_51 : decode cX11_hours 51 = .ok (.iaload, 1) := by decide +kernel
theorem dX11_hours_52 : decode cX11_hours 52 = .ok (.if_icmp .lt 14, 3) := by decide +kernel
theorem dX11_hours_55 : decode cX11_hours 55 = .ok (.aload_n 0, 1) := by decide +kernel
theorem dX11_hours_56 : decode cX11_hours 56 = .ok (.getfield 74, 3) := by decide +kernel
theorem dX11_hours_59 : decode cX11_hours 59 = .ok (.iload_n 1, 1) := by decide +kernel
theorem dX11_hours_60 : decode cX11_hours 60 = .ok (.aaload, 1) := by decide +kernel
theorem dX11_hours_61 : decode cX11_hours 61 = .ok (.iload_n 3, 1) := by decide +kernel
theorem dX11_hours_62 : decode cX11_hours 62 = .ok (.iaload, 1) := by decide +kernel
theorem dX11_hours_63 : decode cX11_hours 63 = .ok (.goto 4, 3) := by decide +kernel
theorem dX11_hours_66 : decode cX11_hours 66 = .ok (.iconst 0, 1) := by decide +kernel
theorem dX11_hours_67 : decode cX11_hours 67 = .ok (.iadd, 1) := by decide +kernel
theorem dX11_hours_68 : decode cX11_hours 68 = .ok (.istore_n 2, 1) := by decide +kernel
theorem dX11_hours_69 : decode cX11_hours 69 = .ok (.iinc 3 1, 3) := by decide +kernel
theorem dX11_hours_72 : decode cX11_hours 72 = .ok (.goto (-40), 3) := by decide +kernel
theorem dX11_hours_75 : decode cX11_hours 75 = .ok (.iload_n 2, 1) := by decide +kernel
theorem dX11_hours_76 : decode cX11_hours 76 = .ok (.ireturn, 1) := by decide +kernel
theorem dX11_paper_0 : decode cX11_paper 0 = .ok (.aload_n 0, 1) := by decide +kernel
theorem dX11_paper_1 : decode cX11_paper 1 = .ok (.iconst 0, 1) := by decide +kernel
theorem dX11_paper_2 : decode cX11_paper 2 = .ok (.putfield 83, 3) := by decide +kernel
theorem dX11_paper_5 : decode cX11_paper 5 = .ok (.aload_n 0, 1) := by decide +kernel
theorem dX11_paper_6 : decode cX11_paper 6 = .ok (.iload_n 1, 1) := by decide +kernel
theorem dX11_paper_7 : decode cX11_paper 7 = .ok (.iconst 0, 1) := by decide +kernel
theorem dX11_paper_8 : decode cX11_paper 8 = .ok (.sipush 999, 3) := by decide +kernel
theorem dX11_paper_11 : decode cX11_paper 11 = .ok (.invokestatic 172, 3) := by decide +kernel
theorem dX11_paper_14 : decode cX11_paper 14 = .ok (.ifCond .eq 25, 3) := by decide +kernel
theorem dX11_paper_17 : decode cX11_paper 17 = .ok (.iload_n 2, 1) := by decide +kernel
theorem dX11_paper_18 : decode cX11_paper 18 = .ok (.iconst 0, 1) := by decide +kernel
theorem dX11_paper_19 : decode cX11_paper 19 = .ok (.sipush 255, 3) := by decide +kernel
theorem dX11_paper_22 : decode cX11_paper 22 = .ok (.invokestatic 172, 3) := by decide +kernel
theorem dX11_paper_25 : decode cX11_paper 25 = .ok (.ifCond .eq 14, 3) := by decide +kernel
theorem dX11_paper_28 : decode cX11_paper 28 = .ok (.iload_n 3, 1) := by decide +kernel
theorem dX11_paper_29 : decode cX11_paper 29 = .ok (.iconst 0, 1) := by decide +kernel
theorem dX11_paper_30 : decode cX11_paper 30 = .ok (.sipush 255, 3) := by decide +kernel
theorem dX11_paper_33 : decode cX11_paper 33 = .ok (.invokestatic 172, 3) := by decide +kernel
theorem dX11_paper_36 : decode cX11_paper 36 = .ok (.ifCond .ne 7, 3) := by decide +kernel
theorem dX11_paper_39 : decode cX11_paper 39 = .ok (.iconst 1, 1) := by decide +kernel
theorem dX11_paper_40 : decode cX11_paper 40 = .ok (.goto 4, 3) := by decide +kernel
theorem dX11_paper_43 : decode cX11_paper 43 = .ok (.iconst 0, 1) := by decide +kernel
theorem dX11_paper_44 : decode cX11_paper 44 = .ok (.iconst 1, 1) := by decide +kernel
theorem dX11_paper_45 : decode cX11_paper 45 = .ok (.invokevirtual 176, 3) := by decide +kernel
theorem dX11_paper_48 : decode cX11_paper 48 = .ok (.ifCond .eq 5, 3) := by decide +kernel
theorem dX11_paper_51 : decode cX11_paper 51 = .ok (.iconst 0, 1) := by decide +kernel
theorem dX11_paper_52 : decode cX11_paper 52 = .ok (.ireturn, 1) := by decide +kernel
theorem dX11_paper_53 : decode cX11_paper 53 = .ok (.aload_n 0, 1) := by decide +kernel
theorem dX11_paper_54 : decode cX11_paper 54 = .ok (.getfield 301, 3) := by decide +kernel
theorem dX11_paper_57 : decode cX11_paper 57 = .ok (.bipush 10, 2) := by decide +kernel
theorem dX11_paper_59 : decode cX11_paper 59 = .ok (.if_icmp .ne 5, 3) := by decide +kernel
theorem dX11_paper_62 : decode cX11_paper 62 = .ok (.iconst (-1), 1) := by decide +kernel
theorem dX11_paper_63 : decode cX11_paper 63 = .ok (.ireturn, 1) := by decide +kernel
theorem dX11_paper_64 : decode cX11_paper 64 = .ok (.aload_n 0, 1) := by decide +kernel
theorem dX11_paper_65 : decode cX11_paper 65 = .ok (.getfield 77, 3) := by decide +kernel
theorem dX11_paper_68 : decode cX11_paper 68 = .ok (.aload_n 0, 1) := by decide +kernel
theorem dX11_paper_69 : decode cX11_paper 69 = .ok (.getfield 301, 3) := by decide +kernel
theorem dX11_paper_72 : decode cX11_paper 72 = .ok (.aaload, 1) := by decide +kernel
theorem dX11_paper_73 : decode cX11_paper 73 = .ok (.iconst 0, 1) := by decide +kernel
theorem dX11_paper_74 : decode cX11_paper 74 = .ok (.iload_n 1, 1) := by decide +kernel
theorem dX11_paper_75 : decode cX11_paper 75 = .ok (.iastore, 1) := by decide +kernel
theorem dX11_paper_76 : decode cX11_paper 76 = .ok (.aload_n 0, 1) := by decide +kernel
theorem dX11_paper_77 : decode cX11_paper 77 = .ok (.getfield 77, 3) := by decide +kernel
theorem dX11_paper_80 : decode cX11_paper 80 = .ok (.aload_n 0, 1) := by decide +kernel
theorem dX11_paper_81 : decode cX11_paper 81 = .ok (.getfield 301, 3) := by decide +kernel
theorem dX11_paper_84 : decode cX11_paper 84 = .ok (.aaload, 1) := by decide +kernel
theorem dX11_paper_85 : decode cX11_paper 85 = .ok (.iconst 1, 1) := by decide +kernel
theorem dX11_paper_86 : decode cX11_paper 86 = .ok (.iload_n 2, 1) := by decide +kernel
theorem dX11_paper_87 : decode cX11_paper 87 = .ok (.iastore, 1) := by decide +kernel
theorem dX11_paper_88 : decode cX11_paper 88 = .ok (.aload_n 0, 1) := by decide +kernel
theorem dX11_paper_89 : decode cX11_paper 89 = .ok (.getfield 77, 3) := by decide +kernel
theorem dX11_paper_92 : decode cX11_paper 92 = .ok (.aload_n 0, 1) := by decide +kernel
theorem dX11_paper_93 : decode cX11_paper 93 = .ok (.getfield 301, 3) := by decide +kernel
theorem dX11_paper_96 : decode cX11_paper 96 = .ok (.aaload, 1) := by decide +kernel
theorem dX11_paper_97 : decode cX11_paper 97 = .ok (.iconst 2, 1) := by decide +kernel
theorem dX11_paper_98 : decode cX11_paper 98 = .ok (.iload_n 3, 1) := by decide +kernel
theorem dX11_paper_99 : decode cX11_paper 99 = .ok (.iastore, 1) := by decide +kernel
theorem dX11_paper_100 : decode cX11_paper 100 = .ok (.aload_n 0, 1) := by decide +kernel
theorem dX11_paper_101 : decode cX11_paper 101 = .ok (.dup, 1) := by decide +kernel
theorem dX11_paper_102 : decode cX11_paper 102 = .ok (.getfield 301, 3) := by decide +kernel
theorem dX11_paper_105 : decode cX11_paper 105 = .ok (.iconst 1, 1) := by decide +kernel
theorem dX11_paper_106 : decode cX11_paper 106 = .ok (.iadd, 1) := by decide +kernel
theorem dX11_paper_107 : decode cX11_paper 107 = .ok (.putfield 301, 3) := by decide +kernel
theorem dX11_paper_110 : decode cX11_paper 110 = .ok (.aload_n 0, 1) := by decide +kernel
theorem dX11_paper_111 : decode cX11_paper 111 = .ok (.getfield 301, 3) := by decide +kernel
theorem dX11_paper_114 : decode cX11_paper 114 = .ok (.ireturn, 1) := by decide +kernel
theorem dX11_knownOn_0 : decode cX11_knownOn 0 = .ok (.iconst 0, 1) := by decide +kernel
theorem dX11_knownOn_1 : decode cX11_knownOn 1 = .ok (.istore_n 2, 1) := by decide +kernel
theorem dX11_knownOn_2 : decode cX11_knownOn 2 = .ok (.iconst 0, 1) := by decide +kernel
theorem dX11_knownOn_3 : decode cX11_knownOn 3 = .ok (.istore_n 3, 1) := by decide +kernel
theorem dX11_knownOn_4 : decode cX11_knownOn 4 = .ok (.iload_n 3, 1) := by decide +kernel
theorem dX11_knownOn_5 : decode cX11_knownOn 5 = .ok (.bipush 10, 2) := by decide +kernel
theorem dX11_knownOn_7 : decode cX11_knownOn 7 = .ok (.if_icmp .ge 68, 3) := by decide +kernel
theorem dX11_knownOn_10 : decode cX11_knownOn 10 = .ok (.iconst 0, 1) := by decide +kernel
theorem dX11_knownOn_11 : decode cX11_knownOn 11 = .ok (.istore 4, 2) := by decide +kernel
theorem dX11_knownOn_13 : decode cX11_knownOn 13 = .ok (.iload 4, 2) := by decide +kernel
theorem dX11_knownOn_15 : decode cX11_knownOn 15 = .ok (.aload_n 0, 1) := by decide +kernel
theorem dX11_knownOn_16 : decode cX11_knownOn 16 = .ok (.getfield 301, 3) := by decide +kernel
theorem dX11_knownOn_19 : decode cX11_knownOn 19 = .ok (.if_icmp .ge 50, 3) := by decide +kernel
theorem dX11_knownOn_22 : decode cX11_knownOn 22 = .ok (.aload_n 0, 1) := by decide +kernel
theorem dX11_knownOn_23 : decode cX11_knownOn 23 = .ok (.getfield 77, 3) := by decide +kernel
theorem dX11_knownOn_26 : decode cX11_knownOn 26 = .ok (.iload 4, 2) := by decide +kernel
theorem dX11_knownOn_28 : decode cX11_knownOn 28 = .ok (.aaload, 1) := by decide +kernel
theorem dX11_knownOn_29 : decode cX11_knownOn 29 = .ok (.iconst 0, 1) := by decide +kernel
theorem dX11_knownOn_30 : decode cX11_knownOn 30 = .ok (.iaload, 1) := by decide +kernel
theorem dX11_knownOn_31 : decode cX11_knownOn 31 = .ok (.iload_n 1, 1) := by decide +kernel
theorem dX11_knownOn_32 : decode cX11_knownOn 32 = .ok (.if_icmp .gt 31, 3) := by decide +kernel
theorem dX11_knownOn_35 : decode cX11_knownOn 35 = .ok (.aload_n 0, 1) := by decide +kernel
theorem dX11_knownOn_36 : decode cX11_knownOn 36 = .ok (.getfield 77, 3) := by decide +kernel
theorem dX11_knownOn_39 : decode cX11_knownOn 39 = .ok (.iload 4, 2) := by decide +kernel
theorem dX11_knownOn_41 : decode cX11_knownOn 41 = .ok (.aaload, 1) := by decide +kernel
theorem dX11_knownOn_42 : decode cX11_knownOn 42 = .ok (.iconst 2, 1) := by decide +kernel
theorem dX11_knownOn_43 : decode cX11_knownOn 43 = .ok (.iaload, 1) := by decide +kernel
theorem dX11_knownOn_44 : decode cX11_knownOn 44 = .ok (.iload_n 2, 1) := by decide +kernel
theorem dX11_knownOn_45 : decode cX11_knownOn 45 = .ok (.iconst (-1), 1) := by decide +kernel
theorem dX11_knownOn_46 : decode cX11_knownOn 46 = .ok (.ixor, 1) := by decide +kernel
theorem dX11_knownOn_47 : decode cX11_knownOn 47 = .ok (.iand, 1) := by decide +kernel
theorem dX11_knownOn_48 : decode cX11_knownOn 48 = .ok (.ifCond .ne 15, 3) := by decide +kernel
theorem dX11_knownOn_51 : decode cX11_knownOn 51 = .ok (.iload_n 2, 1) := by decide +kernel
theorem dX11_knownOn_52 : decode cX11_knownOn 52 = .ok (.aload_n 0, 1) := by decide +kernel
theorem dX11_knownOn_53 : decode cX11_knownOn 53 = .ok (.getfield 77, 3) := by decide +kernel
theorem dX11_knownOn_56 : decode cX11_knownOn 56 = .ok (.iload 4, 2) := by decide +kernel
theorem dX11_knownOn_58 : decode cX11_knownOn 58 = .ok (.aaload, 1) := by decide +kernel
theorem dX11_knownOn_59 : decode cX11_knownOn 59 = .ok (.iconst 1, 1) := by decide +kernel
theorem dX11_knownOn_60 : decode cX11_knownOn 60 = .ok (.iaload, 1) := by decide +kernel
theorem dX11_knownOn_61 : decode cX11_knownOn 61 = .ok (.ior, 1) := by decide +kernel
theorem dX11_knownOn_62 : decode cX11_knownOn 62 = .ok (.istore_n 2, 1) := by decide +kernel
theorem dX11_knownOn_63 : decode cX11_knownOn 63 = .ok (.iinc 4 1, 3) := by decide +kernel
theorem dX11_knownOn_66 : decode cX11_knownOn 66 = .ok (.goto (-53), 3) := by decide +kernel
theorem dX11_knownOn_69 : decode cX11_knownOn 69 = .ok (.iinc 3 1, 3) := by decide +kernel
theorem dX11_knownOn_72 : decode cX11_knownOn 72 = .ok (.goto (-68), 3) := by decide +kernel
theorem dX11_knownOn_75 : decode cX11_knownOn 75 = .ok (.iload_n 2, 1) := by decide +kernel
theorem dX11_knownOn_76 : decode cX11_knownOn 76 = .ok (.ireturn, 1) := by decide +kernel
theorem dX11_known_0 : decode cX11_known 0 = .ok (.aload_n 0, 1) := by decide +kernel
theorem dX11_known_1 : decode cX11_known 1 = .ok (.iconst 0, 1) := by decide +kernel
theorem dX11_known_2 : decode cX11_known 2 = .ok (.putfield 83, 3) := by decide +kernel
theorem dX11_known_5 : decode cX11_known 5 = .ok (.aload_n 0, 1) := by decide +kernel
theorem dX11_known_6 : decode cX11_known 6 = .ok (.iload_n 1, 1) := by decide +kernel
theorem dX11_known_7 : decode cX11_known 7 = .ok (.iconst 0, 1) := by decide +kernel
theorem dX11_known_8 : decode cX11_known 8 = .ok (.sipush 999, 3) := by decide +kernel
theorem dX11_known_11 : decode cX11_known 11 = .ok (.invokestatic 172, 3) := by decide +kernel
theorem dX11_known_14 : decode cX11_known 14 = .ok (.ifCond .ne 7, 3) := by decide +kernel
theorem dX11_known_17 : decode cX11_known 17 = .ok (.iconst 1, 1) := by decide +kernel
theorem dX11_known_18 : decode cX11_known 18 = .ok (.goto 4, 3) := by decide +kernel
theorem dX11_known_21 : decode cX11_known 21 = .ok (.iconst 0, 1) := by decide +kernel
theorem dX11_known_22 : decode cX11_known 22 = .ok (.iconst 1, 1) := by decide +kernel
theorem dX11_known_23 : decode cX11_known 23 = .ok (.invokevirtual 176, 3) := by decide +kernel
theorem dX11_known_26 : decode cX11_known 26 = .ok (.ifCond .eq 5, 3) := by decide +kernel
theorem dX11_known_29 : decode cX11_known 29 = .ok (.iconst 0, 1) := by decide +kernel
theorem dX11_known_30 : decode cX11_known 30 = .ok (.ireturn, 1) := by decide +kernel
theorem dX11_known_31 : decode cX11_known 31 = .ok (.aload_n 0, 1) := by decide +kernel
theorem dX11_known_32 : decode cX11_known 32 = .ok (.iload_n 1, 1) := by decide +kernel
theorem dX11_known_33 : decode cX11_known 33 = .ok (.invokevirtual 304, 3) := by decide +kernel
theorem dX11_known_36 : decode cX11_known 36 = .ok (.ireturn, 1) := by decide +kernel
theorem dX11_could_0 : decode cX11_could 0 = .ok (.aload_n 0, 1) := by decide +kernel
theorem dX11_could_1 : decode cX11_could 1 = .ok (.iconst 0, 1) := by decide +kernel
theorem dX11_could_2 : decode cX11_could 2 = .ok (.putfield 83, 3) := by decide +kernel
theorem dX11_could_5 : decode cX11_could 5 = .ok (.aload_n 0, 1) := by decide +kernel
theorem dX11_could_6 : decode cX11_could 6 = .ok (.iload_n 1, 1) := by decide +kernel
theorem dX11_could_7 : decode cX11_could 7 = .ok (.iconst 0, 1) := by decide +kernel
theorem dX11_could_8 : decode cX11_could 8 = .ok (.sipush 255, 3) := by decide +kernel
theorem dX11_could_11 : decode cX11_could 11 = .ok (.invokestatic 172, 3) := by decide +kernel
theorem dX11_could_14 : decode cX11_could 14 = .ok (.ifCond .ne 7, 3) := by decide +kernel
theorem dX11_could_17 : decode cX11_could 17 = .ok (.iconst 1, 1) := by decide +kernel
theorem dX11_could_18 : decode cX11_could 18 = .ok (.goto 4, 3) := by decide +kernel
theorem dX11_could_21 : decode cX11_could 21 = .ok (.iconst 0, 1) := by decide +kernel
theorem dX11_could_22 : decode cX11_could 22 = .ok (.iconst 1, 1) := by decide +kernel
theorem dX11_could_23 : decode cX11_could 23 = .ok (.invokevirtual 176, 3) := by decide +kernel
theorem dX11_could_26 : decode cX11_could 26 = .ok (.ifCond .eq 5, 3) := by decide +kernel
theorem dX11_could_29 : decode cX11_could 29 = .ok (.iconst 0, 1) := by decide +kernel
theorem dX11_could_30 : decode cX11_could 30 = .ok (.ireturn, 1) := by decide +kernel
theorem dX11_could_31 : decode cX11_could 31 = .ok (.iconst 0, 1) := by decide +kernel
theorem dX11_could_32 : decode cX11_could 32 = .ok (.istore_n 2, 1) := by decide +kernel
theorem dX11_could_33 : decode cX11_could 33 = .ok (.iload_n 2, 1) := by decide +kernel
theorem dX11_could_34 : decode cX11_could 34 = .ok (.sipush 1000, 3) := by decide +kernel
theorem dX11_could_37 : decode cX11_could 37 = .ok (.if_icmp .ge 23, 3) := by decide +kernel
theorem dX11_could_40 : decode cX11_could 40 = .ok (.iload_n 1, 1) := by decide +kernel
theorem dX11_could_41 : decode cX11_could 41 = .ok (.aload_n 0, 1) := by decide +kernel
theorem dX11_could_42 : decode cX11_could 42 = .ok (.iload_n 2, 1) := by decide +kernel
theorem dX11_could_43 : decode cX11_could 43 = .ok (.invokevirtual 304, 3) := by decide +kernel
theorem dX11_could_46 : decode cX11_could 46 = .ok (.iconst (-1), 1) := by decide +kernel
theorem dX11_could_47 : decode cX11_could 47 = .ok (.ixor, 1) := by decide +kernel
theorem dX11_could_48 : decode cX11_could 48 = .ok (.iand, 1) := by decide +kernel
theorem dX11_could_49 : decode cX11_could 49 = .ok (.ifCond .ne 5, 3) := by decide +kernel
theorem dX11_could_52 : decode cX11_could 52 = .ok (.iload_n 2, 1) := by decide +kernel
theorem dX11_could_53 : decode cX11_could 53 = .ok (.ireturn, 1) := by decide +kernel
theorem dX11_could_54 : decode cX11_could 54 = .ok (.iinc 2 1, 3) := by decide +kernel
theorem dX11_could_57 : decode cX11_could 57 = .ok (.goto (-24), 3) := by decide +kernel
theorem dX11_could_60 : decode cX11_could 60 = .ok (.iconst (-1), 1) := by decide +kernel
theorem dX11_could_61 : decode cX11_could 61 = .ok (.ireturn, 1) := by decide +kernel
theorem dX11_moves_0 : decode cX11_moves 0 = .ok (.iload_n 3, 1) := by decide +kernel
theorem dX11_moves_1 : decode cX11_moves 1 = .ok (.ifCond .ne 15, 3) := by decide +kernel
theorem dX11_moves_4 : decode cX11_moves 4 = .ok (.aload_n 0, 1) := by decide +kernel
theorem dX11_moves_5 : decode cX11_moves 5 = .ok (.getfield 80, 3) := by decide +kernel
theorem dX11_moves_8 : decode cX11_moves 8 = .ok (.iload_n 1, 1) := by decide +kernel
theorem dX11_moves_9 : decode cX11_moves 9 = .ok (.aaload, 1) := by decide +kernel
theorem dX11_moves_10 : decode cX11_moves 10 = .ok (.aload_n 0, 1) := by decide +kernel
theorem dX11_moves_11 : decode cX11_moves 11 = .ok (.getfield 307, 3) := by decide +kernel
theorem dX11_moves_14 : decode cX11_moves 14 = .ok (.iload_n 2, 1) := by decide +kernel
theorem dX11_moves_15 : decode cX11_moves 15 = .ok (.iastore, 1) := by decide +kernel
theorem dX11_moves_16 : decode cX11_moves 16 = .ok (.aload_n 0, 1) := by decide +kernel
theorem dX11_moves_17 : decode cX11_moves 17 = .ok (.dup, 1) := by decide +kernel
theorem dX11_moves_18 : decode cX11_moves 18 = .ok (.getfield 307, 3) := by decide +kernel
theorem dX11_moves_21 : decode cX11_moves 21 = .ok (.iconst 1, 1) := by decide +kernel
theorem dX11_moves_22 : decode cX11_moves 22 = .ok (.iadd, 1) := by decide +kernel
theorem dX11_moves_23 : decode cX11_moves 23 = .ok (.putfield 307, 3) := by decide +kernel
theorem dX11_moves_26 : decode cX11_moves 26 = .ok (.aload_n 0, 1) := by decide +kernel
theorem dX11_moves_27 : decode cX11_moves 27 = .ok (.getfield 80, 3) := by decide +kernel
theorem dX11_moves_30 : decode cX11_moves 30 = .ok (.iload_n 1, 1) := by decide +kernel
theorem dX11_moves_31 : decode cX11_moves 31 = .ok (.aaload, 1) := by decide +kernel
theorem dX11_moves_32 : decode cX11_moves 32 = .ok (.aload_n 0, 1) := by decide +kernel
theorem dX11_moves_33 : decode cX11_moves 33 = .ok (.getfield 307, 3) := by decide +kernel
theorem dX11_moves_36 : decode cX11_moves 36 = .ok (.iconst 1, 1) := by decide +kernel
theorem dX11_moves_37 : decode cX11_moves 37 = .ok (.isub, 1) := by decide +kernel
theorem dX11_moves_38 : decode cX11_moves 38 = .ok (.iaload, 1) := by decide +kernel
theorem dX11_moves_39 : decode cX11_moves 39 = .ok (.ireturn, 1) := by decide +kernel
theorem dX11_movesRow_0 : decode cX11_movesRow 0 = .ok (.iconst 0, 1) := by decide +kernel
theorem dX11_movesRow_1 : decode cX11_movesRow 1 = .ok (.istore 4, 2) := by decide +kernel
theorem dX11_movesRow_3 : decode cX11_movesRow 3 = .ok (.iload 4, 2) := by decide +kernel
theorem dX11_movesRow_5 : decode cX11_movesRow 5 = .ok (.aload_n 2, 1) := by decide +kernel
theorem dX11_movesRow_6 : decode cX11_movesRow 6 = .ok (.arraylength, 1) := by decide +kernel
theorem dX11_movesRow_7 : decode cX11_movesRow 7 = .ok (.if_icmp .ge 23, 3) := by decide +kernel
theorem dX11_movesRow_10 : decode cX11_movesRow 10 = .ok (.aload_n 2, 1) := by decide +kernel
theorem dX11_movesRow_11 : decode cX11_movesRow 11 = .ok (.iload 4, 2) := by decide +kernel
theorem dX11_movesRow_13 : decode cX11_movesRow 13 = .ok (.aload_n 0, 1) := by decide +kernel
theorem dX11_movesRow_14 : decode cX11_movesRow 14 = .ok (.iload_n 1, 1) := by decide +kernel
theorem dX11_movesRow_15 : decode cX11_movesRow 15 = .ok (.aload_n 2, 1) := by decide +kernel
theorem dX11_movesRow_16 : decode cX11_movesRow 16 = .ok (.iload 4, 2) := by decide +kernel
theorem dX11_movesRow_18 : decode cX11_movesRow 18 = .ok (.iaload, 1) := by decide +kernel
theorem dX11_movesRow_19 : decode cX11_movesRow 19 = .ok (.iload_n 3, 1) := by decide +kernel
theorem dX11_movesRow_20 : decode cX11_movesRow 20 = .ok (.invokevirtual 310, 3) := by decide +kernel
theorem dX11_movesRow_23 : decode cX11_movesRow 23 = .ok (.iastore, 1) := by decide +kernel
theorem dX11_movesRow_24 : decode cX11_movesRow 24 = .ok (.iinc 4 1, 3) := by decide +kernel
theorem dX11_movesRow_27 : decode cX11_movesRow 27 = .ok (.goto (-24), 3) := by decide +kernel
theorem dX11_movesRow_30 : decode cX11_movesRow 30 = .ok (.return_, 1) := by decide +kernel
theorem dX11_movesAll_0 : decode cX11_movesAll 0 = .ok (.aload_n 0, 1) := by decide +kernel
theorem dX11_movesAll_1 : decode cX11_movesAll 1 = .ok (.iconst 0, 1) := by decide +kernel
theorem dX11_movesAll_2 : decode cX11_movesAll 2 = .ok (.putfield 307, 3) := by decide +kernel
theorem dX11_movesAll_5 : decode cX11_movesAll 5 = .ok (.aload_n 0, 1) := by decide +kernel
theorem dX11_movesAll_6 : decode cX11_movesAll 6 = .ok (.aload_n 0, 1) := by decide +kernel
theorem dX11_movesAll_7 : decode cX11_movesAll 7 = .ok (.iload_n 1, 1) := by decide +kernel
theorem dX11_movesAll_8 : decode cX11_movesAll 8 = .ok (.aload_n 0, 1) := by decide +kernel
theorem dX11_movesAll_9 : decode cX11_movesAll 9 = .ok (.getfield 37, 3) := by decide +kernel
theorem dX11_movesAll_12 : decode cX11_movesAll 12 = .ok (.iload_n 2, 1) := by decide +kernel
theorem dX11_movesAll_13 : decode cX11_movesAll 13 = .ok (.invokevirtual 310, 3) := by decide +kernel
theorem dX11_movesAll_16 : decode cX11_movesAll 16 = .ok (.putfield 37, 3) := by decide +kernel
theorem dX11_movesAll_19 : decode cX11_movesAll 19 = .ok (.aload_n 0, 1) := by decide +kernel
theorem dX11_movesAll_20 : decode cX11_movesAll 20 = .ok (.aload_n 0, 1) := by decide +kernel
theorem dX11_movesAll_21 : decode cX11_movesAll 21 = .ok (.iload_n 1, 1) := by decide +kernel
theorem dX11_movesAll_22 : decode cX11_movesAll 22 = .ok (.aload_n 0, 1) := by decide +kernel
theorem dX11_movesAll_23 : decode cX11_movesAll 23 = .ok (.getfield 200, 3) := by decide +kernel
theorem dX11_movesAll_26 : decode cX11_movesAll 26 = .ok (.iload_n 2, 1) := by decide +kernel
theorem dX11_movesAll_27 : decode cX11_movesAll 27 = .ok (.invokevirtual 310, 3) := by decide +kernel
theorem dX11_movesAll_30 : decode cX11_movesAll 30 = .ok (.putfield 200, 3) := by decide +kernel
theorem dX11_movesAll_33 : decode cX11_movesAll 33 = .ok (.aload_n 0, 1) := by decide +kernel
theorem dX11_movesAll_34 : decode cX11_movesAll 34 = .ok (.aload_n 0, 1) := by decide +kernel
theorem dX11_movesAll_35 : decode cX11_movesAll 35 = .ok (.iload_n 1, 1) := by decide +kernel
theorem dX11_movesAll_36 : decode cX11_movesAll 36 = .ok (.aload_n 0, 1) := by decide +kernel
theorem dX11_movesAll_37 : decode cX11_movesAll 37 = .ok (.getfield 279, 3) := by decide +kernel
theorem dX11_movesAll_40 : decode cX11_movesAll 40 = .ok (.iload_n 2, 1) := by decide +kernel
theorem dX11_movesAll_41 : decode cX11_movesAll 41 = .ok (.invokevirtual 310, 3) := by decide +kernel
theorem dX11_movesAll_44 : decode cX11_movesAll 44 = .ok (.putfield 279, 3) := by decide +kernel
theorem dX11_movesAll_47 : decode cX11_movesAll 47 = .ok (.aload_n 0, 1) := by decide +kernel
theorem dX11_movesAll_48 : decode cX11_movesAll 48 = .ok (.aload_n 0, 1) := by decide +kernel
theorem dX11_movesAll_49 : decode cX11_movesAll 49 = .ok (.iload_n 1, 1) := by decide +kernel
theorem dX11_movesAll_50 : decode cX11_movesAll 50 = .ok (.aload_n 0, 1) := by decide +kernel
theorem dX11_movesAll_51 : decode cX11_movesAll 51 = .ok (.getfield 283, 3) := by decide +kernel
theorem dX11_movesAll_54 : decode cX11_movesAll 54 = .ok (.iload_n 2, 1) := by decide +kernel
theorem dX11_movesAll_55 : decode cX11_movesAll 55 = .ok (.invokevirtual 310, 3) := by decide +kernel
theorem dX11_movesAll_58 : decode cX11_movesAll 58 = .ok (.putfield 283, 3) := by decide +kernel
theorem dX11_movesAll_61 : decode cX11_movesAll 61 = .ok (.aload_n 0, 1) := by decide +kernel
theorem dX11_movesAll_62 : decode cX11_movesAll 62 = .ok (.aload_n 0, 1) := by decide +kernel
theorem dX11_movesAll_63 : decode cX11_movesAll 63 = .ok (.iload_n 1, 1) := by decide +kernel
theorem dX11_movesAll_64 : decode cX11_movesAll 64 = .ok (.aload_n 0, 1) := by decide +kernel
theorem dX11_movesAll_65 : decode cX11_movesAll 65 = .ok (.getfield 295, 3) := by decide +kernel
theorem dX11_movesAll_68 : decode cX11_movesAll 68 = .ok (.iload_n 2, 1) := by decide +kernel
theorem dX11_movesAll_69 : decode cX11_movesAll 69 = .ok (.invokevirtual 310, 3) := by decide +kernel
theorem dX11_movesAll_72 : decode cX11_movesAll 72 = .ok (.putfield 295, 3) := by decide +kernel
theorem dX11_movesAll_75 : decode cX11_movesAll 75 = .ok (.aload_n 0, 1) := by decide +kernel
theorem dX11_movesAll_76 : decode cX11_movesAll 76 = .ok (.aload_n 0, 1) := by decide +kernel
theorem dX11_movesAll_77 : decode cX11_movesAll 77 = .ok (.iload_n 1, 1) := by decide +kernel
theorem dX11_movesAll_78 : decode cX11_movesAll 78 = .ok (.aload_n 0, 1) := by decide +kernel
theorem dX11_movesAll_79 : decode cX11_movesAll 79 = .ok (.getfield 301, 3) := by decide +kernel
theorem dX11_movesAll_82 : decode cX11_movesAll 82 = .ok (.iload_n 2, 1) := by decide +kernel
theorem dX11_movesAll_83 : decode cX11_movesAll 83 = .ok (.invokevirtual 310, 3) := by decide +kernel
theorem dX11_movesAll_86 : decode cX11_movesAll 86 = .ok (.putfield 301, 3) := by decide +kernel
theorem dX11_movesAll_89 : decode cX11_movesAll 89 = .ok (.aload_n 0, 1) := by decide +kernel
theorem dX11_movesAll_90 : decode cX11_movesAll 90 = .ok (.iload_n 1, 1) := by decide +kernel
theorem dX11_movesAll_91 : decode cX11_movesAll 91 = .ok (.aload_n 0, 1) := by decide +kernel
theorem dX11_movesAll_92 : decode cX11_movesAll 92 = .ok (.getfield 40, 3) := by decide +kernel
theorem dX11_movesAll_95 : decode cX11_movesAll 95 = .ok (.iload_n 2, 1) := by decide +kernel
theorem dX11_movesAll_96 : decode cX11_movesAll 96 = .ok (.invokevirtual 314, 3) := by decide +kernel
theorem dX11_movesAll_99 : decode cX11_movesAll 99 = .ok (.aload_n 0, 1) := by decide +kernel
theorem dX11_movesAll_100 : decode cX11_movesAll 100 = .ok (.iload_n 1, 1) := by decide +kernel
theorem dX11_movesAll_101 : decode cX11_movesAll 101 = .ok (.aload_n 0, 1) := by decide +kernel
theorem dX11_movesAll_102 : decode cX11_movesAll 102 = .ok (.getfield 49, 3) := by decide +kernel
theorem dX11_movesAll_105 : decode cX11_movesAll 105 = .ok (.iload_n 2, 1) := by decide +kernel
theorem dX11_movesAll_106 : decode cX11_movesAll 106 = .ok (.invokevirtual 314, 3) := by decide +kernel
theorem dX11_movesAll_109 : decode cX11_movesAll 109 = .ok (.iconst 0, 1) := by decide +kernel
theorem dX11_movesAll_110 : decode cX11_movesAll 110 = .ok (.istore_n 3, 1) := by decide +kernel
theorem dX11_movesAll_111 : decode cX11_movesAll 111 = .ok (.iload_n 3, 1) := by decide +kernel
theorem dX11_movesAll_112 : decode cX11_movesAll 112 = .ok (.iconst 4, 1) := by decide +kernel
theorem dX11_movesAll_113 : decode cX11_movesAll 113 = .ok (.if_icmp .ge 21, 3) := by decide +kernel
theorem dX11_movesAll_116 : decode cX11_movesAll 116 = .ok (.aload_n 0, 1) := by decide +kernel
theorem dX11_movesAll_117 : decode cX11_movesAll 117 = .ok (.iload_n 1, 1) := by decide +kernel
theorem dX11_movesAll_118 : decode cX11_movesAll 118 = .ok (.aload_n 0, 1) := by decide +kernel
theorem dX11_movesAll_119 : decode cX11_movesAll 119 = .ok (.getfield 43, 3) := by decide +kernel
theorem dX11_movesAll_122 : decode cX11_movesAll 122 = .ok (.iload_n 3, 1) := by decide +kernel
theorem dX11_movesAll_123 : decode cX11_movesAll 123 = .ok (.aaload, 1) := by decide +kernel
theorem dX11_movesAll_124 : decode cX11_movesAll 124 = .ok (.iload_n 2, 1) := by decide +kernel
theorem dX11_movesAll_125 : decode cX11_movesAll 125 = .ok (.invokevirtual 314, 3) := by decide +kernel
theorem dX11_movesAll_128 : decode cX11_movesAll 128 = .ok (.iinc 3 1, 3) := by decide +kernel
theorem dX11_movesAll_131 : decode cX11_movesAll 131 = .ok (.goto (-20), 3) := by decide +kernel
theorem dX11_movesAll_134 : decode cX11_movesAll 134 = .ok (.iconst 0, 1) := by decide +kernel
theorem dX11_movesAll_135 : decode cX11_movesAll 135 = .ok (.istore_n 3, 1) := by decide +kernel
theorem dX11_movesAll_136 : decode cX11_movesAll 136 = .ok (.iload_n 3, 1) := by decide +kernel
theorem dX11_movesAll_137 : decode cX11_movesAll 137 = .ok (.bipush 8, 2) := by decide +kernel
theorem dX11_movesAll_139 : decode cX11_movesAll 139 = .ok (.if_icmp .ge 44, 3) := by decide +kernel
theorem dX11_movesAll_142 : decode cX11_movesAll 142 = .ok (.aload_n 0, 1) := by decide +kernel
theorem dX11_movesAll_143 : decode cX11_movesAll 143 = .ok (.getfield 52, 3) := by decide +kernel
theorem dX11_movesAll_146 : decode cX11_movesAll 146 = .ok (.iload_n 3, 1) := by decide +kernel
theorem dX11_movesAll_147 : decode cX11_movesAll 147 = .ok (.aload_n 0, 1) := by decide +kernel
theorem dX11_movesAll_148 : decode cX11_movesAll 148 = .ok (.iload_n 1, 1) := by decide +kernel
theorem dX11_movesAll_149 : decode cX11_movesAll 149 = .ok (.aload_n 0, 1) := by decide +kernel
theorem dX11_movesAll_150 : decode cX11_movesAll 150 = .ok (.getfield 52, 3) := by decide +kernel
theorem dX11_movesAll_153 : decode cX11_movesAll 153 = .ok (.iload_n 3, 1) := by decide +kernel
theorem dX11_movesAll_154 : decode cX11_movesAll 154 = .ok (.baload, 1) := by decide +kernel
theorem dX11_movesAll_155 : decode cX11_movesAll 155 = .ok (.ifCond .eq 7, 3) := by decide +kernel
theorem dX11_movesAll_158 : decode cX11_movesAll 158 = .ok (.iconst 1, 1) := by decide +kernel
theorem dX11_movesAll_159 : decode cX11_movesAll 159 = .ok (.goto 4, 3) := by decide +kernel
theorem dX11_movesAll_162 : decode cX11_movesAll 162 = .ok (.iconst 0, 1) := by decide +kernel
theorem dX11_movesAll_163 : decode cX11_movesAll 163 = .ok (.iload_n 2, 1) := by decide +kernel
theorem dX11_movesAll_164 : decode cX11_movesAll 164 = .ok (.invokevirtual 310, 3) := by decide +kernel
theorem dX11_movesAll_167 : decode cX11_movesAll 167 = .ok (.iconst 1, 1) := by decide +kernel
theorem dX11_movesAll_168 : decode cX11_movesAll 168 = .ok (.if_icmp .ne 7, 3) := by decide +kernel
theorem dX11_movesAll_171 : decode cX11_movesAll 171 = .ok (.iconst 1, 1) := by decide +kernel
theorem dX11_movesAll_172 : decode cX11_movesAll 172 = .ok (.goto 4, 3) := by decide +kernel
theorem dX11_movesAll_175 : decode cX11_movesAll 175 = .ok (.iconst 0, 1) := by decide +kernel
theorem dX11_movesAll_176 : decode cX11_movesAll 176 = .ok (.bastore, 1) := by decide +kernel
theorem dX11_movesAll_177 : decode cX11_movesAll 177 = .ok (.iinc 3 1, 3) := by decide +kernel
theorem dX11_movesAll_180 : decode cX11_movesAll 180 = .ok (.goto (-44), 3) := by decide +kernel
theorem dX11_movesAll_183 : decode cX11_movesAll 183 = .ok (.iconst 0, 1) := by decide +kernel
theorem dX11_movesAll_184 : decode cX11_movesAll 184 = .ok (.istore_n 3, 1) := by decide +kernel
theorem dX11_movesAll_185 : decode cX11_movesAll 185 = .ok (.iload_n 3, 1) := by decide +kernel
theorem dX11_movesAll_186 : decode cX11_movesAll 186 = .ok (.bipush 20, 2) := by decide +kernel
theorem dX11_movesAll_188 : decode cX11_movesAll 188 = .ok (.if_icmp .ge 21, 3) := by decide +kernel
theorem dX11_movesAll_191 : decode cX11_movesAll 191 = .ok (.aload_n 0, 1) := by decide +kernel
theorem dX11_movesAll_192 : decode cX11_movesAll 192 = .ok (.iload_n 1, 1) := by decide +kernel
theorem dX11_movesAll_193 : decode cX11_movesAll 193 = .ok (.aload_n 0, 1) := by decide +kernel
theorem dX11_movesAll_194 : decode cX11_movesAll 194 = .ok (.getfield 68, 3) := by decide +kernel
theorem dX11_movesAll_197 : decode cX11_movesAll 197 = .ok (.iload_n 3, 1) := by decide +kernel
theorem dX11_movesAll_198 : decode cX11_movesAll 198 = .ok (.aaload, 1) := by decide +kernel
theorem dX11_movesAll_199 : decode cX11_movesAll 199 = .ok (.iload_n 2, 1) := by decide +kernel
theorem dX11_movesAll_200 : decode cX11_movesAll 200 = .ok (.invokevirtual 314, 3) := by decide +kernel
theorem dX11_movesAll_203 : decode cX11_movesAll 203 = .ok (.iinc 3 1, 3) := by decide +kernel
theorem dX11_movesAll_206 : decode cX11_movesAll 206 = .ok (.goto (-21), 3) := by decide +kernel
theorem dX11_movesAll_209 : decode cX11_movesAll 209 = .ok (.iconst 0, 1) := by decide +kernel
theorem dX11_movesAll_210 : decode cX11_movesAll 210 = .ok (.istore_n 3, 1) := by decide +kernel
theorem dX11_movesAll_211 : decode cX11_movesAll 211 = .ok (.iload_n 3, 1) := by decide +kernel
theorem dX11_movesAll_212 : decode cX11_movesAll 212 = .ok (.iconst 5, 1) := by decide +kernel
theorem dX11_movesAll_213 : decode cX11_movesAll 213 = .ok (.if_icmp .ge 21, 3) := by decide +kernel
theorem dX11_movesAll_216 : decode cX11_movesAll 216 = .ok (.aload_n 0, 1) := by decide +kernel
theorem dX11_movesAll_217 : decode cX11_movesAll 217 = .ok (.iload_n 1, 1) := by decide +kernel
theorem dX11_movesAll_218 : decode cX11_movesAll 218 = .ok (.aload_n 0, 1) := by decide +kernel
theorem dX11_movesAll_219 : decode cX11_movesAll 219 = .ok (.getfield 71, 3) := by decide +kernel
theorem dX11_movesAll_222 : decode cX11_movesAll 222 = .ok (.iload_n 3, 1) := by decide +kernel
theorem dX11_movesAll_223 : decode cX11_movesAll 223 = .ok (.aaload, 1) := by decide +kernel
theorem dX11_movesAll_224 : decode cX11_movesAll 224 = .ok (.iload_n 2, 1) := by decide +kernel
theorem dX11_movesAll_225 : decode cX11_movesAll 225 = .ok (.invokevirtual 314, 3) := by decide +kernel
theorem dX11_movesAll_228 : decode cX11_movesAll 228 = .ok (.iinc 3 1, 3) := by decide +kernel
theorem dX11_movesAll_231 : decode cX11_movesAll 231 = .ok (.goto (-20), 3) := by decide +kernel
theorem dX11_movesAll_234 : decode cX11_movesAll 234 = .ok (.iconst 0, 1) := by decide +kernel
theorem dX11_movesAll_235 : decode cX11_movesAll 235 = .ok (.istore_n 3, 1) := by decide +kernel
theorem dX11_movesAll_236 : decode cX11_movesAll 236 = .ok (.iload_n 3, 1) := by decide +kernel
theorem dX11_movesAll_237 : decode cX11_movesAll 237 = .ok (.bipush 6, 2) := by decide +kernel
theorem dX11_movesAll_239 : decode cX11_movesAll 239 = .ok (.if_icmp .ge 21, 3) := by decide +kernel
theorem dX11_movesAll_242 : decode cX11_movesAll 242 = .ok (.aload_n 0, 1) := by decide +kernel
theorem dX11_movesAll_243 : decode cX11_movesAll 243 = .ok (.iload_n 1, 1) := by decide +kernel
theorem dX11_movesAll_244 : decode cX11_movesAll 244 = .ok (.aload_n 0, 1) := by decide +kernel
theorem dX11_movesAll_245 : decode cX11_movesAll 245 = .ok (.getfield 74, 3) := by decide +kernel
theorem dX11_movesAll_248 : decode cX11_movesAll 248 = .ok (.iload_n 3, 1) := by decide +kernel
theorem dX11_movesAll_249 : decode cX11_movesAll 249 = .ok (.aaload, 1) := by decide +kernel
theorem dX11_movesAll_250 : decode cX11_movesAll 250 = .ok (.iload_n 2, 1) := by decide +kernel
theorem dX11_movesAll_251 : decode cX11_movesAll 251 = .ok (.invokevirtual 314, 3) := by decide +kernel
theorem dX11_movesAll_254 : decode cX11_movesAll 254 = .ok (.iinc 3 1, 3) := by decide +kernel
theorem dX11_movesAll_257 : decode cX11_movesAll 257 = .ok (.goto (-21), 3) := by decide +kernel
theorem dX11_movesAll_260 : decode cX11_movesAll 260 = .ok (.iconst 0, 1) := by decide +kernel
theorem dX11_movesAll_261 : decode cX11_movesAll 261 = .ok (.istore_n 3, 1) := by decide +kernel
theorem dX11_movesAll_262 : decode cX11_movesAll 262 = .ok (.iload_n 3, 1) := by decide +kernel
theorem dX11_movesAll_263 : decode cX11_movesAll 263 = .ok (.bipush 10, 2) := by decide +kernel
theorem dX11_movesAll_265 : decode cX11_movesAll 265 = .ok (.if_icmp .ge 21, 3) := by decide +kernel
theorem dX11_movesAll_268 : decode cX11_movesAll 268 = .ok (.aload_n 0, 1) := by decide +kernel
theorem dX11_movesAll_269 : decode cX11_movesAll 269 = .ok (.iload_n 1, 1) := by decide +kernel
theorem dX11_movesAll_270 : decode cX11_movesAll 270 = .ok (.aload_n 0, 1) := by decide +kernel
theorem dX11_movesAll_271 : decode cX11_movesAll 271 = .ok (.getfield 77, 3) := by decide +kernel
theorem dX11_movesAll_274 : decode cX11_movesAll 274 = .ok (.iload_n 3, 1) := by decide +kernel
theorem dX11_movesAll_275 : decode cX11_movesAll 275 = .ok (.aaload, 1) := by decide +kernel
theorem dX11_movesAll_276 : decode cX11_movesAll 276 = .ok (.iload_n 2, 1) := by decide +kernel
theorem dX11_movesAll_277 : decode cX11_movesAll 277 = .ok (.invokevirtual 314, 3) := by decide +kernel
theorem dX11_movesAll_280 : decode cX11_movesAll 280 = .ok (.iinc 3 1, 3) := by decide +kernel
theorem dX11_movesAll_283 : decode cX11_movesAll 283 = .ok (.goto (-21), 3) := by decide +kernel
theorem dX11_movesAll_286 : decode cX11_movesAll 286 = .ok (.return_, 1) := by decide +kernel
theorem dX11_image_0 : decode cX11_image 0 = .ok (.aload_n 0, 1) := by decide +kernel
theorem dX11_image_1 : decode cX11_image 1 = .ok (.iconst 0, 1) := by decide +kernel
theorem dX11_image_2 : decode cX11_image 2 = .ok (.putfield 83, 3) := by decide +kernel
theorem dX11_image_5 : decode cX11_image 5 = .ok (.aload_n 0, 1) := by decide +kernel
theorem dX11_image_6 : decode cX11_image 6 = .ok (.getfield 318, 3) := by decide +kernel
theorem dX11_image_9 : decode cX11_image 9 = .ok (.iconst 3, 1) := by decide +kernel
theorem dX11_image_10 : decode cX11_image 10 = .ok (.if_icmp .ne 5, 3) := by decide +kernel
theorem dX11_image_13 : decode cX11_image 13 = .ok (.iconst (-1), 1) := by decide +kernel
theorem dX11_image_14 : decode cX11_image 14 = .ok (.ireturn, 1) := by decide +kernel
theorem dX11_image_15 : decode cX11_image 15 = .ok (.aload_n 0, 1) := by decide +kernel
theorem dX11_image_16 : decode cX11_image 16 = .ok (.aload_n 0, 1) := by decide +kernel
theorem dX11_image_17 : decode cX11_image 17 = .ok (.getfield 318, 3) := by decide +kernel
theorem dX11_image_20 : decode cX11_image 20 = .ok (.iconst 0, 1) := by decide +kernel
theorem dX11_image_21 : decode cX11_image 21 = .ok (.invokevirtual 321, 3) := by decide +kernel
theorem dX11_image_24 : decode cX11_image 24 = .ok (.aload_n 0, 1) := by decide +kernel
theorem dX11_image_25 : decode cX11_image 25 = .ok (.dup, 1) := by decide +kernel
theorem dX11_image_26 : decode cX11_image 26 = .ok (.getfield 318, 3) := by decide +kernel
theorem dX11_image_29 : decode cX11_image 29 = .ok (.iconst 1, 1) := by decide +kernel
theorem dX11_image_30 : decode cX11_image 30 = .ok (.iadd, 1) := by decide +kernel
theorem dX11_image_31 : decode cX11_image 31 = .ok (.putfield 318, 3) := by decide +kernel
theorem dX11_image_34 : decode cX11_image 34 = .ok (.aload_n 0, 1) := by decide +kernel
theorem dX11_image_35 : decode cX11_image 35 = .ok (.getfield 318, 3) := by decide +kernel
theorem dX11_image_38 : decode cX11_image 38 = .ok (.ireturn, 1) := by decide +kernel
theorem dX11_restore_0 : decode cX11_restore 0 = .ok (.aload_n 0, 1) := by decide +kernel
theorem dX11_restore_1 : decode cX11_restore 1 = .ok (.iconst 0, 1) := by decide +kernel
theorem dX11_restore_2 : decode cX11_restore 2 = .ok (.putfield 83, 3) := by decide +kernel
theorem dX11_restore_5 : decode cX11_restore 5 = .ok (.aload_n 0, 1) := by decide +kernel
theorem dX11_restore_6 : decode cX11_restore 6 = .ok (.getfield 318, 3) := by decide +kernel
theorem dX11_restore_9 : decode cX11_restore 9 = .ok (.ifCond .ne 5, 3) := by decide +kernel
theorem dX11_restore_12 : decode cX11_restore 12 = .ok (.iconst (-1), 1) := by decide +kernel
theorem dX11_restore_13 : decode cX11_restore 13 = .ok (.ireturn, 1) := by decide +kernel
theorem dX11_restore_14 : decode cX11_restore 14 = .ok (.aload_n 0, 1) := by decide +kernel
theorem dX11_restore_15 : decode cX11_restore 15 = .ok (.dup, 1) := by decide +kernel
theorem dX11_restore_16 : decode cX11_restore 16 = .ok (.getfield 318, 3) := by decide +kernel
theorem dX11_restore_19 : decode cX11_restore 19 = .ok (.iconst 1, 1) := by decide +kernel
theorem dX11_restore_20 : decode cX11_restore 20 = .ok (.isub, 1) := by decide +kernel
theorem dX11_restore_21 : decode cX11_restore 21 = .ok (.putfield 318, 3) := by decide +kernel
theorem dX11_restore_24 : decode cX11_restore 24 = .ok (.aload_n 0, 1) := by decide +kernel
theorem dX11_restore_25 : decode cX11_restore 25 = .ok (.aload_n 0, 1) := by decide +kernel
theorem dX11_restore_26 : decode cX11_restore 26 = .ok (.getfield 318, 3) := by decide +kernel
theorem dX11_restore_29 : decode cX11_restore 29 = .ok (.iconst 1, 1) := by decide +kernel
theorem dX11_restore_30 : decode cX11_restore 30 = .ok (.invokevirtual 321, 3) := by decide +kernel
theorem dX11_restore_33 : decode cX11_restore 33 = .ok (.aload_n 0, 1) := by decide +kernel
theorem dX11_restore_34 : decode cX11_restore 34 = .ok (.getfield 318, 3) := by decide +kernel
theorem dX11_restore_37 : decode cX11_restore 37 = .ok (.ireturn, 1) := by decide +kernel
theorem dX11_count_0 : decode cX11_count 0 = .ok (.aload_n 0, 1) := by decide +kernel
theorem dX11_count_1 : decode cX11_count 1 = .ok (.iconst 0, 1) := by decide +kernel
theorem dX11_count_2 : decode cX11_count 2 = .ok (.putfield 83, 3) := by decide +kernel
theorem dX11_count_5 : decode cX11_count 5 = .ok (.iconst 0, 1) := by decide +kernel
theorem dX11_count_6 : decode cX11_count 6 = .ok (.istore_n 2, 1) := by decide +kernel
theorem dX11_count_7 : decode cX11_count 7 = .ok (.iload_n 1, 1) := by decide +kernel
theorem dX11_count_8 : decode cX11_count 8 = .ok (.bipush 20, 2) := by decide +kernel
theorem dX11_count_10 : decode cX11_count 10 = .ok (.bipush 29, 2) := by decide +kernel
theorem dX11_count_12 : decode cX11_count 12 = .ok (.invokestatic 172, 3) := by decide +kernel
theorem dX11_count_15 : decode cX11_count 15 = .ok (.ifCond .eq 13, 3) := by decide +kernel
theorem dX11_count_18 : decode cX11_count 18 = .ok (.aload_n 0, 1) := by decide +kernel
theorem dX11_count_19 : decode cX11_count 19 = .ok (.getfield 40, 3) := by decide +kernel
theorem dX11_count_22 : decode cX11_count 22 = .ok (.iload_n 1, 1) := by decide +kernel
theorem dX11_count_23 : decode cX11_count 23 = .ok (.bipush 20, 2) := by decide +kernel
theorem dX11_count_25 : decode cX11_count 25 = .ok (.isub, 1) := by decide +kernel
theorem dX11_count_26 : decode cX11_count 26 = .ok (.iaload, 1) := by decide +kernel
theorem dX11_count_27 : decode cX11_count 27 = .ok (.ireturn, 1) := by decide +kernel
theorem dX11_count_28 : decode cX11_count 28 = .ok (.iconst 0, 1) := by decide +kernel
theorem dX11_count_29 : decode cX11_count 29 = .ok (.istore_n 3, 1) := by decide +kernel
theorem dX11_count_30 : decode cX11_count 30 = .ok (.iload_n 3, 1) := by decide +kernel
theorem dX11_count_31 : decode cX11_count 31 = .ok (.aload_n 0, 1) := by decide +kernel
theorem dX11_count_32 : decode cX11_count 32 = .ok (.getfield 37, 3) := by decide +kernel
theorem dX11_count_35 : decode cX11_count 35 = .ok (.if_icmp .ge 60, 3) := by decide +kernel
theorem dX11_count_38 : decode cX11_count 38 = .ok (.iload_n 2, 1) := by decide +kernel
theorem dX11_count_39 : decode cX11_count 39 = .ok (.iload_n 1, 1) := by decide +kernel
theorem dX11_count_40 : decode cX11_count 40 = .ok (.bipush 9, 2) := by decide +kernel
theorem dX11_count_42 : decode cX11_count 42 = .ok (.if_icmp .ne 21, 3) := by decide +kernel
theorem dX11_count_45 : decode cX11_count 45 = .ok (.aload_n 0, 1) := by decide +kernel
theorem dX11_count_46 : decode cX11_count 46 = .ok (.getfield 49, 3) := by decide +kernel
theorem dX11_count_49 : decode cX11_count 49 = .ok (.iload_n 3, 1) := by decide +kernel
theorem dX11_count_50 : decode cX11_count 50 = .ok (.iaload, 1) := by decide +kernel
theorem dX11_count_51 : decode cX11_count 51 = .ok (.iconst 1, 1) := by decide +kernel
theorem dX11_count_52 : decode cX11_count 52 = .ok (.if_icmp .ne 7, 3) := by decide +kernel
theorem dX11_count_55 : decode cX11_count 55 = .ok (.iconst 1, 1) := by decide +kernel
theorem dX11_count_56 : decode cX11_count 56 = .ok (.goto 31, 3) := by decide +kernel
theorem dX11_count_59 : decode cX11_count 59 = .ok (.iconst 0, 1) := by decide +kernel
theorem dX11_count_60 : decode cX11_count 60 = .ok (.goto 27, 3) := by decide +kernel
theorem dX11_count_63 : decode cX11_count 63 = .ok (.iload_n 3, 1) := by decide +kernel
theorem dX11_count_64 : decode cX11_count 64 = .ok (.iconst 1, 1) := by decide +kernel
theorem dX11_count_65 : decode cX11_count 65 = .ok (.iadd, 1) := by decide +kernel
theorem dX11_count_66 : decode cX11_count 66 = .ok (.aload_n 0, 1) := by decide +kernel
theorem dX11_count_67 : decode cX11_count 67 = .ok (.getfield 37, 3) := by decide +kernel
theorem dX11_count_70 : decode cX11_count 70 = .ok (.if_icmp .ge 16, 3) := by decide +kernel
theorem dX11_count_73 : decode cX11_count 73 = .ok (.aload_n 0, 1) := by decide +kernel
theorem dX11_count_74 : decode cX11_count 74 = .ok (.getfield 52, 3) := by decide +kernel
theorem dX11_count_77 : decode cX11_count 77 = .ok (.iload_n 3, 1) := by decide +kernel
theorem dX11_count_78 : decode cX11_count 78 = .ok (.baload, 1) := by decide +kernel
theorem dX11_count_79 : decode cX11_count 79 = .ok (.ifCond .eq 7, 3) := by decide +kernel
theorem dX11_count_82 : decode cX11_count 82 = .ok (.iconst 1, 1) := by decide +kernel
theorem dX11_count_83 : decode cX11_count 83 = .ok (.goto 4, 3) := by decide +kernel
theorem dX11_count_86 : decode cX11_count 86 = .ok (.iconst 0, 1) := by decide +kernel
theorem dX11_count_87 : decode cX11_count 87 = .ok (.iadd, 1) := by decide +kernel
theorem dX11_count_88 : decode cX11_count 88 = .ok (.istore_n 2, 1) := by decide +kernel
theorem dX11_count_89 : decode cX11_count 89 = .ok (.iinc 3 1, 3) := by decide +kernel
theorem dX11_count_92 : decode cX11_count 92 = .ok (.goto (-62), 3) := by decide +kernel
theorem dX11_count_95 : decode cX11_count 95 = .ok (.iload_n 1, 1) := by decide +kernel
theorem dX11_count_96 : decode cX11_count 96 = .ok (.tableswitch 97 0 8 #[52, 57, 62, 67, 72, 77, 82, 87, 92], 52) := by decide +kernel
theorem dX11_count_148 : decode cX11_count 148 = .ok (.aload_n 0, 1) := by decide +kernel
theorem dX11_count_149 : decode cX11_count 149 = .ok (.getfield 37, 3) := by decide +kernel
theorem dX11_count_152 : decode cX11_count 152 = .ok (.ireturn, 1) := by decide +kernel
theorem dX11_count_153 : decode cX11_count 153 = .ok (.aload_n 0, 1) := by decide +kernel
theorem dX11_count_154 : decode cX11_count 154 = .ok (.getfield 180, 3) := by decide +kernel
theorem dX11_count_157 : decode cX11_count 157 = .ok (.ireturn, 1) := by decide +kernel
theorem dX11_count_158 : decode cX11_count 158 = .ok (.aload_n 0, 1) := by decide +kernel
theorem dX11_count_159 : decode cX11_count 159 = .ok (.getfield 200, 3) := by decide +kernel
theorem dX11_count_162 : decode cX11_count 162 = .ok (.ireturn, 1) := by decide +kernel
theorem dX11_count_163 : decode cX11_count 163 = .ok (.aload_n 0, 1) := by decide +kernel
theorem dX11_count_164 : decode cX11_count 164 = .ok (.getfield 279, 3) := by decide +kernel
theorem dX11_count_167 : decode cX11_count 167 = .ok (.ireturn, 1) := by decide +kernel
theorem dX11_count_168 : decode cX11_count 168 = .ok (.aload_n 0, 1) := by decide +kernel
theorem dX11_count_169 : decode cX11_count 169 = .ok (.getfield 283, 3) := by decide +kernel
theorem dX11_count_172 : decode cX11_count 172 = .ok (.ireturn, 1) := by decide +kernel
theorem dX11_count_173 : decode cX11_count 173 = .ok (.aload_n 0, 1) := by decide +kernel
theorem dX11_count_174 : decode cX11_count 174 = .ok (.getfield 295, 3) := by decide +kernel
theorem dX11_count_177 : decode cX11_count 177 = .ok (.ireturn, 1) := by decide +kernel
theorem dX11_count_178 : decode cX11_count 178 = .ok (.aload_n 0, 1) := by decide +kernel
theorem dX11_count_179 : decode cX11_count 179 = .ok (.getfield 301, 3) := by decide +kernel
theorem dX11_count_182 : decode cX11_count 182 = .ok (.ireturn, 1) := by decide +kernel
theorem dX11_count_183 : decode cX11_count 183 = .ok (.aload_n 0, 1) := by decide +kernel
theorem dX11_count_184 : decode cX11_count 184 = .ok (.getfield 318, 3) := by decide +kernel
theorem dX11_count_187 : decode cX11_count 187 = .ok (.ireturn, 1) := by decide +kernel
theorem dX11_count_188 : decode cX11_count 188 = .ok (.aload_n 0, 1) := by decide +kernel
theorem dX11_count_189 : decode cX11_count 189 = .ok (.getfield 86, 3) := by decide +kernel
theorem dX11_count_192 : decode cX11_count 192 = .ok (.ireturn, 1) := by decide +kernel
theorem dX11_count_193 : decode cX11_count 193 = .ok (.iload_n 1, 1) := by decide +kernel
theorem dX11_count_194 : decode cX11_count 194 = .ok (.bipush 9, 2) := by decide +kernel
theorem dX11_count_196 : decode cX11_count 196 = .ok (.if_icmp .eq 9, 3) := by decide +kernel
theorem dX11_count_199 : decode cX11_count 199 = .ok (.iload_n 1, 1) := by decide +kernel
theorem dX11_count_200 : decode cX11_count 200 = .ok (.bipush 10, 2) := by decide +kernel
theorem dX11_count_202 : decode cX11_count 202 = .ok (.if_icmp .ne 7, 3) := by decide +kernel
theorem dX11_count_205 : decode cX11_count 205 = .ok (.iload_n 2, 1) := by decide +kernel
theorem dX11_count_206 : decode cX11_count 206 = .ok (.goto 4, 3) := by decide +kernel
theorem dX11_count_209 : decode cX11_count 209 = .ok (.iconst (-1), 1) := by decide +kernel
theorem dX11_count_210 : decode cX11_count 210 = .ok (.ireturn, 1) := by decide +kernel

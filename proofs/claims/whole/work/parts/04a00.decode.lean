theorem dX0_init_0 : decode cX0_init 0 = .ok (.aload_n 0, 1) := by decide +kernel
theorem dX0_init_1 : decode cX0_init 1 = .ok (.invokespecial 1, 3) := by decide +kernel
theorem dX0_init_4 : decode cX0_init 4 = .ok (.aload_n 0, 1) := by decide +kernel
theorem dX0_init_5 : decode cX0_init 5 = .ok (.new 7, 3) := by decide +kernel
theorem dX0_init_8 : decode cX0_init 8 = .ok (.dup, 1) := by decide +kernel
theorem dX0_init_9 : decode cX0_init 9 = .ok (.bipush 6, 2) := by decide +kernel
theorem dX0_init_11 : decode cX0_init 11 = .ok (.invokespecial 11, 3) := by decide +kernel
theorem dX0_init_14 : decode cX0_init 14 = .ok (.putfield 14, 3) := by decide +kernel
theorem dX0_init_17 : decode cX0_init 17 = .ok (.aload_n 0, 1) := by decide +kernel
theorem dX0_init_18 : decode cX0_init 18 = .ok (.new 7, 3) := by decide +kernel
theorem dX0_init_21 : decode cX0_init 21 = .ok (.dup, 1) := by decide +kernel
theorem dX0_init_22 : decode cX0_init 22 = .ok (.bipush 60, 2) := by decide +kernel
theorem dX0_init_24 : decode cX0_init 24 = .ok (.invokespecial 11, 3) := by decide +kernel
theorem dX0_init_27 : decode cX0_init 27 = .ok (.putfield 18, 3) := by decide +kernel
theorem dX0_init_30 : decode cX0_init 30 = .ok (.return_, 1) := by decide +kernel
theorem dX0_add_0 : decode cX0_add 0 = .ok (.aload_n 0, 1) := by decide +kernel
theorem dX0_add_1 : decode cX0_add 1 = .ok (.getfield 21, 3) := by decide +kernel
theorem dX0_add_4 : decode cX0_add 4 = .ok (.bipush 6, 2) := by decide +kernel
theorem dX0_add_6 : decode cX0_add 6 = .ok (.if_icmp .lt 5, 3) := by decide +kernel
theorem dX0_add_9 : decode cX0_add 9 = .ok (.iconst (-1), 1) := by decide +kernel
theorem dX0_add_10 : decode cX0_add 10 = .ok (.ireturn, 1) := by decide +kernel
theorem dX0_add_11 : decode cX0_add 11 = .ok (.aload_n 0, 1) := by decide +kernel
theorem dX0_add_12 : decode cX0_add 12 = .ok (.getfield 14, 3) := by decide +kernel
theorem dX0_add_15 : decode cX0_add 15 = .ok (.aload_n 0, 1) := by decide +kernel
theorem dX0_add_16 : decode cX0_add 16 = .ok (.getfield 21, 3) := by decide +kernel
theorem dX0_add_19 : decode cX0_add 19 = .ok (.iload_n 1, 1) := by decide +kernel
theorem dX0_add_20 : decode cX0_add 20 = .ok (.invokevirtual 25, 3) := by decide +kernel
theorem dX0_add_23 : decode cX0_add 23 = .ok (.iconst 0, 1) := by decide +kernel
theorem dX0_add_24 : decode cX0_add 24 = .ok (.istore_n 2, 1) := by decide +kernel
theorem dX0_add_25 : decode cX0_add 25 = .ok (.iload_n 2, 1) := by decide +kernel
theorem dX0_add_26 : decode cX0_add 26 = .ok (.bipush 10, 2) := by decide +kernel
theorem dX0_add_28 : decode cX0_add 28 = .ok (.if_icmp .ge 26, 3) := by decide +kernel
theorem dX0_add_31 : decode cX0_add 31 = .ok (.aload_n 0, 1) := by decide +kernel
theorem dX0_add_32 : decode cX0_add 32 = .ok (.getfield 18, 3) := by decide +kernel
theorem dX0_add_35 : decode cX0_add 35 = .ok (.aload_n 0, 1) := by decide +kernel
theorem dX0_add_36 : decode cX0_add 36 = .ok (.getfield 21, 3) := by decide +kernel
theorem dX0_add_39 : decode cX0_add 39 = .ok (.bipush 10, 2) := by decide +kernel
theorem dX0_add_41 : decode cX0_add 41 = .ok (.imul, 1) := by decide +kernel
theorem dX0_add_42 : decode cX0_add 42 = .ok (.iload_n 2, 1) := by decide +kernel
theorem dX0_add_43 : decode cX0_add 43 = .ok (.iadd, 1) := by decide +kernel
theorem dX0_add_44 : decode cX0_add 44 = .ok (.iconst 0, 1) := by decide +kernel
theorem dX0_add_45 : decode cX0_add 45 = .ok (.invokevirtual 25, 3) := by decide +kernel
theorem dX0_add_48 : decode cX0_add 48 = .ok (.iinc 2 1, 3) := by decide +kernel
theorem dX0_add_51 : decode cX0_add 51 = .ok (.goto (-26), 3) := by decide +kernel
theorem dX0_add_54 : decode cX0_add 54 = .ok (.aload_n 0, 1) := by decide +kernel
theorem dX0_add_55 : decode cX0_add 55 = .ok (.dup, 1) := by decide +kernel
theorem dX0_add_56 : decode cX0_add 56 = .ok (.getfield 21, 3) := by decide +kernel
theorem dX0_add_59 : decode cX0_add 59 = .ok (.iconst 1, 1) := by decide +kernel
theorem dX0_add_60 : decode cX0_add 60 = .ok (.iadd, 1) := by decide +kernel
theorem dX0_add_61 : decode cX0_add 61 = .ok (.putfield 21, 3) := by decide +kernel
theorem dX0_add_64 : decode cX0_add 64 = .ok (.aload_n 0, 1) := by decide +kernel
theorem dX0_add_65 : decode cX0_add 65 = .ok (.getfield 21, 3) := by decide +kernel
theorem dX0_add_68 : decode cX0_add 68 = .ok (.iconst 1, 1) := by decide +kernel
theorem dX0_add_69 : decode cX0_add 69 = .ok (.isub, 1) := by decide +kernel
theorem dX0_add_70 : decode cX0_add 70 = .ok (.ireturn, 1) := by decide +kernel
theorem dX0_change_0 : decode cX0_change 0 = .ok (.aload_n 0, 1) := by decide +kernel
theorem dX0_change_1 : decode cX0_change 1 = .ok (.getfield 18, 3) := by decide +kernel
theorem dX0_change_4 : decode cX0_change 4 = .ok (.iload_n 1, 1) := by decide +kernel
theorem dX0_change_5 : decode cX0_change 5 = .ok (.bipush 10, 2) := by decide +kernel
theorem dX0_change_7 : decode cX0_change 7 = .ok (.imul, 1) := by decide +kernel
theorem dX0_change_8 : decode cX0_change 8 = .ok (.iload_n 2, 1) := by decide +kernel
theorem dX0_change_9 : decode cX0_change 9 = .ok (.iadd, 1) := by decide +kernel
theorem dX0_change_10 : decode cX0_change 10 = .ok (.invokevirtual 29, 3) := by decide +kernel
theorem dX0_change_13 : decode cX0_change 13 = .ok (.istore 4, 2) := by decide +kernel
theorem dX0_change_15 : decode cX0_change 15 = .ok (.aload_n 0, 1) := by decide +kernel
theorem dX0_change_16 : decode cX0_change 16 = .ok (.getfield 18, 3) := by decide +kernel
theorem dX0_change_19 : decode cX0_change 19 = .ok (.iload_n 1, 1) := by decide +kernel
theorem dX0_change_20 : decode cX0_change 20 = .ok (.bipush 10, 2) := by decide +kernel
theorem dX0_change_22 : decode cX0_change 22 = .ok (.imul, 1) := by decide +kernel
theorem dX0_change_23 : decode cX0_change 23 = .ok (.iload_n 2, 1) := by decide +kernel
theorem dX0_change_24 : decode cX0_change 24 = .ok (.iadd, 1) := by decide +kernel
theorem dX0_change_25 : decode cX0_change 25 = .ok (.iload_n 3, 1) := by decide +kernel
theorem dX0_change_26 : decode cX0_change 26 = .ok (.invokevirtual 25, 3) := by decide +kernel
theorem dX0_change_29 : decode cX0_change 29 = .ok (.iload 4, 2) := by decide +kernel
theorem dX0_change_31 : decode cX0_change 31 = .ok (.ireturn, 1) := by decide +kernel
theorem dX0_hoursOf_0 : decode cX0_hoursOf 0 = .ok (.iconst 0, 1) := by decide +kernel
theorem dX0_hoursOf_1 : decode cX0_hoursOf 1 = .ok (.istore_n 2, 1) := by decide +kernel
theorem dX0_hoursOf_2 : decode cX0_hoursOf 2 = .ok (.iconst 0, 1) := by decide +kernel
theorem dX0_hoursOf_3 : decode cX0_hoursOf 3 = .ok (.istore_n 3, 1) := by decide +kernel
theorem dX0_hoursOf_4 : decode cX0_hoursOf 4 = .ok (.iload_n 3, 1) := by decide +kernel
theorem dX0_hoursOf_5 : decode cX0_hoursOf 5 = .ok (.bipush 10, 2) := by decide +kernel
theorem dX0_hoursOf_7 : decode cX0_hoursOf 7 = .ok (.if_icmp .ge 40, 3) := by decide +kernel
theorem dX0_hoursOf_10 : decode cX0_hoursOf 10 = .ok (.iload_n 3, 1) := by decide +kernel
theorem dX0_hoursOf_11 : decode cX0_hoursOf 11 = .ok (.bipush 6, 2) := by decide +kernel
theorem dX0_hoursOf_13 : decode cX0_hoursOf 13 = .ok (.imul, 1) := by decide +kernel
theorem dX0_hoursOf_14 : decode cX0_hoursOf 14 = .ok (.aload_n 0, 1) := by decide +kernel
theorem dX0_hoursOf_15 : decode cX0_hoursOf 15 = .ok (.getfield 14, 3) := by decide +kernel
theorem dX0_hoursOf_18 : decode cX0_hoursOf 18 = .ok (.iload_n 1, 1) := by decide +kernel
theorem dX0_hoursOf_19 : decode cX0_hoursOf 19 = .ok (.invokevirtual 29, 3) := by decide +kernel
theorem dX0_hoursOf_22 : decode cX0_hoursOf 22 = .ok (.if_icmp .lt 19, 3) := by decide +kernel
theorem dX0_hoursOf_25 : decode cX0_hoursOf 25 = .ok (.iload_n 2, 1) := by decide +kernel
theorem dX0_hoursOf_26 : decode cX0_hoursOf 26 = .ok (.aload_n 0, 1) := by decide +kernel
theorem dX0_hoursOf_27 : decode cX0_hoursOf 27 = .ok (.getfield 18, 3) := by decide +kernel
theorem dX0_hoursOf_30 : decode cX0_hoursOf 30 = .ok (.iload_n 1, 1) := by decide +kernel
theorem dX0_hoursOf_31 : decode cX0_hoursOf 31 = .ok (.bipush 10, 2) := by decide +kernel
theorem dX0_hoursOf_33 : decode cX0_hoursOf 33 = .ok (.imul, 1) := by decide +kernel
theorem dX0_hoursOf_34 : decode cX0_hoursOf 34 = .ok (.iload_n 3, 1) := by decide +kernel
theorem dX0_hoursOf_35 : decode cX0_hoursOf 35 = .ok (.iadd, 1) := by decide +kernel
theorem dX0_hoursOf_36 : decode cX0_hoursOf 36 = .ok (.invokevirtual 29, 3) := by decide +kernel
theorem dX0_hoursOf_39 : decode cX0_hoursOf 39 = .ok (.iadd, 1) := by decide +kernel
theorem dX0_hoursOf_40 : decode cX0_hoursOf 40 = .ok (.istore_n 2, 1) := by decide +kernel
theorem dX0_hoursOf_41 : decode cX0_hoursOf 41 = .ok (.iinc 3 1, 3) := by decide +kernel
theorem dX0_hoursOf_44 : decode cX0_hoursOf 44 = .ok (.goto (-40), 3) := by decide +kernel
theorem dX0_hoursOf_47 : decode cX0_hoursOf 47 = .ok (.iload_n 2, 1) := by decide +kernel
theorem dX0_hoursOf_48 : decode cX0_hoursOf 48 = .ok (.ireturn, 1) := by decide +kernel
theorem dX0_copy_0 : decode cX0_copy 0 = .ok (.aload_n 0, 1) := by decide +kernel
theorem dX0_copy_1 : decode cX0_copy 1 = .ok (.aload_n 1, 1) := by decide +kernel
theorem dX0_copy_2 : decode cX0_copy 2 = .ok (.getfield 21, 3) := by decide +kernel
theorem dX0_copy_5 : decode cX0_copy 5 = .ok (.putfield 21, 3) := by decide +kernel
theorem dX0_copy_8 : decode cX0_copy 8 = .ok (.aload_n 0, 1) := by decide +kernel
theorem dX0_copy_9 : decode cX0_copy 9 = .ok (.getfield 14, 3) := by decide +kernel
theorem dX0_copy_12 : decode cX0_copy 12 = .ok (.aload_n 1, 1) := by decide +kernel
theorem dX0_copy_13 : decode cX0_copy 13 = .ok (.getfield 14, 3) := by decide +kernel
theorem dX0_copy_16 : decode cX0_copy 16 = .ok (.invokevirtual 33, 3) := by decide +kernel
theorem dX0_copy_19 : decode cX0_copy 19 = .ok (.aload_n 0, 1) := by decide +kernel
theorem dX0_copy_20 : decode cX0_copy 20 = .ok (.getfield 18, 3) := by decide +kernel
theorem dX0_copy_23 : decode cX0_copy 23 = .ok (.aload_n 1, 1) := by decide +kernel
theorem dX0_copy_24 : decode cX0_copy 24 = .ok (.getfield 18, 3) := by decide +kernel
theorem dX0_copy_27 : decode cX0_copy 27 = .ok (.invokevirtual 33, 3) := by decide +kernel
theorem dX0_copy_30 : decode cX0_copy 30 = .ok (.return_, 1) := by decide +kernel
theorem dX1_init_0 : decode cX1_init 0 = .ok (.aload_n 0, 1) := by decide +kernel
theorem dX1_init_1 : decode cX1_init 1 = .ok (.invokespecial 3, 3) := by decide +kernel
theorem dX1_init_4 : decode cX1_init 4 = .ok (.aload_n 0, 1) := by decide +kernel
theorem dX1_init_5 : decode cX1_init 5 = .ok (.new 9, 3) := by decide +kernel
theorem dX1_init_8 : decode cX1_init 8 = .ok (.dup, 1) := by decide +kernel
theorem dX1_init_9 : decode cX1_init 9 = .ok (.bipush 10, 2) := by decide +kernel
theorem dX1_init_11 : decode cX1_init 11 = .ok (.invokespecial 11, 3) := by decide +kernel
theorem dX1_init_14 : decode cX1_init 14 = .ok (.putfield 14, 3) := by decide +kernel
theorem dX1_init_17 : decode cX1_init 17 = .ok (.aload_n 0, 1) := by decide +kernel
theorem dX1_init_18 : decode cX1_init 18 = .ok (.new 9, 3) := by decide +kernel
theorem dX1_init_21 : decode cX1_init 21 = .ok (.dup, 1) := by decide +kernel
theorem dX1_init_22 : decode cX1_init 22 = .ok (.bipush 8, 2) := by decide +kernel
theorem dX1_init_24 : decode cX1_init 24 = .ok (.invokespecial 11, 3) := by decide +kernel
theorem dX1_init_27 : decode cX1_init 27 = .ok (.putfield 20, 3) := by decide +kernel
theorem dX1_init_30 : decode cX1_init 30 = .ok (.aload_n 0, 1) := by decide +kernel
theorem dX1_init_31 : decode cX1_init 31 = .ok (.new 9, 3) := by decide +kernel
theorem dX1_init_34 : decode cX1_init 34 = .ok (.dup, 1) := by decide +kernel
theorem dX1_init_35 : decode cX1_init 35 = .ok (.bipush 8, 2) := by decide +kernel
theorem dX1_init_37 : decode cX1_init 37 = .ok (.invokespecial 11, 3) := by decide +kernel
theorem dX1_init_40 : decode cX1_init 40 = .ok (.putfield 23, 3) := by decide +kernel
theorem dX1_init_43 : decode cX1_init 43 = .ok (.aload_n 0, 1) := by decide +kernel
theorem dX1_init_44 : decode cX1_init 44 = .ok (.new 9, 3) := by decide +kernel
theorem dX1_init_47 : decode cX1_init 47 = .ok (.dup, 1) := by decide +kernel
theorem dX1_init_48 : decode cX1_init 48 = .ok (.bipush 8, 2) := by decide +kernel
theorem dX1_init_50 : decode cX1_init 50 = .ok (.invokespecial 11, 3) := by decide +kernel
theorem dX1_init_53 : decode cX1_init 53 = .ok (.putfield 26, 3) := by decide +kernel
theorem dX1_init_56 : decode cX1_init 56 = .ok (.aload_n 0, 1) := by decide +kernel
theorem dX1_init_57 : decode cX1_init 57 = .ok (.new 9, 3) := by decide +kernel
theorem dX1_init_60 : decode cX1_init 60 = .ok (.dup, 1) := by decide +kernel
theorem dX1_init_61 : decode cX1_init 61 = .ok (.bipush 8, 2) := by decide +kernel
theorem dX1_init_63 : decode cX1_init 63 = .ok (.invokespecial 11, 3) := by decide +kernel
theorem dX1_init_66 : decode cX1_init 66 = .ok (.putfield 29, 3) := by decide +kernel
theorem dX1_init_69 : decode cX1_init 69 = .ok (.aload_n 0, 1) := by decide +kernel
theorem dX1_init_70 : decode cX1_init 70 = .ok (.new 9, 3) := by decide +kernel
theorem dX1_init_73 : decode cX1_init 73 = .ok (.dup, 1) := by decide +kernel
theorem dX1_init_74 : decode cX1_init 74 = .ok (.bipush 8, 2) := by decide +kernel
theorem dX1_init_76 : decode cX1_init 76 = .ok (.invokespecial 11, 3) := by decide +kernel
theorem dX1_init_79 : decode cX1_init 79 = .ok (.putfield 32, 3) := by decide +kernel
theorem dX1_init_82 : decode cX1_init 82 = .ok (.aload_n 0, 1) := by decide +kernel
theorem dX1_init_83 : decode cX1_init 83 = .ok (.new 9, 3) := by decide +kernel
theorem dX1_init_86 : decode cX1_init 86 = .ok (.dup, 1) := by decide +kernel
theorem dX1_init_87 : decode cX1_init 87 = .ok (.bipush 8, 2) := by decide +kernel
theorem dX1_init_89 : decode cX1_init 89 = .ok (.invokespecial 11, 3) := by decide +kernel
theorem dX1_init_92 : decode cX1_init 92 = .ok (.putfield 35, 3) := by decide +kernel
theorem dX1_init_95 : decode cX1_init 95 = .ok (.aload_n 0, 1) := by decide +kernel
theorem dX1_init_96 : decode cX1_init 96 = .ok (.new 9, 3) := by decide +kernel
theorem dX1_init_99 : decode cX1_init 99 = .ok (.dup, 1) := by decide +kernel
theorem dX1_init_100 : decode cX1_init 100 = .ok (.bipush 9, 2) := by decide +kernel
theorem dX1_init_102 : decode cX1_init 102 = .ok (.invokespecial 11, 3) := by decide +kernel
theorem dX1_init_105 : decode cX1_init 105 = .ok (.putfield 38, 3) := by decide +kernel
theorem dX1_init_108 : decode cX1_init 108 = .ok (.iconst 0, 1) := by decide +kernel
theorem dX1_init_109 : decode cX1_init 109 = .ok (.istore_n 1, 1) := by decide +kernel
theorem dX1_init_110 : decode cX1_init 110 = .ok (.iload_n 1, 1) := by decide +kernel
theorem dX1_init_111 : decode cX1_init 111 = .ok (.getstatic 41, 3) := by decide +kernel
theorem dX1_init_114 : decode cX1_init 114 = .ok (.arraylength, 1) := by decide +kernel
theorem dX1_init_115 : decode cX1_init 115 = .ok (.if_icmp .ge 22, 3) := by decide +kernel
theorem dX1_init_118 : decode cX1_init 118 = .ok (.aload_n 0, 1) := by decide +kernel
theorem dX1_init_119 : decode cX1_init 119 = .ok (.getfield 14, 3) := by decide +kernel
theorem dX1_init_122 : decode cX1_init 122 = .ok (.iload_n 1, 1) := by decide +kernel
theorem dX1_init_123 : decode cX1_init 123 = .ok (.getstatic 41, 3) := by decide +kernel
theorem dX1_init_126 : decode cX1_init 126 = .ok (.iload_n 1, 1) := by decide +kernel
theorem dX1_init_127 : decode cX1_init 127 = .ok (.iaload, 1) := by decide +kernel
theorem dX1_init_128 : decode cX1_init 128 = .ok (.invokevirtual 45, 3) := by decide +kernel
theorem dX1_init_131 : decode cX1_init 131 = .ok (.iinc 1 1, 3) := by decide +kernel
theorem dX1_init_134 : decode cX1_init 134 = .ok (.goto (-24), 3) := by decide +kernel
theorem dX1_init_137 : decode cX1_init 137 = .ok (.aload_n 0, 1) := by decide +kernel
theorem dX1_init_138 : decode cX1_init 138 = .ok (.iconst 4, 1) := by decide +kernel
theorem dX1_init_139 : decode cX1_init 139 = .ok (.invokevirtual 49, 3) := by decide +kernel
theorem dX1_init_142 : decode cX1_init 142 = .ok (.return_, 1) := by decide +kernel
theorem dX1_lay_0 : decode cX1_lay 0 = .ok (.aload_n 0, 1) := by decide +kernel
theorem dX1_lay_1 : decode cX1_lay 1 = .ok (.iload_n 1, 1) := by decide +kernel
theorem dX1_lay_2 : decode cX1_lay 2 = .ok (.putfield 52, 3) := by decide +kernel
theorem dX1_lay_5 : decode cX1_lay 5 = .ok (.aload_n 0, 1) := by decide +kernel
theorem dX1_lay_6 : decode cX1_lay 6 = .ok (.iconst 0, 1) := by decide +kernel
theorem dX1_lay_7 : decode cX1_lay 7 = .ok (.putfield 56, 3) := by decide +kernel
theorem dX1_lay_10 : decode cX1_lay 10 = .ok (.aload_n 0, 1) := by decide +kernel
theorem dX1_lay_11 : decode cX1_lay 11 = .ok (.invokevirtual 59, 3) := by decide +kernel
theorem dX1_lay_14 : decode cX1_lay 14 = .ok (.aload_n 0, 1) := by decide +kernel
theorem dX1_lay_15 : decode cX1_lay 15 = .ok (.getfield 32, 3) := by decide +kernel
theorem dX1_lay_18 : decode cX1_lay 18 = .ok (.iconst 2, 1) := by decide +kernel
theorem dX1_lay_19 : decode cX1_lay 19 = .ok (.invokevirtual 62, 3) := by decide +kernel
theorem dX1_lay_22 : decode cX1_lay 22 = .ok (.aload_n 0, 1) := by decide +kernel
theorem dX1_lay_23 : decode cX1_lay 23 = .ok (.getfield 35, 3) := by decide +kernel
theorem dX1_lay_26 : decode cX1_lay 26 = .ok (.iconst 0, 1) := by decide +kernel
theorem dX1_lay_27 : decode cX1_lay 27 = .ok (.invokevirtual 62, 3) := by decide +kernel
theorem dX1_lay_30 : decode cX1_lay 30 = .ok (.return_, 1) := by decide +kernel
theorem dX1_copy_0 : decode cX1_copy 0 = .ok (.aload_n 0, 1) := by decide +kernel
theorem dX1_copy_1 : decode cX1_copy 1 = .ok (.aload_n 1, 1) := by decide +kernel
theorem dX1_copy_2 : decode cX1_copy 2 = .ok (.getfield 52, 3) := by decide +kernel
theorem dX1_copy_5 : decode cX1_copy 5 = .ok (.putfield 52, 3) := by decide +kernel
theorem dX1_copy_8 : decode cX1_copy 8 = .ok (.aload_n 0, 1) := by decide +kernel
theorem dX1_copy_9 : decode cX1_copy 9 = .ok (.aload_n 1, 1) := by decide +kernel
theorem dX1_copy_10 : decode cX1_copy 10 = .ok (.getfield 56, 3) := by decide +kernel
theorem dX1_copy_13 : decode cX1_copy 13 = .ok (.putfield 56, 3) := by decide +kernel
theorem dX1_copy_16 : decode cX1_copy 16 = .ok (.aload_n 0, 1) := by decide +kernel
theorem dX1_copy_17 : decode cX1_copy 17 = .ok (.getfield 14, 3) := by decide +kernel
theorem dX1_copy_20 : decode cX1_copy 20 = .ok (.aload_n 1, 1) := by decide +kernel
theorem dX1_copy_21 : decode cX1_copy 21 = .ok (.getfield 14, 3) := by decide +kernel
theorem dX1_copy_24 : decode cX1_copy 24 = .ok (.invokevirtual 65, 3) := by decide +kernel
theorem dX1_copy_27 : decode cX1_copy 27 = .ok (.aload_n 0, 1) := by decide +kernel
theorem dX1_copy_28 : decode cX1_copy 28 = .ok (.getfield 20, 3) := by decide +kernel
theorem dX1_copy_31 : decode cX1_copy 31 = .ok (.aload_n 1, 1) := by decide +kernel
theorem dX1_copy_32 : decode cX1_copy 32 = .ok (.getfield 20, 3) := by decide +kernel
theorem dX1_copy_35 : decode cX1_copy 35 = .ok (.invokevirtual 65, 3) := by decide +kernel
theorem dX1_copy_38 : decode cX1_copy 38 = .ok (.aload_n 0, 1) := by decide +kernel
theorem dX1_copy_39 : decode cX1_copy 39 = .ok (.getfield 23, 3) := by decide +kernel
theorem dX1_copy_42 : decode cX1_copy 42 = .ok (.aload_n 1, 1) := by decide +kernel
theorem dX1_copy_43 : decode cX1_copy 43 = .ok (.getfield 23, 3) := by decide +kernel
theorem dX1_copy_46 : decode cX1_copy 46 = .ok (.invokevirtual 65, 3) := by decide +kernel
theorem dX1_copy_49 : decode cX1_copy 49 = .ok (.aload_n 0, 1) := by decide +kernel
theorem dX1_copy_50 : decode cX1_copy 50 = .ok (.getfield 26, 3) := by decide +kernel
theorem dX1_copy_53 : decode cX1_copy 53 = .ok (.aload_n 1, 1) := by decide +kernel
theorem dX1_copy_54 : decode cX1_copy 54 = .ok (.getfield 26, 3) := by decide +kernel
theorem dX1_copy_57 : decode cX1_copy 57 = .ok (.invokevirtual 65, 3) := by decide +kernel
theorem dX1_copy_60 : decode cX1_copy 60 = .ok (.aload_n 0, 1) := by decide +kernel
theorem dX1_copy_61 : decode cX1_copy 61 = .ok (.getfield 29, 3) := by decide +kernel
theorem dX1_copy_64 : decode cX1_copy 64 = .ok (.aload_n 1, 1) := by decide +kernel
theorem dX1_copy_65 : decode cX1_copy 65 = .ok (.getfield 29, 3) := by decide +kernel
theorem dX1_copy_68 : decode cX1_copy 68 = .ok (.invokevirtual 65, 3) := by decide +kernel
theorem dX1_copy_71 : decode cX1_copy 71 = .ok (.aload_n 0, 1) := by decide +kernel
theorem dX1_copy_72 : decode cX1_copy 72 = .ok (.getfield 32, 3) := by decide +kernel
theorem dX1_copy_75 : decode cX1_copy 75 = .ok (.aload_n 1, 1) := by decide +kernel
theorem dX1_copy_76 : decode cX1_copy 76 = .ok (.getfield 32, 3) := by decide +kernel
theorem dX1_copy_79 : decode cX1_copy 79 = .ok (.invokevirtual 65, 3) := by decide +kernel
theorem dX1_copy_82 : decode cX1_copy 82 = .ok (.aload_n 0, 1) := by decide +kernel
theorem dX1_copy_83 : decode cX1_copy 83 = .ok (.getfield 35, 3) := by decide +kernel
theorem dX1_copy_86 : decode cX1_copy 86 = .ok (.aload_n 1, 1) := by decide +kernel
theorem dX1_copy_87 : decode cX1_copy 87 = .ok (.getfield 35, 3) := by decide +kernel
theorem dX1_copy_90 : decode cX1_copy 90 = .ok (.invokevirtual 65, 3) := by decide +kernel
theorem dX1_copy_93 : decode cX1_copy 93 = .ok (.return_, 1) := by decide +kernel
theorem dX1_begin_0 : decode cX1_begin 0 = .ok (.iconst 0, 1) := by decide +kernel
theorem dX1_begin_1 : decode cX1_begin 1 = .ok (.istore 4, 2) := by decide +kernel
theorem dX1_begin_3 : decode cX1_begin 3 = .ok (.iload 4, 2) := by decide +kernel
theorem dX1_begin_5 : decode cX1_begin 5 = .ok (.aload_n 0, 1) := by decide +kernel
theorem dX1_begin_6 : decode cX1_begin 6 = .ok (.getfield 52, 3) := by decide +kernel
theorem dX1_begin_9 : decode cX1_begin 9 = .ok (.if_icmp .ge 32, 3) := by decide +kernel
theorem dX1_begin_12 : decode cX1_begin 12 = .ok (.aload_n 0, 1) := by decide +kernel
theorem dX1_begin_13 : decode cX1_begin 13 = .ok (.getfield 32, 3) := by decide +kernel
theorem dX1_begin_16 : decode cX1_begin 16 = .ok (.iload 4, 2) := by decide +kernel
theorem dX1_begin_18 : decode cX1_begin 18 = .ok (.invokevirtual 69, 3) := by decide +kernel
theorem dX1_begin_21 : decode cX1_begin 21 = .ok (.iconst 1, 1) := by decide +kernel
theorem dX1_begin_22 : decode cX1_begin 22 = .ok (.if_icmp .ne 13, 3) := by decide +kernel
theorem dX1_begin_25 : decode cX1_begin 25 = .ok (.aload_n 0, 1) := by decide +kernel
theorem dX1_begin_26 : decode cX1_begin 26 = .ok (.getfield 32, 3) := by decide +kernel
theorem dX1_begin_29 : decode cX1_begin 29 = .ok (.iload 4, 2) := by decide +kernel
theorem dX1_begin_31 : decode cX1_begin 31 = .ok (.iconst 2, 1) := by decide +kernel
theorem dX1_begin_32 : decode cX1_begin 32 = .ok (.invokevirtual 45, 3) := by decide +kernel
theorem dX1_begin_35 : decode cX1_begin 35 = .ok (.iinc 4 1, 3) := by decide +kernel
theorem dX1_begin_38 : decode cX1_begin 38 = .ok (.goto (-35), 3) := by decide +kernel
theorem dX1_begin_41 : decode cX1_begin 41 = .ok (.aload_n 0, 1) := by decide +kernel
theorem dX1_begin_42 : decode cX1_begin 42 = .ok (.getfield 35, 3) := by decide +kernel
theorem dX1_begin_45 : decode cX1_begin 45 = .ok (.iconst 0, 1) := by decide +kernel
theorem dX1_begin_46 : decode cX1_begin 46 = .ok (.invokevirtual 62, 3) := by decide +kernel
theorem dX1_begin_49 : decode cX1_begin 49 = .ok (.aload_n 0, 1) := by decide +kernel
theorem dX1_begin_50 : decode cX1_begin 50 = .ok (.iconst 0, 1) := by decide +kernel
theorem dX1_begin_51 : decode cX1_begin 51 = .ok (.putfield 56, 3) := by decide +kernel
theorem dX1_begin_54 : decode cX1_begin 54 = .ok (.aload_n 0, 1) := by decide +kernel
theorem dX1_begin_55 : decode cX1_begin 55 = .ok (.iload_n 1, 1) := by decide +kernel
theorem dX1_begin_56 : decode cX1_begin 56 = .ok (.iload_n 2, 1) := by decide +kernel
theorem dX1_begin_57 : decode cX1_begin 57 = .ok (.iload_n 3, 1) := by decide +kernel
theorem dX1_begin_58 : decode cX1_begin 58 = .ok (.invokevirtual 73, 3) := by decide +kernel
theorem dX1_begin_61 : decode cX1_begin 61 = .ok (.return_, 1) := by decide +kernel
theorem dX1_dropStays_0 : decode cX1_dropStays 0 = .ok (.aload_n 0, 1) := by decide +kernel
theorem dX1_dropStays_1 : decode cX1_dropStays 1 = .ok (.getfield 32, 3) := by decide +kernel
theorem dX1_dropStays_4 : decode cX1_dropStays 4 = .ok (.iconst 0, 1) := by decide +kernel
theorem dX1_dropStays_5 : decode cX1_dropStays 5 = .ok (.invokevirtual 62, 3) := by decide +kernel
theorem dX1_dropStays_8 : decode cX1_dropStays 8 = .ok (.return_, 1) := by decide +kernel
theorem dX1_takeShape_0 : decode cX1_takeShape 0 = .ok (.aload_n 0, 1) := by decide +kernel
theorem dX1_takeShape_1 : decode cX1_takeShape 1 = .ok (.invokevirtual 59, 3) := by decide +kernel
theorem dX1_takeShape_4 : decode cX1_takeShape 4 = .ok (.iload_n 1, 1) := by decide +kernel
theorem dX1_takeShape_5 : decode cX1_takeShape 5 = .ok (.ifCond .ne 10, 3) := by decide +kernel
theorem dX1_takeShape_8 : decode cX1_takeShape 8 = .ok (.aload_n 0, 1) := by decide +kernel
theorem dX1_takeShape_9 : decode cX1_takeShape 9 = .ok (.getfield 20, 3) := by decide +kernel
theorem dX1_takeShape_12 : decode cX1_takeShape 12 = .ok (.goto 7, 3) := by decide +kernel
theorem dX1_takeShape_15 : decode cX1_takeShape 15 = .ok (.aload_n 0, 1) := by decide +kernel
theorem dX1_takeShape_16 : decode cX1_takeShape 16 = .ok (.getfield 23, 3) := by decide +kernel
theorem dX1_takeShape_19 : decode cX1_takeShape 19 = .ok (.astore 4, 2) := by decide +kernel
theorem dX1_takeShape_21 : decode cX1_takeShape 21 = .ok (.iconst 0, 1) := by decide +kernel
theorem dX1_takeShape_22 : decode cX1_takeShape 22 = .ok (.istore 5, 2) := by decide +kernel
theorem dX1_takeShape_24 : decode cX1_takeShape 24 = .ok (.iload 5, 2) := by decide +kernel
theorem dX1_takeShape_26 : decode cX1_takeShape 26 = .ok (.aload_n 0, 1) := by decide +kernel
theorem dX1_takeShape_27 : decode cX1_takeShape 27 = .ok (.getfield 52, 3) := by decide +kernel
theorem dX1_takeShape_30 : decode cX1_takeShape 30 = .ok (.if_icmp .ge 44, 3) := by decide +kernel
theorem dX1_takeShape_33 : decode cX1_takeShape 33 = .ok (.iload 5, 2) := by decide +kernel
theorem dX1_takeShape_35 : decode cX1_takeShape 35 = .ok (.iload_n 2, 1) := by decide +kernel
theorem dX1_takeShape_36 : decode cX1_takeShape 36 = .ok (.imul, 1) := by decide +kernel
theorem dX1_takeShape_37 : decode cX1_takeShape 37 = .ok (.iconst 1, 1) := by decide +kernel
theorem dX1_takeShape_38 : decode cX1_takeShape 38 = .ok (.aload_n 0, 1) := by decide +kernel
theorem dX1_takeShape_39 : decode cX1_takeShape 39 = .ok (.getfield 52, 3) := by decide +kernel
theorem dX1_takeShape_42 : decode cX1_takeShape 42 = .ok (.invokestatic 77, 3) := by decide +kernel
theorem dX1_takeShape_45 : decode cX1_takeShape 45 = .ok (.idiv, 1) := by decide +kernel
theorem dX1_takeShape_46 : decode cX1_takeShape 46 = .ok (.istore 6, 2) := by decide +kernel
theorem dX1_takeShape_48 : decode cX1_takeShape 48 = .ok (.aload 4, 2) := by decide +kernel
theorem dX1_takeShape_50 : decode cX1_takeShape 50 = .ok (.iload 5, 2) := by decide +kernel
theorem dX1_takeShape_52 : decode cX1_takeShape 52 = .ok (.iload 6, 2) := by decide +kernel
theorem dX1_takeShape_54 : decode cX1_takeShape 54 = .ok (.iconst 2, 1) := by decide +kernel
theorem dX1_takeShape_55 : decode cX1_takeShape 55 = .ok (.irem, 1) := by decide +kernel
theorem dX1_takeShape_56 : decode cX1_takeShape 56 = .ok (.ifCond .ne 7, 3) := by decide +kernel
theorem dX1_takeShape_59 : decode cX1_takeShape 59 = .ok (.iload_n 3, 1) := by decide +kernel
theorem dX1_takeShape_60 : decode cX1_takeShape 60 = .ok (.goto 5, 3) := by decide +kernel
theorem dX1_takeShape_63 : decode cX1_takeShape 63 = .ok (.iload_n 3, 1) := by decide +kernel
theorem dX1_takeShape_64 : decode cX1_takeShape 64 = .ok (.ineg, 1) := by decide +kernel
theorem dX1_takeShape_65 : decode cX1_takeShape 65 = .ok (.invokevirtual 45, 3) := by decide +kernel
theorem dX1_takeShape_68 : decode cX1_takeShape 68 = .ok (.iinc 5 1, 3) := by decide +kernel
theorem dX1_takeShape_71 : decode cX1_takeShape 71 = .ok (.goto (-47), 3) := by decide +kernel
theorem dX1_takeShape_74 : decode cX1_takeShape 74 = .ok (.return_, 1) := by decide +kernel
theorem dX1_still_0 : decode cX1_still 0 = .ok (.aload_n 0, 1) := by decide +kernel
theorem dX1_still_1 : decode cX1_still 1 = .ok (.getfield 20, 3) := by decide +kernel
theorem dX1_still_4 : decode cX1_still 4 = .ok (.iconst 0, 1) := by decide +kernel
theorem dX1_still_5 : decode cX1_still 5 = .ok (.invokevirtual 62, 3) := by decide +kernel
theorem dX1_still_8 : decode cX1_still 8 = .ok (.aload_n 0, 1) := by decide +kernel
theorem dX1_still_9 : decode cX1_still 9 = .ok (.getfield 23, 3) := by decide +kernel
theorem dX1_still_12 : decode cX1_still 12 = .ok (.iconst 0, 1) := by decide +kernel
theorem dX1_still_13 : decode cX1_still 13 = .ok (.invokevirtual 62, 3) := by decide +kernel
theorem dX1_still_16 : decode cX1_still 16 = .ok (.aload_n 0, 1) := by decide +kernel
theorem dX1_still_17 : decode cX1_still 17 = .ok (.getfield 26, 3) := by decide +kernel
theorem dX1_still_20 : decode cX1_still 20 = .ok (.iconst 0, 1) := by decide +kernel
theorem dX1_still_21 : decode cX1_still 21 = .ok (.invokevirtual 62, 3) := by decide +kernel
theorem dX1_still_24 : decode cX1_still 24 = .ok (.aload_n 0, 1) := by decide +kernel
theorem dX1_still_25 : decode cX1_still 25 = .ok (.getfield 29, 3) := by decide +kernel
theorem dX1_still_28 : decode cX1_still 28 = .ok (.iconst 0, 1) := by decide +kernel
theorem dX1_still_29 : decode cX1_still 29 = .ok (.invokevirtual 62, 3) := by decide +kernel
theorem dX1_still_32 : decode cX1_still 32 = .ok (.return_, 1) := by decide +kernel
theorem dX1_size_0 : decode cX1_size 0 = .ok (.iload_n 1, 1) := by decide +kernel
theorem dX1_size_1 : decode cX1_size 1 = .ok (.ifCond .ne 10, 3) := by decide +kernel
theorem dX1_size_4 : decode cX1_size 4 = .ok (.aload_n 0, 1) := by decide +kernel
theorem dX1_size_5 : decode cX1_size 5 = .ok (.getfield 20, 3) := by decide +kernel
theorem dX1_size_8 : decode cX1_size 8 = .ok (.goto 7, 3) := by decide +kernel
theorem dX1_size_11 : decode cX1_size 11 = .ok (.aload_n 0, 1) := by decide +kernel
theorem dX1_size_12 : decode cX1_size 12 = .ok (.getfield 23, 3) := by decide +kernel
theorem dX1_size_15 : decode cX1_size 15 = .ok (.astore_n 2, 1) := by decide +kernel
theorem dX1_size_16 : decode cX1_size 16 = .ok (.iconst 0, 1) := by decide +kernel
theorem dX1_size_17 : decode cX1_size 17 = .ok (.istore_n 3, 1) := by decide +kernel
theorem dX1_size_18 : decode cX1_size 18 = .ok (.iconst 0, 1) := by decide +kernel
theorem dX1_size_19 : decode cX1_size 19 = .ok (.istore 4, 2) := by decide +kernel
theorem dX1_size_21 : decode cX1_size 21 = .ok (.iload 4, 2) := by decide +kernel
theorem dX1_size_23 : decode cX1_size 23 = .ok (.aload_n 0, 1) := by decide +kernel
theorem dX1_size_24 : decode cX1_size 24 = .ok (.getfield 52, 3) := by decide +kernel
theorem dX1_size_27 : decode cX1_size 27 = .ok (.if_icmp .ge 23, 3) := by decide +kernel
theorem dX1_size_30 : decode cX1_size 30 = .ok (.iload_n 3, 1) := by decide +kernel
theorem dX1_size_31 : decode cX1_size 31 = .ok (.aload_n 2, 1) := by decide +kernel
theorem dX1_size_32 : decode cX1_size 32 = .ok (.iload 4, 2) := by decide +kernel
theorem dX1_size_34 : decode cX1_size 34 = .ok (.invokevirtual 69, 3) := by decide +kernel
theorem dX1_size_37 : decode cX1_size 37 = .ok (.invokestatic 83, 3) := by decide +kernel
theorem dX1_size_40 : decode cX1_size 40 = .ok (.invokestatic 77, 3) := by decide +kernel
theorem dX1_size_43 : decode cX1_size 43 = .ok (.istore_n 3, 1) := by decide +kernel
theorem dX1_size_44 : decode cX1_size 44 = .ok (.iinc 4 1, 3) := by decide +kernel
theorem dX1_size_47 : decode cX1_size 47 = .ok (.goto (-26), 3) := by decide +kernel
theorem dX1_size_50 : decode cX1_size 50 = .ok (.iload_n 3, 1) := by decide +kernel
theorem dX1_size_51 : decode cX1_size 51 = .ok (.ireturn, 1) := by decide +kernel
theorem dX1_change_0 : decode cX1_change 0 = .ok (.aload_n 0, 1) := by decide +kernel
theorem dX1_change_1 : decode cX1_change 1 = .ok (.getfield 14, 3) := by decide +kernel
theorem dX1_change_4 : decode cX1_change 4 = .ok (.iload_n 1, 1) := by decide +kernel
theorem dX1_change_5 : decode cX1_change 5 = .ok (.aload_n 0, 1) := by decide +kernel
theorem dX1_change_6 : decode cX1_change 6 = .ok (.getfield 14, 3) := by decide +kernel
theorem dX1_change_9 : decode cX1_change 9 = .ok (.iload_n 1, 1) := by decide +kernel
theorem dX1_change_10 : decode cX1_change 10 = .ok (.invokevirtual 69, 3) := by decide +kernel
theorem dX1_change_13 : decode cX1_change 13 = .ok (.iload_n 2, 1) := by decide +kernel
theorem dX1_change_14 : decode cX1_change 14 = .ok (.iadd, 1) := by decide +kernel
theorem dX1_change_15 : decode cX1_change 15 = .ok (.iload_n 1, 1) := by decide +kernel
theorem dX1_change_16 : decode cX1_change 16 = .ok (.invokestatic 86, 3) := by decide +kernel
theorem dX1_change_19 : decode cX1_change 19 = .ok (.iload_n 1, 1) := by decide +kernel
theorem dX1_change_20 : decode cX1_change 20 = .ok (.invokestatic 89, 3) := by decide +kernel
theorem dX1_change_23 : decode cX1_change 23 = .ok (.invokestatic 92, 3) := by decide +kernel
theorem dX1_change_26 : decode cX1_change 26 = .ok (.invokevirtual 45, 3) := by decide +kernel
theorem dX1_change_29 : decode cX1_change 29 = .ok (.return_, 1) := by decide +kernel
theorem dX1_namesOf_0 : decode cX1_namesOf 0 = .ok (.aload_n 0, 1) := by decide +kernel
theorem dX1_namesOf_1 : decode cX1_namesOf 1 = .ok (.getfield 38, 3) := by decide +kernel
theorem dX1_namesOf_4 : decode cX1_namesOf 4 = .ok (.iconst 0, 1) := by decide +kernel
theorem dX1_namesOf_5 : decode cX1_namesOf 5 = .ok (.iload_n 2, 1) := by decide +kernel
theorem dX1_namesOf_6 : decode cX1_namesOf 6 = .ok (.invokevirtual 45, 3) := by decide +kernel
theorem dX1_namesOf_9 : decode cX1_namesOf 9 = .ok (.aload_n 0, 1) := by decide +kernel
theorem dX1_namesOf_10 : decode cX1_namesOf 10 = .ok (.getfield 38, 3) := by decide +kernel
theorem dX1_namesOf_13 : decode cX1_namesOf 13 = .ok (.iconst 1, 1) := by decide +kernel
theorem dX1_namesOf_14 : decode cX1_namesOf 14 = .ok (.aload_n 0, 1) := by decide +kernel
theorem dX1_namesOf_15 : decode cX1_namesOf 15 = .ok (.getfield 56, 3) := by decide +kernel
theorem dX1_namesOf_18 : decode cX1_namesOf 18 = .ok (.invokevirtual 45, 3) := by decide +kernel
theorem dX1_namesOf_21 : decode cX1_namesOf 21 = .ok (.aload_n 0, 1) := by decide +kernel
theorem dX1_namesOf_22 : decode cX1_namesOf 22 = .ok (.getfield 38, 3) := by decide +kernel
theorem dX1_namesOf_25 : decode cX1_namesOf 25 = .ok (.iconst 2, 1) := by decide +kernel
theorem dX1_namesOf_26 : decode cX1_namesOf 26 = .ok (.aload_n 0, 1) := by decide +kernel
theorem dX1_namesOf_27 : decode cX1_namesOf 27 = .ok (.getfield 20, 3) := by decide +kernel
theorem dX1_namesOf_30 : decode cX1_namesOf 30 = .ok (.iload_n 1, 1) := by decide +kernel
theorem dX1_namesOf_31 : decode cX1_namesOf 31 = .ok (.invokevirtual 69, 3) := by decide +kernel
theorem dX1_namesOf_34 : decode cX1_namesOf 34 = .ok (.invokevirtual 45, 3) := by decide +kernel
theorem dX1_namesOf_37 : decode cX1_namesOf 37 = .ok (.aload_n 0, 1) := by decide +kernel
theorem dX1_namesOf_38 : decode cX1_namesOf 38 = .ok (.getfield 38, 3) := by decide +kernel
theorem dX1_namesOf_41 : decode cX1_namesOf 41 = .ok (.iconst 3, 1) := by decide +kernel
theorem dX1_namesOf_42 : decode cX1_namesOf 42 = .ok (.aload_n 0, 1) := by decide +kernel
theorem dX1_namesOf_43 : decode cX1_namesOf 43 = .ok (.getfield 23, 3) := by decide +kernel
theorem dX1_namesOf_46 : decode cX1_namesOf 46 = .ok (.iload_n 1, 1) := by decide +kernel
theorem dX1_namesOf_47 : decode cX1_namesOf 47 = .ok (.invokevirtual 69, 3) := by decide +kernel
theorem dX1_namesOf_50 : decode cX1_namesOf 50 = .ok (.invokevirtual 45, 3) := by decide +kernel
theorem dX1_namesOf_53 : decode cX1_namesOf 53 = .ok (.aload_n 0, 1) := by decide +kernel
theorem dX1_namesOf_54 : decode cX1_namesOf 54 = .ok (.getfield 38, 3) := by decide +kernel
theorem dX1_namesOf_57 : decode cX1_namesOf 57 = .ok (.iconst 4, 1) := by decide +kernel
theorem dX1_namesOf_58 : decode cX1_namesOf 58 = .ok (.aload_n 0, 1) := by decide +kernel
theorem dX1_namesOf_59 : decode cX1_namesOf 59 = .ok (.getfield 26, 3) := by decide +kernel
theorem dX1_namesOf_62 : decode cX1_namesOf 62 = .ok (.iload_n 1, 1) := by decide +kernel
theorem dX1_namesOf_63 : decode cX1_namesOf 63 = .ok (.invokevirtual 69, 3) := by decide +kernel
theorem dX1_namesOf_66 : decode cX1_namesOf 66 = .ok (.invokevirtual 45, 3) := by decide +kernel
theorem dX1_namesOf_69 : decode cX1_namesOf 69 = .ok (.aload_n 0, 1) := by decide +kernel
theorem dX1_namesOf_70 : decode cX1_namesOf 70 = .ok (.getfield 38, 3) := by decide +kernel
theorem dX1_namesOf_73 : decode cX1_namesOf 73 = .ok (.iconst 5, 1) := by decide +kernel
theorem dX1_namesOf_74 : decode cX1_namesOf 74 = .ok (.aload_n 0, 1) := by decide +kernel
theorem dX1_namesOf_75 : decode cX1_namesOf 75 = .ok (.getfield 29, 3) := by decide +kernel
theorem dX1_namesOf_78 : decode cX1_namesOf 78 = .ok (.iload_n 1, 1) := by decide +kernel
theorem dX1_namesOf_79 : decode cX1_namesOf 79 = .ok (.invokevirtual 69, 3) := by decide +kernel
theorem dX1_namesOf_82 : decode cX1_namesOf 82 = .ok (.invokevirtual 45, 3) := by decide +kernel
theorem dX1_namesOf_85 : decode cX1_namesOf 85 = .ok (.aload_n 0, 1) := by decide +kernel
theorem dX1_namesOf_86 : decode cX1_namesOf 86 = .ok (.getfield 38, 3) := by decide +kernel
theorem dX1_namesOf_89 : decode cX1_namesOf 89 = .ok (.bipush 6, 2) := by decide +kernel
theorem dX1_namesOf_91 : decode cX1_namesOf 91 = .ok (.aload_n 0, 1) := by decide +kernel
theorem dX1_namesOf_92 : decode cX1_namesOf 92 = .ok (.getfield 14, 3) := by decide +kernel
theorem dX1_namesOf_95 : decode cX1_namesOf 95 = .ok (.iconst 5, 1) := by decide +kernel
theorem dX1_namesOf_96 : decode cX1_namesOf 96 = .ok (.invokevirtual 69, 3) := by decide +kernel
theorem dX1_namesOf_99 : decode cX1_namesOf 99 = .ok (.invokevirtual 45, 3) := by decide +kernel
theorem dX1_namesOf_102 : decode cX1_namesOf 102 = .ok (.aload_n 0, 1) := by decide +kernel
theorem dX1_namesOf_103 : decode cX1_namesOf 103 = .ok (.getfield 38, 3) := by decide +kernel
theorem dX1_namesOf_106 : decode cX1_namesOf 106 = .ok (.bipush 7, 2) := by decide +kernel
theorem dX1_namesOf_108 : decode cX1_namesOf 108 = .ok (.aload_n 0, 1) := by decide +kernel
theorem dX1_namesOf_109 : decode cX1_namesOf 109 = .ok (.getfield 14, 3) := by decide +kernel
theorem dX1_namesOf_112 : decode cX1_namesOf 112 = .ok (.bipush 6, 2) := by decide +kernel
theorem dX1_namesOf_114 : decode cX1_namesOf 114 = .ok (.invokevirtual 69, 3) := by decide +kernel
theorem dX1_namesOf_117 : decode cX1_namesOf 117 = .ok (.invokevirtual 45, 3) := by decide +kernel
theorem dX1_namesOf_120 : decode cX1_namesOf 120 = .ok (.aload_n 0, 1) := by decide +kernel
theorem dX1_namesOf_121 : decode cX1_namesOf 121 = .ok (.getfield 38, 3) := by decide +kernel
theorem dX1_namesOf_124 : decode cX1_namesOf 124 = .ok (.bipush 8, 2) := by decide +kernel
theorem dX1_namesOf_126 : decode cX1_namesOf 126 = .ok (.iload_n 1, 1) := by decide +kernel
theorem dX1_namesOf_127 : decode cX1_namesOf 127 = .ok (.invokevirtual 45, 3) := by decide +kernel
theorem dX1_namesOf_130 : decode cX1_namesOf 130 = .ok (.aload_n 0, 1) := by decide +kernel
theorem dX1_namesOf_131 : decode cX1_namesOf 131 = .ok (.getfield 38, 3) := by decide +kernel
theorem dX1_namesOf_134 : decode cX1_namesOf 134 = .ok (.areturn, 1) := by decide +kernel
theorem dX1_tick_0 : decode cX1_tick 0 = .ok (.iconst 0, 1) := by decide +kernel
theorem dX1_tick_1 : decode cX1_tick 1 = .ok (.istore 4, 2) := by decide +kernel
theorem dX1_tick_3 : decode cX1_tick 3 = .ok (.iload 4, 2) := by decide +kernel
theorem dX1_tick_5 : decode cX1_tick 5 = .ok (.aload_n 0, 1) := by decide +kernel
theorem dX1_tick_6 : decode cX1_tick 6 = .ok (.getfield 52, 3) := by decide +kernel
theorem dX1_tick_9 : decode cX1_tick 9 = .ok (.if_icmp .ge 164, 3) := by decide +kernel
theorem dX1_tick_12 : decode cX1_tick 12 = .ok (.aload_n 1, 1) := by decide +kernel
theorem dX1_tick_13 : decode cX1_tick 13 = .ok (.aload_n 0, 1) := by decide +kernel
theorem dX1_tick_14 : decode cX1_tick 14 = .ok (.iload 4, 2) := by decide +kernel
theorem dX1_tick_16 : decode cX1_tick 16 = .ok (.iload_n 2, 1) := by decide +kernel
theorem dX1_tick_17 : decode cX1_tick 17 = .ok (.invokevirtual 96, 3) := by decide +kernel
theorem dX1_tick_20 : decode cX1_tick 20 = .ok (.invokevirtual 100, 3) := by decide +kernel
theorem dX1_tick_23 : decode cX1_tick 23 = .ok (.aload_n 0, 1) := by decide +kernel
theorem dX1_tick_24 : decode cX1_tick 24 = .ok (.getfield 32, 3) := by decide +kernel
theorem dX1_tick_27 : decode cX1_tick 27 = .ok (.iload 4, 2) := by decide +kernel
theorem dX1_tick_29 : decode cX1_tick 29 = .ok (.invokevirtual 69, 3) := by decide +kernel
theorem dX1_tick_32 : decode cX1_tick 32 = .ok (.iconst 2, 1) := by decide +kernel
theorem dX1_tick_33 : decode cX1_tick 33 = .ok (.if_icmp .ne 15, 3) := by decide +kernel
theorem dX1_tick_36 : decode cX1_tick 36 = .ok (.aload_n 0, 1) := by decide +kernel
theorem dX1_tick_37 : decode cX1_tick 37 = .ok (.getfield 14, 3) := by decide +kernel
theorem dX1_tick_40 : decode cX1_tick 40 = .ok (.bipush 8, 2) := by decide +kernel
theorem dX1_tick_42 : decode cX1_tick 42 = .ok (.invokevirtual 69, 3) := by decide +kernel
theorem dX1_tick_45 : decode cX1_tick 45 = .ok (.goto 4, 3) := by decide +kernel
theorem dX1_tick_48 : decode cX1_tick 48 = .ok (.iconst 0, 1) := by decide +kernel
theorem dX1_tick_49 : decode cX1_tick 49 = .ok (.istore 5, 2) := by decide +kernel
theorem dX1_tick_51 : decode cX1_tick 51 = .ok (.aload_n 0, 1) := by decide +kernel
theorem dX1_tick_52 : decode cX1_tick 52 = .ok (.aload_n 0, 1) := by decide +kernel
theorem dX1_tick_53 : decode cX1_tick 53 = .ok (.getfield 20, 3) := by decide +kernel
theorem dX1_tick_56 : decode cX1_tick 56 = .ok (.iload 4, 2) := by decide +kernel
theorem dX1_tick_58 : decode cX1_tick 58 = .ok (.aload_n 0, 1) := by decide +kernel
theorem dX1_tick_59 : decode cX1_tick 59 = .ok (.getfield 14, 3) := by decide +kernel
theorem dX1_tick_62 : decode cX1_tick 62 = .ok (.iconst 1, 1) := by decide +kernel
theorem dX1_tick_63 : decode cX1_tick 63 = .ok (.invokevirtual 69, 3) := by decide +kernel
theorem dX1_tick_66 : decode cX1_tick 66 = .ok (.aload_n 0, 1) := by decide +kernel
theorem dX1_tick_67 : decode cX1_tick 67 = .ok (.getfield 14, 3) := by decide +kernel
theorem dX1_tick_70 : decode cX1_tick 70 = .ok (.iconst 3, 1) := by decide +kernel
theorem dX1_tick_71 : decode cX1_tick 71 = .ok (.invokevirtual 69, 3) := by decide +kernel
theorem dX1_tick_74 : decode cX1_tick 74 = .ok (.invokevirtual 105, 3) := by decide +kernel
theorem dX1_tick_77 : decode cX1_tick 77 = .ok (.istore 6, 2) := by decide +kernel
theorem dX1_tick_79 : decode cX1_tick 79 = .ok (.aload_n 0, 1) := by decide +kernel
theorem dX1_tick_80 : decode cX1_tick 80 = .ok (.aload_n 0, 1) := by decide +kernel
theorem dX1_tick_81 : decode cX1_tick 81 = .ok (.getfield 23, 3) := by decide +kernel
theorem dX1_tick_84 : decode cX1_tick 84 = .ok (.iload 4, 2) := by decide +kernel
theorem dX1_tick_86 : decode cX1_tick 86 = .ok (.aload_n 0, 1) := by decide +kernel
theorem dX1_tick_87 : decode cX1_tick 87 = .ok (.getfield 14, 3) := by decide +kernel
theorem dX1_tick_90 : decode cX1_tick 90 = .ok (.iconst 2, 1) := by decide +kernel
theorem dX1_tick_91 : decode cX1_tick 91 = .ok (.invokevirtual 69, 3) := by decide +kernel
theorem dX1_tick_94 : decode cX1_tick 94 = .ok (.iload 5, 2) := by decide +kernel
theorem dX1_tick_96 : decode cX1_tick 96 = .ok (.invokevirtual 105, 3) := by decide +kernel
theorem dX1_tick_99 : decode cX1_tick 99 = .ok (.istore 7, 2) := by decide +kernel
theorem dX1_tick_101 : decode cX1_tick 101 = .ok (.aload_n 0, 1) := by decide +kernel
theorem dX1_tick_102 : decode cX1_tick 102 = .ok (.getfield 26, 3) := by decide +kernel
theorem dX1_tick_105 : decode cX1_tick 105 = .ok (.iload 4, 2) := by decide +kernel
theorem dX1_tick_107 : decode cX1_tick 107 = .ok (.aload_n 0, 1) := by decide +kernel
theorem dX1_tick_108 : decode cX1_tick 108 = .ok (.aload_n 0, 1) := by decide +kernel
theorem dX1_tick_109 : decode cX1_tick 109 = .ok (.getfield 26, 3) := by decide +kernel
theorem dX1_tick_112 : decode cX1_tick 112 = .ok (.iload 4, 2) := by decide +kernel
theorem dX1_tick_114 : decode cX1_tick 114 = .ok (.invokevirtual 69, 3) := by decide +kernel
theorem dX1_tick_117 : decode cX1_tick 117 = .ok (.iload 6, 2) := by decide +kernel
theorem dX1_tick_119 : decode cX1_tick 119 = .ok (.aload_n 1, 1) := by decide +kernel
theorem dX1_tick_120 : decode cX1_tick 120 = .ok (.getfield 109, 3) := by decide +kernel
theorem dX1_tick_123 : decode cX1_tick 123 = .ok (.iload_n 3, 1) := by decide +kernel
theorem dX1_tick_124 : decode cX1_tick 124 = .ok (.imul, 1) := by decide +kernel
theorem dX1_tick_125 : decode cX1_tick 125 = .ok (.bipush 100, 2) := by decide +kernel
theorem dX1_tick_127 : decode cX1_tick 127 = .ok (.idiv, 1) := by decide +kernel
theorem dX1_tick_128 : decode cX1_tick 128 = .ok (.invokevirtual 112, 3) := by decide +kernel
theorem dX1_tick_131 : decode cX1_tick 131 = .ok (.invokevirtual 45, 3) := by decide +kernel
theorem dX1_tick_134 : decode cX1_tick 134 = .ok (.aload_n 0, 1) := by decide +kernel
theorem dX1_tick_135 : decode cX1_tick 135 = .ok (.getfield 29, 3) := by decide +kernel
theorem dX1_tick_138 : decode cX1_tick 138 = .ok (.iload 4, 2) := by decide +kernel
theorem dX1_tick_140 : decode cX1_tick 140 = .ok (.aload_n 0, 1) := by decide +kernel
theorem dX1_tick_141 : decode cX1_tick 141 = .ok (.aload_n 0, 1) := by decide +kernel
theorem dX1_tick_142 : decode cX1_tick 142 = .ok (.getfield 29, 3) := by decide +kernel
theorem dX1_tick_145 : decode cX1_tick 145 = .ok (.iload 4, 2) := by decide +kernel
theorem dX1_tick_147 : decode cX1_tick 147 = .ok (.invokevirtual 69, 3) := by decide +kernel
theorem dX1_tick_150 : decode cX1_tick 150 = .ok (.iload 7, 2) := by decide +kernel
theorem dX1_tick_152 : decode cX1_tick 152 = .ok (.aload_n 1, 1) := by decide +kernel
theorem dX1_tick_153 : decode cX1_tick 153 = .ok (.getfield 115, 3) := by decide +kernel
theorem dX1_tick_156 : decode cX1_tick 156 = .ok (.iload_n 3, 1) := by decide +kernel
theorem dX1_tick_157 : decode cX1_tick 157 = .ok (.imul, 1) := by decide +kernel
theorem dX1_tick_158 : decode cX1_tick 158 = .ok (.bipush 100, 2) := by decide +kernel
theorem dX1_tick_160 : decode cX1_tick 160 = .ok (.idiv, 1) := by decide +kernel
theorem dX1_tick_161 : decode cX1_tick 161 = .ok (.invokevirtual 112, 3) := by decide +kernel
theorem dX1_tick_164 : decode cX1_tick 164 = .ok (.invokevirtual 45, 3) := by decide +kernel
theorem dX1_tick_167 : decode cX1_tick 167 = .ok (.iinc 4 1, 3) := by decide +kernel
theorem dX1_tick_170 : decode cX1_tick 170 = .ok (.goto (-167), 3) := by decide +kernel
theorem dX1_tick_173 : decode cX1_tick 173 = .ok (.iconst 0, 1) := by decide +kernel
theorem dX1_tick_174 : decode cX1_tick 174 = .ok (.istore 4, 2) := by decide +kernel
theorem dX1_tick_176 : decode cX1_tick 176 = .ok (.iload 4, 2) := by decide +kernel
theorem dX1_tick_178 : decode cX1_tick 178 = .ok (.aload_n 0, 1) := by decide +kernel
theorem dX1_tick_179 : decode cX1_tick 179 = .ok (.getfield 52, 3) := by decide +kernel
theorem dX1_tick_182 : decode cX1_tick 182 = .ok (.if_icmp .ge 71, 3) := by decide +kernel
theorem dX1_tick_185 : decode cX1_tick 185 = .ok (.aload_n 0, 1) := by decide +kernel
theorem dX1_tick_186 : decode cX1_tick 186 = .ok (.getfield 20, 3) := by decide +kernel
theorem dX1_tick_189 : decode cX1_tick 189 = .ok (.iload 4, 2) := by decide +kernel
theorem dX1_tick_191 : decode cX1_tick 191 = .ok (.aload_n 0, 1) := by decide +kernel
theorem dX1_tick_192 : decode cX1_tick 192 = .ok (.getfield 20, 3) := by decide +kernel
theorem dX1_tick_195 : decode cX1_tick 195 = .ok (.iload 4, 2) := by decide +kernel
theorem dX1_tick_197 : decode cX1_tick 197 = .ok (.invokevirtual 69, 3) := by decide +kernel
theorem dX1_tick_200 : decode cX1_tick 200 = .ok (.aload_n 0, 1) := by decide +kernel
theorem dX1_tick_201 : decode cX1_tick 201 = .ok (.getfield 26, 3) := by decide +kernel
theorem dX1_tick_204 : decode cX1_tick 204 = .ok (.iload 4, 2) := by decide +kernel
theorem dX1_tick_206 : decode cX1_tick 206 = .ok (.invokevirtual 69, 3) := by decide +kernel
theorem dX1_tick_209 : decode cX1_tick 209 = .ok (.iadd, 1) := by decide +kernel
theorem dX1_tick_210 : decode cX1_tick 210 = .ok (.invokestatic 118, 3) := by decide +kernel
theorem dX1_tick_213 : decode cX1_tick 213 = .ok (.invokevirtual 45, 3) := by decide +kernel
theorem dX1_tick_216 : decode cX1_tick 216 = .ok (.aload_n 0, 1) := by decide +kernel
theorem dX1_tick_217 : decode cX1_tick 217 = .ok (.getfield 23, 3) := by decide +kernel
theorem dX1_tick_220 : decode cX1_tick 220 = .ok (.iload 4, 2) := by decide +kernel
theorem dX1_tick_222 : decode cX1_tick 222 = .ok (.aload_n 0, 1) := by decide +kernel
theorem dX1_tick_223 : decode cX1_tick 223 = .ok (.getfield 23, 3) := by decide +kernel
theorem dX1_tick_226 : decode cX1_tick 226 = .ok (.iload 4, 2) := by decide +kernel
theorem dX1_tick_228 : decode cX1_tick 228 = .ok (.invokevirtual 69, 3) := by decide +kernel
theorem dX1_tick_231 : decode cX1_tick 231 = .ok (.aload_n 0, 1) := by decide +kernel
theorem dX1_tick_232 : decode cX1_tick 232 = .ok (.getfield 29, 3) := by decide +kernel
theorem dX1_tick_235 : decode cX1_tick 235 = .ok (.iload 4, 2) := by decide +kernel
theorem dX1_tick_237 : decode cX1_tick 237 = .ok (.invokevirtual 69, 3) := by decide +kernel
theorem dX1_tick_240 : decode cX1_tick 240 = .ok (.iadd, 1) := by decide +kernel
theorem dX1_tick_241 : decode cX1_tick 241 = .ok (.invokestatic 118, 3) := by decide +kernel
theorem dX1_tick_244 : decode cX1_tick 244 = .ok (.invokevirtual 45, 3) := by decide +kernel
theorem dX1_tick_247 : decode cX1_tick 247 = .ok (.iinc 4 1, 3) := by decide +kernel
theorem dX1_tick_250 : decode cX1_tick 250 = .ok (.goto (-74), 3) := by decide +kernel
theorem dX1_tick_253 : decode cX1_tick 253 = .ok (.aload_n 0, 1) := by decide +kernel
theorem dX1_tick_254 : decode cX1_tick 254 = .ok (.dup, 1) := by decide +kernel
theorem dX1_tick_255 : decode cX1_tick 255 = .ok (.getfield 56, 3) := by decide +kernel
theorem dX1_tick_258 : decode cX1_tick 258 = .ok (.iconst 1, 1) := by decide +kernel
theorem dX1_tick_259 : decode cX1_tick 259 = .ok (.iadd, 1) := by decide +kernel
theorem dX1_tick_260 : decode cX1_tick 260 = .ok (.putfield 56, 3) := by decide +kernel
theorem dX1_tick_263 : decode cX1_tick 263 = .ok (.aload_n 0, 1) := by decide +kernel
theorem dX1_tick_264 : decode cX1_tick 264 = .ok (.invokevirtual 121, 3) := by decide +kernel
theorem dX1_tick_267 : decode cX1_tick 267 = .ok (.return_, 1) := by decide +kernel
theorem dX1_pullOf_0 : decode cX1_pullOf 0 = .ok (.aload_n 1, 1) := by decide +kernel
theorem dX1_pullOf_1 : decode cX1_pullOf 1 = .ok (.iload_n 2, 1) := by decide +kernel
theorem dX1_pullOf_2 : decode cX1_pullOf 2 = .ok (.invokevirtual 69, 3) := by decide +kernel
theorem dX1_pullOf_5 : decode cX1_pullOf 5 = .ok (.istore 5, 2) := by decide +kernel
theorem dX1_pullOf_7 : decode cX1_pullOf 7 = .ok (.iload_n 2, 1) := by decide +kernel
theorem dX1_pullOf_8 : decode cX1_pullOf 8 = .ok (.ifCond .ne 7, 3) := by decide +kernel
theorem dX1_pullOf_11 : decode cX1_pullOf 11 = .ok (.iconst 0, 1) := by decide +kernel
theorem dX1_pullOf_12 : decode cX1_pullOf 12 = .ok (.goto 29, 3) := by decide +kernel
theorem dX1_pullOf_15 : decode cX1_pullOf 15 = .ok (.aload_n 0, 1) := by decide +kernel
theorem dX1_pullOf_16 : decode cX1_pullOf 16 = .ok (.getfield 35, 3) := by decide +kernel
theorem dX1_pullOf_19 : decode cX1_pullOf 19 = .ok (.iload_n 2, 1) := by decide +kernel
theorem dX1_pullOf_20 : decode cX1_pullOf 20 = .ok (.iconst 1, 1) := by decide +kernel
theorem dX1_pullOf_21 : decode cX1_pullOf 21 = .ok (.isub, 1) := by decide +kernel
theorem dX1_pullOf_22 : decode cX1_pullOf 22 = .ok (.invokevirtual 69, 3) := by decide +kernel
theorem dX1_pullOf_25 : decode cX1_pullOf 25 = .ok (.iconst 1, 1) := by decide +kernel
theorem dX1_pullOf_26 : decode cX1_pullOf 26 = .ok (.if_icmp .ne 8, 3) := by decide +kernel
theorem dX1_pullOf_29 : decode cX1_pullOf 29 = .ok (.iload 5, 2) := by decide +kernel
theorem dX1_pullOf_31 : decode cX1_pullOf 31 = .ok (.goto 10, 3) := by decide +kernel
theorem dX1_pullOf_34 : decode cX1_pullOf 34 = .ok (.aload_n 1, 1) := by decide +kernel
theorem dX1_pullOf_35 : decode cX1_pullOf 35 = .ok (.iload_n 2, 1) := by decide +kernel
theorem dX1_pullOf_36 : decode cX1_pullOf 36 = .ok (.iconst 1, 1) := by decide +kernel
theorem dX1_pullOf_37 : decode cX1_pullOf 37 = .ok (.isub, 1) := by decide +kernel
theorem dX1_pullOf_38 : decode cX1_pullOf 38 = .ok (.invokevirtual 69, 3) := by decide +kernel
theorem dX1_pullOf_41 : decode cX1_pullOf 41 = .ok (.istore 6, 2) := by decide +kernel
theorem dX1_pullOf_43 : decode cX1_pullOf 43 = .ok (.iload_n 2, 1) := by decide +kernel
theorem dX1_pullOf_44 : decode cX1_pullOf 44 = .ok (.aload_n 0, 1) := by decide +kernel
theorem dX1_pullOf_45 : decode cX1_pullOf 45 = .ok (.getfield 52, 3) := by decide +kernel
theorem dX1_pullOf_48 : decode cX1_pullOf 48 = .ok (.iconst 1, 1) := by decide +kernel
theorem dX1_pullOf_49 : decode cX1_pullOf 49 = .ok (.isub, 1) := by decide +kernel
theorem dX1_pullOf_50 : decode cX1_pullOf 50 = .ok (.if_icmp .ne 7, 3) := by decide +kernel
theorem dX1_pullOf_53 : decode cX1_pullOf 53 = .ok (.iconst 0, 1) := by decide +kernel
theorem dX1_pullOf_54 : decode cX1_pullOf 54 = .ok (.goto 27, 3) := by decide +kernel
theorem dX1_pullOf_57 : decode cX1_pullOf 57 = .ok (.aload_n 0, 1) := by decide +kernel
theorem dX1_pullOf_58 : decode cX1_pullOf 58 = .ok (.getfield 35, 3) := by decide +kernel
theorem dX1_pullOf_61 : decode cX1_pullOf 61 = .ok (.iload_n 2, 1) := by decide +kernel
theorem dX1_pullOf_62 : decode cX1_pullOf 62 = .ok (.invokevirtual 69, 3) := by decide +kernel
theorem dX1_pullOf_65 : decode cX1_pullOf 65 = .ok (.iconst 1, 1) := by decide +kernel
theorem dX1_pullOf_66 : decode cX1_pullOf 66 = .ok (.if_icmp .ne 8, 3) := by decide +kernel
theorem dX1_pullOf_69 : decode cX1_pullOf 69 = .ok (.iload 5, 2) := by decide +kernel
theorem dX1_pullOf_71 : decode cX1_pullOf 71 = .ok (.goto 10, 3) := by decide +kernel
theorem dX1_pullOf_74 : decode cX1_pullOf 74 = .ok (.aload_n 1, 1) := by decide +kernel
theorem dX1_pullOf_75 : decode cX1_pullOf 75 = .ok (.iload_n 2, 1) := by decide +kernel
theorem dX1_pullOf_76 : decode cX1_pullOf 76 = .ok (.iconst 1, 1) := by decide +kernel
theorem dX1_pullOf_77 : decode cX1_pullOf 77 = .ok (.iadd, 1) := by decide +kernel
theorem dX1_pullOf_78 : decode cX1_pullOf 78 = .ok (.invokevirtual 69, 3) := by decide +kernel
theorem dX1_pullOf_81 : decode cX1_pullOf 81 = .ok (.istore 7, 2) := by decide +kernel
theorem dX1_pullOf_83 : decode cX1_pullOf 83 = .ok (.iload_n 3, 1) := by decide +kernel
theorem dX1_pullOf_84 : decode cX1_pullOf 84 = .ok (.iload 6, 2) := by decide +kernel
theorem dX1_pullOf_86 : decode cX1_pullOf 86 = .ok (.iload 7, 2) := by decide +kernel
theorem dX1_pullOf_88 : decode cX1_pullOf 88 = .ok (.iadd, 1) := by decide +kernel
theorem dX1_pullOf_89 : decode cX1_pullOf 89 = .ok (.iconst 2, 1) := by decide +kernel
theorem dX1_pullOf_90 : decode cX1_pullOf 90 = .ok (.iload 5, 2) := by decide +kernel
theorem dX1_pullOf_92 : decode cX1_pullOf 92 = .ok (.imul, 1) := by decide +kernel
theorem dX1_pullOf_93 : decode cX1_pullOf 93 = .ok (.isub, 1) := by decide +kernel
theorem dX1_pullOf_94 : decode cX1_pullOf 94 = .ok (.imul, 1) := by decide +kernel
theorem dX1_pullOf_95 : decode cX1_pullOf 95 = .ok (.iload 4, 2) := by decide +kernel
theorem dX1_pullOf_97 : decode cX1_pullOf 97 = .ok (.iload 5, 2) := by decide +kernel
theorem dX1_pullOf_99 : decode cX1_pullOf 99 = .ok (.imul, 1) := by decide +kernel
theorem dX1_pullOf_100 : decode cX1_pullOf 100 = .ok (.isub, 1) := by decide +kernel
theorem dX1_pullOf_101 : decode cX1_pullOf 101 = .ok (.ireturn, 1) := by decide +kernel
theorem dX1_faster_0 : decode cX1_faster 0 = .ok (.iconst 1, 1) := by decide +kernel
theorem dX1_faster_1 : decode cX1_faster 1 = .ok (.aload_n 0, 1) := by decide +kernel
theorem dX1_faster_2 : decode cX1_faster 2 = .ok (.getfield 14, 3) := by decide +kernel
theorem dX1_faster_5 : decode cX1_faster 5 = .ok (.iconst 0, 1) := by decide +kernel
theorem dX1_faster_6 : decode cX1_faster 6 = .ok (.invokevirtual 69, 3) := by decide +kernel
theorem dX1_faster_9 : decode cX1_faster 9 = .ok (.invokestatic 77, 3) := by decide +kernel
theorem dX1_faster_12 : decode cX1_faster 12 = .ok (.istore 4, 2) := by decide +kernel
theorem dX1_faster_14 : decode cX1_faster 14 = .ok (.iload_n 1, 1) := by decide +kernel
theorem dX1_faster_15 : decode cX1_faster 15 = .ok (.iload_n 2, 1) := by decide +kernel
theorem dX1_faster_16 : decode cX1_faster 16 = .ok (.bipush 10, 2) := by decide +kernel
theorem dX1_faster_18 : decode cX1_faster 18 = .ok (.idiv, 1) := by decide +kernel
theorem dX1_faster_19 : decode cX1_faster 19 = .ok (.iload_n 3, 1) := by decide +kernel
theorem dX1_faster_20 : decode cX1_faster 20 = .ok (.iadd, 1) := by decide +kernel
theorem dX1_faster_21 : decode cX1_faster 21 = .ok (.iload 4, 2) := by decide +kernel
theorem dX1_faster_23 : decode cX1_faster 23 = .ok (.idiv, 1) := by decide +kernel
theorem dX1_faster_24 : decode cX1_faster 24 = .ok (.iadd, 1) := by decide +kernel
theorem dX1_faster_25 : decode cX1_faster 25 = .ok (.aload_n 0, 1) := by decide +kernel
theorem dX1_faster_26 : decode cX1_faster 26 = .ok (.getfield 14, 3) := by decide +kernel
theorem dX1_faster_29 : decode cX1_faster 29 = .ok (.iconst 4, 1) := by decide +kernel
theorem dX1_faster_30 : decode cX1_faster 30 = .ok (.invokevirtual 69, 3) := by decide +kernel
theorem dX1_faster_33 : decode cX1_faster 33 = .ok (.iload_n 1, 1) := by decide +kernel
theorem dX1_faster_34 : decode cX1_faster 34 = .ok (.imul, 1) := by decide +kernel
theorem dX1_faster_35 : decode cX1_faster 35 = .ok (.bipush 100, 2) := by decide +kernel
theorem dX1_faster_37 : decode cX1_faster 37 = .ok (.idiv, 1) := by decide +kernel
theorem dX1_faster_38 : decode cX1_faster 38 = .ok (.isub, 1) := by decide +kernel
theorem dX1_faster_39 : decode cX1_faster 39 = .ok (.invokestatic 118, 3) := by decide +kernel
theorem dX1_faster_42 : decode cX1_faster 42 = .ok (.ireturn, 1) := by decide +kernel
theorem dX1_reach_0 : decode cX1_reach 0 = .ok (.iload_n 0, 1) := by decide +kernel
theorem dX1_reach_1 : decode cX1_reach 1 = .ok (.ldc 124, 2) := by decide +kernel
theorem dX1_reach_3 : decode cX1_reach 3 = .ok (.if_icmp .le 8, 3) := by decide +kernel
theorem dX1_reach_6 : decode cX1_reach 6 = .ok (.ldc 124, 2) := by decide +kernel
theorem dX1_reach_8 : decode cX1_reach 8 = .ok (.goto 15, 3) := by decide +kernel
theorem dX1_reach_11 : decode cX1_reach 11 = .ok (.iload_n 0, 1) := by decide +kernel
theorem dX1_reach_12 : decode cX1_reach 12 = .ok (.ldc 125, 2) := by decide +kernel
theorem dX1_reach_14 : decode cX1_reach 14 = .ok (.if_icmp .ge 8, 3) := by decide +kernel
theorem dX1_reach_17 : decode cX1_reach 17 = .ok (.ldc 125, 2) := by decide +kernel
theorem dX1_reach_19 : decode cX1_reach 19 = .ok (.goto 4, 3) := by decide +kernel
theorem dX1_reach_22 : decode cX1_reach 22 = .ok (.iload_n 0, 1) := by decide +kernel
theorem dX1_reach_23 : decode cX1_reach 23 = .ok (.ireturn, 1) := by decide +kernel
theorem dX1_breakWhatGives_0 : decode cX1_breakWhatGives 0 = .ok (.aload_n 0, 1) := by decide +kernel
theorem dX1_breakWhatGives_1 : decode cX1_breakWhatGives 1 = .ok (.getfield 14, 3) := by decide +kernel
theorem dX1_breakWhatGives_4 : decode cX1_breakWhatGives 4 = .ok (.bipush 9, 2) := by decide +kernel
theorem dX1_breakWhatGives_6 : decode cX1_breakWhatGives 6 = .ok (.invokevirtual 69, 3) := by decide +kernel
theorem dX1_breakWhatGives_9 : decode cX1_breakWhatGives 9 = .ok (.istore_n 1, 1) := by decide +kernel
theorem dX1_breakWhatGives_10 : decode cX1_breakWhatGives 10 = .ok (.iconst 0, 1) := by decide +kernel
theorem dX1_breakWhatGives_11 : decode cX1_breakWhatGives 11 = .ok (.istore_n 2, 1) := by decide +kernel
theorem dX1_breakWhatGives_12 : decode cX1_breakWhatGives 12 = .ok (.iload_n 2, 1) := by decide +kernel
theorem dX1_breakWhatGives_13 : decode cX1_breakWhatGives 13 = .ok (.aload_n 0, 1) := by decide +kernel
theorem dX1_breakWhatGives_14 : decode cX1_breakWhatGives 14 = .ok (.getfield 52, 3) := by decide +kernel
theorem dX1_breakWhatGives_17 : decode cX1_breakWhatGives 17 = .ok (.if_icmp .ge 97, 3) := by decide +kernel
theorem dX1_breakWhatGives_20 : decode cX1_breakWhatGives 20 = .ok (.aload_n 0, 1) := by decide +kernel
theorem dX1_breakWhatGives_21 : decode cX1_breakWhatGives 21 = .ok (.getfield 23, 3) := by decide +kernel
theorem dX1_breakWhatGives_24 : decode cX1_breakWhatGives 24 = .ok (.iload_n 2, 1) := by decide +kernel
theorem dX1_breakWhatGives_25 : decode cX1_breakWhatGives 25 = .ok (.invokevirtual 69, 3) := by decide +kernel
theorem dX1_breakWhatGives_28 : decode cX1_breakWhatGives 28 = .ok (.istore_n 3, 1) := by decide +kernel
theorem dX1_breakWhatGives_29 : decode cX1_breakWhatGives 29 = .ok (.aload_n 0, 1) := by decide +kernel
theorem dX1_breakWhatGives_30 : decode cX1_breakWhatGives 30 = .ok (.getfield 32, 3) := by decide +kernel
theorem dX1_breakWhatGives_33 : decode cX1_breakWhatGives 33 = .ok (.iload_n 2, 1) := by decide +kernel
theorem dX1_breakWhatGives_34 : decode cX1_breakWhatGives 34 = .ok (.invokevirtual 69, 3) := by decide +kernel
theorem dX1_breakWhatGives_37 : decode cX1_breakWhatGives 37 = .ok (.iconst 2, 1) := by decide +kernel
theorem dX1_breakWhatGives_38 : decode cX1_breakWhatGives 38 = .ok (.if_icmp .ne 28, 3) := by decide +kernel
theorem dX1_breakWhatGives_41 : decode cX1_breakWhatGives 41 = .ok (.iload_n 3, 1) := by decide +kernel
theorem dX1_breakWhatGives_42 : decode cX1_breakWhatGives 42 = .ok (.invokestatic 83, 3) := by decide +kernel
theorem dX1_breakWhatGives_45 : decode cX1_breakWhatGives 45 = .ok (.aload_n 0, 1) := by decide +kernel
theorem dX1_breakWhatGives_46 : decode cX1_breakWhatGives 46 = .ok (.getfield 14, 3) := by decide +kernel
theorem dX1_breakWhatGives_49 : decode cX1_breakWhatGives 49 = .ok (.bipush 7, 2) := by decide +kernel
theorem dX1_breakWhatGives_51 : decode cX1_breakWhatGives 51 = .ok (.invokevirtual 69, 3) := by decide +kernel
theorem dX1_breakWhatGives_54 : decode cX1_breakWhatGives 54 = .ok (.if_icmp .le 12, 3) := by decide +kernel
theorem dX1_breakWhatGives_57 : decode cX1_breakWhatGives 57 = .ok (.aload_n 0, 1) := by decide +kernel
theorem dX1_breakWhatGives_58 : decode cX1_breakWhatGives 58 = .ok (.getfield 32, 3) := by decide +kernel
theorem dX1_breakWhatGives_61 : decode cX1_breakWhatGives 61 = .ok (.iload_n 2, 1) := by decide +kernel
theorem dX1_breakWhatGives_62 : decode cX1_breakWhatGives 62 = .ok (.iconst 1, 1) := by decide +kernel
theorem dX1_breakWhatGives_63 : decode cX1_breakWhatGives 63 = .ok (.invokevirtual 45, 3) := by decide +kernel
theorem dX1_breakWhatGives_66 : decode cX1_breakWhatGives 66 = .ok (.iload_n 1, 1) := by decide +kernel
theorem dX1_breakWhatGives_67 : decode cX1_breakWhatGives 67 = .ok (.ifCond .eq 41, 3) := by decide +kernel
theorem dX1_breakWhatGives_70 : decode cX1_breakWhatGives 70 = .ok (.iload_n 2, 1) := by decide +kernel
theorem dX1_breakWhatGives_71 : decode cX1_breakWhatGives 71 = .ok (.aload_n 0, 1) := by decide +kernel
theorem dX1_breakWhatGives_72 : decode cX1_breakWhatGives 72 = .ok (.getfield 52, 3) := by decide +kernel
theorem dX1_breakWhatGives_75 : decode cX1_breakWhatGives 75 = .ok (.iconst 1, 1) := by decide +kernel
theorem dX1_breakWhatGives_76 : decode cX1_breakWhatGives 76 = .ok (.isub, 1) := by decide +kernel
theorem dX1_breakWhatGives_77 : decode cX1_breakWhatGives 77 = .ok (.if_icmp .ge 31, 3) := by decide +kernel
theorem dX1_breakWhatGives_80 : decode cX1_breakWhatGives 80 = .ok (.iload_n 3, 1) := by decide +kernel
theorem dX1_breakWhatGives_81 : decode cX1_breakWhatGives 81 = .ok (.aload_n 0, 1) := by decide +kernel
theorem dX1_breakWhatGives_82 : decode cX1_breakWhatGives 82 = .ok (.getfield 23, 3) := by decide +kernel
theorem dX1_breakWhatGives_85 : decode cX1_breakWhatGives 85 = .ok (.iload_n 2, 1) := by decide +kernel
theorem dX1_breakWhatGives_86 : decode cX1_breakWhatGives 86 = .ok (.iconst 1, 1) := by decide +kernel
theorem dX1_breakWhatGives_87 : decode cX1_breakWhatGives 87 = .ok (.iadd, 1) := by decide +kernel
theorem dX1_breakWhatGives_88 : decode cX1_breakWhatGives 88 = .ok (.invokevirtual 69, 3) := by decide +kernel
theorem dX1_breakWhatGives_91 : decode cX1_breakWhatGives 91 = .ok (.isub, 1) := by decide +kernel
theorem dX1_breakWhatGives_92 : decode cX1_breakWhatGives 92 = .ok (.invokestatic 83, 3) := by decide +kernel
theorem dX1_breakWhatGives_95 : decode cX1_breakWhatGives 95 = .ok (.iload_n 1, 1) := by decide +kernel
theorem dX1_breakWhatGives_96 : decode cX1_breakWhatGives 96 = .ok (.if_icmp .le 12, 3) := by decide +kernel
theorem dX1_breakWhatGives_99 : decode cX1_breakWhatGives 99 = .ok (.aload_n 0, 1) := by decide +kernel
theorem dX1_breakWhatGives_100 : decode cX1_breakWhatGives 100 = .ok (.getfield 35, 3) := by decide +kernel
theorem dX1_breakWhatGives_103 : decode cX1_breakWhatGives 103 = .ok (.iload_n 2, 1) := by decide +kernel
theorem dX1_breakWhatGives_104 : decode cX1_breakWhatGives 104 = .ok (.iconst 1, 1) := by decide +kernel
theorem dX1_breakWhatGives_105 : decode cX1_breakWhatGives 105 = .ok (.invokevirtual 45, 3) := by decide +kernel
theorem dX1_breakWhatGives_108 : decode cX1_breakWhatGives 108 = .ok (.iinc 2 1, 3) := by decide +kernel
theorem dX1_breakWhatGives_111 : decode cX1_breakWhatGives 111 = .ok (.goto (-99), 3) := by decide +kernel
theorem dX1_breakWhatGives_114 : decode cX1_breakWhatGives 114 = .ok (.return_, 1) := by decide +kernel
theorem dX1_leastBroken_0 : decode cX1_leastBroken 0 = .ok (.iconst 0, 1) := by decide +kernel
theorem dX1_leastBroken_1 : decode cX1_leastBroken 1 = .ok (.istore_n 2, 1) := by decide +kernel
theorem dX1_leastBroken_2 : decode cX1_leastBroken 2 = .ok (.iload_n 2, 1) := by decide +kernel
theorem dX1_leastBroken_3 : decode cX1_leastBroken 3 = .ok (.aload_n 0, 1) := by decide +kernel
theorem dX1_leastBroken_4 : decode cX1_leastBroken 4 = .ok (.getfield 52, 3) := by decide +kernel
theorem dX1_leastBroken_7 : decode cX1_leastBroken 7 = .ok (.if_icmp .ge 20, 3) := by decide +kernel
theorem dX1_leastBroken_10 : decode cX1_leastBroken 10 = .ok (.aload_n 0, 1) := by decide +kernel
theorem dX1_leastBroken_11 : decode cX1_leastBroken 11 = .ok (.iload_n 2, 1) := by decide +kernel
theorem dX1_leastBroken_12 : decode cX1_leastBroken 12 = .ok (.iload_n 1, 1) := by decide +kernel
theorem dX1_leastBroken_13 : decode cX1_leastBroken 13 = .ok (.invokevirtual 126, 3) := by decide +kernel
theorem dX1_leastBroken_16 : decode cX1_leastBroken 16 = .ok (.ifCond .eq 5, 3) := by decide +kernel
theorem dX1_leastBroken_19 : decode cX1_leastBroken 19 = .ok (.iload_n 2, 1) := by decide +kernel
theorem dX1_leastBroken_20 : decode cX1_leastBroken 20 = .ok (.ireturn, 1) := by decide +kernel
theorem dX1_leastBroken_21 : decode cX1_leastBroken 21 = .ok (.iinc 2 1, 3) := by decide +kernel
theorem dX1_leastBroken_24 : decode cX1_leastBroken 24 = .ok (.goto (-22), 3) := by decide +kernel
theorem dX1_leastBroken_27 : decode cX1_leastBroken 27 = .ok (.iconst (-1), 1) := by decide +kernel
theorem dX1_leastBroken_28 : decode cX1_leastBroken 28 = .ok (.ireturn, 1) := by decide +kernel
theorem dX1_broken_0 : decode cX1_broken 0 = .ok (.iconst 0, 1) := by decide +kernel
theorem dX1_broken_1 : decode cX1_broken 1 = .ok (.istore_n 2, 1) := by decide +kernel
theorem dX1_broken_2 : decode cX1_broken 2 = .ok (.iconst 0, 1) := by decide +kernel
theorem dX1_broken_3 : decode cX1_broken 3 = .ok (.istore_n 3, 1) := by decide +kernel
theorem dX1_broken_4 : decode cX1_broken 4 = .ok (.iload_n 3, 1) := by decide +kernel
theorem dX1_broken_5 : decode cX1_broken 5 = .ok (.aload_n 0, 1) := by decide +kernel
theorem dX1_broken_6 : decode cX1_broken 6 = .ok (.getfield 52, 3) := by decide +kernel
theorem dX1_broken_9 : decode cX1_broken 9 = .ok (.if_icmp .ge 26, 3) := by decide +kernel
theorem dX1_broken_12 : decode cX1_broken 12 = .ok (.iload_n 2, 1) := by decide +kernel
theorem dX1_broken_13 : decode cX1_broken 13 = .ok (.aload_n 0, 1) := by decide +kernel
theorem dX1_broken_14 : decode cX1_broken 14 = .ok (.iload_n 3, 1) := by decide +kernel
theorem dX1_broken_15 : decode cX1_broken 15 = .ok (.iload_n 1, 1) := by decide +kernel
theorem dX1_broken_16 : decode cX1_broken 16 = .ok (.invokevirtual 126, 3) := by decide +kernel
theorem dX1_broken_19 : decode cX1_broken 19 = .ok (.ifCond .eq 7, 3) := by decide +kernel
theorem dX1_broken_22 : decode cX1_broken 22 = .ok (.iconst 1, 1) := by decide +kernel
theorem dX1_broken_23 : decode cX1_broken 23 = .ok (.goto 4, 3) := by decide +kernel
theorem dX1_broken_26 : decode cX1_broken 26 = .ok (.iconst 0, 1) := by decide +kernel
theorem dX1_broken_27 : decode cX1_broken 27 = .ok (.iadd, 1) := by decide +kernel
theorem dX1_broken_28 : decode cX1_broken 28 = .ok (.istore_n 2, 1) := by decide +kernel
theorem dX1_broken_29 : decode cX1_broken 29 = .ok (.iinc 3 1, 3) := by decide +kernel
theorem dX1_broken_32 : decode cX1_broken 32 = .ok (.goto (-28), 3) := by decide +kernel
theorem dX1_broken_35 : decode cX1_broken 35 = .ok (.iload_n 2, 1) := by decide +kernel
theorem dX1_broken_36 : decode cX1_broken 36 = .ok (.ireturn, 1) := by decide +kernel
theorem dX1_isBroken_0 : decode cX1_isBroken 0 = .ok (.iload_n 2, 1) := by decide +kernel
theorem dX1_isBroken_1 : decode cX1_isBroken 1 = .ok (.ifCond .eq 23, 3) := by decide +kernel
theorem dX1_isBroken_4 : decode cX1_isBroken 4 = .ok (.aload_n 0, 1) := by decide +kernel
theorem dX1_isBroken_5 : decode cX1_isBroken 5 = .ok (.getfield 35, 3) := by decide +kernel
theorem dX1_isBroken_8 : decode cX1_isBroken 8 = .ok (.iload_n 1, 1) := by decide +kernel
theorem dX1_isBroken_9 : decode cX1_isBroken 9 = .ok (.invokevirtual 69, 3) := by decide +kernel
theorem dX1_isBroken_12 : decode cX1_isBroken 12 = .ok (.iconst 1, 1) := by decide +kernel
theorem dX1_isBroken_13 : decode cX1_isBroken 13 = .ok (.if_icmp .ne 7, 3) := by decide +kernel
theorem dX1_isBroken_16 : decode cX1_isBroken 16 = .ok (.iconst 1, 1) := by decide +kernel
theorem dX1_isBroken_17 : decode cX1_isBroken 17 = .ok (.goto 24, 3) := by decide +kernel
theorem dX1_isBroken_20 : decode cX1_isBroken 20 = .ok (.iconst 0, 1) := by decide +kernel
theorem dX1_isBroken_21 : decode cX1_isBroken 21 = .ok (.goto 20, 3) := by decide +kernel
theorem dX1_isBroken_24 : decode cX1_isBroken 24 = .ok (.aload_n 0, 1) := by decide +kernel
theorem dX1_isBroken_25 : decode cX1_isBroken 25 = .ok (.getfield 32, 3) := by decide +kernel
theorem dX1_isBroken_28 : decode cX1_isBroken 28 = .ok (.iload_n 1, 1) := by decide +kernel
theorem dX1_isBroken_29 : decode cX1_isBroken 29 = .ok (.invokevirtual 69, 3) := by decide +kernel
theorem dX1_isBroken_32 : decode cX1_isBroken 32 = .ok (.iconst 1, 1) := by decide +kernel
theorem dX1_isBroken_33 : decode cX1_isBroken 33 = .ok (.if_icmp .ne 7, 3) := by decide +kernel
theorem dX1_isBroken_36 : decode cX1_isBroken 36 = .ok (.iconst 1, 1) := by decide +kernel
theorem dX1_isBroken_37 : decode cX1_isBroken 37 = .ok (.goto 4, 3) := by decide +kernel
theorem dX1_isBroken_40 : decode cX1_isBroken 40 = .ok (.iconst 0, 1) := by decide +kernel
theorem dX1_isBroken_41 : decode cX1_isBroken 41 = .ok (.ireturn, 1) := by decide +kernel
theorem dX2_init_0 : decode cX2_init 0 = .ok (.aload_n 0, 1) := by decide +kernel
theorem dX2_init_1 : decode cX2_init 1 = .ok (.invokespecial 3, 3) := by decide +kernel
theorem dX2_init_4 : decode cX2_init 4 = .ok (.aload_n 0, 1) := by decide +kernel
theorem dX2_init_5 : decode cX2_init 5 = .ok (.new 9, 3) := by decide +kernel
theorem dX2_init_8 : decode cX2_init 8 = .ok (.dup, 1) := by decide +kernel
theorem dX2_init_9 : decode cX2_init 9 = .ok (.bipush 20, 2) := by decide +kernel
theorem dX2_init_11 : decode cX2_init 11 = .ok (.invokespecial 13, 3) := by decide +kernel
theorem dX2_init_14 : decode cX2_init 14 = .ok (.putfield 16, 3) := by decide +kernel
theorem dX2_init_17 : decode cX2_init 17 = .ok (.aload_n 0, 1) := by decide +kernel
theorem dX2_init_18 : decode cX2_init 18 = .ok (.new 9, 3) := by decide +kernel
theorem dX2_init_21 : decode cX2_init 21 = .ok (.dup, 1) := by decide +kernel
theorem dX2_init_22 : decode cX2_init 22 = .ok (.bipush 20, 2) := by decide +kernel
theorem dX2_init_24 : decode cX2_init 24 = .ok (.invokespecial 13, 3) := by decide +kernel
theorem dX2_init_27 : decode cX2_init 27 = .ok (.putfield 20, 3) := by decide +kernel
theorem dX2_init_30 : decode cX2_init 30 = .ok (.aload_n 0, 1) := by decide +kernel
theorem dX2_init_31 : decode cX2_init 31 = .ok (.new 9, 3) := by decide +kernel
theorem dX2_init_34 : decode cX2_init 34 = .ok (.dup, 1) := by decide +kernel
theorem dX2_init_35 : decode cX2_init 35 = .ok (.bipush 20, 2) := by decide +kernel
theorem dX2_init_37 : decode cX2_init 37 = .ok (.invokespecial 13, 3) := by decide +kernel
theorem dX2_init_40 : decode cX2_init 40 = .ok (.putfield 23, 3) := by decide +kernel
theorem dX2_init_43 : decode cX2_init 43 = .ok (.aload_n 0, 1) := by decide +kernel
theorem dX2_init_44 : decode cX2_init 44 = .ok (.new 9, 3) := by decide +kernel
theorem dX2_init_47 : decode cX2_init 47 = .ok (.dup, 1) := by decide +kernel
theorem dX2_init_48 : decode cX2_init 48 = .ok (.bipush 20, 2) := by decide +kernel
theorem dX2_init_50 : decode cX2_init 50 = .ok (.invokespecial 13, 3) := by decide +kernel
theorem dX2_init_53 : decode cX2_init 53 = .ok (.putfield 26, 3) := by decide +kernel
theorem dX2_init_56 : decode cX2_init 56 = .ok (.return_, 1) := by decide +kernel
theorem dX2_add_0 : decode cX2_add 0 = .ok (.aload_n 0, 1) := by decide +kernel
theorem dX2_add_1 : decode cX2_add 1 = .ok (.getfield 29, 3) := by decide +kernel
theorem dX2_add_4 : decode cX2_add 4 = .ok (.bipush 20, 2) := by decide +kernel
theorem dX2_add_6 : decode cX2_add 6 = .ok (.if_icmp .lt 5, 3) := by decide +kernel
theorem dX2_add_9 : decode cX2_add 9 = .ok (.iconst (-1), 1) := by decide +kernel
theorem dX2_add_10 : decode cX2_add 10 = .ok (.ireturn, 1) := by decide +kernel
theorem dX2_add_11 : decode cX2_add 11 = .ok (.aload_n 0, 1) := by decide +kernel
theorem dX2_add_12 : decode cX2_add 12 = .ok (.getfield 16, 3) := by decide +kernel
theorem dX2_add_15 : decode cX2_add 15 = .ok (.aload_n 0, 1) := by decide +kernel
theorem dX2_add_16 : decode cX2_add 16 = .ok (.getfield 29, 3) := by decide +kernel
theorem dX2_add_19 : decode cX2_add 19 = .ok (.iload_n 1, 1) := by decide +kernel
theorem dX2_add_20 : decode cX2_add 20 = .ok (.invokevirtual 33, 3) := by decide +kernel
theorem dX2_add_23 : decode cX2_add 23 = .ok (.aload_n 0, 1) := by decide +kernel
theorem dX2_add_24 : decode cX2_add 24 = .ok (.getfield 20, 3) := by decide +kernel
theorem dX2_add_27 : decode cX2_add 27 = .ok (.aload_n 0, 1) := by decide +kernel
theorem dX2_add_28 : decode cX2_add 28 = .ok (.getfield 29, 3) := by decide +kernel
theorem dX2_add_31 : decode cX2_add 31 = .ok (.iload_n 2, 1) := by decide +kernel
theorem dX2_add_32 : decode cX2_add 32 = .ok (.invokevirtual 33, 3) := by decide +kernel
theorem dX2_add_35 : decode cX2_add 35 = .ok (.aload_n 0, 1) := by decide +kernel
theorem dX2_add_36 : decode cX2_add 36 = .ok (.getfield 23, 3) := by decide +kernel
theorem dX2_add_39 : decode cX2_add 39 = .ok (.aload_n 0, 1) := by decide +kernel
theorem dX2_add_40 : decode cX2_add 40 = .ok (.getfield 29, 3) := by decide +kernel
theorem dX2_add_43 : decode cX2_add 43 = .ok (.iload_n 3, 1) := by decide +kernel
theorem dX2_add_44 : decode cX2_add 44 = .ok (.invokevirtual 33, 3) := by decide +kernel
theorem dX2_add_47 : decode cX2_add 47 = .ok (.aload_n 0, 1) := by decide +kernel
theorem dX2_add_48 : decode cX2_add 48 = .ok (.getfield 26, 3) := by decide +kernel
theorem dX2_add_51 : decode cX2_add 51 = .ok (.aload_n 0, 1) := by decide +kernel
theorem dX2_add_52 : decode cX2_add 52 = .ok (.getfield 29, 3) := by decide +kernel
theorem dX2_add_55 : decode cX2_add 55 = .ok (.iload 4, 2) := by decide +kernel
theorem dX2_add_57 : decode cX2_add 57 = .ok (.invokevirtual 33, 3) := by decide +kernel
theorem dX2_add_60 : decode cX2_add 60 = .ok (.aload_n 0, 1) := by decide +kernel
theorem dX2_add_61 : decode cX2_add 61 = .ok (.dup, 1) := by decide +kernel
theorem dX2_add_62 : decode cX2_add 62 = .ok (.getfield 29, 3) := by decide +kernel
theorem dX2_add_65 : decode cX2_add 65 = .ok (.iconst 1, 1) := by decide +kernel
theorem dX2_add_66 : decode cX2_add 66 = .ok (.iadd, 1) := by decide +kernel
theorem dX2_add_67 : decode cX2_add 67 = .ok (.putfield 29, 3) := by decide +kernel
theorem dX2_add_70 : decode cX2_add 70 = .ok (.aload_n 0, 1) := by decide +kernel
theorem dX2_add_71 : decode cX2_add 71 = .ok (.getfield 29, 3) := by decide +kernel
theorem dX2_add_74 : decode cX2_add 74 = .ok (.ireturn, 1) := by decide +kernel
theorem dX2_firstRowOff_0 : decode cX2_firstRowOff 0 = .ok (.iconst 0, 1) := by decide +kernel
theorem dX2_firstRowOff_1 : decode cX2_firstRowOff 1 = .ok (.istore 4, 2) := by decide +kernel
theorem dX2_firstRowOff_3 : decode cX2_firstRowOff 3 = .ok (.iload 4, 2) := by decide +kernel
theorem dX2_firstRowOff_5 : decode cX2_firstRowOff 5 = .ok (.aload_n 0, 1) := by decide +kernel
theorem dX2_firstRowOff_6 : decode cX2_firstRowOff 6 = .ok (.getfield 29, 3) := by decide +kernel
theorem dX2_firstRowOff_9 : decode cX2_firstRowOff 9 = .ok (.if_icmp .ge 112, 3) := by decide +kernel
theorem dX2_firstRowOff_12 : decode cX2_firstRowOff 12 = .ok (.iload 4, 2) := by decide +kernel
theorem dX2_firstRowOff_14 : decode cX2_firstRowOff 14 = .ok (.bipush 20, 2) := by decide +kernel
theorem dX2_firstRowOff_16 : decode cX2_firstRowOff 16 = .ok (.if_icmp .ge 105, 3) := by decide +kernel
theorem dX2_firstRowOff_19 : decode cX2_firstRowOff 19 = .ok (.aload_n 0, 1) := by decide +kernel
theorem dX2_firstRowOff_20 : decode cX2_firstRowOff 20 = .ok (.getfield 20, 3) := by decide +kernel
theorem dX2_firstRowOff_23 : decode cX2_firstRowOff 23 = .ok (.iload 4, 2) := by decide +kernel
theorem dX2_firstRowOff_25 : decode cX2_firstRowOff 25 = .ok (.invokevirtual 37, 3) := by decide +kernel
theorem dX2_firstRowOff_28 : decode cX2_firstRowOff 28 = .ok (.istore 5, 2) := by decide +kernel
theorem dX2_firstRowOff_30 : decode cX2_firstRowOff 30 = .ok (.aload_n 0, 1) := by decide +kernel
theorem dX2_firstRowOff_31 : decode cX2_firstRowOff 31 = .ok (.getfield 16, 3) := by decide +kernel
theorem dX2_firstRowOff_34 : decode cX2_firstRowOff 34 = .ok (.iload 4, 2) := by decide +kernel
theorem dX2_firstRowOff_36 : decode cX2_firstRowOff 36 = .ok (.invokevirtual 37, 3) := by decide +kernel
theorem dX2_firstRowOff_39 : decode cX2_firstRowOff 39 = .ok (.iload_n 1, 1) := by decide +kernel
theorem dX2_firstRowOff_40 : decode cX2_firstRowOff 40 = .ok (.if_icmp .ne 75, 3) := by decide +kernel
theorem dX2_firstRowOff_43 : decode cX2_firstRowOff 43 = .ok (.iload 5, 2) := by decide +kernel
theorem dX2_firstRowOff_45 : decode cX2_firstRowOff 45 = .ok (.aload_n 2, 1) := by decide +kernel
theorem dX2_firstRowOff_46 : decode cX2_firstRowOff 46 = .ok (.getfield 41, 3) := by decide +kernel
theorem dX2_firstRowOff_49 : decode cX2_firstRowOff 49 = .ok (.if_icmp .ge 66, 3) := by decide +kernel
theorem dX2_firstRowOff_52 : decode cX2_firstRowOff 52 = .ok (.aload_n 0, 1) := by decide +kernel
theorem dX2_firstRowOff_53 : decode cX2_firstRowOff 53 = .ok (.getfield 23, 3) := by decide +kernel
theorem dX2_firstRowOff_56 : decode cX2_firstRowOff 56 = .ok (.iload 4, 2) := by decide +kernel
theorem dX2_firstRowOff_58 : decode cX2_firstRowOff 58 = .ok (.invokevirtual 37, 3) := by decide +kernel
theorem dX2_firstRowOff_61 : decode cX2_firstRowOff 61 = .ok (.aload_n 2, 1) := by decide +kernel
theorem dX2_firstRowOff_62 : decode cX2_firstRowOff 62 = .ok (.getfield 45, 3) := by decide +kernel
theorem dX2_firstRowOff_65 : decode cX2_firstRowOff 65 = .ok (.iload 5, 2) := by decide +kernel
theorem dX2_firstRowOff_67 : decode cX2_firstRowOff 67 = .ok (.invokevirtual 37, 3) := by decide +kernel
theorem dX2_firstRowOff_70 : decode cX2_firstRowOff 70 = .ok (.isub, 1) := by decide +kernel
theorem dX2_firstRowOff_71 : decode cX2_firstRowOff 71 = .ok (.invokestatic 46, 3) := by decide +kernel
theorem dX2_firstRowOff_74 : decode cX2_firstRowOff 74 = .ok (.istore 6, 2) := by decide +kernel
theorem dX2_firstRowOff_76 : decode cX2_firstRowOff 76 = .ok (.aload_n 0, 1) := by decide +kernel
theorem dX2_firstRowOff_77 : decode cX2_firstRowOff 77 = .ok (.getfield 26, 3) := by decide +kernel
theorem dX2_firstRowOff_80 : decode cX2_firstRowOff 80 = .ok (.iload 4, 2) := by decide +kernel
theorem dX2_firstRowOff_82 : decode cX2_firstRowOff 82 = .ok (.invokevirtual 37, 3) := by decide +kernel
theorem dX2_firstRowOff_85 : decode cX2_firstRowOff 85 = .ok (.aload_n 2, 1) := by decide +kernel
theorem dX2_firstRowOff_86 : decode cX2_firstRowOff 86 = .ok (.getfield 51, 3) := by decide +kernel
theorem dX2_firstRowOff_89 : decode cX2_firstRowOff 89 = .ok (.iload 5, 2) := by decide +kernel
theorem dX2_firstRowOff_91 : decode cX2_firstRowOff 91 = .ok (.invokevirtual 37, 3) := by decide +kernel
theorem dX2_firstRowOff_94 : decode cX2_firstRowOff 94 = .ok (.isub, 1) := by decide +kernel
theorem dX2_firstRowOff_95 : decode cX2_firstRowOff 95 = .ok (.invokestatic 46, 3) := by decide +kernel
theorem dX2_firstRowOff_98 : decode cX2_firstRowOff 98 = .ok (.istore 7, 2) := by decide +kernel
theorem dX2_firstRowOff_100 : decode cX2_firstRowOff 100 = .ok (.iload 6, 2) := by decide +kernel
theorem dX2_firstRowOff_102 : decode cX2_firstRowOff 102 = .ok (.iload_n 3, 1) := by decide +kernel
theorem dX2_firstRowOff_103 : decode cX2_firstRowOff 103 = .ok (.if_icmp .gt 9, 3) := by decide +kernel
theorem dX2_firstRowOff_106 : decode cX2_firstRowOff 106 = .ok (.iload 7, 2) := by decide +kernel
theorem dX2_firstRowOff_108 : decode cX2_firstRowOff 108 = .ok (.iload_n 3, 1) := by decide +kernel
theorem dX2_firstRowOff_109 : decode cX2_firstRowOff 109 = .ok (.if_icmp .le 6, 3) := by decide +kernel
theorem dX2_firstRowOff_112 : decode cX2_firstRowOff 112 = .ok (.iload 4, 2) := by decide +kernel
theorem dX2_firstRowOff_114 : decode cX2_firstRowOff 114 = .ok (.ireturn, 1) := by decide +kernel
theorem dX2_firstRowOff_115 : decode cX2_firstRowOff 115 = .ok (.iinc 4 1, 3) := by decide +kernel
theorem dX2_firstRowOff_118 : decode cX2_firstRowOff 118 = .ok (.goto (-115), 3) := by decide +kernel
theorem dX2_firstRowOff_121 : decode cX2_firstRowOff 121 = .ok (.iconst (-1), 1) := by decide +kernel
theorem dX2_firstRowOff_122 : decode cX2_firstRowOff 122 = .ok (.ireturn, 1) := by decide +kernel
theorem dX2_copy_0 : decode cX2_copy 0 = .ok (.aload_n 0, 1) := by decide +kernel
theorem dX2_copy_1 : decode cX2_copy 1 = .ok (.aload_n 1, 1) := by decide +kernel
theorem dX2_copy_2 : decode cX2_copy 2 = .ok (.getfield 29, 3) := by decide +kernel
theorem dX2_copy_5 : decode cX2_copy 5 = .ok (.putfield 29, 3) := by decide +kernel
theorem dX2_copy_8 : decode cX2_copy 8 = .ok (.aload_n 0, 1) := by decide +kernel
theorem dX2_copy_9 : decode cX2_copy 9 = .ok (.getfield 16, 3) := by decide +kernel
theorem dX2_copy_12 : decode cX2_copy 12 = .ok (.aload_n 1, 1) := by decide +kernel
theorem dX2_copy_13 : decode cX2_copy 13 = .ok (.getfield 16, 3) := by decide +kernel
theorem dX2_copy_16 : decode cX2_copy 16 = .ok (.invokevirtual 52, 3) := by decide +kernel
theorem dX2_copy_19 : decode cX2_copy 19 = .ok (.aload_n 0, 1) := by decide +kernel
theorem dX2_copy_20 : decode cX2_copy 20 = .ok (.getfield 20, 3) := by decide +kernel
theorem dX2_copy_23 : decode cX2_copy 23 = .ok (.aload_n 1, 1) := by decide +kernel
theorem dX2_copy_24 : decode cX2_copy 24 = .ok (.getfield 20, 3) := by decide +kernel
theorem dX2_copy_27 : decode cX2_copy 27 = .ok (.invokevirtual 52, 3) := by decide +kernel
theorem dX2_copy_30 : decode cX2_copy 30 = .ok (.aload_n 0, 1) := by decide +kernel
theorem dX2_copy_31 : decode cX2_copy 31 = .ok (.getfield 23, 3) := by decide +kernel
theorem dX2_copy_34 : decode cX2_copy 34 = .ok (.aload_n 1, 1) := by decide +kernel
theorem dX2_copy_35 : decode cX2_copy 35 = .ok (.getfield 23, 3) := by decide +kernel
theorem dX2_copy_38 : decode cX2_copy 38 = .ok (.invokevirtual 52, 3) := by decide +kernel
theorem dX2_copy_41 : decode cX2_copy 41 = .ok (.aload_n 0, 1) := by decide +kernel
theorem dX2_copy_42 : decode cX2_copy 42 = .ok (.getfield 26, 3) := by decide +kernel
theorem dX2_copy_45 : decode cX2_copy 45 = .ok (.aload_n 1, 1) := by decide +kernel
theorem dX2_copy_46 : decode cX2_copy 46 = .ok (.getfield 26, 3) := by decide +kernel
theorem dX2_copy_49 : decode cX2_copy 49 = .ok (.invokevirtual 52, 3) := by decide +kernel
theorem dX2_copy_52 : decode cX2_copy 52 = .ok (.return_, 1) := by decide +kernel
theorem dX3_init_0 : decode cX3_init 0 = .ok (.aload_n 0, 1) := by decide +kernel
theorem dX3_init_1 : decode cX3_init 1 = .ok (.invokespecial 3, 3) := by decide +kernel
theorem dX3_init_4 : decode cX3_init 4 = .ok (.aload_n 0, 1) := by decide +kernel
theorem dX3_init_5 : decode cX3_init 5 = .ok (.new 9, 3) := by decide +kernel
theorem dX3_init_8 : decode cX3_init 8 = .ok (.dup, 1) := by decide +kernel
theorem dX3_init_9 : decode cX3_init 9 = .ok (.sipush 300, 3) := by decide +kernel
theorem dX3_init_12 : decode cX3_init 12 = .ok (.invokespecial 11, 3) := by decide +kernel
theorem dX3_init_15 : decode cX3_init 15 = .ok (.putfield 14, 3) := by decide +kernel
theorem dX3_init_18 : decode cX3_init 18 = .ok (.aload_n 0, 1) := by decide +kernel
theorem dX3_init_19 : decode cX3_init 19 = .ok (.new 9, 3) := by decide +kernel
theorem dX3_init_22 : decode cX3_init 22 = .ok (.dup, 1) := by decide +kernel
theorem dX3_init_23 : decode cX3_init 23 = .ok (.sipush 300, 3) := by decide +kernel
theorem dX3_init_26 : decode cX3_init 26 = .ok (.invokespecial 11, 3) := by decide +kernel
theorem dX3_init_29 : decode cX3_init 29 = .ok (.putfield 20, 3) := by decide +kernel
theorem dX3_init_32 : decode cX3_init 32 = .ok (.return_, 1) := by decide +kernel
theorem dX3_take_0 : decode cX3_take 0 = .ok (.aload_n 0, 1) := by decide +kernel
theorem dX3_take_1 : decode cX3_take 1 = .ok (.getfield 14, 3) := by decide +kernel
theorem dX3_take_4 : decode cX3_take 4 = .ok (.aload_n 1, 1) := by decide +kernel
theorem dX3_take_5 : decode cX3_take 5 = .ok (.invokevirtual 23, 3) := by decide +kernel
theorem dX3_take_8 : decode cX3_take 8 = .ok (.aload_n 0, 1) := by decide +kernel
theorem dX3_take_9 : decode cX3_take 9 = .ok (.iload_n 2, 1) := by decide +kernel
theorem dX3_take_10 : decode cX3_take 10 = .ok (.putfield 27, 3) := by decide +kernel
theorem dX3_take_13 : decode cX3_take 13 = .ok (.return_, 1) := by decide +kernel
theorem dX3_work_0 : decode cX3_work 0 = .ok (.iconst 0, 1) := by decide +kernel
theorem dX3_work_1 : decode cX3_work 1 = .ok (.istore_n 2, 1) := by decide +kernel
theorem dX3_work_2 : decode cX3_work 2 = .ok (.iconst 0, 1) := by decide +kernel
theorem dX3_work_3 : decode cX3_work 3 = .ok (.istore_n 3, 1) := by decide +kernel
theorem dX3_work_4 : decode cX3_work 4 = .ok (.iconst 0, 1) := by decide +kernel
theorem dX3_work_5 : decode cX3_work 5 = .ok (.istore 4, 2) := by decide +kernel
theorem dX3_work_7 : decode cX3_work 7 = .ok (.iconst 0, 1) := by decide +kernel
theorem dX3_work_8 : decode cX3_work 8 = .ok (.istore 5, 2) := by decide +kernel
theorem dX3_work_10 : decode cX3_work 10 = .ok (.iload 5, 2) := by decide +kernel
theorem dX3_work_12 : decode cX3_work 12 = .ok (.aload_n 0, 1) := by decide +kernel
theorem dX3_work_13 : decode cX3_work 13 = .ok (.getfield 27, 3) := by decide +kernel
theorem dX3_work_16 : decode cX3_work 16 = .ok (.if_icmp .ge 248, 3) := by decide +kernel
theorem dX3_work_19 : decode cX3_work 19 = .ok (.iload 5, 2) := by decide +kernel
theorem dX3_work_21 : decode cX3_work 21 = .ok (.sipush 300, 3) := by decide +kernel
theorem dX3_work_24 : decode cX3_work 24 = .ok (.if_icmp .ge 240, 3) := by decide +kernel
theorem dX3_work_27 : decode cX3_work 27 = .ok (.aload_n 0, 1) := by decide +kernel
theorem dX3_work_28 : decode cX3_work 28 = .ok (.getfield 14, 3) := by decide +kernel
theorem dX3_work_31 : decode cX3_work 31 = .ok (.iload 5, 2) := by decide +kernel
theorem dX3_work_33 : decode cX3_work 33 = .ok (.invokevirtual 31, 3) := by decide +kernel
theorem dX3_work_36 : decode cX3_work 36 = .ok (.istore 6, 2) := by decide +kernel
theorem dX3_work_38 : decode cX3_work 38 = .ok (.aload_n 0, 1) := by decide +kernel
theorem dX3_work_39 : decode cX3_work 39 = .ok (.getfield 20, 3) := by decide +kernel
theorem dX3_work_42 : decode cX3_work 42 = .ok (.iload 4, 2) := by decide +kernel
theorem dX3_work_44 : decode cX3_work 44 = .ok (.iconst 1, 1) := by decide +kernel
theorem dX3_work_45 : decode cX3_work 45 = .ok (.isub, 1) := by decide +kernel
theorem dX3_work_46 : decode cX3_work 46 = .ok (.invokevirtual 31, 3) := by decide +kernel
theorem dX3_work_49 : decode cX3_work 49 = .ok (.istore 7, 2) := by decide +kernel
theorem dX3_work_51 : decode cX3_work 51 = .ok (.iload 6, 2) := by decide +kernel
theorem dX3_work_53 : decode cX3_work 53 = .ok (.sipush 1000, 3) := by decide +kernel
theorem dX3_work_56 : decode cX3_work 56 = .ok (.if_icmp .lt 24, 3) := by decide +kernel
theorem dX3_work_59 : decode cX3_work 59 = .ok (.aload_n 0, 1) := by decide +kernel
theorem dX3_work_60 : decode cX3_work 60 = .ok (.getfield 20, 3) := by decide +kernel
theorem dX3_work_63 : decode cX3_work 63 = .ok (.iload 4, 2) := by decide +kernel
theorem dX3_work_65 : decode cX3_work 65 = .ok (.iload 6, 2) := by decide +kernel
theorem dX3_work_67 : decode cX3_work 67 = .ok (.sipush 1000, 3) := by decide +kernel
theorem dX3_work_70 : decode cX3_work 70 = .ok (.isub, 1) := by decide +kernel
theorem dX3_work_71 : decode cX3_work 71 = .ok (.invokevirtual 35, 3) := by decide +kernel
theorem dX3_work_74 : decode cX3_work 74 = .ok (.iinc 4 1, 3) := by decide +kernel
theorem dX3_work_77 : decode cX3_work 77 = .ok (.goto 181, 3) := by decide +kernel
theorem dX3_work_80 : decode cX3_work 80 = .ok (.iload 6, 2) := by decide +kernel
theorem dX3_work_82 : decode cX3_work 82 = .ok (.sipush 300, 3) := by decide +kernel
theorem dX3_work_85 : decode cX3_work 85 = .ok (.if_icmp .lt 36, 3) := by decide +kernel
theorem dX3_work_88 : decode cX3_work 88 = .ok (.iload 6, 2) := by decide +kernel
theorem dX3_work_90 : decode cX3_work 90 = .ok (.sipush 309, 3) := by decide +kernel
theorem dX3_work_93 : decode cX3_work 93 = .ok (.if_icmp .ge 28, 3) := by decide +kernel
theorem dX3_work_96 : decode cX3_work 96 = .ok (.aload_n 0, 1) := by decide +kernel
theorem dX3_work_97 : decode cX3_work 97 = .ok (.getfield 20, 3) := by decide +kernel
theorem dX3_work_100 : decode cX3_work 100 = .ok (.iload 4, 2) := by decide +kernel
theorem dX3_work_102 : decode cX3_work 102 = .ok (.aload_n 1, 1) := by decide +kernel
theorem dX3_work_103 : decode cX3_work 103 = .ok (.iload 6, 2) := by decide +kernel
theorem dX3_work_105 : decode cX3_work 105 = .ok (.sipush 300, 3) := by decide +kernel
theorem dX3_work_108 : decode cX3_work 108 = .ok (.isub, 1) := by decide +kernel
theorem dX3_work_109 : decode cX3_work 109 = .ok (.invokevirtual 31, 3) := by decide +kernel
theorem dX3_work_112 : decode cX3_work 112 = .ok (.invokevirtual 35, 3) := by decide +kernel
theorem dX3_work_115 : decode cX3_work 115 = .ok (.iinc 4 1, 3) := by decide +kernel
theorem dX3_work_118 : decode cX3_work 118 = .ok (.goto 140, 3) := by decide +kernel
theorem dX3_work_121 : decode cX3_work 121 = .ok (.iload 6, 2) := by decide +kernel
theorem dX3_work_123 : decode cX3_work 123 = .ok (.sipush 309, 3) := by decide +kernel
theorem dX3_work_126 : decode cX3_work 126 = .ok (.if_icmp .ne 14, 3) := by decide +kernel
theorem dX3_work_129 : decode cX3_work 129 = .ok (.iload_n 2, 1) := by decide +kernel
theorem dX3_work_130 : decode cX3_work 130 = .ok (.iload 7, 2) := by decide +kernel
theorem dX3_work_132 : decode cX3_work 132 = .ok (.iadd, 1) := by decide +kernel
theorem dX3_work_133 : decode cX3_work 133 = .ok (.istore_n 2, 1) := by decide +kernel
theorem dX3_work_134 : decode cX3_work 134 = .ok (.iconst 0, 1) := by decide +kernel
theorem dX3_work_135 : decode cX3_work 135 = .ok (.istore 4, 2) := by decide +kernel
theorem dX3_work_137 : decode cX3_work 137 = .ok (.goto 121, 3) := by decide +kernel
theorem dX3_work_140 : decode cX3_work 140 = .ok (.iload 6, 2) := by decide +kernel
theorem dX3_work_142 : decode cX3_work 142 = .ok (.sipush 310, 3) := by decide +kernel
theorem dX3_work_145 : decode cX3_work 145 = .ok (.if_icmp .ne 14, 3) := by decide +kernel
theorem dX3_work_148 : decode cX3_work 148 = .ok (.iload_n 3, 1) := by decide +kernel
theorem dX3_work_149 : decode cX3_work 149 = .ok (.iload 7, 2) := by decide +kernel
theorem dX3_work_151 : decode cX3_work 151 = .ok (.iadd, 1) := by decide +kernel
theorem dX3_work_152 : decode cX3_work 152 = .ok (.istore_n 3, 1) := by decide +kernel
theorem dX3_work_153 : decode cX3_work 153 = .ok (.iconst 0, 1) := by decide +kernel
theorem dX3_work_154 : decode cX3_work 154 = .ok (.istore 4, 2) := by decide +kernel
theorem dX3_work_156 : decode cX3_work 156 = .ok (.goto 102, 3) := by decide +kernel
theorem dX3_work_159 : decode cX3_work 159 = .ok (.iload 6, 2) := by decide +kernel
theorem dX3_work_161 : decode cX3_work 161 = .ok (.sipush 314, 3) := by decide +kernel
theorem dX3_work_164 : decode cX3_work 164 = .ok (.if_icmp .ne 21, 3) := by decide +kernel
theorem dX3_work_167 : decode cX3_work 167 = .ok (.aload_n 0, 1) := by decide +kernel
theorem dX3_work_168 : decode cX3_work 168 = .ok (.getfield 20, 3) := by decide +kernel
theorem dX3_work_171 : decode cX3_work 171 = .ok (.iload 4, 2) := by decide +kernel
theorem dX3_work_173 : decode cX3_work 173 = .ok (.iconst 1, 1) := by decide +kernel
theorem dX3_work_174 : decode cX3_work 174 = .ok (.isub, 1) := by decide +kernel
theorem dX3_work_175 : decode cX3_work 175 = .ok (.iconst 1, 1) := by decide +kernel
theorem dX3_work_176 : decode cX3_work 176 = .ok (.iload 7, 2) := by decide +kernel
theorem dX3_work_178 : decode cX3_work 178 = .ok (.isub, 1) := by decide +kernel
theorem dX3_work_179 : decode cX3_work 179 = .ok (.invokevirtual 35, 3) := by decide +kernel
theorem dX3_work_182 : decode cX3_work 182 = .ok (.goto 76, 3) := by decide +kernel
theorem dX3_work_185 : decode cX3_work 185 = .ok (.iload 6, 2) := by decide +kernel
theorem dX3_work_187 : decode cX3_work 187 = .ok (.sipush 317, 3) := by decide +kernel
theorem dX3_work_190 : decode cX3_work 190 = .ok (.if_icmp .ne 36, 3) := by decide +kernel
theorem dX3_work_193 : decode cX3_work 193 = .ok (.aload_n 0, 1) := by decide +kernel
theorem dX3_work_194 : decode cX3_work 194 = .ok (.getfield 20, 3) := by decide +kernel
theorem dX3_work_197 : decode cX3_work 197 = .ok (.iload 4, 2) := by decide +kernel
theorem dX3_work_199 : decode cX3_work 199 = .ok (.iconst 1, 1) := by decide +kernel
theorem dX3_work_200 : decode cX3_work 200 = .ok (.isub, 1) := by decide +kernel
theorem dX3_work_201 : decode cX3_work 201 = .ok (.iload 7, 2) := by decide +kernel
theorem dX3_work_203 : decode cX3_work 203 = .ok (.ifCond .le 7, 3) := by decide +kernel
theorem dX3_work_206 : decode cX3_work 206 = .ok (.iconst 1, 1) := by decide +kernel
theorem dX3_work_207 : decode cX3_work 207 = .ok (.goto 13, 3) := by decide +kernel
theorem dX3_work_210 : decode cX3_work 210 = .ok (.iload 7, 2) := by decide +kernel
theorem dX3_work_212 : decode cX3_work 212 = .ok (.ifCond .ge 7, 3) := by decide +kernel
theorem dX3_work_215 : decode cX3_work 215 = .ok (.iconst (-1), 1) := by decide +kernel
theorem dX3_work_216 : decode cX3_work 216 = .ok (.goto 4, 3) := by decide +kernel
theorem dX3_work_219 : decode cX3_work 219 = .ok (.iconst 0, 1) := by decide +kernel
theorem dX3_work_220 : decode cX3_work 220 = .ok (.invokevirtual 35, 3) := by decide +kernel
theorem dX3_work_223 : decode cX3_work 223 = .ok (.goto 35, 3) := by decide +kernel
theorem dX3_work_226 : decode cX3_work 226 = .ok (.iinc 4 (-1), 3) := by decide +kernel
theorem dX3_work_229 : decode cX3_work 229 = .ok (.aload_n 0, 1) := by decide +kernel
theorem dX3_work_230 : decode cX3_work 230 = .ok (.getfield 20, 3) := by decide +kernel
theorem dX3_work_233 : decode cX3_work 233 = .ok (.iload 4, 2) := by decide +kernel
theorem dX3_work_235 : decode cX3_work 235 = .ok (.iconst 1, 1) := by decide +kernel
theorem dX3_work_236 : decode cX3_work 236 = .ok (.isub, 1) := by decide +kernel
theorem dX3_work_237 : decode cX3_work 237 = .ok (.iload 6, 2) := by decide +kernel
theorem dX3_work_239 : decode cX3_work 239 = .ok (.aload_n 0, 1) := by decide +kernel
theorem dX3_work_240 : decode cX3_work 240 = .ok (.getfield 20, 3) := by decide +kernel
theorem dX3_work_243 : decode cX3_work 243 = .ok (.iload 4, 2) := by decide +kernel
theorem dX3_work_245 : decode cX3_work 245 = .ok (.iconst 1, 1) := by decide +kernel
theorem dX3_work_246 : decode cX3_work 246 = .ok (.isub, 1) := by decide +kernel
theorem dX3_work_247 : decode cX3_work 247 = .ok (.invokevirtual 31, 3) := by decide +kernel
theorem dX3_work_250 : decode cX3_work 250 = .ok (.iload 7, 2) := by decide +kernel
theorem dX3_work_252 : decode cX3_work 252 = .ok (.invokestatic 39, 3) := by decide +kernel
theorem dX3_work_255 : decode cX3_work 255 = .ok (.invokevirtual 35, 3) := by decide +kernel
theorem dX3_work_258 : decode cX3_work 258 = .ok (.iinc 5 1, 3) := by decide +kernel
theorem dX3_work_261 : decode cX3_work 261 = .ok (.goto (-251), 3) := by decide +kernel
theorem dX3_work_264 : decode cX3_work 264 = .ok (.aload_n 0, 1) := by decide +kernel
theorem dX3_work_265 : decode cX3_work 265 = .ok (.iload_n 2, 1) := by decide +kernel
theorem dX3_work_266 : decode cX3_work 266 = .ok (.ldc 43, 2) := by decide +kernel
theorem dX3_work_268 : decode cX3_work 268 = .ok (.ldc 44, 2) := by decide +kernel
theorem dX3_work_270 : decode cX3_work 270 = .ok (.invokestatic 45, 3) := by decide +kernel
theorem dX3_work_273 : decode cX3_work 273 = .ok (.putfield 48, 3) := by decide +kernel
theorem dX3_work_276 : decode cX3_work 276 = .ok (.aload_n 0, 1) := by decide +kernel
theorem dX3_work_277 : decode cX3_work 277 = .ok (.iload_n 3, 1) := by decide +kernel
theorem dX3_work_278 : decode cX3_work 278 = .ok (.ldc 43, 2) := by decide +kernel
theorem dX3_work_280 : decode cX3_work 280 = .ok (.ldc 44, 2) := by decide +kernel
theorem dX3_work_282 : decode cX3_work 282 = .ok (.invokestatic 45, 3) := by decide +kernel
theorem dX3_work_285 : decode cX3_work 285 = .ok (.putfield 51, 3) := by decide +kernel
theorem dX3_work_288 : decode cX3_work 288 = .ok (.return_, 1) := by decide +kernel
theorem dX3_ofTwo_0 : decode cX3_ofTwo 0 = .ok (.iload_n 0, 1) := by decide +kernel
theorem dX3_ofTwo_1 : decode cX3_ofTwo 1 = .ok (.lookupswitch 194 #[(42, 115), (43, 107), (45, 111), (47, 119), (60, 131), (61, 153), (62, 142), (311, 184), (312, 168), (313, 164), (315, 172), (316, 178)], 107) := by decide +kernel
theorem dX3_ofTwo_108 : decode cX3_ofTwo 108 = .ok (.iload_n 1, 1) := by decide +kernel
theorem dX3_ofTwo_109 : decode cX3_ofTwo 109 = .ok (.iload_n 2, 1) := by decide +kernel
theorem dX3_ofTwo_110 : decode cX3_ofTwo 110 = .ok (.iadd, 1) := by decide +kernel
theorem dX3_ofTwo_111 : decode cX3_ofTwo 111 = .ok (.ireturn, 1) := by decide +kernel
theorem dX3_ofTwo_112 : decode cX3_ofTwo 112 = .ok (.iload_n 1, 1) := by decide +kernel
theorem dX3_ofTwo_113 : decode cX3_ofTwo 113 = .ok (.iload_n 2, 1) := by decide +kernel
theorem dX3_ofTwo_114 : decode cX3_ofTwo 114 = .ok (.isub, 1) := by decide +kernel
theorem dX3_ofTwo_115 : decode cX3_ofTwo 115 = .ok (.ireturn, 1) := by decide +kernel
theorem dX3_ofTwo_116 : decode cX3_ofTwo 116 = .ok (.iload_n 1, 1) := by decide +kernel
theorem dX3_ofTwo_117 : decode cX3_ofTwo 117 = .ok (.iload_n 2, 1) := by decide +kernel
theorem dX3_ofTwo_118 : decode cX3_ofTwo 118 = .ok (.imul, 1) := by decide +kernel
theorem dX3_ofTwo_119 : decode cX3_ofTwo 119 = .ok (.ireturn, 1) := by decide +kernel
theorem dX3_ofTwo_120 : decode cX3_ofTwo 120 = .ok (.iload_n 2, 1) := by decide +kernel
theorem dX3_ofTwo_121 : decode cX3_ofTwo 121 = .ok (.ifCond .ne 7, 3) := by decide +kernel
theorem dX3_ofTwo_124 : decode cX3_ofTwo 124 = .ok (.iconst 0, 1) := by decide +kernel
theorem dX3_ofTwo_125 : decode cX3_ofTwo 125 = .ok (.goto 6, 3) := by decide +kernel
theorem dX3_ofTwo_128 : decode cX3_ofTwo 128 = .ok (.iload_n 1, 1) := by decide +kernel
theorem dX3_ofTwo_129 : decode cX3_ofTwo 129 = .ok (.iload_n 2, 1) := by decide +kernel
theorem dX3_ofTwo_130 : decode cX3_ofTwo 130 = .ok (.idiv, 1) := by decide +kernel
theorem dX3_ofTwo_131 : decode cX3_ofTwo 131 = .ok (.ireturn, 1) := by decide +kernel
theorem dX3_ofTwo_132 : decode cX3_ofTwo 132 = .ok (.iload_n 1, 1) := by decide +kernel
theorem dX3_ofTwo_133 : decode cX3_ofTwo 133 = .ok (.iload_n 2, 1) := by decide +kernel
theorem dX3_ofTwo_134 : decode cX3_ofTwo 134 = .ok (.if_icmp .ge 7, 3) := by decide +kernel
theorem dX3_ofTwo_137 : decode cX3_ofTwo 137 = .ok (.iconst 1, 1) := by decide +kernel
theorem dX3_ofTwo_138 : decode cX3_ofTwo 138 = .ok (.goto 4, 3) := by decide +kernel
theorem dX3_ofTwo_141 : decode cX3_ofTwo 141 = .ok (.iconst 0, 1) := by decide +kernel
theorem dX3_ofTwo_142 : decode cX3_ofTwo 142 = .ok (.ireturn, 1) := by decide +kernel
theorem dX3_ofTwo_143 : decode cX3_ofTwo 143 = .ok (.iload_n 1, 1) := by decide +kernel
theorem dX3_ofTwo_144 : decode cX3_ofTwo 144 = .ok (.iload_n 2, 1) := by decide +kernel
theorem dX3_ofTwo_145 : decode cX3_ofTwo 145 = .ok (.if_icmp .le 7, 3) := by decide +kernel
theorem dX3_ofTwo_148 : decode cX3_ofTwo 148 = .ok (.iconst 1, 1) := by decide +kernel
theorem dX3_ofTwo_149 : decode cX3_ofTwo 149 = .ok (.goto 4, 3) := by decide +kernel
theorem dX3_ofTwo_152 : decode cX3_ofTwo 152 = .ok (.iconst 0, 1) := by decide +kernel
theorem dX3_ofTwo_153 : decode cX3_ofTwo 153 = .ok (.ireturn, 1) := by decide +kernel
theorem dX3_ofTwo_154 : decode cX3_ofTwo 154 = .ok (.iload_n 1, 1) := by decide +kernel
theorem dX3_ofTwo_155 : decode cX3_ofTwo 155 = .ok (.iload_n 2, 1) := by decide +kernel
theorem dX3_ofTwo_156 : decode cX3_ofTwo 156 = .ok (.if_icmp .ne 7, 3) := by decide +kernel
theorem dX3_ofTwo_159 : decode cX3_ofTwo 159 = .ok (.iconst 1, 1) := by decide +kernel
theorem dX3_ofTwo_160 : decode cX3_ofTwo 160 = .ok (.goto 4, 3) := by decide +kernel
theorem dX3_ofTwo_163 : decode cX3_ofTwo 163 = .ok (.iconst 0, 1) := by decide +kernel
theorem dX3_ofTwo_164 : decode cX3_ofTwo 164 = .ok (.ireturn, 1) := by decide +kernel
theorem dX3_ofTwo_165 : decode cX3_ofTwo 165 = .ok (.iload_n 1, 1) := by decide +kernel
theorem dX3_ofTwo_166 : decode cX3_ofTwo 166 = .ok (.iload_n 2, 1) := by decide +kernel
theorem dX3_ofTwo_167 : decode cX3_ofTwo 167 = .ok (.iand, 1) := by decide +kernel
theorem dX3_ofTwo_168 : decode cX3_ofTwo 168 = .ok (.ireturn, 1) := by decide +kernel
theorem dX3_ofTwo_169 : decode cX3_ofTwo 169 = .ok (.iload_n 1, 1) := by decide +kernel
theorem dX3_ofTwo_170 : decode cX3_ofTwo 170 = .ok (.iload_n 2, 1) := by decide +kernel
theorem dX3_ofTwo_171 : decode cX3_ofTwo 171 = .ok (.ior, 1) := by decide +kernel
theorem dX3_ofTwo_172 : decode cX3_ofTwo 172 = .ok (.ireturn, 1) := by decide +kernel
theorem dX3_ofTwo_173 : decode cX3_ofTwo 173 = .ok (.iload_n 1, 1) := by decide +kernel
theorem dX3_ofTwo_174 : decode cX3_ofTwo 174 = .ok (.iload_n 2, 1) := by decide +kernel
theorem dX3_ofTwo_175 : decode cX3_ofTwo 175 = .ok (.invokestatic 54, 3) := by decide +kernel
theorem dX3_ofTwo_178 : decode cX3_ofTwo 178 = .ok (.ireturn, 1) := by decide +kernel
theorem dX3_ofTwo_179 : decode cX3_ofTwo 179 = .ok (.iload_n 1, 1) := by decide +kernel
theorem dX3_ofTwo_180 : decode cX3_ofTwo 180 = .ok (.iload_n 2, 1) := by decide +kernel
theorem dX3_ofTwo_181 : decode cX3_ofTwo 181 = .ok (.invokestatic 60, 3) := by decide +kernel
theorem dX3_ofTwo_184 : decode cX3_ofTwo 184 = .ok (.ireturn, 1) := by decide +kernel
theorem dX3_ofTwo_185 : decode cX3_ofTwo 185 = .ok (.iload_n 2, 1) := by decide +kernel
theorem dX3_ofTwo_186 : decode cX3_ofTwo 186 = .ok (.ifCond .ne 7, 3) := by decide +kernel
theorem dX3_ofTwo_189 : decode cX3_ofTwo 189 = .ok (.iconst 0, 1) := by decide +kernel
theorem dX3_ofTwo_190 : decode cX3_ofTwo 190 = .ok (.goto 4, 3) := by decide +kernel
theorem dX3_ofTwo_193 : decode cX3_ofTwo 193 = .ok (.iload_n 1, 1) := by decide +kernel
theorem dX3_ofTwo_194 : decode cX3_ofTwo 194 = .ok (.ireturn, 1) := by decide +kernel
theorem dX3_ofTwo_195 : decode cX3_ofTwo 195 = .ok (.iconst 0, 1) := by decide +kernel
theorem dX3_ofTwo_196 : decode cX3_ofTwo 196 = .ok (.ireturn, 1) := by decide +kernel
theorem dX4_init_0 : decode cX4_init 0 = .ok (.aload_n 0, 1) := by decide +kernel
theorem dX4_init_1 : decode cX4_init 1 = .ok (.invokespecial 1, 3) := by decide +kernel
theorem dX4_init_4 : decode cX4_init 4 = .ok (.aload_n 0, 1) := by decide +kernel
theorem dX4_init_5 : decode cX4_init 5 = .ok (.new 7, 3) := by decide +kernel
theorem dX4_init_8 : decode cX4_init 8 = .ok (.dup, 1) := by decide +kernel
theorem dX4_init_9 : decode cX4_init 9 = .ok (.iconst 5, 1) := by decide +kernel
theorem dX4_init_10 : decode cX4_init 10 = .ok (.invokespecial 11, 3) := by decide +kernel
theorem dX4_init_13 : decode cX4_init 13 = .ok (.putfield 14, 3) := by decide +kernel
theorem dX4_init_16 : decode cX4_init 16 = .ok (.aload_n 0, 1) := by decide +kernel
theorem dX4_init_17 : decode cX4_init 17 = .ok (.new 7, 3) := by decide +kernel
theorem dX4_init_20 : decode cX4_init 20 = .ok (.dup, 1) := by decide +kernel
theorem dX4_init_21 : decode cX4_init 21 = .ok (.iconst 5, 1) := by decide +kernel
theorem dX4_init_22 : decode cX4_init 22 = .ok (.invokespecial 11, 3) := by decide +kernel
theorem dX4_init_25 : decode cX4_init 25 = .ok (.putfield 18, 3) := by decide +kernel
theorem dX4_init_28 : decode cX4_init 28 = .ok (.aload_n 0, 1) := by decide +kernel
theorem dX4_init_29 : decode cX4_init 29 = .ok (.new 7, 3) := by decide +kernel
theorem dX4_init_32 : decode cX4_init 32 = .ok (.dup, 1) := by decide +kernel
theorem dX4_init_33 : decode cX4_init 33 = .ok (.iconst 5, 1) := by decide +kernel
theorem dX4_init_34 : decode cX4_init 34 = .ok (.invokespecial 11, 3) := by decide +kernel
theorem dX4_init_37 : decode cX4_init 37 = .ok (.putfield 21, 3) := by decide +kernel
theorem dX4_init_40 : decode cX4_init 40 = .ok (.return_, 1) := by decide +kernel
theorem dX4_add_0 : decode cX4_add 0 = .ok (.aload_n 0, 1) := by decide +kernel
theorem dX4_add_1 : decode cX4_add 1 = .ok (.getfield 24, 3) := by decide +kernel
theorem dX4_add_4 : decode cX4_add 4 = .ok (.iconst 5, 1) := by decide +kernel
theorem dX4_add_5 : decode cX4_add 5 = .ok (.if_icmp .lt 5, 3) := by decide +kernel
theorem dX4_add_8 : decode cX4_add 8 = .ok (.iconst (-1), 1) := by decide +kernel
theorem dX4_add_9 : decode cX4_add 9 = .ok (.ireturn, 1) := by decide +kernel
theorem dX4_add_10 : decode cX4_add 10 = .ok (.aload_n 0, 1) := by decide +kernel
theorem dX4_add_11 : decode cX4_add 11 = .ok (.getfield 14, 3) := by decide +kernel
theorem dX4_add_14 : decode cX4_add 14 = .ok (.aload_n 0, 1) := by decide +kernel
theorem dX4_add_15 : decode cX4_add 15 = .ok (.getfield 24, 3) := by decide +kernel
theorem dX4_add_18 : decode cX4_add 18 = .ok (.iload_n 1, 1) := by decide +kernel
theorem dX4_add_19 : decode cX4_add 19 = .ok (.invokevirtual 28, 3) := by decide +kernel
theorem dX4_add_22 : decode cX4_add 22 = .ok (.aload_n 0, 1) := by decide +kernel
theorem dX4_add_23 : decode cX4_add 23 = .ok (.getfield 18, 3) := by decide +kernel
theorem dX4_add_26 : decode cX4_add 26 = .ok (.aload_n 0, 1) := by decide +kernel
theorem dX4_add_27 : decode cX4_add 27 = .ok (.getfield 24, 3) := by decide +kernel
theorem dX4_add_30 : decode cX4_add 30 = .ok (.iload_n 2, 1) := by decide +kernel
theorem dX4_add_31 : decode cX4_add 31 = .ok (.invokevirtual 28, 3) := by decide +kernel
theorem dX4_add_34 : decode cX4_add 34 = .ok (.aload_n 0, 1) := by decide +kernel
theorem dX4_add_35 : decode cX4_add 35 = .ok (.getfield 21, 3) := by decide +kernel
theorem dX4_add_38 : decode cX4_add 38 = .ok (.aload_n 0, 1) := by decide +kernel
theorem dX4_add_39 : decode cX4_add 39 = .ok (.getfield 24, 3) := by decide +kernel
theorem dX4_add_42 : decode cX4_add 42 = .ok (.iload_n 3, 1) := by decide +kernel
theorem dX4_add_43 : decode cX4_add 43 = .ok (.invokevirtual 28, 3) := by decide +kernel
theorem dX4_add_46 : decode cX4_add 46 = .ok (.aload_n 0, 1) := by decide +kernel
theorem dX4_add_47 : decode cX4_add 47 = .ok (.dup, 1) := by decide +kernel
theorem dX4_add_48 : decode cX4_add 48 = .ok (.getfield 24, 3) := by decide +kernel
theorem dX4_add_51 : decode cX4_add 51 = .ok (.iconst 1, 1) := by decide +kernel
theorem dX4_add_52 : decode cX4_add 52 = .ok (.iadd, 1) := by decide +kernel
theorem dX4_add_53 : decode cX4_add 53 = .ok (.putfield 24, 3) := by decide +kernel
theorem dX4_add_56 : decode cX4_add 56 = .ok (.aload_n 0, 1) := by decide +kernel
theorem dX4_add_57 : decode cX4_add 57 = .ok (.getfield 24, 3) := by decide +kernel
theorem dX4_add_60 : decode cX4_add 60 = .ok (.iconst 1, 1) := by decide +kernel
theorem dX4_add_61 : decode cX4_add 61 = .ok (.isub, 1) := by decide +kernel
theorem dX4_add_62 : decode cX4_add 62 = .ok (.ireturn, 1) := by decide +kernel
theorem dX4_costOf_0 : decode cX4_costOf 0 = .ok (.iconst 0, 1) := by decide +kernel
theorem dX4_costOf_1 : decode cX4_costOf 1 = .ok (.istore_n 2, 1) := by decide +kernel
theorem dX4_costOf_2 : decode cX4_costOf 2 = .ok (.iconst 0, 1) := by decide +kernel
theorem dX4_costOf_3 : decode cX4_costOf 3 = .ok (.istore_n 3, 1) := by decide +kernel
theorem dX4_costOf_4 : decode cX4_costOf 4 = .ok (.iload_n 3, 1) := by decide +kernel
theorem dX4_costOf_5 : decode cX4_costOf 5 = .ok (.aload_n 0, 1) := by decide +kernel
theorem dX4_costOf_6 : decode cX4_costOf 6 = .ok (.getfield 24, 3) := by decide +kernel
theorem dX4_costOf_9 : decode cX4_costOf 9 = .ok (.if_icmp .ge 31, 3) := by decide +kernel
theorem dX4_costOf_12 : decode cX4_costOf 12 = .ok (.iload_n 3, 1) := by decide +kernel
theorem dX4_costOf_13 : decode cX4_costOf 13 = .ok (.iconst 5, 1) := by decide +kernel
theorem dX4_costOf_14 : decode cX4_costOf 14 = .ok (.if_icmp .ge 26, 3) := by decide +kernel
theorem dX4_costOf_17 : decode cX4_costOf 17 = .ok (.iload_n 2, 1) := by decide +kernel
theorem dX4_costOf_18 : decode cX4_costOf 18 = .ok (.iload_n 1, 1) := by decide +kernel
theorem dX4_costOf_19 : decode cX4_costOf 19 = .ok (.iload_n 3, 1) := by decide +kernel
theorem dX4_costOf_20 : decode cX4_costOf 20 = .ok (.ishr, 1) := by decide +kernel
theorem dX4_costOf_21 : decode cX4_costOf 21 = .ok (.iconst 1, 1) := by decide +kernel
theorem dX4_costOf_22 : decode cX4_costOf 22 = .ok (.iand, 1) := by decide +kernel
theorem dX4_costOf_23 : decode cX4_costOf 23 = .ok (.aload_n 0, 1) := by decide +kernel
theorem dX4_costOf_24 : decode cX4_costOf 24 = .ok (.getfield 21, 3) := by decide +kernel
theorem dX4_costOf_27 : decode cX4_costOf 27 = .ok (.iload_n 3, 1) := by decide +kernel
theorem dX4_costOf_28 : decode cX4_costOf 28 = .ok (.invokevirtual 32, 3) := by decide +kernel
theorem dX4_costOf_31 : decode cX4_costOf 31 = .ok (.imul, 1) := by decide +kernel
theorem dX4_costOf_32 : decode cX4_costOf 32 = .ok (.iadd, 1) := by decide +kernel
theorem dX4_costOf_33 : decode cX4_costOf 33 = .ok (.istore_n 2, 1) := by decide +kernel
theorem dX4_costOf_34 : decode cX4_costOf 34 = .ok (.iinc 3 1, 3) := by decide +kernel
theorem dX4_costOf_37 : decode cX4_costOf 37 = .ok (.goto (-33), 3) := by decide +kernel
theorem dX4_costOf_40 : decode cX4_costOf 40 = .ok (.iload_n 2, 1) := by decide +kernel
theorem dX4_costOf_41 : decode cX4_costOf 41 = .ok (.ireturn, 1) := by decide +kernel
theorem dX4_make_0 : decode cX4_make 0 = .ok (.aload_n 2, 1) := by decide +kernel
theorem dX4_make_1 : decode cX4_make 1 = .ok (.aload_n 0, 1) := by decide +kernel
theorem dX4_make_2 : decode cX4_make 2 = .ok (.getfield 14, 3) := by decide +kernel
theorem dX4_make_5 : decode cX4_make 5 = .ok (.iload_n 1, 1) := by decide +kernel
theorem dX4_make_6 : decode cX4_make 6 = .ok (.invokevirtual 32, 3) := by decide +kernel
theorem dX4_make_9 : decode cX4_make 9 = .ok (.aload_n 0, 1) := by decide +kernel
theorem dX4_make_10 : decode cX4_make 10 = .ok (.getfield 18, 3) := by decide +kernel
theorem dX4_make_13 : decode cX4_make 13 = .ok (.iload_n 1, 1) := by decide +kernel
theorem dX4_make_14 : decode cX4_make 14 = .ok (.invokevirtual 32, 3) := by decide +kernel
theorem dX4_make_17 : decode cX4_make 17 = .ok (.invokevirtual 36, 3) := by decide +kernel
theorem dX4_make_20 : decode cX4_make 20 = .ok (.return_, 1) := by decide +kernel
theorem dX4_makeAll_0 : decode cX4_makeAll 0 = .ok (.iconst 0, 1) := by decide +kernel
theorem dX4_makeAll_1 : decode cX4_makeAll 1 = .ok (.istore_n 3, 1) := by decide +kernel
theorem dX4_makeAll_2 : decode cX4_makeAll 2 = .ok (.iload_n 3, 1) := by decide +kernel
theorem dX4_makeAll_3 : decode cX4_makeAll 3 = .ok (.aload_n 0, 1) := by decide +kernel
theorem dX4_makeAll_4 : decode cX4_makeAll 4 = .ok (.getfield 24, 3) := by decide +kernel
theorem dX4_makeAll_7 : decode cX4_makeAll 7 = .ok (.if_icmp .ge 29, 3) := by decide +kernel
theorem dX4_makeAll_10 : decode cX4_makeAll 10 = .ok (.iload_n 3, 1) := by decide +kernel
theorem dX4_makeAll_11 : decode cX4_makeAll 11 = .ok (.iconst 5, 1) := by decide +kernel
theorem dX4_makeAll_12 : decode cX4_makeAll 12 = .ok (.if_icmp .ge 24, 3) := by decide +kernel
theorem dX4_makeAll_15 : decode cX4_makeAll 15 = .ok (.iload_n 1, 1) := by decide +kernel
theorem dX4_makeAll_16 : decode cX4_makeAll 16 = .ok (.iload_n 3, 1) := by decide +kernel
theorem dX4_makeAll_17 : decode cX4_makeAll 17 = .ok (.ishr, 1) := by decide +kernel
theorem dX4_makeAll_18 : decode cX4_makeAll 18 = .ok (.iconst 1, 1) := by decide +kernel
theorem dX4_makeAll_19 : decode cX4_makeAll 19 = .ok (.iand, 1) := by decide +kernel
theorem dX4_makeAll_20 : decode cX4_makeAll 20 = .ok (.iconst 1, 1) := by decide +kernel
theorem dX4_makeAll_21 : decode cX4_makeAll 21 = .ok (.if_icmp .ne 9, 3) := by decide +kernel
theorem dX4_makeAll_24 : decode cX4_makeAll 24 = .ok (.aload_n 0, 1) := by decide +kernel
theorem dX4_makeAll_25 : decode cX4_makeAll 25 = .ok (.iload_n 3, 1) := by decide +kernel
theorem dX4_makeAll_26 : decode cX4_makeAll 26 = .ok (.aload_n 2, 1) := by decide +kernel
theorem dX4_makeAll_27 : decode cX4_makeAll 27 = .ok (.invokevirtual 41, 3) := by decide +kernel
theorem dX4_makeAll_30 : decode cX4_makeAll 30 = .ok (.iinc 3 1, 3) := by decide +kernel
theorem dX4_makeAll_33 : decode cX4_makeAll 33 = .ok (.goto (-31), 3) := by decide +kernel
theorem dX4_makeAll_36 : decode cX4_makeAll 36 = .ok (.return_, 1) := by decide +kernel
theorem dX4_copy_0 : decode cX4_copy 0 = .ok (.aload_n 0, 1) := by decide +kernel
theorem dX4_copy_1 : decode cX4_copy 1 = .ok (.aload_n 1, 1) := by decide +kernel
theorem dX4_copy_2 : decode cX4_copy 2 = .ok (.getfield 24, 3) := by decide +kernel
theorem dX4_copy_5 : decode cX4_copy 5 = .ok (.putfield 24, 3) := by decide +kernel
theorem dX4_copy_8 : decode cX4_copy 8 = .ok (.aload_n 0, 1) := by decide +kernel
theorem dX4_copy_9 : decode cX4_copy 9 = .ok (.getfield 14, 3) := by decide +kernel
theorem dX4_copy_12 : decode cX4_copy 12 = .ok (.aload_n 1, 1) := by decide +kernel
theorem dX4_copy_13 : decode cX4_copy 13 = .ok (.getfield 14, 3) := by decide +kernel
theorem dX4_copy_16 : decode cX4_copy 16 = .ok (.invokevirtual 45, 3) := by decide +kernel
theorem dX4_copy_19 : decode cX4_copy 19 = .ok (.aload_n 0, 1) := by decide +kernel
theorem dX4_copy_20 : decode cX4_copy 20 = .ok (.getfield 18, 3) := by decide +kernel
theorem dX4_copy_23 : decode cX4_copy 23 = .ok (.aload_n 1, 1) := by decide +kernel
theorem dX4_copy_24 : decode cX4_copy 24 = .ok (.getfield 18, 3) := by decide +kernel
theorem dX4_copy_27 : decode cX4_copy 27 = .ok (.invokevirtual 45, 3) := by decide +kernel
theorem dX4_copy_30 : decode cX4_copy 30 = .ok (.aload_n 0, 1) := by decide +kernel
theorem dX4_copy_31 : decode cX4_copy 31 = .ok (.getfield 21, 3) := by decide +kernel
theorem dX4_copy_34 : decode cX4_copy 34 = .ok (.aload_n 1, 1) := by decide +kernel
theorem dX4_copy_35 : decode cX4_copy 35 = .ok (.getfield 21, 3) := by decide +kernel
theorem dX4_copy_38 : decode cX4_copy 38 = .ok (.invokevirtual 45, 3) := by decide +kernel
theorem dX4_copy_41 : decode cX4_copy 41 = .ok (.return_, 1) := by decide +kernel
theorem dX5_init_0 : decode cX5_init 0 = .ok (.aload_n 0, 1) := by decide +kernel
theorem dX5_init_1 : decode cX5_init 1 = .ok (.invokespecial 3, 3) := by decide +kernel
theorem dX5_init_4 : decode cX5_init 4 = .ok (.aload_n 0, 1) := by decide +kernel
theorem dX5_init_5 : decode cX5_init 5 = .ok (.new 9, 3) := by decide +kernel
theorem dX5_init_8 : decode cX5_init 8 = .ok (.dup, 1) := by decide +kernel
theorem dX5_init_9 : decode cX5_init 9 = .ok (.bipush 10, 2) := by decide +kernel
theorem dX5_init_11 : decode cX5_init 11 = .ok (.invokespecial 13, 3) := by decide +kernel
theorem dX5_init_14 : decode cX5_init 14 = .ok (.putfield 16, 3) := by decide +kernel
theorem dX5_init_17 : decode cX5_init 17 = .ok (.aload_n 0, 1) := by decide +kernel
theorem dX5_init_18 : decode cX5_init 18 = .ok (.new 9, 3) := by decide +kernel
theorem dX5_init_21 : decode cX5_init 21 = .ok (.dup, 1) := by decide +kernel
theorem dX5_init_22 : decode cX5_init 22 = .ok (.bipush 10, 2) := by decide +kernel
theorem dX5_init_24 : decode cX5_init 24 = .ok (.invokespecial 13, 3) := by decide +kernel
theorem dX5_init_27 : decode cX5_init 27 = .ok (.putfield 20, 3) := by decide +kernel
theorem dX5_init_30 : decode cX5_init 30 = .ok (.aload_n 0, 1) := by decide +kernel
theorem dX5_init_31 : decode cX5_init 31 = .ok (.new 9, 3) := by decide +kernel
theorem dX5_init_34 : decode cX5_init 34 = .ok (.dup, 1) := by decide +kernel
theorem dX5_init_35 : decode cX5_init 35 = .ok (.bipush 10, 2) := by decide +kernel
theorem dX5_init_37 : decode cX5_init 37 = .ok (.invokespecial 13, 3) := by decide +kernel
theorem dX5_init_40 : decode cX5_init 40 = .ok (.putfield 23, 3) := by decide +kernel
theorem dX5_init_43 : decode cX5_init 43 = .ok (.return_, 1) := by decide +kernel
theorem dX5_add_0 : decode cX5_add 0 = .ok (.aload_n 0, 1) := by decide +kernel
theorem dX5_add_1 : decode cX5_add 1 = .ok (.getfield 26, 3) := by decide +kernel
theorem dX5_add_4 : decode cX5_add 4 = .ok (.bipush 10, 2) := by decide +kernel
theorem dX5_add_6 : decode cX5_add 6 = .ok (.if_icmp .lt 5, 3) := by decide +kernel
theorem dX5_add_9 : decode cX5_add 9 = .ok (.iconst (-1), 1) := by decide +kernel
theorem dX5_add_10 : decode cX5_add 10 = .ok (.ireturn, 1) := by decide +kernel
theorem dX5_add_11 : decode cX5_add 11 = .ok (.aload_n 0, 1) := by decide +kernel
theorem dX5_add_12 : decode cX5_add 12 = .ok (.getfield 16, 3) := by decide +kernel
theorem dX5_add_15 : decode cX5_add 15 = .ok (.aload_n 0, 1) := by decide +kernel
theorem dX5_add_16 : decode cX5_add 16 = .ok (.getfield 26, 3) := by decide +kernel
theorem dX5_add_19 : decode cX5_add 19 = .ok (.iload_n 1, 1) := by decide +kernel
theorem dX5_add_20 : decode cX5_add 20 = .ok (.invokevirtual 30, 3) := by decide +kernel
theorem dX5_add_23 : decode cX5_add 23 = .ok (.aload_n 0, 1) := by decide +kernel
theorem dX5_add_24 : decode cX5_add 24 = .ok (.getfield 20, 3) := by decide +kernel
theorem dX5_add_27 : decode cX5_add 27 = .ok (.aload_n 0, 1) := by decide +kernel
theorem dX5_add_28 : decode cX5_add 28 = .ok (.getfield 26, 3) := by decide +kernel
theorem dX5_add_31 : decode cX5_add 31 = .ok (.iload_n 2, 1) := by decide +kernel
theorem dX5_add_32 : decode cX5_add 32 = .ok (.invokevirtual 30, 3) := by decide +kernel
theorem dX5_add_35 : decode cX5_add 35 = .ok (.aload_n 0, 1) := by decide +kernel
theorem dX5_add_36 : decode cX5_add 36 = .ok (.getfield 23, 3) := by decide +kernel
theorem dX5_add_39 : decode cX5_add 39 = .ok (.aload_n 0, 1) := by decide +kernel
theorem dX5_add_40 : decode cX5_add 40 = .ok (.getfield 26, 3) := by decide +kernel
theorem dX5_add_43 : decode cX5_add 43 = .ok (.iload_n 3, 1) := by decide +kernel
theorem dX5_add_44 : decode cX5_add 44 = .ok (.invokevirtual 30, 3) := by decide +kernel
theorem dX5_add_47 : decode cX5_add 47 = .ok (.aload_n 0, 1) := by decide +kernel
theorem dX5_add_48 : decode cX5_add 48 = .ok (.dup, 1) := by decide +kernel
theorem dX5_add_49 : decode cX5_add 49 = .ok (.getfield 26, 3) := by decide +kernel
theorem dX5_add_52 : decode cX5_add 52 = .ok (.iconst 1, 1) := by decide +kernel
theorem dX5_add_53 : decode cX5_add 53 = .ok (.iadd, 1) := by decide +kernel
theorem dX5_add_54 : decode cX5_add 54 = .ok (.putfield 26, 3) := by decide +kernel
theorem dX5_add_57 : decode cX5_add 57 = .ok (.aload_n 0, 1) := by decide +kernel
theorem dX5_add_58 : decode cX5_add 58 = .ok (.getfield 26, 3) := by decide +kernel
theorem dX5_add_61 : decode cX5_add 61 = .ok (.ireturn, 1) := by decide +kernel
theorem dX5_knownOn_0 : decode cX5_knownOn 0 = .ok (.iconst 0, 1) := by decide +kernel
theorem dX5_knownOn_1 : decode cX5_knownOn 1 = .ok (.istore_n 2, 1) := by decide +kernel
theorem dX5_knownOn_2 : decode cX5_knownOn 2 = .ok (.iconst 0, 1) := by decide +kernel
theorem dX5_knownOn_3 : decode cX5_knownOn 3 = .ok (.istore_n 3, 1) := by decide +kernel
theorem dX5_knownOn_4 : decode cX5_knownOn 4 = .ok (.iload_n 3, 1) := by decide +kernel
theorem dX5_knownOn_5 : decode cX5_knownOn 5 = .ok (.aload_n 0, 1) := by decide +kernel
theorem dX5_knownOn_6 : decode cX5_knownOn 6 = .ok (.getfield 26, 3) := by decide +kernel
theorem dX5_knownOn_9 : decode cX5_knownOn 9 = .ok (.if_icmp .ge 81, 3) := by decide +kernel
theorem dX5_knownOn_12 : decode cX5_knownOn 12 = .ok (.iload_n 3, 1) := by decide +kernel
theorem dX5_knownOn_13 : decode cX5_knownOn 13 = .ok (.bipush 10, 2) := by decide +kernel
theorem dX5_knownOn_15 : decode cX5_knownOn 15 = .ok (.if_icmp .ge 75, 3) := by decide +kernel
theorem dX5_knownOn_18 : decode cX5_knownOn 18 = .ok (.iconst 0, 1) := by decide +kernel
theorem dX5_knownOn_19 : decode cX5_knownOn 19 = .ok (.istore 4, 2) := by decide +kernel
theorem dX5_knownOn_21 : decode cX5_knownOn 21 = .ok (.iload 4, 2) := by decide +kernel
theorem dX5_knownOn_23 : decode cX5_knownOn 23 = .ok (.aload_n 0, 1) := by decide +kernel
theorem dX5_knownOn_24 : decode cX5_knownOn 24 = .ok (.getfield 26, 3) := by decide +kernel
theorem dX5_knownOn_27 : decode cX5_knownOn 27 = .ok (.if_icmp .ge 57, 3) := by decide +kernel
theorem dX5_knownOn_30 : decode cX5_knownOn 30 = .ok (.iload 4, 2) := by decide +kernel
theorem dX5_knownOn_32 : decode cX5_knownOn 32 = .ok (.bipush 10, 2) := by decide +kernel
theorem dX5_knownOn_34 : decode cX5_knownOn 34 = .ok (.if_icmp .ge 50, 3) := by decide +kernel
theorem dX5_knownOn_37 : decode cX5_knownOn 37 = .ok (.aload_n 0, 1) := by decide +kernel
theorem dX5_knownOn_38 : decode cX5_knownOn 38 = .ok (.getfield 16, 3) := by decide +kernel
theorem dX5_knownOn_41 : decode cX5_knownOn 41 = .ok (.iload 4, 2) := by decide +kernel
theorem dX5_knownOn_43 : decode cX5_knownOn 43 = .ok (.invokevirtual 34, 3) := by decide +kernel
theorem dX5_knownOn_46 : decode cX5_knownOn 46 = .ok (.iload_n 1, 1) := by decide +kernel
theorem dX5_knownOn_47 : decode cX5_knownOn 47 = .ok (.if_icmp .gt 31, 3) := by decide +kernel
theorem dX5_knownOn_50 : decode cX5_knownOn 50 = .ok (.aload_n 0, 1) := by decide +kernel
theorem dX5_knownOn_51 : decode cX5_knownOn 51 = .ok (.getfield 23, 3) := by decide +kernel
theorem dX5_knownOn_54 : decode cX5_knownOn 54 = .ok (.iload 4, 2) := by decide +kernel
theorem dX5_knownOn_56 : decode cX5_knownOn 56 = .ok (.invokevirtual 34, 3) := by decide +kernel
theorem dX5_knownOn_59 : decode cX5_knownOn 59 = .ok (.iload_n 2, 1) := by decide +kernel
theorem dX5_knownOn_60 : decode cX5_knownOn 60 = .ok (.iconst (-1), 1) := by decide +kernel
theorem dX5_knownOn_61 : decode cX5_knownOn 61 = .ok (.ixor, 1) := by decide +kernel
theorem dX5_knownOn_62 : decode cX5_knownOn 62 = .ok (.iand, 1) := by decide +kernel
theorem dX5_knownOn_63 : decode cX5_knownOn 63 = .ok (.ifCond .ne 15, 3) := by decide +kernel
theorem dX5_knownOn_66 : decode cX5_knownOn 66 = .ok (.iload_n 2, 1) := by decide +kernel
theorem dX5_knownOn_67 : decode cX5_knownOn 67 = .ok (.aload_n 0, 1) := by decide +kernel
theorem dX5_knownOn_68 : decode cX5_knownOn 68 = .ok (.getfield 20, 3) := by decide +kernel
theorem dX5_knownOn_71 : decode cX5_knownOn 71 = .ok (.iload 4, 2) := by decide +kernel
theorem dX5_knownOn_73 : decode cX5_knownOn 73 = .ok (.invokevirtual 34, 3) := by decide +kernel
theorem dX5_knownOn_76 : decode cX5_knownOn 76 = .ok (.ior, 1) := by decide +kernel
theorem dX5_knownOn_77 : decode cX5_knownOn 77 = .ok (.istore_n 2, 1) := by decide +kernel
theorem dX5_knownOn_78 : decode cX5_knownOn 78 = .ok (.iinc 4 1, 3) := by decide +kernel
theorem dX5_knownOn_81 : decode cX5_knownOn 81 = .ok (.goto (-60), 3) := by decide +kernel
theorem dX5_knownOn_84 : decode cX5_knownOn 84 = .ok (.iinc 3 1, 3) := by decide +kernel
theorem dX5_knownOn_87 : decode cX5_knownOn 87 = .ok (.goto (-83), 3) := by decide +kernel
theorem dX5_knownOn_90 : decode cX5_knownOn 90 = .ok (.iload_n 2, 1) := by decide +kernel
theorem dX5_knownOn_91 : decode cX5_knownOn 91 = .ok (.ireturn, 1) := by decide +kernel
theorem dX5_firstDayOf_0 : decode cX5_firstDayOf 0 = .ok (.iload_n 1, 1) := by decide +kernel
theorem dX5_firstDayOf_1 : decode cX5_firstDayOf 1 = .ok (.aload_n 0, 1) := by decide +kernel
theorem dX5_firstDayOf_2 : decode cX5_firstDayOf 2 = .ok (.iconst 0, 1) := by decide +kernel
theorem dX5_firstDayOf_3 : decode cX5_firstDayOf 3 = .ok (.invokevirtual 38, 3) := by decide +kernel
theorem dX5_firstDayOf_6 : decode cX5_firstDayOf 6 = .ok (.iconst (-1), 1) := by decide +kernel
theorem dX5_firstDayOf_7 : decode cX5_firstDayOf 7 = .ok (.ixor, 1) := by decide +kernel
theorem dX5_firstDayOf_8 : decode cX5_firstDayOf 8 = .ok (.iand, 1) := by decide +kernel
theorem dX5_firstDayOf_9 : decode cX5_firstDayOf 9 = .ok (.ifCond .ne 5, 3) := by decide +kernel
theorem dX5_firstDayOf_12 : decode cX5_firstDayOf 12 = .ok (.iconst 0, 1) := by decide +kernel
theorem dX5_firstDayOf_13 : decode cX5_firstDayOf 13 = .ok (.ireturn, 1) := by decide +kernel
theorem dX5_firstDayOf_14 : decode cX5_firstDayOf 14 = .ok (.iconst (-1), 1) := by decide +kernel
theorem dX5_firstDayOf_15 : decode cX5_firstDayOf 15 = .ok (.istore_n 2, 1) := by decide +kernel
theorem dX5_firstDayOf_16 : decode cX5_firstDayOf 16 = .ok (.iconst 0, 1) := by decide +kernel
theorem dX5_firstDayOf_17 : decode cX5_firstDayOf 17 = .ok (.istore_n 3, 1) := by decide +kernel
theorem dX5_firstDayOf_18 : decode cX5_firstDayOf 18 = .ok (.iload_n 3, 1) := by decide +kernel
theorem dX5_firstDayOf_19 : decode cX5_firstDayOf 19 = .ok (.aload_n 0, 1) := by decide +kernel
theorem dX5_firstDayOf_20 : decode cX5_firstDayOf 20 = .ok (.getfield 26, 3) := by decide +kernel
theorem dX5_firstDayOf_23 : decode cX5_firstDayOf 23 = .ok (.if_icmp .ge 52, 3) := by decide +kernel
theorem dX5_firstDayOf_26 : decode cX5_firstDayOf 26 = .ok (.iload_n 3, 1) := by decide +kernel
theorem dX5_firstDayOf_27 : decode cX5_firstDayOf 27 = .ok (.bipush 10, 2) := by decide +kernel
theorem dX5_firstDayOf_29 : decode cX5_firstDayOf 29 = .ok (.if_icmp .ge 46, 3) := by decide +kernel
theorem dX5_firstDayOf_32 : decode cX5_firstDayOf 32 = .ok (.aload_n 0, 1) := by decide +kernel
theorem dX5_firstDayOf_33 : decode cX5_firstDayOf 33 = .ok (.getfield 16, 3) := by decide +kernel
theorem dX5_firstDayOf_36 : decode cX5_firstDayOf 36 = .ok (.iload_n 3, 1) := by decide +kernel
theorem dX5_firstDayOf_37 : decode cX5_firstDayOf 37 = .ok (.invokevirtual 34, 3) := by decide +kernel
theorem dX5_firstDayOf_40 : decode cX5_firstDayOf 40 = .ok (.istore 4, 2) := by decide +kernel
theorem dX5_firstDayOf_42 : decode cX5_firstDayOf 42 = .ok (.iload_n 2, 1) := by decide +kernel
theorem dX5_firstDayOf_43 : decode cX5_firstDayOf 43 = .ok (.iconst (-1), 1) := by decide +kernel
theorem dX5_firstDayOf_44 : decode cX5_firstDayOf 44 = .ok (.if_icmp .eq 9, 3) := by decide +kernel
theorem dX5_firstDayOf_47 : decode cX5_firstDayOf 47 = .ok (.iload 4, 2) := by decide +kernel
theorem dX5_firstDayOf_49 : decode cX5_firstDayOf 49 = .ok (.iload_n 2, 1) := by decide +kernel
theorem dX5_firstDayOf_50 : decode cX5_firstDayOf 50 = .ok (.if_icmp .ge 19, 3) := by decide +kernel
theorem dX5_firstDayOf_53 : decode cX5_firstDayOf 53 = .ok (.iload_n 1, 1) := by decide +kernel
theorem dX5_firstDayOf_54 : decode cX5_firstDayOf 54 = .ok (.aload_n 0, 1) := by decide +kernel
theorem dX5_firstDayOf_55 : decode cX5_firstDayOf 55 = .ok (.iload 4, 2) := by decide +kernel
theorem dX5_firstDayOf_57 : decode cX5_firstDayOf 57 = .ok (.invokevirtual 38, 3) := by decide +kernel
theorem dX5_firstDayOf_60 : decode cX5_firstDayOf 60 = .ok (.iconst (-1), 1) := by decide +kernel
theorem dX5_firstDayOf_61 : decode cX5_firstDayOf 61 = .ok (.ixor, 1) := by decide +kernel
theorem dX5_firstDayOf_62 : decode cX5_firstDayOf 62 = .ok (.iand, 1) := by decide +kernel
theorem dX5_firstDayOf_63 : decode cX5_firstDayOf 63 = .ok (.ifCond .ne 6, 3) := by decide +kernel
theorem dX5_firstDayOf_66 : decode cX5_firstDayOf 66 = .ok (.iload 4, 2) := by decide +kernel
theorem dX5_firstDayOf_68 : decode cX5_firstDayOf 68 = .ok (.istore_n 2, 1) := by decide +kernel
theorem dX5_firstDayOf_69 : decode cX5_firstDayOf 69 = .ok (.iinc 3 1, 3) := by decide +kernel
theorem dX5_firstDayOf_72 : decode cX5_firstDayOf 72 = .ok (.goto (-54), 3) := by decide +kernel
theorem dX5_firstDayOf_75 : decode cX5_firstDayOf 75 = .ok (.iload_n 2, 1) := by decide +kernel
theorem dX5_firstDayOf_76 : decode cX5_firstDayOf 76 = .ok (.ireturn, 1) := by decide +kernel
theorem dX5_copy_0 : decode cX5_copy 0 = .ok (.aload_n 0, 1) := by decide +kernel
theorem dX5_copy_1 : decode cX5_copy 1 = .ok (.aload_n 1, 1) := by decide +kernel
theorem dX5_copy_2 : decode cX5_copy 2 = .ok (.getfield 26, 3) := by decide +kernel
theorem dX5_copy_5 : decode cX5_copy 5 = .ok (.putfield 26, 3) := by decide +kernel
theorem dX5_copy_8 : decode cX5_copy 8 = .ok (.aload_n 0, 1) := by decide +kernel
theorem dX5_copy_9 : decode cX5_copy 9 = .ok (.getfield 16, 3) := by decide +kernel
theorem dX5_copy_12 : decode cX5_copy 12 = .ok (.aload_n 1, 1) := by decide +kernel
theorem dX5_copy_13 : decode cX5_copy 13 = .ok (.getfield 16, 3) := by decide +kernel
theorem dX5_copy_16 : decode cX5_copy 16 = .ok (.invokevirtual 41, 3) := by decide +kernel
theorem dX5_copy_19 : decode cX5_copy 19 = .ok (.aload_n 0, 1) := by decide +kernel
theorem dX5_copy_20 : decode cX5_copy 20 = .ok (.getfield 20, 3) := by decide +kernel
theorem dX5_copy_23 : decode cX5_copy 23 = .ok (.aload_n 1, 1) := by decide +kernel
theorem dX5_copy_24 : decode cX5_copy 24 = .ok (.getfield 20, 3) := by decide +kernel
theorem dX5_copy_27 : decode cX5_copy 27 = .ok (.invokevirtual 41, 3) := by decide +kernel
theorem dX5_copy_30 : decode cX5_copy 30 = .ok (.aload_n 0, 1) := by decide +kernel
theorem dX5_copy_31 : decode cX5_copy 31 = .ok (.getfield 23, 3) := by decide +kernel
theorem dX5_copy_34 : decode cX5_copy 34 = .ok (.aload_n 1, 1) := by decide +kernel
theorem dX5_copy_35 : decode cX5_copy 35 = .ok (.getfield 23, 3) := by decide +kernel
theorem dX5_copy_38 : decode cX5_copy 38 = .ok (.invokevirtual 41, 3) := by decide +kernel
theorem dX5_copy_41 : decode cX5_copy 41 = .ok (.return_, 1) := by decide +kernel
theorem dX6_init_0 : decode cX6_init 0 = .ok (.aload_n 0, 1) := by decide +kernel
theorem dX6_init_1 : decode cX6_init 1 = .ok (.invokespecial 3, 3) := by decide +kernel
theorem dX6_init_4 : decode cX6_init 4 = .ok (.aload_n 0, 1) := by decide +kernel
theorem dX6_init_5 : decode cX6_init 5 = .ok (.new 9, 3) := by decide +kernel
theorem dX6_init_8 : decode cX6_init 8 = .ok (.dup, 1) := by decide +kernel
theorem dX6_init_9 : decode cX6_init 9 = .ok (.sipush 300, 3) := by decide +kernel
theorem dX6_init_12 : decode cX6_init 12 = .ok (.invokespecial 11, 3) := by decide +kernel
theorem dX6_init_15 : decode cX6_init 15 = .ok (.putfield 14, 3) := by decide +kernel
theorem dX6_init_18 : decode cX6_init 18 = .ok (.aload_n 0, 1) := by decide +kernel
theorem dX6_init_19 : decode cX6_init 19 = .ok (.new 20, 3) := by decide +kernel

theorem dX10_bestMend_51 : decode cX10_bestMend 51 = .ok (.getfield 38, 3) := by decide +kernel
theorem dX10_bestMend_54 : decode cX10_bestMend 54 = .ok (.getfield 226, 3) := by decide +kernel
theorem dX10_bestMend_57 : decode cX10_bestMend 57 = .ok (.iload 5, 2) := by decide +kernel
theorem dX10_bestMend_59 : decode cX10_bestMend 59 = .ok (.aload_n 0, 1) := by decide +kernel
theorem dX10_bestMend_60 : decode cX10_bestMend 60 = .ok (.getfield 49, 3) := by decide +kernel
theorem dX10_bestMend_63 : decode cX10_bestMend 63 = .ok (.invokevirtual 253, 3) := by decide +kernel
theorem dX10_bestMend_66 : decode cX10_bestMend 66 = .ok (.aload_n 0, 1) := by decide +kernel
theorem dX10_bestMend_67 : decode cX10_bestMend 67 = .ok (.aload_n 1, 1) := by decide +kernel
theorem dX10_bestMend_68 : decode cX10_bestMend 68 = .ok (.iconst 0, 1) := by decide +kernel
theorem dX10_bestMend_69 : decode cX10_bestMend 69 = .ok (.bipush 12, 2) := by decide +kernel
theorem dX10_bestMend_71 : decode cX10_bestMend 71 = .ok (.invokevirtual 235, 3) := by decide +kernel
theorem dX10_bestMend_74 : decode cX10_bestMend 74 = .ok (.istore 6, 2) := by decide +kernel
theorem dX10_bestMend_76 : decode cX10_bestMend 76 = .ok (.iload_n 3, 1) := by decide +kernel
theorem dX10_bestMend_77 : decode cX10_bestMend 77 = .ok (.iconst (-1), 1) := by decide +kernel
theorem dX10_bestMend_78 : decode cX10_bestMend 78 = .ok (.if_icmp .eq 10, 3) := by decide +kernel
theorem dX10_bestMend_81 : decode cX10_bestMend 81 = .ok (.iload 6, 2) := by decide +kernel
theorem dX10_bestMend_83 : decode cX10_bestMend 83 = .ok (.iload 4, 2) := by decide +kernel
theorem dX10_bestMend_85 : decode cX10_bestMend 85 = .ok (.if_icmp .le 10, 3) := by decide +kernel
theorem dX10_bestMend_88 : decode cX10_bestMend 88 = .ok (.iload 5, 2) := by decide +kernel
theorem dX10_bestMend_90 : decode cX10_bestMend 90 = .ok (.istore_n 3, 1) := by decide +kernel
theorem dX10_bestMend_91 : decode cX10_bestMend 91 = .ok (.iload 6, 2) := by decide +kernel
theorem dX10_bestMend_93 : decode cX10_bestMend 93 = .ok (.istore 4, 2) := by decide +kernel
theorem dX10_bestMend_95 : decode cX10_bestMend 95 = .ok (.iinc 5 1, 3) := by decide +kernel
theorem dX10_bestMend_98 : decode cX10_bestMend 98 = .ok (.goto (-90), 3) := by decide +kernel
theorem dX10_bestMend_101 : decode cX10_bestMend 101 = .ok (.iload_n 3, 1) := by decide +kernel
theorem dX10_bestMend_102 : decode cX10_bestMend 102 = .ok (.ireturn, 1) := by decide +kernel
theorem dX10_leastOf_0 : decode cX10_leastOf 0 = .ok (.iload_n 0, 1) := by decide +kernel
theorem dX10_leastOf_1 : decode cX10_leastOf 1 = .ok (.ifCond .lt 19, 3) := by decide +kernel
theorem dX10_leastOf_4 : decode cX10_leastOf 4 = .ok (.iload_n 0, 1) := by decide +kernel
theorem dX10_leastOf_5 : decode cX10_leastOf 5 = .ok (.getstatic 327, 3) := by decide +kernel
theorem dX10_leastOf_8 : decode cX10_leastOf 8 = .ok (.arraylength, 1) := by decide +kernel
theorem dX10_leastOf_9 : decode cX10_leastOf 9 = .ok (.if_icmp .ge 11, 3) := by decide +kernel
theorem dX10_leastOf_12 : decode cX10_leastOf 12 = .ok (.getstatic 327, 3) := by decide +kernel
theorem dX10_leastOf_15 : decode cX10_leastOf 15 = .ok (.iload_n 0, 1) := by decide +kernel
theorem dX10_leastOf_16 : decode cX10_leastOf 16 = .ok (.iaload, 1) := by decide +kernel
theorem dX10_leastOf_17 : decode cX10_leastOf 17 = .ok (.goto 4, 3) := by decide +kernel
theorem dX10_leastOf_20 : decode cX10_leastOf 20 = .ok (.iconst 0, 1) := by decide +kernel
theorem dX10_leastOf_21 : decode cX10_leastOf 21 = .ok (.ireturn, 1) := by decide +kernel
theorem dX10_mostOf_0 : decode cX10_mostOf 0 = .ok (.iload_n 0, 1) := by decide +kernel
theorem dX10_mostOf_1 : decode cX10_mostOf 1 = .ok (.ifCond .lt 19, 3) := by decide +kernel
theorem dX10_mostOf_4 : decode cX10_mostOf 4 = .ok (.iload_n 0, 1) := by decide +kernel
theorem dX10_mostOf_5 : decode cX10_mostOf 5 = .ok (.getstatic 331, 3) := by decide +kernel
theorem dX10_mostOf_8 : decode cX10_mostOf 8 = .ok (.arraylength, 1) := by decide +kernel
theorem dX10_mostOf_9 : decode cX10_mostOf 9 = .ok (.if_icmp .ge 11, 3) := by decide +kernel
theorem dX10_mostOf_12 : decode cX10_mostOf 12 = .ok (.getstatic 331, 3) := by decide +kernel
theorem dX10_mostOf_15 : decode cX10_mostOf 15 = .ok (.iload_n 0, 1) := by decide +kernel
theorem dX10_mostOf_16 : decode cX10_mostOf 16 = .ok (.iaload, 1) := by decide +kernel
theorem dX10_mostOf_17 : decode cX10_mostOf 17 = .ok (.goto 4, 3) := by decide +kernel
theorem dX10_mostOf_20 : decode cX10_mostOf 20 = .ok (.iconst 0, 1) := by decide +kernel
theorem dX10_mostOf_21 : decode cX10_mostOf 21 = .ok (.ireturn, 1) := by decide +kernel
theorem dX10_bounded_0 : decode cX10_bounded 0 = .ok (.iload_n 1, 1) := by decide +kernel
theorem dX10_bounded_1 : decode cX10_bounded 1 = .ok (.iload_n 2, 1) := by decide +kernel
theorem dX10_bounded_2 : decode cX10_bounded 2 = .ok (.iload_n 0, 1) := by decide +kernel
theorem dX10_bounded_3 : decode cX10_bounded 3 = .ok (.invokestatic 324, 3) := by decide +kernel
theorem dX10_bounded_6 : decode cX10_bounded 6 = .ok (.invokestatic 256, 3) := by decide +kernel
theorem dX10_bounded_9 : decode cX10_bounded 9 = .ok (.ireturn, 1) := by decide +kernel

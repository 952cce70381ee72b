theorem dX10_init_0 : decode cX10_init 0 = .ok (.aload_n 0, 1) := by decide +kernel
theorem dX10_init_1 : decode cX10_init 1 = .ok (.invokespecial 3, 3) := by decide +kernel
theorem dX10_init_4 : decode cX10_init 4 = .ok (.aload_n 0, 1) := by decide +kernel
theorem dX10_init_5 : decode cX10_init 5 = .ok (.new 9, 3) := by decide +kernel
theorem dX10_init_8 : decode cX10_init 8 = .ok (.dup, 1) := by decide +kernel
theorem dX10_init_9 : decode cX10_init 9 = .ok (.sipush 300, 3) := by decide +kernel
theorem dX10_init_12 : decode cX10_init 12 = .ok (.invokespecial 11, 3) := by decide +kernel
theorem dX10_init_15 : decode cX10_init 15 = .ok (.putfield 14, 3) := by decide +kernel
theorem dX10_init_18 : decode cX10_init 18 = .ok (.aload_n 0, 1) := by decide +kernel
theorem dX10_init_19 : decode cX10_init 19 = .ok (.new 18, 3) := by decide +kernel
theorem dX10_init_22 : decode cX10_init 22 = .ok (.dup, 1) := by decide +kernel
theorem dX10_init_23 : decode cX10_init 23 = .ok (.invokespecial 20, 3) := by decide +kernel
theorem dX10_init_26 : decode cX10_init 26 = .ok (.putfield 21, 3) := by decide +kernel
theorem dX10_init_29 : decode cX10_init 29 = .ok (.aload_n 0, 1) := by decide +kernel
theorem dX10_init_30 : decode cX10_init 30 = .ok (.iconst 4, 1) := by decide +kernel
theorem dX10_init_31 : decode cX10_init 31 = .ok (.anewarray 25, 3) := by decide +kernel
theorem dX10_init_34 : decode cX10_init 34 = .ok (.putfield 27, 3) := by decide +kernel
theorem dX10_init_37 : decode cX10_init 37 = .ok (.aload_n 0, 1) := by decide +kernel
theorem dX10_init_38 : decode cX10_init 38 = .ok (.iconst (-1), 1) := by decide +kernel
theorem dX10_init_39 : decode cX10_init 39 = .ok (.putfield 31, 3) := by decide +kernel
theorem dX10_init_42 : decode cX10_init 42 = .ok (.aload_n 0, 1) := by decide +kernel
theorem dX10_init_43 : decode cX10_init 43 = .ok (.new 35, 3) := by decide +kernel
theorem dX10_init_46 : decode cX10_init 46 = .ok (.dup, 1) := by decide +kernel
theorem dX10_init_47 : decode cX10_init 47 = .ok (.invokespecial 37, 3) := by decide +kernel
theorem dX10_init_50 : decode cX10_init 50 = .ok (.putfield 38, 3) := by decide +kernel
theorem dX10_init_53 : decode cX10_init 53 = .ok (.aload_n 0, 1) := by decide +kernel
theorem dX10_init_54 : decode cX10_init 54 = .ok (.iconst 3, 1) := by decide +kernel
theorem dX10_init_55 : decode cX10_init 55 = .ok (.anewarray 35, 3) := by decide +kernel
theorem dX10_init_58 : decode cX10_init 58 = .ok (.putfield 42, 3) := by decide +kernel
theorem dX10_init_61 : decode cX10_init 61 = .ok (.aload_n 0, 1) := by decide +kernel
theorem dX10_init_62 : decode cX10_init 62 = .ok (.new 46, 3) := by decide +kernel
theorem dX10_init_65 : decode cX10_init 65 = .ok (.dup, 1) := by decide +kernel
theorem dX10_init_66 : decode cX10_init 66 = .ok (.invokespecial 48, 3) := by decide +kernel
theorem dX10_init_69 : decode cX10_init 69 = .ok (.putfield 49, 3) := by decide +kernel
theorem dX10_init_72 : decode cX10_init 72 = .ok (.aload_n 0, 1) := by decide +kernel
theorem dX10_init_73 : decode cX10_init 73 = .ok (.new 46, 3) := by decide +kernel
theorem dX10_init_76 : decode cX10_init 76 = .ok (.dup, 1) := by decide +kernel
theorem dX10_init_77 : decode cX10_init 77 = .ok (.invokespecial 48, 3) := by decide +kernel
theorem dX10_init_80 : decode cX10_init 80 = .ok (.putfield 53, 3) := by decide +kernel
theorem dX10_init_83 : decode cX10_init 83 = .ok (.iconst 0, 1) := by decide +kernel
theorem dX10_init_84 : decode cX10_init 84 = .ok (.istore_n 1, 1) := by decide +kernel
theorem dX10_init_85 : decode cX10_init 85 = .ok (.iload_n 1, 1) := by decide +kernel
theorem dX10_init_86 : decode cX10_init 86 = .ok (.aload_n 0, 1) := by decide +kernel
theorem dX10_init_87 : decode cX10_init 87 = .ok (.getfield 27, 3) := by decide +kernel
theorem dX10_init_90 : decode cX10_init 90 = .ok (.arraylength, 1) := by decide +kernel
theorem dX10_init_91 : decode cX10_init 91 = .ok (.if_icmp .ge 22, 3) := by decide +kernel
theorem dX10_init_94 : decode cX10_init 94 = .ok (.aload_n 0, 1) := by decide +kernel
theorem dX10_init_95 : decode cX10_init 95 = .ok (.getfield 27, 3) := by decide +kernel
theorem dX10_init_98 : decode cX10_init 98 = .ok (.iload_n 1, 1) := by decide +kernel
theorem dX10_init_99 : decode cX10_init 99 = .ok (.new 25, 3) := by decide +kernel
theorem dX10_init_102 : decode cX10_init 102 = .ok (.dup, 1) := by decide +kernel
theorem dX10_init_103 : decode cX10_init 103 = .ok (.invokespecial 56, 3) := by decide +kernel
theorem dX10_init_106 : decode cX10_init 106 = .ok (.aastore, 1) := by decide +kernel
theorem dX10_init_107 : decode cX10_init 107 = .ok (.iinc 1 1, 3) := by decide +kernel
theorem dX10_init_110 : decode cX10_init 110 = .ok (.goto (-25), 3) := by decide +kernel
theorem dX10_init_113 : decode cX10_init 113 = .ok (.iconst 0, 1) := by decide +kernel
theorem dX10_init_114 : decode cX10_init 114 = .ok (.istore_n 1, 1) := by decide +kernel
theorem dX10_init_115 : decode cX10_init 115 = .ok (.iload_n 1, 1) := by decide +kernel
theorem dX10_init_116 : decode cX10_init 116 = .ok (.aload_n 0, 1) := by decide +kernel
theorem dX10_init_117 : decode cX10_init 117 = .ok (.getfield 42, 3) := by decide +kernel
theorem dX10_init_120 : decode cX10_init 120 = .ok (.arraylength, 1) := by decide +kernel
theorem dX10_init_121 : decode cX10_init 121 = .ok (.if_icmp .ge 22, 3) := by decide +kernel
theorem dX10_init_124 : decode cX10_init 124 = .ok (.aload_n 0, 1) := by decide +kernel
theorem dX10_init_125 : decode cX10_init 125 = .ok (.getfield 42, 3) := by decide +kernel
theorem dX10_init_128 : decode cX10_init 128 = .ok (.iload_n 1, 1) := by decide +kernel
theorem dX10_init_129 : decode cX10_init 129 = .ok (.new 35, 3) := by decide +kernel
theorem dX10_init_132 : decode cX10_init 132 = .ok (.dup, 1) := by decide +kernel
theorem dX10_init_133 : decode cX10_init 133 = .ok (.invokespecial 37, 3) := by decide +kernel
theorem dX10_init_136 : decode cX10_init 136 = .ok (.aastore, 1) := by decide +kernel
theorem dX10_init_137 : decode cX10_init 137 = .ok (.iinc 1 1, 3) := by decide +kernel
theorem dX10_init_140 : decode cX10_init 140 = .ok (.goto (-25), 3) := by decide +kernel
theorem dX10_init_143 : decode cX10_init 143 = .ok (.return_, 1) := by decide +kernel
theorem dX10_feed_0 : decode cX10_feed 0 = .ok (.aload_n 0, 1) := by decide +kernel
theorem dX10_feed_1 : decode cX10_feed 1 = .ok (.getfield 57, 3) := by decide +kernel
theorem dX10_feed_4 : decode cX10_feed 4 = .ok (.bipush 20, 2) := by decide +kernel
theorem dX10_feed_6 : decode cX10_feed 6 = .ok (.iadd, 1) := by decide +kernel
theorem dX10_feed_7 : decode cX10_feed 7 = .ok (.sipush 300, 3) := by decide +kernel
theorem dX10_feed_10 : decode cX10_feed 10 = .ok (.if_icmp .le 5, 3) := by decide +kernel
theorem dX10_feed_13 : decode cX10_feed 13 = .ok (.iconst (-1), 1) := by decide +kernel
theorem dX10_feed_14 : decode cX10_feed 14 = .ok (.ireturn, 1) := by decide +kernel
theorem dX10_feed_15 : decode cX10_feed 15 = .ok (.aload_n 0, 1) := by decide +kernel
theorem dX10_feed_16 : decode cX10_feed 16 = .ok (.iload_n 1, 1) := by decide +kernel
theorem dX10_feed_17 : decode cX10_feed 17 = .ok (.invokevirtual 60, 3) := by decide +kernel
theorem dX10_feed_20 : decode cX10_feed 20 = .ok (.aload_n 0, 1) := by decide +kernel
theorem dX10_feed_21 : decode cX10_feed 21 = .ok (.iload_n 2, 1) := by decide +kernel
theorem dX10_feed_22 : decode cX10_feed 22 = .ok (.invokevirtual 60, 3) := by decide +kernel
theorem dX10_feed_25 : decode cX10_feed 25 = .ok (.aload_n 0, 1) := by decide +kernel
theorem dX10_feed_26 : decode cX10_feed 26 = .ok (.iload_n 3, 1) := by decide +kernel
theorem dX10_feed_27 : decode cX10_feed 27 = .ok (.invokevirtual 60, 3) := by decide +kernel
theorem dX10_feed_30 : decode cX10_feed 30 = .ok (.aload_n 0, 1) := by decide +kernel
theorem dX10_feed_31 : decode cX10_feed 31 = .ok (.iload 4, 2) := by decide +kernel
theorem dX10_feed_33 : decode cX10_feed 33 = .ok (.invokevirtual 60, 3) := by decide +kernel
theorem dX10_feed_36 : decode cX10_feed 36 = .ok (.aload_n 0, 1) := by decide +kernel
theorem dX10_feed_37 : decode cX10_feed 37 = .ok (.iload 5, 2) := by decide +kernel
theorem dX10_feed_39 : decode cX10_feed 39 = .ok (.invokevirtual 60, 3) := by decide +kernel
theorem dX10_feed_42 : decode cX10_feed 42 = .ok (.aload_n 0, 1) := by decide +kernel
theorem dX10_feed_43 : decode cX10_feed 43 = .ok (.getfield 57, 3) := by decide +kernel
theorem dX10_feed_46 : decode cX10_feed 46 = .ok (.ireturn, 1) := by decide +kernel
theorem dX10_law_0 : decode cX10_law 0 = .ok (.iload_n 1, 1) := by decide +kernel
theorem dX10_law_1 : decode cX10_law 1 = .ok (.iconst 0, 1) := by decide +kernel
theorem dX10_law_2 : decode cX10_law 2 = .ok (.aload_n 0, 1) := by decide +kernel
theorem dX10_law_3 : decode cX10_law 3 = .ok (.getfield 57, 3) := by decide +kernel
theorem dX10_law_6 : decode cX10_law 6 = .ok (.invokestatic 63, 3) := by decide +kernel
theorem dX10_law_9 : decode cX10_law 9 = .ok (.invokestatic 67, 3) := by decide +kernel
theorem dX10_law_12 : decode cX10_law 12 = .ok (.aload_n 0, 1) := by decide +kernel
theorem dX10_law_13 : decode cX10_law 13 = .ok (.iconst 0, 1) := by decide +kernel
theorem dX10_law_14 : decode cX10_law 14 = .ok (.putfield 57, 3) := by decide +kernel
theorem dX10_law_17 : decode cX10_law 17 = .ok (.aload_n 0, 1) := by decide +kernel
theorem dX10_law_18 : decode cX10_law 18 = .ok (.iconst (-1), 1) := by decide +kernel
theorem dX10_law_19 : decode cX10_law 19 = .ok (.putfield 31, 3) := by decide +kernel
theorem dX10_law_22 : decode cX10_law 22 = .ok (.aload_n 0, 1) := by decide +kernel
theorem dX10_law_23 : decode cX10_law 23 = .ok (.getfield 71, 3) := by decide +kernel
theorem dX10_law_26 : decode cX10_law 26 = .ok (.ifCond .lt 27, 3) := by decide +kernel
theorem dX10_law_29 : decode cX10_law 29 = .ok (.aload_n 0, 1) := by decide +kernel
theorem dX10_law_30 : decode cX10_law 30 = .ok (.getfield 71, 3) := by decide +kernel
theorem dX10_law_33 : decode cX10_law 33 = .ok (.aload_n 0, 1) := by decide +kernel
theorem dX10_law_34 : decode cX10_law 34 = .ok (.getfield 27, 3) := by decide +kernel
theorem dX10_law_37 : decode cX10_law 37 = .ok (.arraylength, 1) := by decide +kernel
theorem dX10_law_38 : decode cX10_law 38 = .ok (.if_icmp .ge 15, 3) := by decide +kernel
theorem dX10_law_41 : decode cX10_law 41 = .ok (.aload_n 0, 1) := by decide +kernel
theorem dX10_law_42 : decode cX10_law 42 = .ok (.getfield 27, 3) := by decide +kernel
theorem dX10_law_45 : decode cX10_law 45 = .ok (.aload_n 0, 1) := by decide +kernel
theorem dX10_law_46 : decode cX10_law 46 = .ok (.getfield 71, 3) := by decide +kernel
theorem dX10_law_49 : decode cX10_law 49 = .ok (.aaload, 1) := by decide +kernel
theorem dX10_law_50 : decode cX10_law 50 = .ok (.goto 4, 3) := by decide +kernel
theorem dX10_law_53 : decode cX10_law 53 = .ok (.aconst_null, 1) := by decide +kernel
theorem dX10_law_54 : decode cX10_law 54 = .ok (.astore_n 2, 1) := by decide +kernel
theorem dX10_law_55 : decode cX10_law 55 = .ok (.aload_n 2, 1) := by decide +kernel
theorem dX10_law_56 : decode cX10_law 56 = .ok (.ifnonnull 5, 3) := by decide +kernel
theorem dX10_law_59 : decode cX10_law 59 = .ok (.iconst (-1), 1) := by decide +kernel
theorem dX10_law_60 : decode cX10_law 60 = .ok (.ireturn, 1) := by decide +kernel
theorem dX10_law_61 : decode cX10_law 61 = .ok (.aload_n 0, 1) := by decide +kernel
theorem dX10_law_62 : decode cX10_law 62 = .ok (.getfield 21, 3) := by decide +kernel
theorem dX10_law_65 : decode cX10_law 65 = .ok (.aload_n 0, 1) := by decide +kernel
theorem dX10_law_66 : decode cX10_law 66 = .ok (.getfield 14, 3) := by decide +kernel
theorem dX10_law_69 : decode cX10_law 69 = .ok (.iload_n 1, 1) := by decide +kernel
theorem dX10_law_70 : decode cX10_law 70 = .ok (.invokevirtual 74, 3) := by decide +kernel
theorem dX10_law_73 : decode cX10_law 73 = .ok (.aload_n 0, 1) := by decide +kernel
theorem dX10_law_74 : decode cX10_law 74 = .ok (.getfield 21, 3) := by decide +kernel
theorem dX10_law_77 : decode cX10_law 77 = .ok (.getfield 78, 3) := by decide +kernel
theorem dX10_law_80 : decode cX10_law 80 = .ok (.ifCond .eq 25, 3) := by decide +kernel
theorem dX10_law_83 : decode cX10_law 83 = .ok (.aload_n 0, 1) := by decide +kernel
theorem dX10_law_84 : decode cX10_law 84 = .ok (.aload_n 0, 1) := by decide +kernel
theorem dX10_law_85 : decode cX10_law 85 = .ok (.getfield 21, 3) := by decide +kernel
theorem dX10_law_88 : decode cX10_law 88 = .ok (.getfield 81, 3) := by decide +kernel
theorem dX10_law_91 : decode cX10_law 91 = .ok (.putfield 31, 3) := by decide +kernel
theorem dX10_law_94 : decode cX10_law 94 = .ok (.aload_n 0, 1) := by decide +kernel
theorem dX10_law_95 : decode cX10_law 95 = .ok (.getfield 21, 3) := by decide +kernel
theorem dX10_law_98 : decode cX10_law 98 = .ok (.getfield 78, 3) := by decide +kernel
theorem dX10_law_101 : decode cX10_law 101 = .ok (.bipush 10, 2) := by decide +kernel
theorem dX10_law_103 : decode cX10_law 103 = .ok (.isub, 1) := by decide +kernel
theorem dX10_law_104 : decode cX10_law 104 = .ok (.ireturn, 1) := by decide +kernel
theorem dX10_law_105 : decode cX10_law 105 = .ok (.aload_n 2, 1) := by decide +kernel
theorem dX10_law_106 : decode cX10_law 106 = .ok (.aload_n 0, 1) := by decide +kernel
theorem dX10_law_107 : decode cX10_law 107 = .ok (.getfield 21, 3) := by decide +kernel
theorem dX10_law_110 : decode cX10_law 110 = .ok (.getfield 84, 3) := by decide +kernel
theorem dX10_law_113 : decode cX10_law 113 = .ok (.aload_n 0, 1) := by decide +kernel
theorem dX10_law_114 : decode cX10_law 114 = .ok (.getfield 21, 3) := by decide +kernel
theorem dX10_law_117 : decode cX10_law 117 = .ok (.getfield 87, 3) := by decide +kernel
theorem dX10_law_120 : decode cX10_law 120 = .ok (.invokevirtual 90, 3) := by decide +kernel
theorem dX10_law_123 : decode cX10_law 123 = .ok (.aload_n 0, 1) := by decide +kernel
theorem dX10_law_124 : decode cX10_law 124 = .ok (.dup, 1) := by decide +kernel
theorem dX10_law_125 : decode cX10_law 125 = .ok (.getfield 71, 3) := by decide +kernel
theorem dX10_law_128 : decode cX10_law 128 = .ok (.iconst 1, 1) := by decide +kernel
theorem dX10_law_129 : decode cX10_law 129 = .ok (.iadd, 1) := by decide +kernel
theorem dX10_law_130 : decode cX10_law 130 = .ok (.putfield 71, 3) := by decide +kernel
theorem dX10_law_133 : decode cX10_law 133 = .ok (.aload_n 0, 1) := by decide +kernel
theorem dX10_law_134 : decode cX10_law 134 = .ok (.getfield 71, 3) := by decide +kernel
theorem dX10_law_137 : decode cX10_law 137 = .ok (.iconst 1, 1) := by decide +kernel
theorem dX10_law_138 : decode cX10_law 138 = .ok (.isub, 1) := by decide +kernel
theorem dX10_law_139 : decode cX10_law 139 = .ok (.ireturn, 1) := by decide +kernel
theorem dX10_fault_0 : decode cX10_fault 0 = .ok (.aload_n 0, 1) := by decide +kernel
theorem dX10_fault_1 : decode cX10_fault 1 = .ok (.getfield 31, 3) := by decide +kernel
theorem dX10_fault_4 : decode cX10_fault 4 = .ok (.ireturn, 1) := by decide +kernel
theorem dX10_deck_0 : decode cX10_deck 0 = .ok (.iload_n 1, 1) := by decide +kernel
theorem dX10_deck_1 : decode cX10_deck 1 = .ok (.iconst 2, 1) := by decide +kernel
theorem dX10_deck_2 : decode cX10_deck 2 = .ok (.bipush 8, 2) := by decide +kernel
theorem dX10_deck_4 : decode cX10_deck 4 = .ok (.invokestatic 63, 3) := by decide +kernel
theorem dX10_deck_7 : decode cX10_deck 7 = .ok (.invokestatic 67, 3) := by decide +kernel
theorem dX10_deck_10 : decode cX10_deck 10 = .ok (.aload_n 0, 1) := by decide +kernel
theorem dX10_deck_11 : decode cX10_deck 11 = .ok (.getfield 38, 3) := by decide +kernel
theorem dX10_deck_14 : decode cX10_deck 14 = .ok (.getfield 93, 3) := by decide +kernel
theorem dX10_deck_17 : decode cX10_deck 17 = .ok (.getfield 96, 3) := by decide +kernel
theorem dX10_deck_20 : decode cX10_deck 20 = .ok (.istore_n 2, 1) := by decide +kernel
theorem dX10_deck_21 : decode cX10_deck 21 = .ok (.aload_n 0, 1) := by decide +kernel
theorem dX10_deck_22 : decode cX10_deck 22 = .ok (.getfield 38, 3) := by decide +kernel
theorem dX10_deck_25 : decode cX10_deck 25 = .ok (.getfield 93, 3) := by decide +kernel
theorem dX10_deck_28 : decode cX10_deck 28 = .ok (.iload_n 1, 1) := by decide +kernel
theorem dX10_deck_29 : decode cX10_deck 29 = .ok (.invokevirtual 99, 3) := by decide +kernel
theorem dX10_deck_32 : decode cX10_deck 32 = .ok (.iload_n 2, 1) := by decide +kernel
theorem dX10_deck_33 : decode cX10_deck 33 = .ok (.ireturn, 1) := by decide +kernel
theorem dX10_set_0 : decode cX10_set 0 = .ok (.iload_n 1, 1) := by decide +kernel
theorem dX10_set_1 : decode cX10_set 1 = .ok (.iconst 0, 1) := by decide +kernel
theorem dX10_set_2 : decode cX10_set 2 = .ok (.bipush 9, 2) := by decide +kernel
theorem dX10_set_4 : decode cX10_set 4 = .ok (.invokestatic 63, 3) := by decide +kernel
theorem dX10_set_7 : decode cX10_set 7 = .ok (.ifCond .eq 22, 3) := by decide +kernel
theorem dX10_set_10 : decode cX10_set 10 = .ok (.iload_n 2, 1) := by decide +kernel
theorem dX10_set_11 : decode cX10_set 11 = .ok (.iload_n 1, 1) := by decide +kernel
theorem dX10_set_12 : decode cX10_set 12 = .ok (.invokestatic 102, 3) := by decide +kernel
theorem dX10_set_15 : decode cX10_set 15 = .ok (.iload_n 1, 1) := by decide +kernel
theorem dX10_set_16 : decode cX10_set 16 = .ok (.invokestatic 106, 3) := by decide +kernel
theorem dX10_set_19 : decode cX10_set 19 = .ok (.invokestatic 63, 3) := by decide +kernel
theorem dX10_set_22 : decode cX10_set 22 = .ok (.ifCond .eq 7, 3) := by decide +kernel
theorem dX10_set_25 : decode cX10_set 25 = .ok (.iconst 1, 1) := by decide +kernel
theorem dX10_set_26 : decode cX10_set 26 = .ok (.goto 4, 3) := by decide +kernel
theorem dX10_set_29 : decode cX10_set 29 = .ok (.iconst 0, 1) := by decide +kernel
theorem dX10_set_30 : decode cX10_set 30 = .ok (.invokestatic 67, 3) := by decide +kernel
theorem dX10_set_33 : decode cX10_set 33 = .ok (.aload_n 0, 1) := by decide +kernel
theorem dX10_set_34 : decode cX10_set 34 = .ok (.getfield 38, 3) := by decide +kernel
theorem dX10_set_37 : decode cX10_set 37 = .ok (.getfield 93, 3) := by decide +kernel
theorem dX10_set_40 : decode cX10_set 40 = .ok (.getfield 109, 3) := by decide +kernel
theorem dX10_set_43 : decode cX10_set 43 = .ok (.iload_n 1, 1) := by decide +kernel
theorem dX10_set_44 : decode cX10_set 44 = .ok (.invokevirtual 112, 3) := by decide +kernel
theorem dX10_set_47 : decode cX10_set 47 = .ok (.istore_n 3, 1) := by decide +kernel
theorem dX10_set_48 : decode cX10_set 48 = .ok (.aload_n 0, 1) := by decide +kernel
theorem dX10_set_49 : decode cX10_set 49 = .ok (.getfield 38, 3) := by decide +kernel
theorem dX10_set_52 : decode cX10_set 52 = .ok (.getfield 93, 3) := by decide +kernel
theorem dX10_set_55 : decode cX10_set 55 = .ok (.getfield 109, 3) := by decide +kernel
theorem dX10_set_58 : decode cX10_set 58 = .ok (.iload_n 1, 1) := by decide +kernel
theorem dX10_set_59 : decode cX10_set 59 = .ok (.iload_n 2, 1) := by decide +kernel
theorem dX10_set_60 : decode cX10_set 60 = .ok (.invokevirtual 115, 3) := by decide +kernel
theorem dX10_set_63 : decode cX10_set 63 = .ok (.iload_n 3, 1) := by decide +kernel
theorem dX10_set_64 : decode cX10_set 64 = .ok (.ireturn, 1) := by decide +kernel
theorem dX10_stay_0 : decode cX10_stay 0 = .ok (.aload_n 0, 1) := by decide +kernel
theorem dX10_stay_1 : decode cX10_stay 1 = .ok (.iload_n 1, 1) := by decide +kernel
theorem dX10_stay_2 : decode cX10_stay 2 = .ok (.invokevirtual 119, 3) := by decide +kernel
theorem dX10_stay_5 : decode cX10_stay 5 = .ok (.aload_n 0, 1) := by decide +kernel
theorem dX10_stay_6 : decode cX10_stay 6 = .ok (.getfield 38, 3) := by decide +kernel
theorem dX10_stay_9 : decode cX10_stay 9 = .ok (.getfield 93, 3) := by decide +kernel
theorem dX10_stay_12 : decode cX10_stay 12 = .ok (.getfield 122, 3) := by decide +kernel
theorem dX10_stay_15 : decode cX10_stay 15 = .ok (.iload_n 1, 1) := by decide +kernel
theorem dX10_stay_16 : decode cX10_stay 16 = .ok (.invokevirtual 112, 3) := by decide +kernel
theorem dX10_stay_19 : decode cX10_stay 19 = .ok (.istore_n 3, 1) := by decide +kernel
theorem dX10_stay_20 : decode cX10_stay 20 = .ok (.iload_n 2, 1) := by decide +kernel
theorem dX10_stay_21 : decode cX10_stay 21 = .ok (.ifCond .ne 21, 3) := by decide +kernel
theorem dX10_stay_24 : decode cX10_stay 24 = .ok (.aload_n 0, 1) := by decide +kernel
theorem dX10_stay_25 : decode cX10_stay 25 = .ok (.getfield 38, 3) := by decide +kernel
theorem dX10_stay_28 : decode cX10_stay 28 = .ok (.getfield 93, 3) := by decide +kernel
theorem dX10_stay_31 : decode cX10_stay 31 = .ok (.getfield 122, 3) := by decide +kernel
theorem dX10_stay_34 : decode cX10_stay 34 = .ok (.iload_n 1, 1) := by decide +kernel
theorem dX10_stay_35 : decode cX10_stay 35 = .ok (.iconst 0, 1) := by decide +kernel
theorem dX10_stay_36 : decode cX10_stay 36 = .ok (.invokevirtual 115, 3) := by decide +kernel
theorem dX10_stay_39 : decode cX10_stay 39 = .ok (.goto 22, 3) := by decide +kernel
theorem dX10_stay_42 : decode cX10_stay 42 = .ok (.iload_n 3, 1) := by decide +kernel
theorem dX10_stay_43 : decode cX10_stay 43 = .ok (.ifCond .ne 18, 3) := by decide +kernel
theorem dX10_stay_46 : decode cX10_stay 46 = .ok (.aload_n 0, 1) := by decide +kernel
theorem dX10_stay_47 : decode cX10_stay 47 = .ok (.getfield 38, 3) := by decide +kernel
theorem dX10_stay_50 : decode cX10_stay 50 = .ok (.getfield 93, 3) := by decide +kernel
theorem dX10_stay_53 : decode cX10_stay 53 = .ok (.getfield 122, 3) := by decide +kernel
theorem dX10_stay_56 : decode cX10_stay 56 = .ok (.iload_n 1, 1) := by decide +kernel
theorem dX10_stay_57 : decode cX10_stay 57 = .ok (.iconst 2, 1) := by decide +kernel
theorem dX10_stay_58 : decode cX10_stay 58 = .ok (.invokevirtual 115, 3) := by decide +kernel
theorem dX10_stay_61 : decode cX10_stay 61 = .ok (.iload_n 3, 1) := by decide +kernel
theorem dX10_stay_62 : decode cX10_stay 62 = .ok (.ireturn, 1) := by decide +kernel
theorem dX10_shape_0 : decode cX10_shape 0 = .ok (.iload_n 1, 1) := by decide +kernel
theorem dX10_shape_1 : decode cX10_shape 1 = .ok (.iload_n 2, 1) := by decide +kernel
theorem dX10_shape_2 : decode cX10_shape 2 = .ok (.invokestatic 125, 3) := by decide +kernel
theorem dX10_shape_5 : decode cX10_shape 5 = .ok (.iload_n 3, 1) := by decide +kernel
theorem dX10_shape_6 : decode cX10_shape 6 = .ok (.iconst 1, 1) := by decide +kernel
theorem dX10_shape_7 : decode cX10_shape 7 = .ok (.sipush 9999, 3) := by decide +kernel
theorem dX10_shape_10 : decode cX10_shape 10 = .ok (.invokestatic 63, 3) := by decide +kernel
theorem dX10_shape_13 : decode cX10_shape 13 = .ok (.invokestatic 67, 3) := by decide +kernel
theorem dX10_shape_16 : decode cX10_shape 16 = .ok (.aload_n 0, 1) := by decide +kernel
theorem dX10_shape_17 : decode cX10_shape 17 = .ok (.getfield 38, 3) := by decide +kernel
theorem dX10_shape_20 : decode cX10_shape 20 = .ok (.getfield 93, 3) := by decide +kernel
theorem dX10_shape_23 : decode cX10_shape 23 = .ok (.iload_n 1, 1) := by decide +kernel
theorem dX10_shape_24 : decode cX10_shape 24 = .ok (.iload_n 2, 1) := by decide +kernel
theorem dX10_shape_25 : decode cX10_shape 25 = .ok (.iload_n 3, 1) := by decide +kernel
theorem dX10_shape_26 : decode cX10_shape 26 = .ok (.invokevirtual 128, 3) := by decide +kernel
theorem dX10_shape_29 : decode cX10_shape 29 = .ok (.aload_n 0, 1) := by decide +kernel
theorem dX10_shape_30 : decode cX10_shape 30 = .ok (.getfield 38, 3) := by decide +kernel
theorem dX10_shape_33 : decode cX10_shape 33 = .ok (.getfield 93, 3) := by decide +kernel
theorem dX10_shape_36 : decode cX10_shape 36 = .ok (.iload_n 1, 1) := by decide +kernel
theorem dX10_shape_37 : decode cX10_shape 37 = .ok (.invokevirtual 132, 3) := by decide +kernel
theorem dX10_shape_40 : decode cX10_shape 40 = .ok (.ireturn, 1) := by decide +kernel
theorem dX10_go_0 : decode cX10_go 0 = .ok (.aload_n 0, 1) := by decide +kernel
theorem dX10_go_1 : decode cX10_go 1 = .ok (.iload_n 1, 1) := by decide +kernel
theorem dX10_go_2 : decode cX10_go 2 = .ok (.invokevirtual 135, 3) := by decide +kernel
theorem dX10_go_5 : decode cX10_go 5 = .ok (.astore 4, 2) := by decide +kernel
theorem dX10_go_7 : decode cX10_go 7 = .ok (.iload_n 2, 1) := by decide +kernel
theorem dX10_go_8 : decode cX10_go 8 = .ok (.invokestatic 139, 3) := by decide +kernel
theorem dX10_go_11 : decode cX10_go 11 = .ok (.iload_n 3, 1) := by decide +kernel
theorem dX10_go_12 : decode cX10_go 12 = .ok (.iconst 0, 1) := by decide +kernel
theorem dX10_go_13 : decode cX10_go 13 = .ok (.bipush 100, 2) := by decide +kernel
theorem dX10_go_15 : decode cX10_go 15 = .ok (.invokestatic 63, 3) := by decide +kernel
theorem dX10_go_18 : decode cX10_go 18 = .ok (.invokestatic 67, 3) := by decide +kernel
theorem dX10_go_21 : decode cX10_go 21 = .ok (.iconst 0, 1) := by decide +kernel
theorem dX10_go_22 : decode cX10_go 22 = .ok (.istore 5, 2) := by decide +kernel
theorem dX10_go_24 : decode cX10_go 24 = .ok (.iload 5, 2) := by decide +kernel
theorem dX10_go_26 : decode cX10_go 26 = .ok (.iload_n 3, 1) := by decide +kernel
theorem dX10_go_27 : decode cX10_go 27 = .ok (.if_icmp .ge 24, 3) := by decide +kernel
theorem dX10_go_30 : decode cX10_go 30 = .ok (.aload_n 0, 1) := by decide +kernel
theorem dX10_go_31 : decode cX10_go 31 = .ok (.getfield 38, 3) := by decide +kernel
theorem dX10_go_34 : decode cX10_go 34 = .ok (.getfield 93, 3) := by decide +kernel
theorem dX10_go_37 : decode cX10_go 37 = .ok (.aload 4, 2) := by decide +kernel
theorem dX10_go_39 : decode cX10_go 39 = .ok (.iload_n 2, 1) := by decide +kernel
theorem dX10_go_40 : decode cX10_go 40 = .ok (.bipush 100, 2) := by decide +kernel
theorem dX10_go_42 : decode cX10_go 42 = .ok (.invokevirtual 142, 3) := by decide +kernel
theorem dX10_go_45 : decode cX10_go 45 = .ok (.iinc 5 1, 3) := by decide +kernel
theorem dX10_go_48 : decode cX10_go 48 = .ok (.goto (-24), 3) := by decide +kernel
theorem dX10_go_51 : decode cX10_go 51 = .ok (.aload_n 0, 1) := by decide +kernel
theorem dX10_go_52 : decode cX10_go 52 = .ok (.getfield 38, 3) := by decide +kernel
theorem dX10_go_55 : decode cX10_go 55 = .ok (.getfield 93, 3) := by decide +kernel
theorem dX10_go_58 : decode cX10_go 58 = .ok (.iconst 1, 1) := by decide +kernel
theorem dX10_go_59 : decode cX10_go 59 = .ok (.invokevirtual 132, 3) := by decide +kernel
theorem dX10_go_62 : decode cX10_go 62 = .ok (.ireturn, 1) := by decide +kernel
theorem dX10_piece_0 : decode cX10_piece 0 = .ok (.aload_n 0, 1) := by decide +kernel
theorem dX10_piece_1 : decode cX10_piece 1 = .ok (.iload_n 1, 1) := by decide +kernel
theorem dX10_piece_2 : decode cX10_piece 2 = .ok (.invokevirtual 119, 3) := by decide +kernel
theorem dX10_piece_5 : decode cX10_piece 5 = .ok (.iload_n 2, 1) := by decide +kernel
theorem dX10_piece_6 : decode cX10_piece 6 = .ok (.tableswitch 128 0 5 #[38, 53, 68, 83, 98, 113], 38) := by decide +kernel
theorem dX10_piece_44 : decode cX10_piece 44 = .ok (.aload_n 0, 1) := by decide +kernel
theorem dX10_piece_45 : decode cX10_piece 45 = .ok (.getfield 38, 3) := by decide +kernel
theorem dX10_piece_48 : decode cX10_piece 48 = .ok (.getfield 93, 3) := by decide +kernel
theorem dX10_piece_51 : decode cX10_piece 51 = .ok (.getfield 146, 3) := by decide +kernel
theorem dX10_piece_54 : decode cX10_piece 54 = .ok (.iload_n 1, 1) := by decide +kernel
theorem dX10_piece_55 : decode cX10_piece 55 = .ok (.invokevirtual 112, 3) := by decide +kernel
theorem dX10_piece_58 : decode cX10_piece 58 = .ok (.ireturn, 1) := by decide +kernel
theorem dX10_piece_59 : decode cX10_piece 59 = .ok (.aload_n 0, 1) := by decide +kernel
theorem dX10_piece_60 : decode cX10_piece 60 = .ok (.getfield 38, 3) := by decide +kernel
theorem dX10_piece_63 : decode cX10_piece 63 = .ok (.getfield 93, 3) := by decide +kernel
theorem dX10_piece_66 : decode cX10_piece 66 = .ok (.getfield 149, 3) := by decide +kernel
theorem dX10_piece_69 : decode cX10_piece 69 = .ok (.iload_n 1, 1) := by decide +kernel
theorem dX10_piece_70 : decode cX10_piece 70 = .ok (.invokevirtual 112, 3) := by decide +kernel
theorem dX10_piece_73 : decode cX10_piece 73 = .ok (.ireturn, 1) := by decide +kernel
theorem dX10_piece_74 : decode cX10_piece 74 = .ok (.aload_n 0, 1) := by decide +kernel
theorem dX10_piece_75 : decode cX10_piece 75 = .ok (.getfield 38, 3) := by decide +kernel
theorem dX10_piece_78 : decode cX10_piece 78 = .ok (.getfield 93, 3) := by decide +kernel
theorem dX10_piece_81 : decode cX10_piece 81 = .ok (.getfield 152, 3) := by decide +kernel
theorem dX10_piece_84 : decode cX10_piece 84 = .ok (.iload_n 1, 1) := by decide +kernel
theorem dX10_piece_85 : decode cX10_piece 85 = .ok (.invokevirtual 112, 3) := by decide +kernel
theorem dX10_piece_88 : decode cX10_piece 88 = .ok (.ireturn, 1) := by decide +kernel
theorem dX10_piece_89 : decode cX10_piece 89 = .ok (.aload_n 0, 1) := by decide +kernel
theorem dX10_piece_90 : decode cX10_piece 90 = .ok (.getfield 38, 3) := by decide +kernel
theorem dX10_piece_93 : decode cX10_piece 93 = .ok (.getfield 93, 3) := by decide +kernel
theorem dX10_piece_96 : decode cX10_piece 96 = .ok (.getfield 155, 3) := by decide +kernel
theorem dX10_piece_99 : decode cX10_piece 99 = .ok (.iload_n 1, 1) := by decide +kernel
theorem dX10_piece_100 : decode cX10_piece 100 = .ok (.invokevirtual 112, 3) := by decide +kernel
theorem dX10_piece_103 : decode cX10_piece 103 = .ok (.ireturn, 1) := by decide +kernel
theorem dX10_piece_104 : decode cX10_piece 104 = .ok (.aload_n 0, 1) := by decide +kernel
theorem dX10_piece_105 : decode cX10_piece 105 = .ok (.getfield 38, 3) := by decide +kernel
theorem dX10_piece_108 : decode cX10_piece 108 = .ok (.getfield 93, 3) := by decide +kernel
theorem dX10_piece_111 : decode cX10_piece 111 = .ok (.getfield 122, 3) := by decide +kernel
theorem dX10_piece_114 : decode cX10_piece 114 = .ok (.iload_n 1, 1) := by decide +kernel
theorem dX10_piece_115 : decode cX10_piece 115 = .ok (.invokevirtual 112, 3) := by decide +kernel
theorem dX10_piece_118 : decode cX10_piece 118 = .ok (.ireturn, 1) := by decide +kernel
theorem dX10_piece_119 : decode cX10_piece 119 = .ok (.aload_n 0, 1) := by decide +kernel
theorem dX10_piece_120 : decode cX10_piece 120 = .ok (.getfield 38, 3) := by decide +kernel
theorem dX10_piece_123 : decode cX10_piece 123 = .ok (.getfield 93, 3) := by decide +kernel
theorem dX10_piece_126 : decode cX10_piece 126 = .ok (.getfield 158, 3) := by decide +kernel
theorem dX10_piece_129 : decode cX10_piece 129 = .ok (.iload_n 1, 1) := by decide +kernel
theorem dX10_piece_130 : decode cX10_piece 130 = .ok (.invokevirtual 112, 3) := by decide +kernel
theorem dX10_piece_133 : decode cX10_piece 133 = .ok (.ireturn, 1) := by decide +kernel
theorem dX10_piece_134 : decode cX10_piece 134 = .ok (.new 161, 3) := by decide +kernel
theorem dX10_piece_137 : decode cX10_piece 137 = .ok (.dup, 1) := by decide +kernel
theorem dX10_piece_138 : decode cX10_piece 138 = .ok (.ldc 163, 2) := by decide +kernel
theorem dX10_piece_140 : decode cX10_piece 140 = .ok (.invokespecial 165, 3) := by decide +kernel
theorem dX10_piece_143 : decode cX10_piece 143 = .ok (.athrow, 1) := by decide +kernel
theorem dX10_push_0 : decode cX10_push 0 = .ok (.aload_n 0, 1) := by decide +kernel
theorem dX10_push_1 : decode cX10_push 1 = .ok (.iload_n 1, 1) := by decide +kernel
theorem dX10_push_2 : decode cX10_push 2 = .ok (.invokevirtual 135, 3) := by decide +kernel
theorem dX10_push_5 : decode cX10_push 5 = .ok (.astore 5, 2) := by decide +kernel
theorem dX10_push_7 : decode cX10_push 7 = .ok (.aload_n 0, 1) := by decide +kernel
theorem dX10_push_8 : decode cX10_push 8 = .ok (.iload_n 3, 1) := by decide +kernel
theorem dX10_push_9 : decode cX10_push 9 = .ok (.invokevirtual 119, 3) := by decide +kernel
theorem dX10_push_12 : decode cX10_push 12 = .ok (.iload_n 2, 1) := by decide +kernel
theorem dX10_push_13 : decode cX10_push 13 = .ok (.invokestatic 139, 3) := by decide +kernel
theorem dX10_push_16 : decode cX10_push 16 = .ok (.aload 5, 2) := by decide +kernel
theorem dX10_push_18 : decode cX10_push 18 = .ok (.aload_n 0, 1) := by decide +kernel
theorem dX10_push_19 : decode cX10_push 19 = .ok (.getfield 38, 3) := by decide +kernel
theorem dX10_push_22 : decode cX10_push 22 = .ok (.getfield 93, 3) := by decide +kernel
theorem dX10_push_25 : decode cX10_push 25 = .ok (.iload_n 3, 1) := by decide +kernel
theorem dX10_push_26 : decode cX10_push 26 = .ok (.iload_n 2, 1) := by decide +kernel
theorem dX10_push_27 : decode cX10_push 27 = .ok (.invokevirtual 168, 3) := by decide +kernel
theorem dX10_push_30 : decode cX10_push 30 = .ok (.invokevirtual 172, 3) := by decide +kernel
theorem dX10_push_33 : decode cX10_push 33 = .ok (.iload 4, 2) := by decide +kernel
theorem dX10_push_35 : decode cX10_push 35 = .ok (.ifCond .eq 11, 3) := by decide +kernel
theorem dX10_push_38 : decode cX10_push 38 = .ok (.aload 5, 2) := by decide +kernel
theorem dX10_push_40 : decode cX10_push 40 = .ok (.getfield 176, 3) := by decide +kernel
theorem dX10_push_43 : decode cX10_push 43 = .ok (.goto 8, 3) := by decide +kernel
theorem dX10_push_46 : decode cX10_push 46 = .ok (.aload 5, 2) := by decide +kernel
theorem dX10_push_48 : decode cX10_push 48 = .ok (.getfield 179, 3) := by decide +kernel
theorem dX10_push_51 : decode cX10_push 51 = .ok (.ireturn, 1) := by decide +kernel
theorem dX10_grows_0 : decode cX10_grows 0 = .ok (.aload_n 0, 1) := by decide +kernel
theorem dX10_grows_1 : decode cX10_grows 1 = .ok (.iload_n 1, 1) := by decide +kernel
theorem dX10_grows_2 : decode cX10_grows 2 = .ok (.invokevirtual 135, 3) := by decide +kernel
theorem dX10_grows_5 : decode cX10_grows 5 = .ok (.astore 5, 2) := by decide +kernel
theorem dX10_grows_7 : decode cX10_grows 7 = .ok (.iload_n 2, 1) := by decide +kernel
theorem dX10_grows_8 : decode cX10_grows 8 = .ok (.invokestatic 139, 3) := by decide +kernel
theorem dX10_grows_11 : decode cX10_grows 11 = .ok (.iload_n 3, 1) := by decide +kernel
theorem dX10_grows_12 : decode cX10_grows 12 = .ok (.iload 4, 2) := by decide +kernel
theorem dX10_grows_14 : decode cX10_grows 14 = .ok (.invokestatic 125, 3) := by decide +kernel
theorem dX10_grows_17 : decode cX10_grows 17 = .ok (.aload_n 0, 1) := by decide +kernel
theorem dX10_grows_18 : decode cX10_grows 18 = .ok (.getfield 49, 3) := by decide +kernel
theorem dX10_grows_21 : decode cX10_grows 21 = .ok (.aload_n 0, 1) := by decide +kernel
theorem dX10_grows_22 : decode cX10_grows 22 = .ok (.getfield 38, 3) := by decide +kernel
theorem dX10_grows_25 : decode cX10_grows 25 = .ok (.getfield 93, 3) := by decide +kernel
theorem dX10_grows_28 : decode cX10_grows 28 = .ok (.invokevirtual 182, 3) := by decide +kernel
theorem dX10_grows_31 : decode cX10_grows 31 = .ok (.aload_n 0, 1) := by decide +kernel
theorem dX10_grows_32 : decode cX10_grows 32 = .ok (.aload 5, 2) := by decide +kernel
theorem dX10_grows_34 : decode cX10_grows 34 = .ok (.iload_n 2, 1) := by decide +kernel
theorem dX10_grows_35 : decode cX10_grows 35 = .ok (.iload_n 3, 1) := by decide +kernel
theorem dX10_grows_36 : decode cX10_grows 36 = .ok (.iload 4, 2) := by decide +kernel
theorem dX10_grows_38 : decode cX10_grows 38 = .ok (.bipush 100, 2) := by decide +kernel
theorem dX10_grows_40 : decode cX10_grows 40 = .ok (.bipush 100, 2) := by decide +kernel
theorem dX10_grows_42 : decode cX10_grows 42 = .ok (.invokevirtual 186, 3) := by decide +kernel
theorem dX10_grows_45 : decode cX10_grows 45 = .ok (.ireturn, 1) := by decide +kernel
theorem dX10_line_0 : decode cX10_line 0 = .ok (.aload_n 0, 1) := by decide +kernel
theorem dX10_line_1 : decode cX10_line 1 = .ok (.iload_n 1, 1) := by decide +kernel
theorem dX10_line_2 : decode cX10_line 2 = .ok (.invokevirtual 135, 3) := by decide +kernel
theorem dX10_line_5 : decode cX10_line 5 = .ok (.astore 4, 2) := by decide +kernel
theorem dX10_line_7 : decode cX10_line 7 = .ok (.iload_n 2, 1) := by decide +kernel
theorem dX10_line_8 : decode cX10_line 8 = .ok (.iload_n 3, 1) := by decide +kernel
theorem dX10_line_9 : decode cX10_line 9 = .ok (.invokestatic 125, 3) := by decide +kernel
theorem dX10_line_12 : decode cX10_line 12 = .ok (.aload_n 0, 1) := by decide +kernel
theorem dX10_line_13 : decode cX10_line 13 = .ok (.getfield 49, 3) := by decide +kernel
theorem dX10_line_16 : decode cX10_line 16 = .ok (.aload_n 0, 1) := by decide +kernel
theorem dX10_line_17 : decode cX10_line 17 = .ok (.getfield 38, 3) := by decide +kernel
theorem dX10_line_20 : decode cX10_line 20 = .ok (.getfield 93, 3) := by decide +kernel
theorem dX10_line_23 : decode cX10_line 23 = .ok (.invokevirtual 182, 3) := by decide +kernel
theorem dX10_line_26 : decode cX10_line 26 = .ok (.aload_n 0, 1) := by decide +kernel
theorem dX10_line_27 : decode cX10_line 27 = .ok (.aload 4, 2) := by decide +kernel
theorem dX10_line_29 : decode cX10_line 29 = .ok (.iload_n 2, 1) := by decide +kernel
theorem dX10_line_30 : decode cX10_line 30 = .ok (.iload_n 3, 1) := by decide +kernel
theorem dX10_line_31 : decode cX10_line 31 = .ok (.bipush 100, 2) := by decide +kernel
theorem dX10_line_33 : decode cX10_line 33 = .ok (.invokevirtual 190, 3) := by decide +kernel
theorem dX10_line_36 : decode cX10_line 36 = .ok (.ireturn, 1) := by decide +kernel
theorem dX10_why_0 : decode cX10_why 0 = .ok (.aload_n 0, 1) := by decide +kernel
theorem dX10_why_1 : decode cX10_why 1 = .ok (.iload_n 1, 1) := by decide +kernel
theorem dX10_why_2 : decode cX10_why 2 = .ok (.invokevirtual 135, 3) := by decide +kernel
theorem dX10_why_5 : decode cX10_why 5 = .ok (.astore 5, 2) := by decide +kernel
theorem dX10_why_7 : decode cX10_why 7 = .ok (.iload_n 2, 1) := by decide +kernel
theorem dX10_why_8 : decode cX10_why 8 = .ok (.invokestatic 139, 3) := by decide +kernel
theorem dX10_why_11 : decode cX10_why 11 = .ok (.iload_n 3, 1) := by decide +kernel
theorem dX10_why_12 : decode cX10_why 12 = .ok (.iload 4, 2) := by decide +kernel
theorem dX10_why_14 : decode cX10_why 14 = .ok (.invokestatic 125, 3) := by decide +kernel
theorem dX10_why_17 : decode cX10_why 17 = .ok (.aload_n 0, 1) := by decide +kernel
theorem dX10_why_18 : decode cX10_why 18 = .ok (.getfield 49, 3) := by decide +kernel
theorem dX10_why_21 : decode cX10_why 21 = .ok (.aload_n 0, 1) := by decide +kernel
theorem dX10_why_22 : decode cX10_why 22 = .ok (.getfield 38, 3) := by decide +kernel
theorem dX10_why_25 : decode cX10_why 25 = .ok (.getfield 93, 3) := by decide +kernel
theorem dX10_why_28 : decode cX10_why 28 = .ok (.invokevirtual 182, 3) := by decide +kernel
theorem dX10_why_31 : decode cX10_why 31 = .ok (.aload_n 0, 1) := by decide +kernel
theorem dX10_why_32 : decode cX10_why 32 = .ok (.aload 5, 2) := by decide +kernel
theorem dX10_why_34 : decode cX10_why 34 = .ok (.iload_n 2, 1) := by decide +kernel
theorem dX10_why_35 : decode cX10_why 35 = .ok (.iload_n 3, 1) := by decide +kernel
theorem dX10_why_36 : decode cX10_why 36 = .ok (.iload 4, 2) := by decide +kernel
theorem dX10_why_38 : decode cX10_why 38 = .ok (.bipush 100, 2) := by decide +kernel
theorem dX10_why_40 : decode cX10_why 40 = .ok (.bipush 100, 2) := by decide +kernel
theorem dX10_why_42 : decode cX10_why 42 = .ok (.invokevirtual 186, 3) := by decide +kernel
theorem dX10_why_45 : decode cX10_why 45 = .ok (.ifCond .eq 25, 3) := by decide +kernel
theorem dX10_why_48 : decode cX10_why 48 = .ok (.aload_n 0, 1) := by decide +kernel
theorem dX10_why_49 : decode cX10_why 49 = .ok (.aload 5, 2) := by decide +kernel
theorem dX10_why_51 : decode cX10_why 51 = .ok (.iload_n 2, 1) := by decide +kernel
theorem dX10_why_52 : decode cX10_why 52 = .ok (.iload_n 3, 1) := by decide +kernel
theorem dX10_why_53 : decode cX10_why 53 = .ok (.iload 4, 2) := by decide +kernel
theorem dX10_why_55 : decode cX10_why 55 = .ok (.sipush 200, 3) := by decide +kernel
theorem dX10_why_58 : decode cX10_why 58 = .ok (.bipush 100, 2) := by decide +kernel
theorem dX10_why_60 : decode cX10_why 60 = .ok (.invokevirtual 186, 3) := by decide +kernel
theorem dX10_why_63 : decode cX10_why 63 = .ok (.ifCond .eq 7, 3) := by decide +kernel
theorem dX10_why_66 : decode cX10_why 66 = .ok (.iconst 1, 1) := by decide +kernel
theorem dX10_why_67 : decode cX10_why 67 = .ok (.goto 4, 3) := by decide +kernel
theorem dX10_why_70 : decode cX10_why 70 = .ok (.iconst 0, 1) := by decide +kernel
theorem dX10_why_71 : decode cX10_why 71 = .ok (.istore 6, 2) := by decide +kernel
theorem dX10_why_73 : decode cX10_why 73 = .ok (.aload_n 0, 1) := by decide +kernel
theorem dX10_why_74 : decode cX10_why 74 = .ok (.aload 5, 2) := by decide +kernel
theorem dX10_why_76 : decode cX10_why 76 = .ok (.iload_n 2, 1) := by decide +kernel
theorem dX10_why_77 : decode cX10_why 77 = .ok (.iload_n 3, 1) := by decide +kernel
theorem dX10_why_78 : decode cX10_why 78 = .ok (.iload 4, 2) := by decide +kernel
theorem dX10_why_80 : decode cX10_why 80 = .ok (.iconst 1, 1) := by decide +kernel
theorem dX10_why_81 : decode cX10_why 81 = .ok (.bipush 100, 2) := by decide +kernel
theorem dX10_why_83 : decode cX10_why 83 = .ok (.invokevirtual 186, 3) := by decide +kernel
theorem dX10_why_86 : decode cX10_why 86 = .ok (.ifCond .eq 25, 3) := by decide +kernel
theorem dX10_why_89 : decode cX10_why 89 = .ok (.aload_n 0, 1) := by decide +kernel
theorem dX10_why_90 : decode cX10_why 90 = .ok (.aload 5, 2) := by decide +kernel
theorem dX10_why_92 : decode cX10_why 92 = .ok (.iload_n 2, 1) := by decide +kernel
theorem dX10_why_93 : decode cX10_why 93 = .ok (.iload_n 3, 1) := by decide +kernel
theorem dX10_why_94 : decode cX10_why 94 = .ok (.iload 4, 2) := by decide +kernel
theorem dX10_why_96 : decode cX10_why 96 = .ok (.sipush 1000, 3) := by decide +kernel
theorem dX10_why_99 : decode cX10_why 99 = .ok (.bipush 100, 2) := by decide +kernel
theorem dX10_why_101 : decode cX10_why 101 = .ok (.invokevirtual 186, 3) := by decide +kernel
theorem dX10_why_104 : decode cX10_why 104 = .ok (.ifCond .ne 7, 3) := by decide +kernel
theorem dX10_why_107 : decode cX10_why 107 = .ok (.iconst 1, 1) := by decide +kernel
theorem dX10_why_108 : decode cX10_why 108 = .ok (.goto 4, 3) := by decide +kernel
theorem dX10_why_111 : decode cX10_why 111 = .ok (.iconst 0, 1) := by decide +kernel
theorem dX10_why_112 : decode cX10_why 112 = .ok (.istore 7, 2) := by decide +kernel
theorem dX10_why_114 : decode cX10_why 114 = .ok (.iload 6, 2) := by decide +kernel
theorem dX10_why_116 : decode cX10_why 116 = .ok (.ifCond .eq 7, 3) := by decide +kernel
theorem dX10_why_119 : decode cX10_why 119 = .ok (.iconst 1, 1) := by decide +kernel
theorem dX10_why_120 : decode cX10_why 120 = .ok (.goto 4, 3) := by decide +kernel
theorem dX10_why_123 : decode cX10_why 123 = .ok (.iconst 0, 1) := by decide +kernel
theorem dX10_why_124 : decode cX10_why 124 = .ok (.iload 7, 2) := by decide +kernel
theorem dX10_why_126 : decode cX10_why 126 = .ok (.ifCond .eq 7, 3) := by decide +kernel
theorem dX10_why_129 : decode cX10_why 129 = .ok (.iconst 2, 1) := by decide +kernel
theorem dX10_why_130 : decode cX10_why 130 = .ok (.goto 4, 3) := by decide +kernel
theorem dX10_why_133 : decode cX10_why 133 = .ok (.iconst 0, 1) := by decide +kernel
theorem dX10_why_134 : decode cX10_why 134 = .ok (.iadd, 1) := by decide +kernel
theorem dX10_why_135 : decode cX10_why 135 = .ok (.ireturn, 1) := by decide +kernel
theorem dX10_first_0 : decode cX10_first 0 = .ok (.aload_n 0, 1) := by decide +kernel
theorem dX10_first_1 : decode cX10_first 1 = .ok (.iload_n 1, 1) := by decide +kernel
theorem dX10_first_2 : decode cX10_first 2 = .ok (.invokevirtual 135, 3) := by decide +kernel
theorem dX10_first_5 : decode cX10_first 5 = .ok (.astore 6, 2) := by decide +kernel
theorem dX10_first_7 : decode cX10_first 7 = .ok (.iload_n 2, 1) := by decide +kernel
theorem dX10_first_8 : decode cX10_first 8 = .ok (.invokestatic 139, 3) := by decide +kernel
theorem dX10_first_11 : decode cX10_first 11 = .ok (.iload_n 3, 1) := by decide +kernel
theorem dX10_first_12 : decode cX10_first 12 = .ok (.iload 4, 2) := by decide +kernel
theorem dX10_first_14 : decode cX10_first 14 = .ok (.invokestatic 125, 3) := by decide +kernel
theorem dX10_first_17 : decode cX10_first 17 = .ok (.aload_n 0, 1) := by decide +kernel
theorem dX10_first_18 : decode cX10_first 18 = .ok (.aload 6, 2) := by decide +kernel
theorem dX10_first_20 : decode cX10_first 20 = .ok (.iload_n 2, 1) := by decide +kernel
theorem dX10_first_21 : decode cX10_first 21 = .ok (.iload_n 3, 1) := by decide +kernel
theorem dX10_first_22 : decode cX10_first 22 = .ok (.iload 4, 2) := by decide +kernel
theorem dX10_first_24 : decode cX10_first 24 = .ok (.iload 5, 2) := by decide +kernel
theorem dX10_first_26 : decode cX10_first 26 = .ok (.invokevirtual 194, 3) := by decide +kernel
theorem dX10_first_29 : decode cX10_first 29 = .ok (.ireturn, 1) := by decide +kernel
theorem dX10_where_0 : decode cX10_where 0 = .ok (.aload_n 0, 1) := by decide +kernel
theorem dX10_where_1 : decode cX10_where 1 = .ok (.iload_n 1, 1) := by decide +kernel
theorem dX10_where_2 : decode cX10_where 2 = .ok (.invokevirtual 135, 3) := by decide +kernel
theorem dX10_where_5 : decode cX10_where 5 = .ok (.astore 6, 2) := by decide +kernel
theorem dX10_where_7 : decode cX10_where 7 = .ok (.iload_n 2, 1) := by decide +kernel
theorem dX10_where_8 : decode cX10_where 8 = .ok (.invokestatic 139, 3) := by decide +kernel
theorem dX10_where_11 : decode cX10_where 11 = .ok (.iload_n 3, 1) := by decide +kernel
theorem dX10_where_12 : decode cX10_where 12 = .ok (.iload 4, 2) := by decide +kernel
theorem dX10_where_14 : decode cX10_where 14 = .ok (.invokestatic 125, 3) := by decide +kernel
theorem dX10_where_17 : decode cX10_where 17 = .ok (.aload_n 0, 1) := by decide +kernel
theorem dX10_where_18 : decode cX10_where 18 = .ok (.aload 6, 2) := by decide +kernel
theorem dX10_where_20 : decode cX10_where 20 = .ok (.iload_n 2, 1) := by decide +kernel
theorem dX10_where_21 : decode cX10_where 21 = .ok (.iload_n 3, 1) := by decide +kernel
theorem dX10_where_22 : decode cX10_where 22 = .ok (.iload 4, 2) := by decide +kernel
theorem dX10_where_24 : decode cX10_where 24 = .ok (.iload 5, 2) := by decide +kernel
theorem dX10_where_26 : decode cX10_where 26 = .ok (.invokevirtual 194, 3) := by decide +kernel
theorem dX10_where_29 : decode cX10_where 29 = .ok (.pop, 1) := by decide +kernel
theorem dX10_where_30 : decode cX10_where 30 = .ok (.aload_n 0, 1) := by decide +kernel
theorem dX10_where_31 : decode cX10_where 31 = .ok (.getfield 49, 3) := by decide +kernel
theorem dX10_where_34 : decode cX10_where 34 = .ok (.iload 5, 2) := by decide +kernel
theorem dX10_where_36 : decode cX10_where 36 = .ok (.invokevirtual 198, 3) := by decide +kernel
theorem dX10_where_39 : decode cX10_where 39 = .ok (.ireturn, 1) := by decide +kernel
theorem dX10_slip_0 : decode cX10_slip 0 = .ok (.aload_n 0, 1) := by decide +kernel
theorem dX10_slip_1 : decode cX10_slip 1 = .ok (.iload_n 1, 1) := by decide +kernel
theorem dX10_slip_2 : decode cX10_slip 2 = .ok (.invokevirtual 135, 3) := by decide +kernel
theorem dX10_slip_5 : decode cX10_slip 5 = .ok (.astore 4, 2) := by decide +kernel
theorem dX10_slip_7 : decode cX10_slip 7 = .ok (.iload_n 2, 1) := by decide +kernel
theorem dX10_slip_8 : decode cX10_slip 8 = .ok (.invokestatic 139, 3) := by decide +kernel
theorem dX10_slip_11 : decode cX10_slip 11 = .ok (.iconst 1, 1) := by decide +kernel
theorem dX10_slip_12 : decode cX10_slip 12 = .ok (.iload_n 3, 1) := by decide +kernel
theorem dX10_slip_13 : decode cX10_slip 13 = .ok (.invokestatic 125, 3) := by decide +kernel
theorem dX10_slip_16 : decode cX10_slip 16 = .ok (.aload_n 0, 1) := by decide +kernel
theorem dX10_slip_17 : decode cX10_slip 17 = .ok (.getfield 49, 3) := by decide +kernel
theorem dX10_slip_20 : decode cX10_slip 20 = .ok (.aload_n 0, 1) := by decide +kernel
theorem dX10_slip_21 : decode cX10_slip 21 = .ok (.getfield 38, 3) := by decide +kernel
theorem dX10_slip_24 : decode cX10_slip 24 = .ok (.getfield 93, 3) := by decide +kernel
theorem dX10_slip_27 : decode cX10_slip 27 = .ok (.invokevirtual 182, 3) := by decide +kernel
theorem dX10_slip_30 : decode cX10_slip 30 = .ok (.aload_n 0, 1) := by decide +kernel
theorem dX10_slip_31 : decode cX10_slip 31 = .ok (.aload 4, 2) := by decide +kernel
theorem dX10_slip_33 : decode cX10_slip 33 = .ok (.iload_n 2, 1) := by decide +kernel
theorem dX10_slip_34 : decode cX10_slip 34 = .ok (.iconst 1, 1) := by decide +kernel
theorem dX10_slip_35 : decode cX10_slip 35 = .ok (.iload_n 3, 1) := by decide +kernel
theorem dX10_slip_36 : decode cX10_slip 36 = .ok (.bipush 100, 2) := by decide +kernel
theorem dX10_slip_38 : decode cX10_slip 38 = .ok (.bipush 100, 2) := by decide +kernel
theorem dX10_slip_40 : decode cX10_slip 40 = .ok (.invokevirtual 186, 3) := by decide +kernel
theorem dX10_slip_43 : decode cX10_slip 43 = .ok (.istore 5, 2) := by decide +kernel
theorem dX10_slip_45 : decode cX10_slip 45 = .ok (.aload_n 0, 1) := by decide +kernel
theorem dX10_slip_46 : decode cX10_slip 46 = .ok (.getfield 49, 3) := by decide +kernel
theorem dX10_slip_49 : decode cX10_slip 49 = .ok (.invokevirtual 202, 3) := by decide +kernel
theorem dX10_slip_52 : decode cX10_slip 52 = .ok (.aload_n 0, 1) := by decide +kernel
theorem dX10_slip_53 : decode cX10_slip 53 = .ok (.aload 4, 2) := by decide +kernel
theorem dX10_slip_55 : decode cX10_slip 55 = .ok (.iload_n 2, 1) := by decide +kernel
theorem dX10_slip_56 : decode cX10_slip 56 = .ok (.iconst 1, 1) := by decide +kernel
theorem dX10_slip_57 : decode cX10_slip 57 = .ok (.iload_n 3, 1) := by decide +kernel
theorem dX10_slip_58 : decode cX10_slip 58 = .ok (.bipush 100, 2) := by decide +kernel
theorem dX10_slip_60 : decode cX10_slip 60 = .ok (.bipush 100, 2) := by decide +kernel
theorem dX10_slip_62 : decode cX10_slip 62 = .ok (.invokevirtual 186, 3) := by decide +kernel
theorem dX10_slip_65 : decode cX10_slip 65 = .ok (.istore 6, 2) := by decide +kernel
theorem dX10_slip_67 : decode cX10_slip 67 = .ok (.iload 5, 2) := by decide +kernel
theorem dX10_slip_69 : decode cX10_slip 69 = .ok (.ifCond .eq 7, 3) := by decide +kernel
theorem dX10_slip_72 : decode cX10_slip 72 = .ok (.iconst 1, 1) := by decide +kernel
theorem dX10_slip_73 : decode cX10_slip 73 = .ok (.goto 4, 3) := by decide +kernel
theorem dX10_slip_76 : decode cX10_slip 76 = .ok (.iconst 0, 1) := by decide +kernel
theorem dX10_slip_77 : decode cX10_slip 77 = .ok (.iload 6, 2) := by decide +kernel
theorem dX10_slip_79 : decode cX10_slip 79 = .ok (.ifCond .eq 7, 3) := by decide +kernel
theorem dX10_slip_82 : decode cX10_slip 82 = .ok (.iconst 2, 1) := by decide +kernel
theorem dX10_slip_83 : decode cX10_slip 83 = .ok (.goto 4, 3) := by decide +kernel
theorem dX10_slip_86 : decode cX10_slip 86 = .ok (.iconst 0, 1) := by decide +kernel
theorem dX10_slip_87 : decode cX10_slip 87 = .ok (.iadd, 1) := by decide +kernel
theorem dX10_slip_88 : decode cX10_slip 88 = .ok (.ireturn, 1) := by decide +kernel
theorem dX10_film_0 : decode cX10_film 0 = .ok (.aload_n 0, 1) := by decide +kernel
theorem dX10_film_1 : decode cX10_film 1 = .ok (.iload_n 2, 1) := by decide +kernel
theorem dX10_film_2 : decode cX10_film 2 = .ok (.invokevirtual 119, 3) := by decide +kernel
theorem dX10_film_5 : decode cX10_film 5 = .ok (.iload_n 1, 1) := by decide +kernel
theorem dX10_film_6 : decode cX10_film 6 = .ok (.iconst 1, 1) := by decide +kernel
theorem dX10_film_7 : decode cX10_film 7 = .ok (.bipush 100, 2) := by decide +kernel
theorem dX10_film_9 : decode cX10_film 9 = .ok (.invokestatic 63, 3) := by decide +kernel
theorem dX10_film_12 : decode cX10_film 12 = .ok (.invokestatic 67, 3) := by decide +kernel
theorem dX10_film_15 : decode cX10_film 15 = .ok (.iload_n 3, 1) := by decide +kernel
theorem dX10_film_16 : decode cX10_film 16 = .ok (.ldc 205, 2) := by decide +kernel
theorem dX10_film_18 : decode cX10_film 18 = .ok (.ldc 206, 2) := by decide +kernel
theorem dX10_film_20 : decode cX10_film 20 = .ok (.invokestatic 63, 3) := by decide +kernel
theorem dX10_film_23 : decode cX10_film 23 = .ok (.ifCond .eq 19, 3) := by decide +kernel
theorem dX10_film_26 : decode cX10_film 26 = .ok (.iload 4, 2) := by decide +kernel
theorem dX10_film_28 : decode cX10_film 28 = .ok (.ldc 205, 2) := by decide +kernel
theorem dX10_film_30 : decode cX10_film 30 = .ok (.ldc 206, 2) := by decide +kernel
theorem dX10_film_32 : decode cX10_film 32 = .ok (.invokestatic 63, 3) := by decide +kernel
theorem dX10_film_35 : decode cX10_film 35 = .ok (.ifCond .eq 7, 3) := by decide +kernel
theorem dX10_film_38 : decode cX10_film 38 = .ok (.iconst 1, 1) := by decide +kernel
theorem dX10_film_39 : decode cX10_film 39 = .ok (.goto 4, 3) := by decide +kernel
theorem dX10_film_42 : decode cX10_film 42 = .ok (.iconst 0, 1) := by decide +kernel
theorem dX10_film_43 : decode cX10_film 43 = .ok (.invokestatic 67, 3) := by decide +kernel
theorem dX10_film_46 : decode cX10_film 46 = .ok (.aload_n 0, 1) := by decide +kernel
theorem dX10_film_47 : decode cX10_film 47 = .ok (.getfield 38, 3) := by decide +kernel
theorem dX10_film_50 : decode cX10_film 50 = .ok (.getfield 207, 3) := by decide +kernel
theorem dX10_film_53 : decode cX10_film 53 = .ok (.iload_n 1, 1) := by decide +kernel
theorem dX10_film_54 : decode cX10_film 54 = .ok (.iload_n 2, 1) := by decide +kernel
theorem dX10_film_55 : decode cX10_film 55 = .ok (.iload_n 3, 1) := by decide +kernel
theorem dX10_film_56 : decode cX10_film 56 = .ok (.iload 4, 2) := by decide +kernel
theorem dX10_film_58 : decode cX10_film 58 = .ok (.invokevirtual 211, 3) := by decide +kernel
theorem dX10_film_61 : decode cX10_film 61 = .ok (.ireturn, 1) := by decide +kernel
theorem dX10_barred_0 : decode cX10_barred 0 = .ok (.aload_n 0, 1) := by decide +kernel
theorem dX10_barred_1 : decode cX10_barred 1 = .ok (.iload_n 1, 1) := by decide +kernel
theorem dX10_barred_2 : decode cX10_barred 2 = .ok (.invokevirtual 135, 3) := by decide +kernel
theorem dX10_barred_5 : decode cX10_barred 5 = .ok (.astore 7, 2) := by decide +kernel
theorem dX10_barred_7 : decode cX10_barred 7 = .ok (.iload_n 2, 1) := by decide +kernel
theorem dX10_barred_8 : decode cX10_barred 8 = .ok (.invokestatic 139, 3) := by decide +kernel
theorem dX10_barred_11 : decode cX10_barred 11 = .ok (.iload_n 3, 1) := by decide +kernel
theorem dX10_barred_12 : decode cX10_barred 12 = .ok (.iload 4, 2) := by decide +kernel
theorem dX10_barred_14 : decode cX10_barred 14 = .ok (.invokestatic 125, 3) := by decide +kernel
theorem dX10_barred_17 : decode cX10_barred 17 = .ok (.iload 5, 2) := by decide +kernel
theorem dX10_barred_19 : decode cX10_barred 19 = .ok (.iconst 1, 1) := by decide +kernel
theorem dX10_barred_20 : decode cX10_barred 20 = .ok (.sipush 9999, 3) := by decide +kernel
theorem dX10_barred_23 : decode cX10_barred 23 = .ok (.invokestatic 63, 3) := by decide +kernel
theorem dX10_barred_26 : decode cX10_barred 26 = .ok (.ifCond .eq 18, 3) := by decide +kernel
theorem dX10_barred_29 : decode cX10_barred 29 = .ok (.iload 6, 2) := by decide +kernel
theorem dX10_barred_31 : decode cX10_barred 31 = .ok (.iconst 0, 1) := by decide +kernel
theorem dX10_barred_32 : decode cX10_barred 32 = .ok (.ldc 206, 2) := by decide +kernel
theorem dX10_barred_34 : decode cX10_barred 34 = .ok (.invokestatic 63, 3) := by decide +kernel
theorem dX10_barred_37 : decode cX10_barred 37 = .ok (.ifCond .eq 7, 3) := by decide +kernel
theorem dX10_barred_40 : decode cX10_barred 40 = .ok (.iconst 1, 1) := by decide +kernel
theorem dX10_barred_41 : decode cX10_barred 41 = .ok (.goto 4, 3) := by decide +kernel
theorem dX10_barred_44 : decode cX10_barred 44 = .ok (.iconst 0, 1) := by decide +kernel
theorem dX10_barred_45 : decode cX10_barred 45 = .ok (.invokestatic 67, 3) := by decide +kernel
theorem dX10_barred_48 : decode cX10_barred 48 = .ok (.aload_n 0, 1) := by decide +kernel
theorem dX10_barred_49 : decode cX10_barred 49 = .ok (.getfield 49, 3) := by decide +kernel
theorem dX10_barred_52 : decode cX10_barred 52 = .ok (.aload_n 0, 1) := by decide +kernel
theorem dX10_barred_53 : decode cX10_barred 53 = .ok (.getfield 38, 3) := by decide +kernel
theorem dX10_barred_56 : decode cX10_barred 56 = .ok (.getfield 93, 3) := by decide +kernel
theorem dX10_barred_59 : decode cX10_barred 59 = .ok (.invokevirtual 182, 3) := by decide +kernel
theorem dX10_barred_62 : decode cX10_barred 62 = .ok (.aload_n 0, 1) := by decide +kernel
theorem dX10_barred_63 : decode cX10_barred 63 = .ok (.getfield 49, 3) := by decide +kernel
theorem dX10_barred_66 : decode cX10_barred 66 = .ok (.iload_n 3, 1) := by decide +kernel
theorem dX10_barred_67 : decode cX10_barred 67 = .ok (.iload 4, 2) := by decide +kernel
theorem dX10_barred_69 : decode cX10_barred 69 = .ok (.iload 5, 2) := by decide +kernel
theorem dX10_barred_71 : decode cX10_barred 71 = .ok (.invokevirtual 217, 3) := by decide +kernel
theorem dX10_barred_74 : decode cX10_barred 74 = .ok (.iconst (-1), 1) := by decide +kernel
theorem dX10_barred_75 : decode cX10_barred 75 = .ok (.istore 8, 2) := by decide +kernel
theorem dX10_barred_77 : decode cX10_barred 77 = .ok (.iconst 1, 1) := by decide +kernel
theorem dX10_barred_78 : decode cX10_barred 78 = .ok (.istore 9, 2) := by decide +kernel
theorem dX10_barred_80 : decode cX10_barred 80 = .ok (.iload 9, 2) := by decide +kernel
theorem dX10_barred_82 : decode cX10_barred 82 = .ok (.bipush 100, 2) := by decide +kernel
theorem dX10_barred_84 : decode cX10_barred 84 = .ok (.if_icmp .gt 64, 3) := by decide +kernel
theorem dX10_barred_87 : decode cX10_barred 87 = .ok (.aload_n 0, 1) := by decide +kernel
theorem dX10_barred_88 : decode cX10_barred 88 = .ok (.getfield 49, 3) := by decide +kernel
theorem dX10_barred_91 : decode cX10_barred 91 = .ok (.aload 7, 2) := by decide +kernel
theorem dX10_barred_93 : decode cX10_barred 93 = .ok (.iload_n 2, 1) := by decide +kernel
theorem dX10_barred_94 : decode cX10_barred 94 = .ok (.bipush 100, 2) := by decide +kernel
theorem dX10_barred_96 : decode cX10_barred 96 = .ok (.invokevirtual 142, 3) := by decide +kernel
theorem dX10_barred_99 : decode cX10_barred 99 = .ok (.aload_n 0, 1) := by decide +kernel
theorem dX10_barred_100 : decode cX10_barred 100 = .ok (.getfield 38, 3) := by decide +kernel
theorem dX10_barred_103 : decode cX10_barred 103 = .ok (.getfield 207, 3) := by decide +kernel
theorem dX10_barred_106 : decode cX10_barred 106 = .ok (.iload 9, 2) := by decide +kernel
theorem dX10_barred_108 : decode cX10_barred 108 = .ok (.aload_n 0, 1) := by decide +kernel
theorem dX10_barred_109 : decode cX10_barred 109 = .ok (.getfield 49, 3) := by decide +kernel
theorem dX10_barred_112 : decode cX10_barred 112 = .ok (.iload 6, 2) := by decide +kernel
theorem dX10_barred_114 : decode cX10_barred 114 = .ok (.invokevirtual 220, 3) := by decide +kernel
theorem dX10_barred_117 : decode cX10_barred 117 = .ok (.istore 10, 2) := by decide +kernel
theorem dX10_barred_119 : decode cX10_barred 119 = .ok (.iload 10, 2) := by decide +kernel
theorem dX10_barred_121 : decode cX10_barred 121 = .ok (.iconst (-1), 1) := by decide +kernel
theorem dX10_barred_122 : decode cX10_barred 122 = .ok (.if_icmp .eq 20, 3) := by decide +kernel
theorem dX10_barred_125 : decode cX10_barred 125 = .ok (.iload 8, 2) := by decide +kernel
theorem dX10_barred_127 : decode cX10_barred 127 = .ok (.iconst (-1), 1) := by decide +kernel
theorem dX10_barred_128 : decode cX10_barred 128 = .ok (.if_icmp .eq 10, 3) := by decide +kernel
theorem dX10_barred_131 : decode cX10_barred 131 = .ok (.iload 10, 2) := by decide +kernel
theorem dX10_barred_133 : decode cX10_barred 133 = .ok (.iload 8, 2) := by decide +kernel
theorem dX10_barred_135 : decode cX10_barred 135 = .ok (.if_icmp .ge 7, 3) := by decide +kernel
theorem dX10_barred_138 : decode cX10_barred 138 = .ok (.iload 10, 2) := by decide +kernel
theorem dX10_barred_140 : decode cX10_barred 140 = .ok (.istore 8, 2) := by decide +kernel
theorem dX10_barred_142 : decode cX10_barred 142 = .ok (.iinc 9 1, 3) := by decide +kernel
theorem dX10_barred_145 : decode cX10_barred 145 = .ok (.goto (-65), 3) := by decide +kernel
theorem dX10_barred_148 : decode cX10_barred 148 = .ok (.iload 8, 2) := by decide +kernel
theorem dX10_barred_150 : decode cX10_barred 150 = .ok (.ireturn, 1) := by decide +kernel
theorem dX10_mend_0 : decode cX10_mend 0 = .ok (.iload_n 1, 1) := by decide +kernel
theorem dX10_mend_1 : decode cX10_mend 1 = .ok (.iconst 0, 1) := by decide +kernel
theorem dX10_mend_2 : decode cX10_mend 2 = .ok (.bipush 9, 2) := by decide +kernel
theorem dX10_mend_4 : decode cX10_mend 4 = .ok (.invokestatic 63, 3) := by decide +kernel
theorem dX10_mend_7 : decode cX10_mend 7 = .ok (.invokestatic 67, 3) := by decide +kernel
theorem dX10_mend_10 : decode cX10_mend 10 = .ok (.iload_n 2, 1) := by decide +kernel
theorem dX10_mend_11 : decode cX10_mend 11 = .ok (.ldc 224, 2) := by decide +kernel
theorem dX10_mend_13 : decode cX10_mend 13 = .ok (.ldc 225, 2) := by decide +kernel
theorem dX10_mend_15 : decode cX10_mend 15 = .ok (.invokestatic 63, 3) := by decide +kernel
theorem dX10_mend_18 : decode cX10_mend 18 = .ok (.ifCond .eq 18, 3) := by decide +kernel
theorem dX10_mend_21 : decode cX10_mend 21 = .ok (.iload_n 3, 1) := by decide +kernel
theorem dX10_mend_22 : decode cX10_mend 22 = .ok (.iconst 0, 1) := by decide +kernel
theorem dX10_mend_23 : decode cX10_mend 23 = .ok (.sipush 999, 3) := by decide +kernel
theorem dX10_mend_26 : decode cX10_mend 26 = .ok (.invokestatic 63, 3) := by decide +kernel
theorem dX10_mend_29 : decode cX10_mend 29 = .ok (.ifCond .eq 7, 3) := by decide +kernel
theorem dX10_mend_32 : decode cX10_mend 32 = .ok (.iconst 1, 1) := by decide +kernel
theorem dX10_mend_33 : decode cX10_mend 33 = .ok (.goto 4, 3) := by decide +kernel
theorem dX10_mend_36 : decode cX10_mend 36 = .ok (.iconst 0, 1) := by decide +kernel
theorem dX10_mend_37 : decode cX10_mend 37 = .ok (.invokestatic 67, 3) := by decide +kernel
theorem dX10_mend_40 : decode cX10_mend 40 = .ok (.aload_n 0, 1) := by decide +kernel
theorem dX10_mend_41 : decode cX10_mend 41 = .ok (.getfield 38, 3) := by decide +kernel
theorem dX10_mend_44 : decode cX10_mend 44 = .ok (.getfield 226, 3) := by decide +kernel
theorem dX10_mend_47 : decode cX10_mend 47 = .ok (.iload_n 1, 1) := by decide +kernel
theorem dX10_mend_48 : decode cX10_mend 48 = .ok (.iload_n 2, 1) := by decide +kernel
theorem dX10_mend_49 : decode cX10_mend 49 = .ok (.iload_n 3, 1) := by decide +kernel
theorem dX10_mend_50 : decode cX10_mend 50 = .ok (.invokevirtual 230, 3) := by decide +kernel
theorem dX10_mend_53 : decode cX10_mend 53 = .ok (.ireturn, 1) := by decide +kernel
theorem dX10_calm_0 : decode cX10_calm 0 = .ok (.aload_n 0, 1) := by decide +kernel
theorem dX10_calm_1 : decode cX10_calm 1 = .ok (.iload_n 1, 1) := by decide +kernel
theorem dX10_calm_2 : decode cX10_calm 2 = .ok (.invokevirtual 135, 3) := by decide +kernel
theorem dX10_calm_5 : decode cX10_calm 5 = .ok (.astore_n 3, 1) := by decide +kernel
theorem dX10_calm_6 : decode cX10_calm 6 = .ok (.iload_n 2, 1) := by decide +kernel
theorem dX10_calm_7 : decode cX10_calm 7 = .ok (.invokestatic 139, 3) := by decide +kernel
theorem dX10_calm_10 : decode cX10_calm 10 = .ok (.aload_n 0, 1) := by decide +kernel
theorem dX10_calm_11 : decode cX10_calm 11 = .ok (.getfield 49, 3) := by decide +kernel
theorem dX10_calm_14 : decode cX10_calm 14 = .ok (.aload_n 0, 1) := by decide +kernel
theorem dX10_calm_15 : decode cX10_calm 15 = .ok (.getfield 38, 3) := by decide +kernel
theorem dX10_calm_18 : decode cX10_calm 18 = .ok (.getfield 93, 3) := by decide +kernel
theorem dX10_calm_21 : decode cX10_calm 21 = .ok (.invokevirtual 182, 3) := by decide +kernel
theorem dX10_calm_24 : decode cX10_calm 24 = .ok (.aload_n 0, 1) := by decide +kernel
theorem dX10_calm_25 : decode cX10_calm 25 = .ok (.aload_n 3, 1) := by decide +kernel
theorem dX10_calm_26 : decode cX10_calm 26 = .ok (.iload_n 2, 1) := by decide +kernel
theorem dX10_calm_27 : decode cX10_calm 27 = .ok (.iload_n 2, 1) := by decide +kernel
theorem dX10_calm_28 : decode cX10_calm 28 = .ok (.invokevirtual 235, 3) := by decide +kernel
theorem dX10_calm_31 : decode cX10_calm 31 = .ok (.iload_n 2, 1) := by decide +kernel
theorem dX10_calm_32 : decode cX10_calm 32 = .ok (.if_icmp .ne 7, 3) := by decide +kernel
theorem dX10_calm_35 : decode cX10_calm 35 = .ok (.iconst 1, 1) := by decide +kernel
theorem dX10_calm_36 : decode cX10_calm 36 = .ok (.goto 4, 3) := by decide +kernel
theorem dX10_calm_39 : decode cX10_calm 39 = .ok (.iconst 0, 1) := by decide +kernel
theorem dX10_calm_40 : decode cX10_calm 40 = .ok (.ireturn, 1) := by decide +kernel
theorem dX10_mended_0 : decode cX10_mended 0 = .ok (.aload_n 0, 1) := by decide +kernel
theorem dX10_mended_1 : decode cX10_mended 1 = .ok (.iload_n 1, 1) := by decide +kernel
theorem dX10_mended_2 : decode cX10_mended 2 = .ok (.invokevirtual 135, 3) := by decide +kernel
theorem dX10_mended_5 : decode cX10_mended 5 = .ok (.astore_n 3, 1) := by decide +kernel
theorem dX10_mended_6 : decode cX10_mended 6 = .ok (.iload_n 2, 1) := by decide +kernel
theorem dX10_mended_7 : decode cX10_mended 7 = .ok (.invokestatic 139, 3) := by decide +kernel
theorem dX10_mended_10 : decode cX10_mended 10 = .ok (.iconst (-1), 1) := by decide +kernel
theorem dX10_mended_11 : decode cX10_mended 11 = .ok (.istore 4, 2) := by decide +kernel
theorem dX10_mended_13 : decode cX10_mended 13 = .ok (.iconst 0, 1) := by decide +kernel
theorem dX10_mended_14 : decode cX10_mended 14 = .ok (.istore 5, 2) := by decide +kernel
theorem dX10_mended_16 : decode cX10_mended 16 = .ok (.iconst 0, 1) := by decide +kernel
theorem dX10_mended_17 : decode cX10_mended 17 = .ok (.istore 6, 2) := by decide +kernel
theorem dX10_mended_19 : decode cX10_mended 19 = .ok (.iload 6, 2) := by decide +kernel
theorem dX10_mended_21 : decode cX10_mended 21 = .ok (.iconst 1, 1) := by decide +kernel
theorem dX10_mended_22 : decode cX10_mended 22 = .ok (.aload_n 0, 1) := by decide +kernel
theorem dX10_mended_23 : decode cX10_mended 23 = .ok (.getfield 38, 3) := by decide +kernel
theorem dX10_mended_26 : decode cX10_mended 26 = .ok (.getfield 226, 3) := by decide +kernel
theorem dX10_mended_29 : decode cX10_mended 29 = .ok (.getfield 239, 3) := by decide +kernel
theorem dX10_mended_32 : decode cX10_mended 32 = .ok (.ishl, 1) := by decide +kernel
theorem dX10_mended_33 : decode cX10_mended 33 = .ok (.if_icmp .ge 85, 3) := by decide +kernel
theorem dX10_mended_36 : decode cX10_mended 36 = .ok (.aload_n 0, 1) := by decide +kernel
theorem dX10_mended_37 : decode cX10_mended 37 = .ok (.getfield 38, 3) := by decide +kernel
theorem dX10_mended_40 : decode cX10_mended 40 = .ok (.getfield 226, 3) := by decide +kernel
theorem dX10_mended_43 : decode cX10_mended 43 = .ok (.iload 6, 2) := by decide +kernel
theorem dX10_mended_45 : decode cX10_mended 45 = .ok (.invokevirtual 242, 3) := by decide +kernel
theorem dX10_mended_48 : decode cX10_mended 48 = .ok (.istore 7, 2) := by decide +kernel
theorem dX10_mended_50 : decode cX10_mended 50 = .ok (.iload 4, 2) := by decide +kernel
theorem dX10_mended_52 : decode cX10_mended 52 = .ok (.iconst (-1), 1) := by decide +kernel
theorem dX10_mended_53 : decode cX10_mended 53 = .ok (.if_icmp .eq 10, 3) := by decide +kernel
theorem dX10_mended_56 : decode cX10_mended 56 = .ok (.iload 7, 2) := by decide +kernel
theorem dX10_mended_58 : decode cX10_mended 58 = .ok (.iload 5, 2) := by decide +kernel
theorem dX10_mended_60 : decode cX10_mended 60 = .ok (.if_icmp .ge 52, 3) := by decide +kernel
theorem dX10_mended_63 : decode cX10_mended 63 = .ok (.aload_n 0, 1) := by decide +kernel
theorem dX10_mended_64 : decode cX10_mended 64 = .ok (.getfield 49, 3) := by decide +kernel
theorem dX10_mended_67 : decode cX10_mended 67 = .ok (.aload_n 0, 1) := by decide +kernel
theorem dX10_mended_68 : decode cX10_mended 68 = .ok (.getfield 38, 3) := by decide +kernel
theorem dX10_mended_71 : decode cX10_mended 71 = .ok (.getfield 93, 3) := by decide +kernel
theorem dX10_mended_74 : decode cX10_mended 74 = .ok (.invokevirtual 182, 3) := by decide +kernel
theorem dX10_mended_77 : decode cX10_mended 77 = .ok (.aload_n 0, 1) := by decide +kernel
theorem dX10_mended_78 : decode cX10_mended 78 = .ok (.getfield 38, 3) := by decide +kernel
theorem dX10_mended_81 : decode cX10_mended 81 = .ok (.getfield 226, 3) := by decide +kernel
theorem dX10_mended_84 : decode cX10_mended 84 = .ok (.iload 6, 2) := by decide +kernel
theorem dX10_mended_86 : decode cX10_mended 86 = .ok (.aload_n 0, 1) := by decide +kernel
theorem dX10_mended_87 : decode cX10_mended 87 = .ok (.getfield 49, 3) := by decide +kernel
theorem dX10_mended_90 : decode cX10_mended 90 = .ok (.invokevirtual 245, 3) := by decide +kernel
theorem dX10_mended_93 : decode cX10_mended 93 = .ok (.aload_n 0, 1) := by decide +kernel
theorem dX10_mended_94 : decode cX10_mended 94 = .ok (.aload_n 3, 1) := by decide +kernel
theorem dX10_mended_95 : decode cX10_mended 95 = .ok (.iload_n 2, 1) := by decide +kernel
theorem dX10_mended_96 : decode cX10_mended 96 = .ok (.iload_n 2, 1) := by decide +kernel
theorem dX10_mended_97 : decode cX10_mended 97 = .ok (.invokevirtual 235, 3) := by decide +kernel
theorem dX10_mended_100 : decode cX10_mended 100 = .ok (.iload_n 2, 1) := by decide +kernel
theorem dX10_mended_101 : decode cX10_mended 101 = .ok (.if_icmp .ne 11, 3) := by decide +kernel
theorem dX10_mended_104 : decode cX10_mended 104 = .ok (.iload 6, 2) := by decide +kernel
theorem dX10_mended_106 : decode cX10_mended 106 = .ok (.istore 4, 2) := by decide +kernel
theorem dX10_mended_108 : decode cX10_mended 108 = .ok (.iload 7, 2) := by decide +kernel
theorem dX10_mended_110 : decode cX10_mended 110 = .ok (.istore 5, 2) := by decide +kernel
theorem dX10_mended_112 : decode cX10_mended 112 = .ok (.iinc 6 1, 3) := by decide +kernel
theorem dX10_mended_115 : decode cX10_mended 115 = .ok (.goto (-96), 3) := by decide +kernel
theorem dX10_mended_118 : decode cX10_mended 118 = .ok (.iload 4, 2) := by decide +kernel
theorem dX10_mended_120 : decode cX10_mended 120 = .ok (.ireturn, 1) := by decide +kernel
theorem dX10_week_0 : decode cX10_week 0 = .ok (.aload_n 0, 1) := by decide +kernel
theorem dX10_week_1 : decode cX10_week 1 = .ok (.iload_n 1, 1) := by decide +kernel
theorem dX10_week_2 : decode cX10_week 2 = .ok (.invokevirtual 135, 3) := by decide +kernel
theorem dX10_week_5 : decode cX10_week 5 = .ok (.astore_n 3, 1) := by decide +kernel
theorem dX10_week_6 : decode cX10_week 6 = .ok (.iload_n 2, 1) := by decide +kernel
theorem dX10_week_7 : decode cX10_week 7 = .ok (.ifCond .lt 7, 3) := by decide +kernel
theorem dX10_week_10 : decode cX10_week 10 = .ok (.iconst 1, 1) := by decide +kernel
theorem dX10_week_11 : decode cX10_week 11 = .ok (.goto 4, 3) := by decide +kernel
theorem dX10_week_14 : decode cX10_week 14 = .ok (.iconst 0, 1) := by decide +kernel
theorem dX10_week_15 : decode cX10_week 15 = .ok (.invokestatic 67, 3) := by decide +kernel
theorem dX10_week_18 : decode cX10_week 18 = .ok (.iload_n 2, 1) := by decide +kernel
theorem dX10_week_19 : decode cX10_week 19 = .ok (.aload_n 0, 1) := by decide +kernel
theorem dX10_week_20 : decode cX10_week 20 = .ok (.getfield 38, 3) := by decide +kernel
theorem dX10_week_23 : decode cX10_week 23 = .ok (.getfield 226, 3) := by decide +kernel
theorem dX10_week_26 : decode cX10_week 26 = .ok (.getfield 239, 3) := by decide +kernel
theorem dX10_week_29 : decode cX10_week 29 = .ok (.if_icmp .lt 5, 3) := by decide +kernel
theorem dX10_week_32 : decode cX10_week 32 = .ok (.iconst (-1), 1) := by decide +kernel
theorem dX10_week_33 : decode cX10_week 33 = .ok (.ireturn, 1) := by decide +kernel
theorem dX10_week_34 : decode cX10_week 34 = .ok (.aload_n 0, 1) := by decide +kernel
theorem dX10_week_35 : decode cX10_week 35 = .ok (.getfield 53, 3) := by decide +kernel
theorem dX10_week_38 : decode cX10_week 38 = .ok (.aload_n 0, 1) := by decide +kernel
theorem dX10_week_39 : decode cX10_week 39 = .ok (.getfield 38, 3) := by decide +kernel
theorem dX10_week_42 : decode cX10_week 42 = .ok (.getfield 93, 3) := by decide +kernel
theorem dX10_week_45 : decode cX10_week 45 = .ok (.invokevirtual 182, 3) := by decide +kernel
theorem dX10_week_48 : decode cX10_week 48 = .ok (.iconst 0, 1) := by decide +kernel
theorem dX10_week_49 : decode cX10_week 49 = .ok (.istore 4, 2) := by decide +kernel
theorem dX10_week_51 : decode cX10_week 51 = .ok (.iconst (-1), 1) := by decide +kernel
theorem dX10_week_52 : decode cX10_week 52 = .ok (.istore 5, 2) := by decide +kernel
theorem dX10_week_54 : decode cX10_week 54 = .ok (.iconst 0, 1) := by decide +kernel
theorem dX10_week_55 : decode cX10_week 55 = .ok (.istore 6, 2) := by decide +kernel
theorem dX10_week_57 : decode cX10_week 57 = .ok (.iload 6, 2) := by decide +kernel
theorem dX10_week_59 : decode cX10_week 59 = .ok (.iload_n 2, 1) := by decide +kernel
theorem dX10_week_60 : decode cX10_week 60 = .ok (.if_icmp .gt 43, 3) := by decide +kernel
theorem dX10_week_63 : decode cX10_week 63 = .ok (.aload_n 0, 1) := by decide +kernel
theorem dX10_week_64 : decode cX10_week 64 = .ok (.aload_n 3, 1) := by decide +kernel
theorem dX10_week_65 : decode cX10_week 65 = .ok (.iload 4, 2) := by decide +kernel
theorem dX10_week_67 : decode cX10_week 67 = .ok (.invokevirtual 249, 3) := by decide +kernel
theorem dX10_week_70 : decode cX10_week 70 = .ok (.istore 5, 2) := by decide +kernel
theorem dX10_week_72 : decode cX10_week 72 = .ok (.aload_n 0, 1) := by decide +kernel
theorem dX10_week_73 : decode cX10_week 73 = .ok (.getfield 38, 3) := by decide +kernel
theorem dX10_week_76 : decode cX10_week 76 = .ok (.getfield 226, 3) := by decide +kernel
theorem dX10_week_79 : decode cX10_week 79 = .ok (.iload 5, 2) := by decide +kernel
theorem dX10_week_81 : decode cX10_week 81 = .ok (.aload_n 0, 1) := by decide +kernel
theorem dX10_week_82 : decode cX10_week 82 = .ok (.getfield 53, 3) := by decide +kernel
theorem dX10_week_85 : decode cX10_week 85 = .ok (.invokevirtual 253, 3) := by decide +kernel
theorem dX10_week_88 : decode cX10_week 88 = .ok (.iload 4, 2) := by decide +kernel
theorem dX10_week_90 : decode cX10_week 90 = .ok (.iconst 1, 1) := by decide +kernel
theorem dX10_week_91 : decode cX10_week 91 = .ok (.iload 5, 2) := by decide +kernel
theorem dX10_week_93 : decode cX10_week 93 = .ok (.ishl, 1) := by decide +kernel
theorem dX10_week_94 : decode cX10_week 94 = .ok (.ior, 1) := by decide +kernel
theorem dX10_week_95 : decode cX10_week 95 = .ok (.istore 4, 2) := by decide +kernel
theorem dX10_week_97 : decode cX10_week 97 = .ok (.iinc 6 1, 3) := by decide +kernel
theorem dX10_week_100 : decode cX10_week 100 = .ok (.goto (-43), 3) := by decide +kernel
theorem dX10_week_103 : decode cX10_week 103 = .ok (.iload 5, 2) := by decide +kernel
theorem dX10_week_105 : decode cX10_week 105 = .ok (.ireturn, 1) := by decide +kernel
theorem dX10_span_0 : decode cX10_span 0 = .ok (.aload_n 0, 1) := by decide +kernel
theorem dX10_span_1 : decode cX10_span 1 = .ok (.iload_n 1, 1) := by decide +kernel
theorem dX10_span_2 : decode cX10_span 2 = .ok (.invokevirtual 135, 3) := by decide +kernel
theorem dX10_span_5 : decode cX10_span 5 = .ok (.astore 6, 2) := by decide +kernel
theorem dX10_span_7 : decode cX10_span 7 = .ok (.iload_n 2, 1) := by decide +kernel
theorem dX10_span_8 : decode cX10_span 8 = .ok (.iload_n 3, 1) := by decide +kernel
theorem dX10_span_9 : decode cX10_span 9 = .ok (.invokestatic 125, 3) := by decide +kernel
theorem dX10_span_12 : decode cX10_span 12 = .ok (.iload 4, 2) := by decide +kernel
theorem dX10_span_14 : decode cX10_span 14 = .ok (.iconst 0, 1) := by decide +kernel
theorem dX10_span_15 : decode cX10_span 15 = .ok (.bipush 50, 2) := by decide +kernel
theorem dX10_span_17 : decode cX10_span 17 = .ok (.invokestatic 63, 3) := by decide +kernel
theorem dX10_span_20 : decode cX10_span 20 = .ok (.invokestatic 67, 3) := by decide +kernel
theorem dX10_span_23 : decode cX10_span 23 = .ok (.aload_n 0, 1) := by decide +kernel
theorem dX10_span_24 : decode cX10_span 24 = .ok (.getfield 49, 3) := by decide +kernel
theorem dX10_span_27 : decode cX10_span 27 = .ok (.aload_n 0, 1) := by decide +kernel
theorem dX10_span_28 : decode cX10_span 28 = .ok (.getfield 38, 3) := by decide +kernel
theorem dX10_span_31 : decode cX10_span 31 = .ok (.getfield 93, 3) := by decide +kernel
theorem dX10_span_34 : decode cX10_span 34 = .ok (.invokevirtual 182, 3) := by decide +kernel
theorem dX10_span_37 : decode cX10_span 37 = .ok (.aload_n 0, 1) := by decide +kernel
theorem dX10_span_38 : decode cX10_span 38 = .ok (.aload 6, 2) := by decide +kernel
theorem dX10_span_40 : decode cX10_span 40 = .ok (.iload_n 2, 1) := by decide +kernel
theorem dX10_span_41 : decode cX10_span 41 = .ok (.iload_n 3, 1) := by decide +kernel
theorem dX10_span_42 : decode cX10_span 42 = .ok (.bipush 100, 2) := by decide +kernel
theorem dX10_span_44 : decode cX10_span 44 = .ok (.iload 4, 2) := by decide +kernel
theorem dX10_span_46 : decode cX10_span 46 = .ok (.isub, 1) := by decide +kernel
theorem dX10_span_47 : decode cX10_span 47 = .ok (.invokevirtual 190, 3) := by decide +kernel
theorem dX10_span_50 : decode cX10_span 50 = .ok (.istore 7, 2) := by decide +kernel
theorem dX10_span_52 : decode cX10_span 52 = .ok (.aload_n 0, 1) := by decide +kernel
theorem dX10_span_53 : decode cX10_span 53 = .ok (.aload 6, 2) := by decide +kernel
theorem dX10_span_55 : decode cX10_span 55 = .ok (.iload_n 2, 1) := by decide +kernel
theorem dX10_span_56 : decode cX10_span 56 = .ok (.iload_n 3, 1) := by decide +kernel
theorem dX10_span_57 : decode cX10_span 57 = .ok (.bipush 100, 2) := by decide +kernel
theorem dX10_span_59 : decode cX10_span 59 = .ok (.invokevirtual 190, 3) := by decide +kernel
theorem dX10_span_62 : decode cX10_span 62 = .ok (.istore 8, 2) := by decide +kernel
theorem dX10_span_64 : decode cX10_span 64 = .ok (.aload_n 0, 1) := by decide +kernel
theorem dX10_span_65 : decode cX10_span 65 = .ok (.aload 6, 2) := by decide +kernel
theorem dX10_span_67 : decode cX10_span 67 = .ok (.iload_n 2, 1) := by decide +kernel
theorem dX10_span_68 : decode cX10_span 68 = .ok (.iload_n 3, 1) := by decide +kernel
theorem dX10_span_69 : decode cX10_span 69 = .ok (.bipush 100, 2) := by decide +kernel
theorem dX10_span_71 : decode cX10_span 71 = .ok (.iload 4, 2) := by decide +kernel
theorem dX10_span_73 : decode cX10_span 73 = .ok (.iadd, 1) := by decide +kernel
theorem dX10_span_74 : decode cX10_span 74 = .ok (.invokevirtual 190, 3) := by decide +kernel
theorem dX10_span_77 : decode cX10_span 77 = .ok (.istore 9, 2) := by decide +kernel
theorem dX10_span_79 : decode cX10_span 79 = .ok (.iload 5, 2) := by decide +kernel
theorem dX10_span_81 : decode cX10_span 81 = .ok (.ifCond .eq 16, 3) := by decide +kernel
theorem dX10_span_84 : decode cX10_span 84 = .ok (.iload 7, 2) := by decide +kernel
theorem dX10_span_86 : decode cX10_span 86 = .ok (.iload 8, 2) := by decide +kernel
theorem dX10_span_88 : decode cX10_span 88 = .ok (.iload 9, 2) := by decide +kernel
theorem dX10_span_90 : decode cX10_span 90 = .ok (.invokestatic 256, 3) := by decide +kernel
theorem dX10_span_93 : decode cX10_span 93 = .ok (.invokestatic 256, 3) := by decide +kernel
theorem dX10_span_96 : decode cX10_span 96 = .ok (.ireturn, 1) := by decide +kernel
theorem dX10_span_97 : decode cX10_span 97 = .ok (.iload 7, 2) := by decide +kernel
theorem dX10_span_99 : decode cX10_span 99 = .ok (.iload 8, 2) := by decide +kernel
theorem dX10_span_101 : decode cX10_span 101 = .ok (.iload 9, 2) := by decide +kernel
theorem dX10_span_103 : decode cX10_span 103 = .ok (.invokestatic 262, 3) := by decide +kernel
theorem dX10_span_106 : decode cX10_span 106 = .ok (.invokestatic 262, 3) := by decide +kernel
theorem dX10_span_109 : decode cX10_span 109 = .ok (.ireturn, 1) := by decide +kernel
theorem dX10_bridge_0 : decode cX10_bridge 0 = .ok (.iload_n 1, 1) := by decide +kernel
theorem dX10_bridge_1 : decode cX10_bridge 1 = .ok (.iconst 0, 1) := by decide +kernel
theorem dX10_bridge_2 : decode cX10_bridge 2 = .ok (.bipush 60, 2) := by decide +kernel
theorem dX10_bridge_4 : decode cX10_bridge 4 = .ok (.invokestatic 63, 3) := by decide +kernel
theorem dX10_bridge_7 : decode cX10_bridge 7 = .ok (.invokestatic 67, 3) := by decide +kernel
theorem dX10_bridge_10 : decode cX10_bridge 10 = .ok (.aload_n 0, 1) := by decide +kernel
theorem dX10_bridge_11 : decode cX10_bridge 11 = .ok (.getfield 38, 3) := by decide +kernel
theorem dX10_bridge_14 : decode cX10_bridge 14 = .ok (.getfield 265, 3) := by decide +kernel
theorem dX10_bridge_17 : decode cX10_bridge 17 = .ok (.iload_n 1, 1) := by decide +kernel
theorem dX10_bridge_18 : decode cX10_bridge 18 = .ok (.invokevirtual 269, 3) := by decide +kernel
theorem dX10_bridge_21 : decode cX10_bridge 21 = .ok (.ireturn, 1) := by decide +kernel
theorem dX10_blows_0 : decode cX10_blows 0 = .ok (.aload_n 0, 1) := by decide +kernel
theorem dX10_blows_1 : decode cX10_blows 1 = .ok (.iload_n 1, 1) := by decide +kernel
theorem dX10_blows_2 : decode cX10_blows 2 = .ok (.invokevirtual 273, 3) := by decide +kernel
theorem dX10_blows_5 : decode cX10_blows 5 = .ok (.iload_n 2, 1) := by decide +kernel
theorem dX10_blows_6 : decode cX10_blows 6 = .ok (.iconst 0, 1) := by decide +kernel
theorem dX10_blows_7 : decode cX10_blows 7 = .ok (.bipush 9, 2) := by decide +kernel
theorem dX10_blows_9 : decode cX10_blows 9 = .ok (.invokestatic 63, 3) := by decide +kernel
theorem dX10_blows_12 : decode cX10_blows 12 = .ok (.ifCond .eq 18, 3) := by decide +kernel
theorem dX10_blows_15 : decode cX10_blows 15 = .ok (.iload_n 3, 1) := by decide +kernel
theorem dX10_blows_16 : decode cX10_blows 16 = .ok (.iconst 0, 1) := by decide +kernel
theorem dX10_blows_17 : decode cX10_blows 17 = .ok (.sipush 999, 3) := by decide +kernel
theorem dX10_blows_20 : decode cX10_blows 20 = .ok (.invokestatic 63, 3) := by decide +kernel
theorem dX10_blows_23 : decode cX10_blows 23 = .ok (.ifCond .eq 7, 3) := by decide +kernel
theorem dX10_blows_26 : decode cX10_blows 26 = .ok (.iconst 1, 1) := by decide +kernel
theorem dX10_blows_27 : decode cX10_blows 27 = .ok (.goto 4, 3) := by decide +kernel
theorem dX10_blows_30 : decode cX10_blows 30 = .ok (.iconst 0, 1) := by decide +kernel
theorem dX10_blows_31 : decode cX10_blows 31 = .ok (.invokestatic 67, 3) := by decide +kernel
theorem dX10_blows_34 : decode cX10_blows 34 = .ok (.aload_n 0, 1) := by decide +kernel
theorem dX10_blows_35 : decode cX10_blows 35 = .ok (.getfield 38, 3) := by decide +kernel
theorem dX10_blows_38 : decode cX10_blows 38 = .ok (.getfield 265, 3) := by decide +kernel
theorem dX10_blows_41 : decode cX10_blows 41 = .ok (.iload_n 1, 1) := by decide +kernel
theorem dX10_blows_42 : decode cX10_blows 42 = .ok (.iload_n 2, 1) := by decide +kernel
theorem dX10_blows_43 : decode cX10_blows 43 = .ok (.iload_n 3, 1) := by decide +kernel
theorem dX10_blows_44 : decode cX10_blows 44 = .ok (.invokevirtual 276, 3) := by decide +kernel
theorem dX10_blows_47 : decode cX10_blows 47 = .ok (.ireturn, 1) := by decide +kernel
theorem dX10_hours_0 : decode cX10_hours 0 = .ok (.aload_n 0, 1) := by decide +kernel
theorem dX10_hours_1 : decode cX10_hours 1 = .ok (.iload_n 1, 1) := by decide +kernel
theorem dX10_hours_2 : decode cX10_hours 2 = .ok (.invokevirtual 273, 3) := by decide +kernel
theorem dX10_hours_5 : decode cX10_hours 5 = .ok (.aload_n 0, 1) := by decide +kernel
theorem dX10_hours_6 : decode cX10_hours 6 = .ok (.getfield 38, 3) := by decide +kernel
theorem dX10_hours_9 : decode cX10_hours 9 = .ok (.getfield 265, 3) := by decide +kernel
theorem dX10_hours_12 : decode cX10_hours 12 = .ok (.iload_n 1, 1) := by decide +kernel
theorem dX10_hours_13 : decode cX10_hours 13 = .ok (.invokevirtual 279, 3) := by decide +kernel
theorem dX10_hours_16 : decode cX10_hours 16 = .ok (.ireturn, 1) := by decide +kernel
theorem dX10_paper_0 : decode cX10_paper 0 = .ok (.iload_n 1, 1) := by decide +kernel
theorem dX10_paper_1 : decode cX10_paper 1 = .ok (.iconst 0, 1) := by decide +kernel
theorem dX10_paper_2 : decode cX10_paper 2 = .ok (.sipush 999, 3) := by decide +kernel
theorem dX10_paper_5 : decode cX10_paper 5 = .ok (.invokestatic 63, 3) := by decide +kernel
theorem dX10_paper_8 : decode cX10_paper 8 = .ok (.ifCond .eq 29, 3) := by decide +kernel
theorem dX10_paper_11 : decode cX10_paper 11 = .ok (.iload_n 2, 1) := by decide +kernel
theorem dX10_paper_12 : decode cX10_paper 12 = .ok (.iconst 0, 1) := by decide +kernel
theorem dX10_paper_13 : decode cX10_paper 13 = .ok (.sipush 255, 3) := by decide +kernel
theorem dX10_paper_16 : decode cX10_paper 16 = .ok (.invokestatic 63, 3) := by decide +kernel
theorem dX10_paper_19 : decode cX10_paper 19 = .ok (.ifCond .eq 18, 3) := by decide +kernel
theorem dX10_paper_22 : decode cX10_paper 22 = .ok (.iload_n 3, 1) := by decide +kernel
theorem dX10_paper_23 : decode cX10_paper 23 = .ok (.iconst 0, 1) := by decide +kernel
theorem dX10_paper_24 : decode cX10_paper 24 = .ok (.sipush 255, 3) := by decide +kernel
theorem dX10_paper_27 : decode cX10_paper 27 = .ok (.invokestatic 63, 3) := by decide +kernel
theorem dX10_paper_30 : decode cX10_paper 30 = .ok (.ifCond .eq 7, 3) := by decide +kernel
theorem dX10_paper_33 : decode cX10_paper 33 = .ok (.iconst 1, 1) := by decide +kernel
theorem dX10_paper_34 : decode cX10_paper 34 = .ok (.goto 4, 3) := by decide +kernel
theorem dX10_paper_37 : decode cX10_paper 37 = .ok (.iconst 0, 1) := by decide +kernel
theorem dX10_paper_38 : decode cX10_paper 38 = .ok (.invokestatic 67, 3) := by decide +kernel
theorem dX10_paper_41 : decode cX10_paper 41 = .ok (.aload_n 0, 1) := by decide +kernel
theorem dX10_paper_42 : decode cX10_paper 42 = .ok (.getfield 38, 3) := by decide +kernel
theorem dX10_paper_45 : decode cX10_paper 45 = .ok (.getfield 282, 3) := by decide +kernel
theorem dX10_paper_48 : decode cX10_paper 48 = .ok (.iload_n 1, 1) := by decide +kernel
theorem dX10_paper_49 : decode cX10_paper 49 = .ok (.iload_n 2, 1) := by decide +kernel
theorem dX10_paper_50 : decode cX10_paper 50 = .ok (.iload_n 3, 1) := by decide +kernel
theorem dX10_paper_51 : decode cX10_paper 51 = .ok (.invokevirtual 286, 3) := by decide +kernel
theorem dX10_paper_54 : decode cX10_paper 54 = .ok (.ireturn, 1) := by decide +kernel
theorem dX10_known_0 : decode cX10_known 0 = .ok (.iload_n 1, 1) := by decide +kernel
theorem dX10_known_1 : decode cX10_known 1 = .ok (.iconst 0, 1) := by decide +kernel
theorem dX10_known_2 : decode cX10_known 2 = .ok (.sipush 999, 3) := by decide +kernel
theorem dX10_known_5 : decode cX10_known 5 = .ok (.invokestatic 63, 3) := by decide +kernel
theorem dX10_known_8 : decode cX10_known 8 = .ok (.invokestatic 67, 3) := by decide +kernel
theorem dX10_known_11 : decode cX10_known 11 = .ok (.aload_n 0, 1) := by decide +kernel
theorem dX10_known_12 : decode cX10_known 12 = .ok (.getfield 38, 3) := by decide +kernel
theorem dX10_known_15 : decode cX10_known 15 = .ok (.getfield 282, 3) := by decide +kernel
theorem dX10_known_18 : decode cX10_known 18 = .ok (.iload_n 1, 1) := by decide +kernel
theorem dX10_known_19 : decode cX10_known 19 = .ok (.invokevirtual 289, 3) := by decide +kernel
theorem dX10_known_22 : decode cX10_known 22 = .ok (.ireturn, 1) := by decide +kernel
theorem dX10_could_0 : decode cX10_could 0 = .ok (.iload_n 1, 1) := by decide +kernel
theorem dX10_could_1 : decode cX10_could 1 = .ok (.iconst 0, 1) := by decide +kernel
theorem dX10_could_2 : decode cX10_could 2 = .ok (.sipush 255, 3) := by decide +kernel
theorem dX10_could_5 : decode cX10_could 5 = .ok (.invokestatic 63, 3) := by decide +kernel
theorem dX10_could_8 : decode cX10_could 8 = .ok (.invokestatic 67, 3) := by decide +kernel
theorem dX10_could_11 : decode cX10_could 11 = .ok (.aload_n 0, 1) := by decide +kernel
theorem dX10_could_12 : decode cX10_could 12 = .ok (.getfield 38, 3) := by decide +kernel
theorem dX10_could_15 : decode cX10_could 15 = .ok (.getfield 282, 3) := by decide +kernel
theorem dX10_could_18 : decode cX10_could 18 = .ok (.iload_n 1, 1) := by decide +kernel
theorem dX10_could_19 : decode cX10_could 19 = .ok (.invokevirtual 292, 3) := by decide +kernel
theorem dX10_could_22 : decode cX10_could 22 = .ok (.ireturn, 1) := by decide +kernel
theorem dX10_shut_0 : decode cX10_shut 0 = .ok (.aload_n 0, 1) := by decide +kernel
theorem dX10_shut_1 : decode cX10_shut 1 = .ok (.iload_n 1, 1) := by decide +kernel
theorem dX10_shut_2 : decode cX10_shut 2 = .ok (.invokevirtual 135, 3) := by decide +kernel
theorem dX10_shut_5 : decode cX10_shut 5 = .ok (.astore 7, 2) := by decide +kernel
theorem dX10_shut_7 : decode cX10_shut 7 = .ok (.iload_n 2, 1) := by decide +kernel
theorem dX10_shut_8 : decode cX10_shut 8 = .ok (.invokestatic 139, 3) := by decide +kernel
theorem dX10_shut_11 : decode cX10_shut 11 = .ok (.iload_n 3, 1) := by decide +kernel
theorem dX10_shut_12 : decode cX10_shut 12 = .ok (.iload 4, 2) := by decide +kernel
theorem dX10_shut_14 : decode cX10_shut 14 = .ok (.invokestatic 125, 3) := by decide +kernel
theorem dX10_shut_17 : decode cX10_shut 17 = .ok (.iload 5, 2) := by decide +kernel
theorem dX10_shut_19 : decode cX10_shut 19 = .ok (.iconst 1, 1) := by decide +kernel
theorem dX10_shut_20 : decode cX10_shut 20 = .ok (.sipush 9999, 3) := by decide +kernel
theorem dX10_shut_23 : decode cX10_shut 23 = .ok (.invokestatic 63, 3) := by decide +kernel
theorem dX10_shut_26 : decode cX10_shut 26 = .ok (.ifCond .eq 18, 3) := by decide +kernel
theorem dX10_shut_29 : decode cX10_shut 29 = .ok (.iload 6, 2) := by decide +kernel
theorem dX10_shut_31 : decode cX10_shut 31 = .ok (.iconst 0, 1) := by decide +kernel
theorem dX10_shut_32 : decode cX10_shut 32 = .ok (.ldc 206, 2) := by decide +kernel
theorem dX10_shut_34 : decode cX10_shut 34 = .ok (.invokestatic 63, 3) := by decide +kernel
theorem dX10_shut_37 : decode cX10_shut 37 = .ok (.ifCond .eq 7, 3) := by decide +kernel
theorem dX10_shut_40 : decode cX10_shut 40 = .ok (.iconst 1, 1) := by decide +kernel
theorem dX10_shut_41 : decode cX10_shut 41 = .ok (.goto 4, 3) := by decide +kernel
theorem dX10_shut_44 : decode cX10_shut 44 = .ok (.iconst 0, 1) := by decide +kernel
theorem dX10_shut_45 : decode cX10_shut 45 = .ok (.invokestatic 67, 3) := by decide +kernel
theorem dX10_shut_48 : decode cX10_shut 48 = .ok (.aload_n 0, 1) := by decide +kernel
theorem dX10_shut_49 : decode cX10_shut 49 = .ok (.getfield 49, 3) := by decide +kernel
theorem dX10_shut_52 : decode cX10_shut 52 = .ok (.aload_n 0, 1) := by decide +kernel
theorem dX10_shut_53 : decode cX10_shut 53 = .ok (.getfield 38, 3) := by decide +kernel
theorem dX10_shut_56 : decode cX10_shut 56 = .ok (.getfield 93, 3) := by decide +kernel
theorem dX10_shut_59 : decode cX10_shut 59 = .ok (.invokevirtual 182, 3) := by decide +kernel
theorem dX10_shut_62 : decode cX10_shut 62 = .ok (.aload_n 0, 1) := by decide +kernel
theorem dX10_shut_63 : decode cX10_shut 63 = .ok (.getfield 49, 3) := by decide +kernel
theorem dX10_shut_66 : decode cX10_shut 66 = .ok (.iload_n 3, 1) := by decide +kernel
theorem dX10_shut_67 : decode cX10_shut 67 = .ok (.iload 4, 2) := by decide +kernel
theorem dX10_shut_69 : decode cX10_shut 69 = .ok (.iload 5, 2) := by decide +kernel
theorem dX10_shut_71 : decode cX10_shut 71 = .ok (.invokevirtual 217, 3) := by decide +kernel
theorem dX10_shut_74 : decode cX10_shut 74 = .ok (.iconst 1, 1) := by decide +kernel
theorem dX10_shut_75 : decode cX10_shut 75 = .ok (.istore 8, 2) := by decide +kernel
theorem dX10_shut_77 : decode cX10_shut 77 = .ok (.iload 8, 2) := by decide +kernel
theorem dX10_shut_79 : decode cX10_shut 79 = .ok (.bipush 100, 2) := by decide +kernel
theorem dX10_shut_81 : decode cX10_shut 81 = .ok (.if_icmp .gt 37, 3) := by decide +kernel
theorem dX10_shut_84 : decode cX10_shut 84 = .ok (.aload_n 0, 1) := by decide +kernel
theorem dX10_shut_85 : decode cX10_shut 85 = .ok (.getfield 49, 3) := by decide +kernel
theorem dX10_shut_88 : decode cX10_shut 88 = .ok (.aload 7, 2) := by decide +kernel
theorem dX10_shut_90 : decode cX10_shut 90 = .ok (.iload_n 2, 1) := by decide +kernel
theorem dX10_shut_91 : decode cX10_shut 91 = .ok (.bipush 100, 2) := by decide +kernel
theorem dX10_shut_93 : decode cX10_shut 93 = .ok (.invokevirtual 142, 3) := by decide +kernel
theorem dX10_shut_96 : decode cX10_shut 96 = .ok (.aload_n 0, 1) := by decide +kernel
theorem dX10_shut_97 : decode cX10_shut 97 = .ok (.getfield 49, 3) := by decide +kernel
theorem dX10_shut_100 : decode cX10_shut 100 = .ok (.iload_n 3, 1) := by decide +kernel
theorem dX10_shut_101 : decode cX10_shut 101 = .ok (.invokevirtual 132, 3) := by decide +kernel
theorem dX10_shut_104 : decode cX10_shut 104 = .ok (.iload 6, 2) := by decide +kernel
theorem dX10_shut_106 : decode cX10_shut 106 = .ok (.if_icmp .le 6, 3) := by decide +kernel
theorem dX10_shut_109 : decode cX10_shut 109 = .ok (.iload 8, 2) := by decide +kernel
theorem dX10_shut_111 : decode cX10_shut 111 = .ok (.ireturn, 1) := by decide +kernel
theorem dX10_shut_112 : decode cX10_shut 112 = .ok (.iinc 8 1, 3) := by decide +kernel
theorem dX10_shut_115 : decode cX10_shut 115 = .ok (.goto (-38), 3) := by decide +kernel
theorem dX10_shut_118 : decode cX10_shut 118 = .ok (.iconst (-1), 1) := by decide +kernel
theorem dX10_shut_119 : decode cX10_shut 119 = .ok (.ireturn, 1) := by decide +kernel
theorem dX10_image_0 : decode cX10_image 0 = .ok (.aload_n 0, 1) := by decide +kernel
theorem dX10_image_1 : decode cX10_image 1 = .ok (.getfield 295, 3) := by decide +kernel
theorem dX10_image_4 : decode cX10_image 4 = .ok (.ifCond .lt 27, 3) := by decide +kernel
theorem dX10_image_7 : decode cX10_image 7 = .ok (.aload_n 0, 1) := by decide +kernel
theorem dX10_image_8 : decode cX10_image 8 = .ok (.getfield 295, 3) := by decide +kernel
theorem dX10_image_11 : decode cX10_image 11 = .ok (.aload_n 0, 1) := by decide +kernel
theorem dX10_image_12 : decode cX10_image 12 = .ok (.getfield 42, 3) := by decide +kernel
theorem dX10_image_15 : decode cX10_image 15 = .ok (.arraylength, 1) := by decide +kernel
theorem dX10_image_16 : decode cX10_image 16 = .ok (.if_icmp .ge 15, 3) := by decide +kernel
theorem dX10_image_19 : decode cX10_image 19 = .ok (.aload_n 0, 1) := by decide +kernel
theorem dX10_image_20 : decode cX10_image 20 = .ok (.getfield 42, 3) := by decide +kernel
theorem dX10_image_23 : decode cX10_image 23 = .ok (.aload_n 0, 1) := by decide +kernel
theorem dX10_image_24 : decode cX10_image 24 = .ok (.getfield 295, 3) := by decide +kernel
theorem dX10_image_27 : decode cX10_image 27 = .ok (.aaload, 1) := by decide +kernel
theorem dX10_image_28 : decode cX10_image 28 = .ok (.goto 4, 3) := by decide +kernel
theorem dX10_image_31 : decode cX10_image 31 = .ok (.aconst_null, 1) := by decide +kernel
theorem dX10_image_32 : decode cX10_image 32 = .ok (.astore_n 1, 1) := by decide +kernel
theorem dX10_image_33 : decode cX10_image 33 = .ok (.aload_n 1, 1) := by decide +kernel
theorem dX10_image_34 : decode cX10_image 34 = .ok (.ifnonnull 5, 3) := by decide +kernel
theorem dX10_image_37 : decode cX10_image 37 = .ok (.iconst (-1), 1) := by decide +kernel
theorem dX10_image_38 : decode cX10_image 38 = .ok (.ireturn, 1) := by decide +kernel
theorem dX10_image_39 : decode cX10_image 39 = .ok (.aload_n 1, 1) := by decide +kernel
theorem dX10_image_40 : decode cX10_image 40 = .ok (.aload_n 0, 1) := by decide +kernel
theorem dX10_image_41 : decode cX10_image 41 = .ok (.getfield 38, 3) := by decide +kernel
theorem dX10_image_44 : decode cX10_image 44 = .ok (.invokevirtual 298, 3) := by decide +kernel
theorem dX10_image_47 : decode cX10_image 47 = .ok (.aload_n 0, 1) := by decide +kernel
theorem dX10_image_48 : decode cX10_image 48 = .ok (.dup, 1) := by decide +kernel
theorem dX10_image_49 : decode cX10_image 49 = .ok (.getfield 295, 3) := by decide +kernel
theorem dX10_image_52 : decode cX10_image 52 = .ok (.iconst 1, 1) := by decide +kernel
theorem dX10_image_53 : decode cX10_image 53 = .ok (.iadd, 1) := by decide +kernel
theorem dX10_image_54 : decode cX10_image 54 = .ok (.putfield 295, 3) := by decide +kernel
theorem dX10_image_57 : decode cX10_image 57 = .ok (.aload_n 0, 1) := by decide +kernel
theorem dX10_image_58 : decode cX10_image 58 = .ok (.getfield 295, 3) := by decide +kernel
theorem dX10_image_61 : decode cX10_image 61 = .ok (.ireturn, 1) := by decide +kernel
theorem dX10_restore_0 : decode cX10_restore 0 = .ok (.aload_n 0, 1) := by decide +kernel
theorem dX10_restore_1 : decode cX10_restore 1 = .ok (.getfield 295, 3) := by decide +kernel
theorem dX10_restore_4 : decode cX10_restore 4 = .ok (.ifCond .le 29, 3) := by decide +kernel
theorem dX10_restore_7 : decode cX10_restore 7 = .ok (.aload_n 0, 1) := by decide +kernel
theorem dX10_restore_8 : decode cX10_restore 8 = .ok (.getfield 295, 3) := by decide +kernel
theorem dX10_restore_11 : decode cX10_restore 11 = .ok (.aload_n 0, 1) := by decide +kernel
theorem dX10_restore_12 : decode cX10_restore 12 = .ok (.getfield 42, 3) := by decide +kernel
theorem dX10_restore_15 : decode cX10_restore 15 = .ok (.arraylength, 1) := by decide +kernel
theorem dX10_restore_16 : decode cX10_restore 16 = .ok (.if_icmp .gt 17, 3) := by decide +kernel
theorem dX10_restore_19 : decode cX10_restore 19 = .ok (.aload_n 0, 1) := by decide +kernel
theorem dX10_restore_20 : decode cX10_restore 20 = .ok (.getfield 42, 3) := by decide +kernel
theorem dX10_restore_23 : decode cX10_restore 23 = .ok (.aload_n 0, 1) := by decide +kernel
theorem dX10_restore_24 : decode cX10_restore 24 = .ok (.getfield 295, 3) := by decide +kernel
theorem dX10_restore_27 : decode cX10_restore 27 = .ok (.iconst 1, 1) := by decide +kernel
theorem dX10_restore_28 : decode cX10_restore 28 = .ok (.isub, 1) := by decide +kernel
theorem dX10_restore_29 : decode cX10_restore 29 = .ok (.aaload, 1) := by decide +kernel
theorem dX10_restore_30 : decode cX10_restore 30 = .ok (.goto 4, 3) := by decide +kernel
theorem dX10_restore_33 : decode cX10_restore 33 = .ok (.aconst_null, 1) := by decide +kernel
theorem dX10_restore_34 : decode cX10_restore 34 = .ok (.astore_n 1, 1) := by decide +kernel
theorem dX10_restore_35 : decode cX10_restore 35 = .ok (.aload_n 1, 1) := by decide +kernel
theorem dX10_restore_36 : decode cX10_restore 36 = .ok (.ifnonnull 5, 3) := by decide +kernel
theorem dX10_restore_39 : decode cX10_restore 39 = .ok (.iconst (-1), 1) := by decide +kernel
theorem dX10_restore_40 : decode cX10_restore 40 = .ok (.ireturn, 1) := by decide +kernel
theorem dX10_restore_41 : decode cX10_restore 41 = .ok (.aload_n 0, 1) := by decide +kernel
theorem dX10_restore_42 : decode cX10_restore 42 = .ok (.getfield 38, 3) := by decide +kernel
theorem dX10_restore_45 : decode cX10_restore 45 = .ok (.aload_n 1, 1) := by decide +kernel
theorem dX10_restore_46 : decode cX10_restore 46 = .ok (.invokevirtual 298, 3) := by decide +kernel
theorem dX10_restore_49 : decode cX10_restore 49 = .ok (.aload_n 0, 1) := by decide +kernel
theorem dX10_restore_50 : decode cX10_restore 50 = .ok (.dup, 1) := by decide +kernel
theorem dX10_restore_51 : decode cX10_restore 51 = .ok (.getfield 295, 3) := by decide +kernel
theorem dX10_restore_54 : decode cX10_restore 54 = .ok (.iconst 1, 1) := by decide +kernel
theorem dX10_restore_55 : decode cX10_restore 55 = .ok (.isub, 1) := by decide +kernel
theorem dX10_restore_56 : decode cX10_restore 56 = .ok (.putfield 295, 3) := by decide +kernel
theorem dX10_restore_59 : decode cX10_restore 59 = .ok (.aload_n 0, 1) := by decide +kernel
theorem dX10_restore_60 : decode cX10_restore 60 = .ok (.getfield 295, 3) := by decide +kernel
theorem dX10_restore_63 : decode cX10_restore 63 = .ok (.ireturn, 1) := by decide +kernel
theorem dX10_count_0 : decode cX10_count 0 = .ok (.iload_n 1, 1) := by decide +kernel
theorem dX10_count_1 : decode cX10_count 1 = .ok (.bipush 20, 2) := by decide +kernel
theorem dX10_count_3 : decode cX10_count 3 = .ok (.bipush 29, 2) := by decide +kernel
theorem dX10_count_5 : decode cX10_count 5 = .ok (.invokestatic 63, 3) := by decide +kernel
theorem dX10_count_8 : decode cX10_count 8 = .ok (.ifCond .eq 21, 3) := by decide +kernel
theorem dX10_count_11 : decode cX10_count 11 = .ok (.aload_n 0, 1) := by decide +kernel
theorem dX10_count_12 : decode cX10_count 12 = .ok (.getfield 38, 3) := by decide +kernel
theorem dX10_count_15 : decode cX10_count 15 = .ok (.getfield 93, 3) := by decide +kernel
theorem dX10_count_18 : decode cX10_count 18 = .ok (.getfield 109, 3) := by decide +kernel
theorem dX10_count_21 : decode cX10_count 21 = .ok (.iload_n 1, 1) := by decide +kernel
theorem dX10_count_22 : decode cX10_count 22 = .ok (.bipush 20, 2) := by decide +kernel
theorem dX10_count_24 : decode cX10_count 24 = .ok (.isub, 1) := by decide +kernel
theorem dX10_count_25 : decode cX10_count 25 = .ok (.invokevirtual 112, 3) := by decide +kernel
theorem dX10_count_28 : decode cX10_count 28 = .ok (.ireturn, 1) := by decide +kernel
theorem dX10_count_29 : decode cX10_count 29 = .ok (.iload_n 1, 1) := by decide +kernel
theorem dX10_count_30 : decode cX10_count 30 = .ok (.tableswitch 163 0 10 #[58, 69, 74, 85, 96, 107, 118, 129, 134, 139, 151], 58) := by decide +kernel
theorem dX10_count_88 : decode cX10_count 88 = .ok (.aload_n 0, 1) := by decide +kernel
theorem dX10_count_89 : decode cX10_count 89 = .ok (.getfield 38, 3) := by decide +kernel
theorem dX10_count_92 : decode cX10_count 92 = .ok (.getfield 93, 3) := by decide +kernel
theorem dX10_count_95 : decode cX10_count 95 = .ok (.getfield 96, 3) := by decide +kernel
theorem dX10_count_98 : decode cX10_count 98 = .ok (.ireturn, 1) := by decide +kernel
theorem dX10_count_99 : decode cX10_count 99 = .ok (.aload_n 0, 1) := by decide +kernel
theorem dX10_count_100 : decode cX10_count 100 = .ok (.getfield 71, 3) := by decide +kernel
theorem dX10_count_103 : decode cX10_count 103 = .ok (.ireturn, 1) := by decide +kernel
theorem dX10_count_104 : decode cX10_count 104 = .ok (.aload_n 0, 1) := by decide +kernel
theorem dX10_count_105 : decode cX10_count 105 = .ok (.getfield 38, 3) := by decide +kernel
theorem dX10_count_108 : decode cX10_count 108 = .ok (.getfield 93, 3) := by decide +kernel
theorem dX10_count_111 : decode cX10_count 111 = .ok (.getfield 301, 3) := by decide +kernel
theorem dX10_count_114 : decode cX10_count 114 = .ok (.ireturn, 1) := by decide +kernel
theorem dX10_count_115 : decode cX10_count 115 = .ok (.aload_n 0, 1) := by decide +kernel
theorem dX10_count_116 : decode cX10_count 116 = .ok (.getfield 38, 3) := by decide +kernel
theorem dX10_count_119 : decode cX10_count 119 = .ok (.getfield 207, 3) := by decide +kernel
theorem dX10_count_122 : decode cX10_count 122 = .ok (.getfield 304, 3) := by decide +kernel
theorem dX10_count_125 : decode cX10_count 125 = .ok (.ireturn, 1) := by decide +kernel
theorem dX10_count_126 : decode cX10_count 126 = .ok (.aload_n 0, 1) := by decide +kernel
theorem dX10_count_127 : decode cX10_count 127 = .ok (.getfield 38, 3) := by decide +kernel
theorem dX10_count_130 : decode cX10_count 130 = .ok (.getfield 226, 3) := by decide +kernel
theorem dX10_count_133 : decode cX10_count 133 = .ok (.getfield 239, 3) := by decide +kernel
theorem dX10_count_136 : decode cX10_count 136 = .ok (.ireturn, 1) := by decide +kernel
theorem dX10_count_137 : decode cX10_count 137 = .ok (.aload_n 0, 1) := by decide +kernel
theorem dX10_count_138 : decode cX10_count 138 = .ok (.getfield 38, 3) := by decide +kernel
theorem dX10_count_141 : decode cX10_count 141 = .ok (.getfield 265, 3) := by decide +kernel
theorem dX10_count_144 : decode cX10_count 144 = .ok (.getfield 305, 3) := by decide +kernel
theorem dX10_count_147 : decode cX10_count 147 = .ok (.ireturn, 1) := by decide +kernel
theorem dX10_count_148 : decode cX10_count 148 = .ok (.aload_n 0, 1) := by decide +kernel
theorem dX10_count_149 : decode cX10_count 149 = .ok (.getfield 38, 3) := by decide +kernel
theorem dX10_count_152 : decode cX10_count 152 = .ok (.getfield 282, 3) := by decide +kernel
theorem dX10_count_155 : decode cX10_count 155 = .ok (.getfield 306, 3) := by decide +kernel
theorem dX10_count_158 : decode cX10_count 158 = .ok (.ireturn, 1) := by decide +kernel
theorem dX10_count_159 : decode cX10_count 159 = .ok (.aload_n 0, 1) := by decide +kernel
theorem dX10_count_160 : decode cX10_count 160 = .ok (.getfield 295, 3) := by decide +kernel
theorem dX10_count_163 : decode cX10_count 163 = .ok (.ireturn, 1) := by decide +kernel
theorem dX10_count_164 : decode cX10_count 164 = .ok (.aload_n 0, 1) := by decide +kernel
theorem dX10_count_165 : decode cX10_count 165 = .ok (.getfield 57, 3) := by decide +kernel
theorem dX10_count_168 : decode cX10_count 168 = .ok (.ireturn, 1) := by decide +kernel
theorem dX10_count_169 : decode cX10_count 169 = .ok (.aload_n 0, 1) := by decide +kernel
theorem dX10_count_170 : decode cX10_count 170 = .ok (.getfield 38, 3) := by decide +kernel
theorem dX10_count_173 : decode cX10_count 173 = .ok (.getfield 93, 3) := by decide +kernel
theorem dX10_count_176 : decode cX10_count 176 = .ok (.iconst 0, 1) := by decide +kernel
theorem dX10_count_177 : decode cX10_count 177 = .ok (.invokevirtual 307, 3) := by decide +kernel
theorem dX10_count_180 : decode cX10_count 180 = .ok (.ireturn, 1) := by decide +kernel
theorem dX10_count_181 : decode cX10_count 181 = .ok (.aload_n 0, 1) := by decide +kernel
theorem dX10_count_182 : decode cX10_count 182 = .ok (.getfield 38, 3) := by decide +kernel
theorem dX10_count_185 : decode cX10_count 185 = .ok (.getfield 93, 3) := by decide +kernel
theorem dX10_count_188 : decode cX10_count 188 = .ok (.iconst 1, 1) := by decide +kernel
theorem dX10_count_189 : decode cX10_count 189 = .ok (.invokevirtual 307, 3) := by decide +kernel
theorem dX10_count_192 : decode cX10_count 192 = .ok (.ireturn, 1) := by decide +kernel
theorem dX10_count_193 : decode cX10_count 193 = .ok (.iconst (-1), 1) := by decide +kernel
theorem dX10_count_194 : decode cX10_count 194 = .ok (.ireturn, 1) := by decide +kernel
theorem dX10_within_0 : decode cX10_within 0 = .ok (.iload_n 0, 1) := by decide +kernel
theorem dX10_within_1 : decode cX10_within 1 = .ok (.iload_n 1, 1) := by decide +kernel
theorem dX10_within_2 : decode cX10_within 2 = .ok (.if_icmp .lt 12, 3) := by decide +kernel
theorem dX10_within_5 : decode cX10_within 5 = .ok (.iload_n 0, 1) := by decide +kernel
theorem dX10_within_6 : decode cX10_within 6 = .ok (.iload_n 2, 1) := by decide +kernel
theorem dX10_within_7 : decode cX10_within 7 = .ok (.if_icmp .gt 7, 3) := by decide +kernel
theorem dX10_within_10 : decode cX10_within 10 = .ok (.iconst 1, 1) := by decide +kernel
theorem dX10_within_11 : decode cX10_within 11 = .ok (.goto 4, 3) := by decide +kernel
theorem dX10_within_14 : decode cX10_within 14 = .ok (.iconst 0, 1) := by decide +kernel
theorem dX10_within_15 : decode cX10_within 15 = .ok (.ireturn, 1) := by decide +kernel
theorem dX10_demand_0 : decode cX10_demand 0 = .ok (.iload_n 0, 1) := by decide +kernel
theorem dX10_demand_1 : decode cX10_demand 1 = .ok (.ifCond .ne 14, 3) := by decide +kernel
theorem dX10_demand_4 : decode cX10_demand 4 = .ok (.new 161, 3) := by decide +kernel
theorem dX10_demand_7 : decode cX10_demand 7 = .ok (.dup, 1) := by decide +kernel
theorem dX10_demand_8 : decode cX10_demand 8 = .ok (.ldc_w 310, 3) := by decide +kernel
theorem dX10_demand_11 : decode cX10_demand 11 = .ok (.invokespecial 165, 3) := by decide +kernel
theorem dX10_demand_14 : decode cX10_demand 14 = .ok (.athrow, 1) := by decide +kernel
theorem dX10_demand_15 : decode cX10_demand 15 = .ok (.return_, 1) := by decide +kernel
theorem dX10_demandWind_0 : decode cX10_demandWind 0 = .ok (.iload_n 0, 1) := by decide +kernel
theorem dX10_demandWind_1 : decode cX10_demandWind 1 = .ok (.iconst 0, 1) := by decide +kernel
theorem dX10_demandWind_2 : decode cX10_demandWind 2 = .ok (.bipush 99, 2) := by decide +kernel
theorem dX10_demandWind_4 : decode cX10_demandWind 4 = .ok (.invokestatic 63, 3) := by decide +kernel
theorem dX10_demandWind_7 : decode cX10_demandWind 7 = .ok (.invokestatic 67, 3) := by decide +kernel
theorem dX10_demandWind_10 : decode cX10_demandWind 10 = .ok (.return_, 1) := by decide +kernel
theorem dX10_demandShape_0 : decode cX10_demandShape 0 = .ok (.iload_n 0, 1) := by decide +kernel
theorem dX10_demandShape_1 : decode cX10_demandShape 1 = .ok (.iconst 0, 1) := by decide +kernel
theorem dX10_demandShape_2 : decode cX10_demandShape 2 = .ok (.iconst 1, 1) := by decide +kernel
theorem dX10_demandShape_3 : decode cX10_demandShape 3 = .ok (.invokestatic 63, 3) := by decide +kernel
theorem dX10_demandShape_6 : decode cX10_demandShape 6 = .ok (.ifCond .eq 16, 3) := by decide +kernel
theorem dX10_demandShape_9 : decode cX10_demandShape 9 = .ok (.iload_n 1, 1) := by decide +kernel
theorem dX10_demandShape_10 : decode cX10_demandShape 10 = .ok (.iconst 1, 1) := by decide +kernel
theorem dX10_demandShape_11 : decode cX10_demandShape 11 = .ok (.iconst 4, 1) := by decide +kernel
theorem dX10_demandShape_12 : decode cX10_demandShape 12 = .ok (.invokestatic 63, 3) := by decide +kernel
theorem dX10_demandShape_15 : decode cX10_demandShape 15 = .ok (.ifCond .eq 7, 3) := by decide +kernel
theorem dX10_demandShape_18 : decode cX10_demandShape 18 = .ok (.iconst 1, 1) := by decide +kernel
theorem dX10_demandShape_19 : decode cX10_demandShape 19 = .ok (.goto 4, 3) := by decide +kernel
theorem dX10_demandShape_22 : decode cX10_demandShape 22 = .ok (.iconst 0, 1) := by decide +kernel
theorem dX10_demandShape_23 : decode cX10_demandShape 23 = .ok (.invokestatic 67, 3) := by decide +kernel
theorem dX10_demandShape_26 : decode cX10_demandShape 26 = .ok (.return_, 1) := by decide +kernel
theorem dX10_demandPiece_0 : decode cX10_demandPiece 0 = .ok (.iload_n 1, 1) := by decide +kernel
theorem dX10_demandPiece_1 : decode cX10_demandPiece 1 = .ok (.iconst 0, 1) := by decide +kernel
theorem dX10_demandPiece_2 : decode cX10_demandPiece 2 = .ok (.aload_n 0, 1) := by decide +kernel
theorem dX10_demandPiece_3 : decode cX10_demandPiece 3 = .ok (.getfield 38, 3) := by decide +kernel
theorem dX10_demandPiece_6 : decode cX10_demandPiece 6 = .ok (.getfield 93, 3) := by decide +kernel
theorem dX10_demandPiece_9 : decode cX10_demandPiece 9 = .ok (.getfield 96, 3) := by decide +kernel
theorem dX10_demandPiece_12 : decode cX10_demandPiece 12 = .ok (.iconst 1, 1) := by decide +kernel
theorem dX10_demandPiece_13 : decode cX10_demandPiece 13 = .ok (.isub, 1) := by decide +kernel
theorem dX10_demandPiece_14 : decode cX10_demandPiece 14 = .ok (.invokestatic 63, 3) := by decide +kernel
theorem dX10_demandPiece_17 : decode cX10_demandPiece 17 = .ok (.ifCond .ne 14, 3) := by decide +kernel
theorem dX10_demandPiece_20 : decode cX10_demandPiece 20 = .ok (.new 312, 3) := by decide +kernel
theorem dX10_demandPiece_23 : decode cX10_demandPiece 23 = .ok (.dup, 1) := by decide +kernel
theorem dX10_demandPiece_24 : decode cX10_demandPiece 24 = .ok (.ldc_w 314, 3) := by decide +kernel
theorem dX10_demandPiece_27 : decode cX10_demandPiece 27 = .ok (.invokespecial 316, 3) := by decide +kernel
theorem dX10_demandPiece_30 : decode cX10_demandPiece 30 = .ok (.athrow, 1) := by decide +kernel
theorem dX10_demandPiece_31 : decode cX10_demandPiece 31 = .ok (.return_, 1) := by decide +kernel
theorem dX10_demandBridge_0 : decode cX10_demandBridge 0 = .ok (.iload_n 1, 1) := by decide +kernel
theorem dX10_demandBridge_1 : decode cX10_demandBridge 1 = .ok (.iconst 0, 1) := by decide +kernel
theorem dX10_demandBridge_2 : decode cX10_demandBridge 2 = .ok (.aload_n 0, 1) := by decide +kernel
theorem dX10_demandBridge_3 : decode cX10_demandBridge 3 = .ok (.getfield 38, 3) := by decide +kernel
theorem dX10_demandBridge_6 : decode cX10_demandBridge 6 = .ok (.getfield 265, 3) := by decide +kernel
theorem dX10_demandBridge_9 : decode cX10_demandBridge 9 = .ok (.getfield 305, 3) := by decide +kernel
theorem dX10_demandBridge_12 : decode cX10_demandBridge 12 = .ok (.iconst 1, 1) := by decide +kernel
theorem dX10_demandBridge_13 : decode cX10_demandBridge 13 = .ok (.isub, 1) := by decide +kernel
theorem dX10_demandBridge_14 : decode cX10_demandBridge 14 = .ok (.invokestatic 63, 3) := by decide +kernel
theorem dX10_demandBridge_17 : decode cX10_demandBridge 17 = .ok (.ifCond .ne 14, 3) := by decide +kernel
theorem dX10_demandBridge_20 : decode cX10_demandBridge 20 = .ok (.new 312, 3) := by decide +kernel
theorem dX10_demandBridge_23 : decode cX10_demandBridge 23 = .ok (.dup, 1) := by decide +kernel
theorem dX10_demandBridge_24 : decode cX10_demandBridge 24 = .ok (.ldc_w 317, 3) := by decide +kernel
theorem dX10_demandBridge_27 : decode cX10_demandBridge 27 = .ok (.invokespecial 316, 3) := by decide +kernel
theorem dX10_demandBridge_30 : decode cX10_demandBridge 30 = .ok (.athrow, 1) := by decide +kernel
theorem dX10_demandBridge_31 : decode cX10_demandBridge 31 = .ok (.return_, 1) := by decide +kernel
theorem dX10_lawNumbered_0 : decode cX10_lawNumbered 0 = .ok (.iload_n 1, 1) := by decide +kernel
theorem dX10_lawNumbered_1 : decode cX10_lawNumbered 1 = .ok (.ifCond .lt 29, 3) := by decide +kernel
theorem dX10_lawNumbered_4 : decode cX10_lawNumbered 4 = .ok (.iload_n 1, 1) := by decide +kernel
theorem dX10_lawNumbered_5 : decode cX10_lawNumbered 5 = .ok (.aload_n 0, 1) := by decide +kernel
theorem dX10_lawNumbered_6 : decode cX10_lawNumbered 6 = .ok (.getfield 71, 3) := by decide +kernel
theorem dX10_lawNumbered_9 : decode cX10_lawNumbered 9 = .ok (.if_icmp .ge 21, 3) := by decide +kernel
theorem dX10_lawNumbered_12 : decode cX10_lawNumbered 12 = .ok (.iload_n 1, 1) := by decide +kernel
theorem dX10_lawNumbered_13 : decode cX10_lawNumbered 13 = .ok (.aload_n 0, 1) := by decide +kernel
theorem dX10_lawNumbered_14 : decode cX10_lawNumbered 14 = .ok (.getfield 27, 3) := by decide +kernel
theorem dX10_lawNumbered_17 : decode cX10_lawNumbered 17 = .ok (.arraylength, 1) := by decide +kernel
theorem dX10_lawNumbered_18 : decode cX10_lawNumbered 18 = .ok (.if_icmp .ge 12, 3) := by decide +kernel
theorem dX10_lawNumbered_21 : decode cX10_lawNumbered 21 = .ok (.aload_n 0, 1) := by decide +kernel
theorem dX10_lawNumbered_22 : decode cX10_lawNumbered 22 = .ok (.getfield 27, 3) := by decide +kernel
theorem dX10_lawNumbered_25 : decode cX10_lawNumbered 25 = .ok (.iload_n 1, 1) := by decide +kernel
theorem dX10_lawNumbered_26 : decode cX10_lawNumbered 26 = .ok (.aaload, 1) := by decide +kernel
theorem dX10_lawNumbered_27 : decode cX10_lawNumbered 27 = .ok (.goto 4, 3) := by decide +kernel
theorem dX10_lawNumbered_30 : decode cX10_lawNumbered 30 = .ok (.aconst_null, 1) := by decide +kernel
theorem dX10_lawNumbered_31 : decode cX10_lawNumbered 31 = .ok (.astore_n 2, 1) := by decide +kernel
theorem dX10_lawNumbered_32 : decode cX10_lawNumbered 32 = .ok (.aload_n 2, 1) := by decide +kernel
theorem dX10_lawNumbered_33 : decode cX10_lawNumbered 33 = .ok (.ifnonnull 14, 3) := by decide +kernel
theorem dX10_lawNumbered_36 : decode cX10_lawNumbered 36 = .ok (.new 319, 3) := by decide +kernel
theorem dX10_lawNumbered_39 : decode cX10_lawNumbered 39 = .ok (.dup, 1) := by decide +kernel
theorem dX10_lawNumbered_40 : decode cX10_lawNumbered 40 = .ok (.ldc_w 321, 3) := by decide +kernel
theorem dX10_lawNumbered_43 : decode cX10_lawNumbered 43 = .ok (.invokespecial 323, 3) := by decide +kernel
theorem dX10_lawNumbered_46 : decode cX10_lawNumbered 46 = .ok (.athrow, 1) := by decide +kernel
theorem dX10_lawNumbered_47 : decode cX10_lawNumbered 47 = .ok (.aload_n 2, 1) := by decide +kernel
theorem dX10_lawNumbered_48 : decode cX10_lawNumbered 48 = .ok (.areturn, 1) := by decide +kernel
theorem dX10_putOnTape_0 : decode cX10_putOnTape 0 = .ok (.bipush 24, 2) := by decide +kernel
theorem dX10_putOnTape_2 : decode cX10_putOnTape 2 = .ok (.istore_n 2, 1) := by decide +kernel
theorem dX10_putOnTape_3 : decode cX10_putOnTape 3 = .ok (.iload_n 2, 1) := by decide +kernel
theorem dX10_putOnTape_4 : decode cX10_putOnTape 4 = .ok (.ifCond .lt 37, 3) := by decide +kernel
theorem dX10_putOnTape_7 : decode cX10_putOnTape 7 = .ok (.aload_n 0, 1) := by decide +kernel
theorem dX10_putOnTape_8 : decode cX10_putOnTape 8 = .ok (.getfield 14, 3) := by decide +kernel
theorem dX10_putOnTape_11 : decode cX10_putOnTape 11 = .ok (.aload_n 0, 1) := by decide +kernel
theorem dX10_putOnTape_12 : decode cX10_putOnTape 12 = .ok (.getfield 57, 3) := by decide +kernel
theorem dX10_putOnTape_15 : decode cX10_putOnTape 15 = .ok (.iload_n 1, 1) := by decide +kernel
theorem dX10_putOnTape_16 : decode cX10_putOnTape 16 = .ok (.iload_n 2, 1) := by decide +kernel
theorem dX10_putOnTape_17 : decode cX10_putOnTape 17 = .ok (.iushr, 1) := by decide +kernel
theorem dX10_putOnTape_18 : decode cX10_putOnTape 18 = .ok (.sipush 255, 3) := by decide +kernel
theorem dX10_putOnTape_21 : decode cX10_putOnTape 21 = .ok (.iand, 1) := by decide +kernel
theorem dX10_putOnTape_22 : decode cX10_putOnTape 22 = .ok (.invokevirtual 115, 3) := by decide +kernel
theorem dX10_putOnTape_25 : decode cX10_putOnTape 25 = .ok (.aload_n 0, 1) := by decide +kernel
theorem dX10_putOnTape_26 : decode cX10_putOnTape 26 = .ok (.dup, 1) := by decide +kernel
theorem dX10_putOnTape_27 : decode cX10_putOnTape 27 = .ok (.getfield 57, 3) := by decide +kernel
theorem dX10_putOnTape_30 : decode cX10_putOnTape 30 = .ok (.iconst 1, 1) := by decide +kernel
theorem dX10_putOnTape_31 : decode cX10_putOnTape 31 = .ok (.iadd, 1) := by decide +kernel
theorem dX10_putOnTape_32 : decode cX10_putOnTape 32 = .ok (.putfield 57, 3) := by decide +kernel
theorem dX10_putOnTape_35 : decode cX10_putOnTape 35 = .ok (.iinc 2 (-8), 3) := by decide +kernel
theorem dX10_putOnTape_38 : decode cX10_putOnTape 38 = .ok (.goto (-35), 3) := by decide +kernel
theorem dX10_putOnTape_41 : decode cX10_putOnTape 41 = .ok (.return_, 1) := by decide +kernel
theorem dX10_trialGrows_0 : decode cX10_trialGrows 0 = .ok (.aload_n 0, 1) := by decide +kernel
theorem dX10_trialGrows_1 : decode cX10_trialGrows 1 = .ok (.getfield 49, 3) := by decide +kernel
theorem dX10_trialGrows_4 : decode cX10_trialGrows 4 = .ok (.iload_n 3, 1) := by decide +kernel
theorem dX10_trialGrows_5 : decode cX10_trialGrows 5 = .ok (.iload 4, 2) := by decide +kernel
theorem dX10_trialGrows_7 : decode cX10_trialGrows 7 = .ok (.iload 5, 2) := by decide +kernel
theorem dX10_trialGrows_9 : decode cX10_trialGrows 9 = .ok (.invokevirtual 217, 3) := by decide +kernel
theorem dX10_trialGrows_12 : decode cX10_trialGrows 12 = .ok (.iconst 0, 1) := by decide +kernel
theorem dX10_trialGrows_13 : decode cX10_trialGrows 13 = .ok (.istore 7, 2) := by decide +kernel
theorem dX10_trialGrows_15 : decode cX10_trialGrows 15 = .ok (.iconst 1, 1) := by decide +kernel
theorem dX10_trialGrows_16 : decode cX10_trialGrows 16 = .ok (.istore 8, 2) := by decide +kernel
theorem dX10_trialGrows_18 : decode cX10_trialGrows 18 = .ok (.iload 8, 2) := by decide +kernel
theorem dX10_trialGrows_20 : decode cX10_trialGrows 20 = .ok (.bipush 60, 2) := by decide +kernel
theorem dX10_trialGrows_22 : decode cX10_trialGrows 22 = .ok (.if_icmp .gt 58, 3) := by decide +kernel
theorem dX10_trialGrows_25 : decode cX10_trialGrows 25 = .ok (.aload_n 0, 1) := by decide +kernel
theorem dX10_trialGrows_26 : decode cX10_trialGrows 26 = .ok (.getfield 49, 3) := by decide +kernel
theorem dX10_trialGrows_29 : decode cX10_trialGrows 29 = .ok (.aload_n 1, 1) := by decide +kernel
theorem dX10_trialGrows_30 : decode cX10_trialGrows 30 = .ok (.iload_n 2, 1) := by decide +kernel
theorem dX10_trialGrows_31 : decode cX10_trialGrows 31 = .ok (.iload 6, 2) := by decide +kernel
theorem dX10_trialGrows_33 : decode cX10_trialGrows 33 = .ok (.invokevirtual 142, 3) := by decide +kernel
theorem dX10_trialGrows_36 : decode cX10_trialGrows 36 = .ok (.aload_n 0, 1) := by decide +kernel
theorem dX10_trialGrows_37 : decode cX10_trialGrows 37 = .ok (.getfield 49, 3) := by decide +kernel
theorem dX10_trialGrows_40 : decode cX10_trialGrows 40 = .ok (.iload_n 3, 1) := by decide +kernel
theorem dX10_trialGrows_41 : decode cX10_trialGrows 41 = .ok (.invokevirtual 132, 3) := by decide +kernel
theorem dX10_trialGrows_44 : decode cX10_trialGrows 44 = .ok (.istore 9, 2) := by decide +kernel
theorem dX10_trialGrows_46 : decode cX10_trialGrows 46 = .ok (.iload 8, 2) := by decide +kernel
theorem dX10_trialGrows_48 : decode cX10_trialGrows 48 = .ok (.bipush 30, 2) := by decide +kernel
theorem dX10_trialGrows_50 : decode cX10_trialGrows 50 = .ok (.if_icmp .gt 15, 3) := by decide +kernel
theorem dX10_trialGrows_53 : decode cX10_trialGrows 53 = .ok (.iload 7, 2) := by decide +kernel
theorem dX10_trialGrows_55 : decode cX10_trialGrows 55 = .ok (.iload 9, 2) := by decide +kernel
theorem dX10_trialGrows_57 : decode cX10_trialGrows 57 = .ok (.invokestatic 256, 3) := by decide +kernel
theorem dX10_trialGrows_60 : decode cX10_trialGrows 60 = .ok (.istore 7, 2) := by decide +kernel
theorem dX10_trialGrows_62 : decode cX10_trialGrows 62 = .ok (.goto 12, 3) := by decide +kernel
theorem dX10_trialGrows_65 : decode cX10_trialGrows 65 = .ok (.iload 9, 2) := by decide +kernel
theorem dX10_trialGrows_67 : decode cX10_trialGrows 67 = .ok (.iload 7, 2) := by decide +kernel
theorem dX10_trialGrows_69 : decode cX10_trialGrows 69 = .ok (.if_icmp .le 5, 3) := by decide +kernel
theorem dX10_trialGrows_72 : decode cX10_trialGrows 72 = .ok (.iconst 1, 1) := by decide +kernel
theorem dX10_trialGrows_73 : decode cX10_trialGrows 73 = .ok (.ireturn, 1) := by decide +kernel
theorem dX10_trialGrows_74 : decode cX10_trialGrows 74 = .ok (.iinc 8 1, 3) := by decide +kernel
theorem dX10_trialGrows_77 : decode cX10_trialGrows 77 = .ok (.goto (-59), 3) := by decide +kernel
theorem dX10_trialGrows_80 : decode cX10_trialGrows 80 = .ok (.iconst 0, 1) := by decide +kernel
theorem dX10_trialGrows_81 : decode cX10_trialGrows 81 = .ok (.ireturn, 1) := by decide +kernel
theorem dX10_lineBy_0 : decode cX10_lineBy 0 = .ok (.iconst 0, 1) := by decide +kernel
theorem dX10_lineBy_1 : decode cX10_lineBy 1 = .ok (.istore 5, 2) := by decide +kernel
theorem dX10_lineBy_3 : decode cX10_lineBy 3 = .ok (.iload 5, 2) := by decide +kernel
theorem dX10_lineBy_5 : decode cX10_lineBy 5 = .ok (.bipush 60, 2) := by decide +kernel
theorem dX10_lineBy_7 : decode cX10_lineBy 7 = .ok (.if_icmp .gt 28, 3) := by decide +kernel
theorem dX10_lineBy_10 : decode cX10_lineBy 10 = .ok (.aload_n 0, 1) := by decide +kernel
theorem dX10_lineBy_11 : decode cX10_lineBy 11 = .ok (.aload_n 1, 1) := by decide +kernel
theorem dX10_lineBy_12 : decode cX10_lineBy 12 = .ok (.iload 5, 2) := by decide +kernel
theorem dX10_lineBy_14 : decode cX10_lineBy 14 = .ok (.iload_n 2, 1) := by decide +kernel
theorem dX10_lineBy_15 : decode cX10_lineBy 15 = .ok (.iload_n 3, 1) := by decide +kernel
theorem dX10_lineBy_16 : decode cX10_lineBy 16 = .ok (.bipush 100, 2) := by decide +kernel
theorem dX10_lineBy_18 : decode cX10_lineBy 18 = .ok (.iload 4, 2) := by decide +kernel
theorem dX10_lineBy_20 : decode cX10_lineBy 20 = .ok (.invokevirtual 186, 3) := by decide +kernel
theorem dX10_lineBy_23 : decode cX10_lineBy 23 = .ok (.ifCond .eq 6, 3) := by decide +kernel
theorem dX10_lineBy_26 : decode cX10_lineBy 26 = .ok (.iload 5, 2) := by decide +kernel
theorem dX10_lineBy_28 : decode cX10_lineBy 28 = .ok (.ireturn, 1) := by decide +kernel
theorem dX10_lineBy_29 : decode cX10_lineBy 29 = .ok (.iinc 5 1, 3) := by decide +kernel
theorem dX10_lineBy_32 : decode cX10_lineBy 32 = .ok (.goto (-29), 3) := by decide +kernel
theorem dX10_lineBy_35 : decode cX10_lineBy 35 = .ok (.iconst (-1), 1) := by decide +kernel
theorem dX10_lineBy_36 : decode cX10_lineBy 36 = .ok (.ireturn, 1) := by decide +kernel
theorem dX10_leastLine_0 : decode cX10_leastLine 0 = .ok (.iload_n 0, 1) := by decide +kernel
theorem dX10_leastLine_1 : decode cX10_leastLine 1 = .ok (.iconst (-1), 1) := by decide +kernel
theorem dX10_leastLine_2 : decode cX10_leastLine 2 = .ok (.if_icmp .eq 8, 3) := by decide +kernel
theorem dX10_leastLine_5 : decode cX10_leastLine 5 = .ok (.iload_n 1, 1) := by decide +kernel
theorem dX10_leastLine_6 : decode cX10_leastLine 6 = .ok (.iconst (-1), 1) := by decide +kernel
theorem dX10_leastLine_7 : decode cX10_leastLine 7 = .ok (.if_icmp .ne 9, 3) := by decide +kernel
theorem dX10_leastLine_10 : decode cX10_leastLine 10 = .ok (.iload_n 0, 1) := by decide +kernel
theorem dX10_leastLine_11 : decode cX10_leastLine 11 = .ok (.iload_n 1, 1) := by decide +kernel
theorem dX10_leastLine_12 : decode cX10_leastLine 12 = .ok (.invokestatic 256, 3) := by decide +kernel
theorem dX10_leastLine_15 : decode cX10_leastLine 15 = .ok (.ireturn, 1) := by decide +kernel
theorem dX10_leastLine_16 : decode cX10_leastLine 16 = .ok (.iload_n 0, 1) := by decide +kernel
theorem dX10_leastLine_17 : decode cX10_leastLine 17 = .ok (.iload_n 1, 1) := by decide +kernel
theorem dX10_leastLine_18 : decode cX10_leastLine 18 = .ok (.invokestatic 324, 3) := by decide +kernel
theorem dX10_leastLine_21 : decode cX10_leastLine 21 = .ok (.ireturn, 1) := by decide +kernel
theorem dX10_runTillBroken_0 : decode cX10_runTillBroken 0 = .ok (.aload_n 0, 1) := by decide +kernel
theorem dX10_runTillBroken_1 : decode cX10_runTillBroken 1 = .ok (.getfield 49, 3) := by decide +kernel
theorem dX10_runTillBroken_4 : decode cX10_runTillBroken 4 = .ok (.aload_n 0, 1) := by decide +kernel
theorem dX10_runTillBroken_5 : decode cX10_runTillBroken 5 = .ok (.getfield 38, 3) := by decide +kernel
theorem dX10_runTillBroken_8 : decode cX10_runTillBroken 8 = .ok (.getfield 93, 3) := by decide +kernel
theorem dX10_runTillBroken_11 : decode cX10_runTillBroken 11 = .ok (.invokevirtual 182, 3) := by decide +kernel
theorem dX10_runTillBroken_14 : decode cX10_runTillBroken 14 = .ok (.aload_n 0, 1) := by decide +kernel
theorem dX10_runTillBroken_15 : decode cX10_runTillBroken 15 = .ok (.getfield 49, 3) := by decide +kernel
theorem dX10_runTillBroken_18 : decode cX10_runTillBroken 18 = .ok (.iload_n 3, 1) := by decide +kernel
theorem dX10_runTillBroken_19 : decode cX10_runTillBroken 19 = .ok (.iload 4, 2) := by decide +kernel
theorem dX10_runTillBroken_21 : decode cX10_runTillBroken 21 = .ok (.bipush 100, 2) := by decide +kernel
theorem dX10_runTillBroken_23 : decode cX10_runTillBroken 23 = .ok (.invokevirtual 217, 3) := by decide +kernel
theorem dX10_runTillBroken_26 : decode cX10_runTillBroken 26 = .ok (.iconst 1, 1) := by decide +kernel
theorem dX10_runTillBroken_27 : decode cX10_runTillBroken 27 = .ok (.istore 6, 2) := by decide +kernel
theorem dX10_runTillBroken_29 : decode cX10_runTillBroken 29 = .ok (.iload 6, 2) := by decide +kernel
theorem dX10_runTillBroken_31 : decode cX10_runTillBroken 31 = .ok (.bipush 60, 2) := by decide +kernel
theorem dX10_runTillBroken_33 : decode cX10_runTillBroken 33 = .ok (.if_icmp .gt 36, 3) := by decide +kernel
theorem dX10_runTillBroken_36 : decode cX10_runTillBroken 36 = .ok (.aload_n 0, 1) := by decide +kernel
theorem dX10_runTillBroken_37 : decode cX10_runTillBroken 37 = .ok (.getfield 49, 3) := by decide +kernel
theorem dX10_runTillBroken_40 : decode cX10_runTillBroken 40 = .ok (.aload_n 1, 1) := by decide +kernel
theorem dX10_runTillBroken_41 : decode cX10_runTillBroken 41 = .ok (.iload_n 2, 1) := by decide +kernel
theorem dX10_runTillBroken_42 : decode cX10_runTillBroken 42 = .ok (.bipush 100, 2) := by decide +kernel
theorem dX10_runTillBroken_44 : decode cX10_runTillBroken 44 = .ok (.invokevirtual 142, 3) := by decide +kernel
theorem dX10_runTillBroken_47 : decode cX10_runTillBroken 47 = .ok (.aload_n 0, 1) := by decide +kernel
theorem dX10_runTillBroken_48 : decode cX10_runTillBroken 48 = .ok (.getfield 49, 3) := by decide +kernel
theorem dX10_runTillBroken_51 : decode cX10_runTillBroken 51 = .ok (.iload 5, 2) := by decide +kernel
theorem dX10_runTillBroken_53 : decode cX10_runTillBroken 53 = .ok (.invokevirtual 198, 3) := by decide +kernel
theorem dX10_runTillBroken_56 : decode cX10_runTillBroken 56 = .ok (.iconst (-1), 1) := by decide +kernel
theorem dX10_runTillBroken_57 : decode cX10_runTillBroken 57 = .ok (.if_icmp .eq 6, 3) := by decide +kernel
theorem dX10_runTillBroken_60 : decode cX10_runTillBroken 60 = .ok (.iload 6, 2) := by decide +kernel
theorem dX10_runTillBroken_62 : decode cX10_runTillBroken 62 = .ok (.ireturn, 1) := by decide +kernel
theorem dX10_runTillBroken_63 : decode cX10_runTillBroken 63 = .ok (.iinc 6 1, 3) := by decide +kernel
theorem dX10_runTillBroken_66 : decode cX10_runTillBroken 66 = .ok (.goto (-37), 3) := by decide +kernel
theorem dX10_runTillBroken_69 : decode cX10_runTillBroken 69 = .ok (.iconst (-1), 1) := by decide +kernel
theorem dX10_runTillBroken_70 : decode cX10_runTillBroken 70 = .ok (.ireturn, 1) := by decide +kernel
theorem dX10_trialIsCalmUpTo_0 : decode cX10_trialIsCalmUpTo 0 = .ok (.iload_n 2, 1) := by decide +kernel
theorem dX10_trialIsCalmUpTo_1 : decode cX10_trialIsCalmUpTo 1 = .ok (.istore 4, 2) := by decide +kernel
theorem dX10_trialIsCalmUpTo_3 : decode cX10_trialIsCalmUpTo 3 = .ok (.iload 4, 2) := by decide +kernel
theorem dX10_trialIsCalmUpTo_5 : decode cX10_trialIsCalmUpTo 5 = .ok (.iload_n 3, 1) := by decide +kernel
theorem dX10_trialIsCalmUpTo_6 : decode cX10_trialIsCalmUpTo 6 = .ok (.if_icmp .gt 66, 3) := by decide +kernel
theorem dX10_trialIsCalmUpTo_9 : decode cX10_trialIsCalmUpTo 9 = .ok (.iconst 0, 1) := by decide +kernel
theorem dX10_trialIsCalmUpTo_10 : decode cX10_trialIsCalmUpTo 10 = .ok (.istore 5, 2) := by decide +kernel
theorem dX10_trialIsCalmUpTo_12 : decode cX10_trialIsCalmUpTo 12 = .ok (.iload 5, 2) := by decide +kernel
theorem dX10_trialIsCalmUpTo_14 : decode cX10_trialIsCalmUpTo 14 = .ok (.bipush 6, 2) := by decide +kernel
theorem dX10_trialIsCalmUpTo_16 : decode cX10_trialIsCalmUpTo 16 = .ok (.if_icmp .ge 50, 3) := by decide +kernel
theorem dX10_trialIsCalmUpTo_19 : decode cX10_trialIsCalmUpTo 19 = .ok (.iload 5, 2) := by decide +kernel
theorem dX10_trialIsCalmUpTo_21 : decode cX10_trialIsCalmUpTo 21 = .ok (.iconst 2, 1) := by decide +kernel
theorem dX10_trialIsCalmUpTo_22 : decode cX10_trialIsCalmUpTo 22 = .ok (.irem, 1) := by decide +kernel
theorem dX10_trialIsCalmUpTo_23 : decode cX10_trialIsCalmUpTo 23 = .ok (.ifCond .ne 7, 3) := by decide +kernel
theorem dX10_trialIsCalmUpTo_26 : decode cX10_trialIsCalmUpTo 26 = .ok (.iconst 0, 1) := by decide +kernel
theorem dX10_trialIsCalmUpTo_27 : decode cX10_trialIsCalmUpTo 27 = .ok (.goto 4, 3) := by decide +kernel
theorem dX10_trialIsCalmUpTo_30 : decode cX10_trialIsCalmUpTo 30 = .ok (.iconst 1, 1) := by decide +kernel
theorem dX10_trialIsCalmUpTo_31 : decode cX10_trialIsCalmUpTo 31 = .ok (.istore 6, 2) := by decide +kernel
theorem dX10_trialIsCalmUpTo_33 : decode cX10_trialIsCalmUpTo 33 = .ok (.aload_n 0, 1) := by decide +kernel
theorem dX10_trialIsCalmUpTo_34 : decode cX10_trialIsCalmUpTo 34 = .ok (.aload_n 1, 1) := by decide +kernel
theorem dX10_trialIsCalmUpTo_35 : decode cX10_trialIsCalmUpTo 35 = .ok (.iload 4, 2) := by decide +kernel
theorem dX10_trialIsCalmUpTo_37 : decode cX10_trialIsCalmUpTo 37 = .ok (.iload 6, 2) := by decide +kernel
theorem dX10_trialIsCalmUpTo_39 : decode cX10_trialIsCalmUpTo 39 = .ok (.iconst 1, 1) := by decide +kernel
theorem dX10_trialIsCalmUpTo_40 : decode cX10_trialIsCalmUpTo 40 = .ok (.iload 5, 2) := by decide +kernel
theorem dX10_trialIsCalmUpTo_42 : decode cX10_trialIsCalmUpTo 42 = .ok (.iconst 2, 1) := by decide +kernel
theorem dX10_trialIsCalmUpTo_43 : decode cX10_trialIsCalmUpTo 43 = .ok (.idiv, 1) := by decide +kernel
theorem dX10_trialIsCalmUpTo_44 : decode cX10_trialIsCalmUpTo 44 = .ok (.iadd, 1) := by decide +kernel
theorem dX10_trialIsCalmUpTo_45 : decode cX10_trialIsCalmUpTo 45 = .ok (.bipush 100, 2) := by decide +kernel
theorem dX10_trialIsCalmUpTo_47 : decode cX10_trialIsCalmUpTo 47 = .ok (.bipush 100, 2) := by decide +kernel
theorem dX10_trialIsCalmUpTo_49 : decode cX10_trialIsCalmUpTo 49 = .ok (.invokevirtual 186, 3) := by decide +kernel
theorem dX10_trialIsCalmUpTo_52 : decode cX10_trialIsCalmUpTo 52 = .ok (.ifCond .eq 8, 3) := by decide +kernel
theorem dX10_trialIsCalmUpTo_55 : decode cX10_trialIsCalmUpTo 55 = .ok (.iload 4, 2) := by decide +kernel
theorem dX10_trialIsCalmUpTo_57 : decode cX10_trialIsCalmUpTo 57 = .ok (.iconst 1, 1) := by decide +kernel
theorem dX10_trialIsCalmUpTo_58 : decode cX10_trialIsCalmUpTo 58 = .ok (.isub, 1) := by decide +kernel
theorem dX10_trialIsCalmUpTo_59 : decode cX10_trialIsCalmUpTo 59 = .ok (.ireturn, 1) := by decide +kernel
theorem dX10_trialIsCalmUpTo_60 : decode cX10_trialIsCalmUpTo 60 = .ok (.iinc 5 1, 3) := by decide +kernel
theorem dX10_trialIsCalmUpTo_63 : decode cX10_trialIsCalmUpTo 63 = .ok (.goto (-51), 3) := by decide +kernel
theorem dX10_trialIsCalmUpTo_66 : decode cX10_trialIsCalmUpTo 66 = .ok (.iinc 4 1, 3) := by decide +kernel
theorem dX10_trialIsCalmUpTo_69 : decode cX10_trialIsCalmUpTo 69 = .ok (.goto (-66), 3) := by decide +kernel
theorem dX10_trialIsCalmUpTo_72 : decode cX10_trialIsCalmUpTo 72 = .ok (.iload_n 3, 1) := by decide +kernel
theorem dX10_trialIsCalmUpTo_73 : decode cX10_trialIsCalmUpTo 73 = .ok (.ireturn, 1) := by decide +kernel
theorem dX10_bestMend_0 : decode cX10_bestMend 0 = .ok (.iconst (-1), 1) := by decide +kernel
theorem dX10_bestMend_1 : decode cX10_bestMend 1 = .ok (.istore_n 3, 1) := by decide +kernel
theorem dX10_bestMend_2 : decode cX10_bestMend 2 = .ok (.iconst (-1), 1) := by decide +kernel
theorem dX10_bestMend_3 : decode cX10_bestMend 3 = .ok (.istore 4, 2) := by decide +kernel
theorem dX10_bestMend_5 : decode cX10_bestMend 5 = .ok (.iconst 0, 1) := by decide +kernel
theorem dX10_bestMend_6 : decode cX10_bestMend 6 = .ok (.istore 5, 2) := by decide +kernel
theorem dX10_bestMend_8 : decode cX10_bestMend 8 = .ok (.iload 5, 2) := by decide +kernel
theorem dX10_bestMend_10 : decode cX10_bestMend 10 = .ok (.aload_n 0, 1) := by decide +kernel
theorem dX10_bestMend_11 : decode cX10_bestMend 11 = .ok (.getfield 38, 3) := by decide +kernel
theorem dX10_bestMend_14 : decode cX10_bestMend 14 = .ok (.getfield 226, 3) := by decide +kernel
theorem dX10_bestMend_17 : decode cX10_bestMend 17 = .ok (.getfield 239, 3) := by decide +kernel
theorem dX10_bestMend_20 : decode cX10_bestMend 20 = .ok (.if_icmp .ge 81, 3) := by decide +kernel
theorem dX10_bestMend_23 : decode cX10_bestMend 23 = .ok (.iload 4, 2) := by decide +kernel
theorem dX10_bestMend_25 : decode cX10_bestMend 25 = .ok (.bipush 12, 2) := by decide +kernel
theorem dX10_bestMend_27 : decode cX10_bestMend 27 = .ok (.if_icmp .ge 74, 3) := by decide +kernel
theorem dX10_bestMend_30 : decode cX10_bestMend 30 = .ok (.iload_n 2, 1) := by decide +kernel
theorem dX10_bestMend_31 : decode cX10_bestMend 31 = .ok (.iload 5, 2) := by decide +kernel
theorem dX10_bestMend_33 : decode cX10_bestMend 33 = .ok (.ishr, 1) := by decide +kernel
theorem dX10_bestMend_34 : decode cX10_bestMend 34 = .ok (.iconst 1, 1) := by decide +kernel
theorem dX10_bestMend_35 : decode cX10_bestMend 35 = .ok (.iand, 1) := by decide +kernel
theorem dX10_bestMend_36 : decode cX10_bestMend 36 = .ok (.ifCond .ne 59, 3) := by decide +kernel
theorem dX10_bestMend_39 : decode cX10_bestMend 39 = .ok (.aload_n 0, 1) := by decide +kernel
theorem dX10_bestMend_40 : decode cX10_bestMend 40 = .ok (.getfield 49, 3) := by decide +kernel
theorem dX10_bestMend_43 : decode cX10_bestMend 43 = .ok (.aload_n 0, 1) := by decide +kernel
theorem dX10_bestMend_44 : decode cX10_bestMend 44 = .ok (.getfield 53, 3) := by decide +kernel
theorem dX10_bestMend_47 : decode cX10_bestMend 47 = .ok (.invokevirtual 182, 3) := by decide +kernel
theorem dX10_bestMend_50 : decode cX10_bestMend 50 = .ok (.aload_n 0, 1) := by decide +kernel

theorem dX11_deck_62 : decode cX11_deck 62 = .ok (.aload_n 0, 1) := by decide +kernel
theorem dX11_deck_63 : decode cX11_deck 63 = .ok (.getfield 43, 3) := by decide +kernel
theorem dX11_deck_66 : decode cX11_deck 66 = .ok (.iload 4, 2) := by decide +kernel
theorem dX11_deck_68 : decode cX11_deck 68 = .ok (.aaload, 1) := by decide +kernel
theorem dX11_deck_69 : decode cX11_deck 69 = .ok (.iload_n 3, 1) := by decide +kernel
theorem dX11_deck_70 : decode cX11_deck 70 = .ok (.iconst 0, 1) := by decide +kernel
theorem dX11_deck_71 : decode cX11_deck 71 = .ok (.iastore, 1) := by decide +kernel
theorem dX11_deck_72 : decode cX11_deck 72 = .ok (.iinc 4 1, 3) := by decide +kernel
theorem dX11_deck_75 : decode cX11_deck 75 = .ok (.goto (-19), 3) := by decide +kernel
theorem dX11_deck_78 : decode cX11_deck 78 = .ok (.aload_n 0, 1) := by decide +kernel
theorem dX11_deck_79 : decode cX11_deck 79 = .ok (.getfield 49, 3) := by decide +kernel
theorem dX11_deck_82 : decode cX11_deck 82 = .ok (.iload_n 3, 1) := by decide +kernel
theorem dX11_deck_83 : decode cX11_deck 83 = .ok (.iconst 2, 1) := by decide +kernel
theorem dX11_deck_84 : decode cX11_deck 84 = .ok (.iastore, 1) := by decide +kernel
theorem dX11_deck_85 : decode cX11_deck 85 = .ok (.aload_n 0, 1) := by decide +kernel
theorem dX11_deck_86 : decode cX11_deck 86 = .ok (.getfield 52, 3) := by decide +kernel
theorem dX11_deck_89 : decode cX11_deck 89 = .ok (.iload_n 3, 1) := by decide +kernel
theorem dX11_deck_90 : decode cX11_deck 90 = .ok (.iconst 0, 1) := by decide +kernel
theorem dX11_deck_91 : decode cX11_deck 91 = .ok (.bastore, 1) := by decide +kernel
theorem dX11_deck_92 : decode cX11_deck 92 = .ok (.iinc 3 1, 3) := by decide +kernel
theorem dX11_deck_95 : decode cX11_deck 95 = .ok (.goto (-48), 3) := by decide +kernel
theorem dX11_deck_98 : decode cX11_deck 98 = .ok (.iload_n 2, 1) := by decide +kernel
theorem dX11_deck_99 : decode cX11_deck 99 = .ok (.ireturn, 1) := by decide +kernel
theorem dX11_lowest_0 : decode cX11_lowest 0 = .ok (.iload_n 0, 1) := by decide +kernel
theorem dX11_lowest_1 : decode cX11_lowest 1 = .ok (.ifCond .ne 7, 3) := by decide +kernel
theorem dX11_lowest_4 : decode cX11_lowest 4 = .ok (.iconst 1, 1) := by decide +kernel
theorem dX11_lowest_5 : decode cX11_lowest 5 = .ok (.goto 4, 3) := by decide +kernel
theorem dX11_lowest_8 : decode cX11_lowest 8 = .ok (.iconst 0, 1) := by decide +kernel
theorem dX11_lowest_9 : decode cX11_lowest 9 = .ok (.ireturn, 1) := by decide +kernel
theorem dX11_highest_0 : decode cX11_highest 0 = .ok (.iload_n 0, 1) := by decide +kernel
theorem dX11_highest_1 : decode cX11_highest 1 = .ok (.bipush 7, 2) := by decide +kernel
theorem dX11_highest_3 : decode cX11_highest 3 = .ok (.if_icmp .ne 9, 3) := by decide +kernel
theorem dX11_highest_6 : decode cX11_highest 6 = .ok (.sipush 9999, 3) := by decide +kernel
theorem dX11_highest_9 : decode cX11_highest 9 = .ok (.goto 16, 3) := by decide +kernel
theorem dX11_highest_12 : decode cX11_highest 12 = .ok (.iload_n 0, 1) := by decide +kernel
theorem dX11_highest_13 : decode cX11_highest 13 = .ok (.bipush 9, 2) := by decide +kernel
theorem dX11_highest_15 : decode cX11_highest 15 = .ok (.if_icmp .ne 8, 3) := by decide +kernel
theorem dX11_highest_18 : decode cX11_highest 18 = .ok (.ldc 203, 2) := by decide +kernel
theorem dX11_highest_20 : decode cX11_highest 20 = .ok (.goto 5, 3) := by decide +kernel
theorem dX11_highest_23 : decode cX11_highest 23 = .ok (.bipush 99, 2) := by decide +kernel
theorem dX11_highest_25 : decode cX11_highest 25 = .ok (.ireturn, 1) := by decide +kernel
theorem dX11_set_0 : decode cX11_set 0 = .ok (.aload_n 0, 1) := by decide +kernel
theorem dX11_set_1 : decode cX11_set 1 = .ok (.iconst 0, 1) := by decide +kernel
theorem dX11_set_2 : decode cX11_set 2 = .ok (.putfield 83, 3) := by decide +kernel
theorem dX11_set_5 : decode cX11_set 5 = .ok (.aload_n 0, 1) := by decide +kernel
theorem dX11_set_6 : decode cX11_set 6 = .ok (.iload_n 1, 1) := by decide +kernel
theorem dX11_set_7 : decode cX11_set 7 = .ok (.iconst 0, 1) := by decide +kernel
theorem dX11_set_8 : decode cX11_set 8 = .ok (.bipush 9, 2) := by decide +kernel
theorem dX11_set_10 : decode cX11_set 10 = .ok (.invokestatic 172, 3) := by decide +kernel
theorem dX11_set_13 : decode cX11_set 13 = .ok (.ifCond .ne 7, 3) := by decide +kernel
theorem dX11_set_16 : decode cX11_set 16 = .ok (.iconst 1, 1) := by decide +kernel
theorem dX11_set_17 : decode cX11_set 17 = .ok (.goto 4, 3) := by decide +kernel
theorem dX11_set_20 : decode cX11_set 20 = .ok (.iconst 0, 1) := by decide +kernel
theorem dX11_set_21 : decode cX11_set 21 = .ok (.iconst 1, 1) := by decide +kernel
theorem dX11_set_22 : decode cX11_set 22 = .ok (.invokevirtual 176, 3) := by decide +kernel
theorem dX11_set_25 : decode cX11_set 25 = .ok (.ifCond .ne 31, 3) := by decide +kernel
theorem dX11_set_28 : decode cX11_set 28 = .ok (.aload_n 0, 1) := by decide +kernel
theorem dX11_set_29 : decode cX11_set 29 = .ok (.iload_n 2, 1) := by decide +kernel
theorem dX11_set_30 : decode cX11_set 30 = .ok (.iload_n 1, 1) := by decide +kernel
theorem dX11_set_31 : decode cX11_set 31 = .ok (.invokestatic 204, 3) := by decide +kernel
theorem dX11_set_34 : decode cX11_set 34 = .ok (.iload_n 1, 1) := by decide +kernel
theorem dX11_set_35 : decode cX11_set 35 = .ok (.invokestatic 207, 3) := by decide +kernel
theorem dX11_set_38 : decode cX11_set 38 = .ok (.invokestatic 172, 3) := by decide +kernel
theorem dX11_set_41 : decode cX11_set 41 = .ok (.ifCond .ne 7, 3) := by decide +kernel
theorem dX11_set_44 : decode cX11_set 44 = .ok (.iconst 1, 1) := by decide +kernel
theorem dX11_set_45 : decode cX11_set 45 = .ok (.goto 4, 3) := by decide +kernel
theorem dX11_set_48 : decode cX11_set 48 = .ok (.iconst 0, 1) := by decide +kernel
theorem dX11_set_49 : decode cX11_set 49 = .ok (.iconst 1, 1) := by decide +kernel
theorem dX11_set_50 : decode cX11_set 50 = .ok (.invokevirtual 176, 3) := by decide +kernel
theorem dX11_set_53 : decode cX11_set 53 = .ok (.ifCond .eq 5, 3) := by decide +kernel
theorem dX11_set_56 : decode cX11_set 56 = .ok (.iconst 0, 1) := by decide +kernel
theorem dX11_set_57 : decode cX11_set 57 = .ok (.ireturn, 1) := by decide +kernel
theorem dX11_set_58 : decode cX11_set 58 = .ok (.aload_n 0, 1) := by decide +kernel
theorem dX11_set_59 : decode cX11_set 59 = .ok (.getfield 40, 3) := by decide +kernel
theorem dX11_set_62 : decode cX11_set 62 = .ok (.iload_n 1, 1) := by decide +kernel
theorem dX11_set_63 : decode cX11_set 63 = .ok (.iaload, 1) := by decide +kernel
theorem dX11_set_64 : decode cX11_set 64 = .ok (.istore_n 3, 1) := by decide +kernel
theorem dX11_set_65 : decode cX11_set 65 = .ok (.aload_n 0, 1) := by decide +kernel
theorem dX11_set_66 : decode cX11_set 66 = .ok (.getfield 40, 3) := by decide +kernel
theorem dX11_set_69 : decode cX11_set 69 = .ok (.iload_n 1, 1) := by decide +kernel
theorem dX11_set_70 : decode cX11_set 70 = .ok (.iload_n 2, 1) := by decide +kernel
theorem dX11_set_71 : decode cX11_set 71 = .ok (.iastore, 1) := by decide +kernel
theorem dX11_set_72 : decode cX11_set 72 = .ok (.iload_n 3, 1) := by decide +kernel
theorem dX11_set_73 : decode cX11_set 73 = .ok (.ireturn, 1) := by decide +kernel
theorem dX11_isPiece_0 : decode cX11_isPiece 0 = .ok (.iload_n 1, 1) := by decide +kernel
theorem dX11_isPiece_1 : decode cX11_isPiece 1 = .ok (.iconst 0, 1) := by decide +kernel
theorem dX11_isPiece_2 : decode cX11_isPiece 2 = .ok (.aload_n 0, 1) := by decide +kernel
theorem dX11_isPiece_3 : decode cX11_isPiece 3 = .ok (.getfield 37, 3) := by decide +kernel
theorem dX11_isPiece_6 : decode cX11_isPiece 6 = .ok (.iconst 1, 1) := by decide +kernel
theorem dX11_isPiece_7 : decode cX11_isPiece 7 = .ok (.isub, 1) := by decide +kernel
theorem dX11_isPiece_8 : decode cX11_isPiece 8 = .ok (.invokestatic 172, 3) := by decide +kernel
theorem dX11_isPiece_11 : decode cX11_isPiece 11 = .ok (.ireturn, 1) := by decide +kernel
theorem dX11_stay_0 : decode cX11_stay 0 = .ok (.aload_n 0, 1) := by decide +kernel
theorem dX11_stay_1 : decode cX11_stay 1 = .ok (.iconst 0, 1) := by decide +kernel
theorem dX11_stay_2 : decode cX11_stay 2 = .ok (.putfield 83, 3) := by decide +kernel
theorem dX11_stay_5 : decode cX11_stay 5 = .ok (.aload_n 0, 1) := by decide +kernel
theorem dX11_stay_6 : decode cX11_stay 6 = .ok (.aload_n 0, 1) := by decide +kernel
theorem dX11_stay_7 : decode cX11_stay 7 = .ok (.iload_n 1, 1) := by decide +kernel
theorem dX11_stay_8 : decode cX11_stay 8 = .ok (.invokevirtual 210, 3) := by decide +kernel
theorem dX11_stay_11 : decode cX11_stay 11 = .ok (.ifCond .ne 7, 3) := by decide +kernel
theorem dX11_stay_14 : decode cX11_stay 14 = .ok (.iconst 1, 1) := by decide +kernel
theorem dX11_stay_15 : decode cX11_stay 15 = .ok (.goto 4, 3) := by decide +kernel
theorem dX11_stay_18 : decode cX11_stay 18 = .ok (.iconst 0, 1) := by decide +kernel
theorem dX11_stay_19 : decode cX11_stay 19 = .ok (.iconst 1, 1) := by decide +kernel
theorem dX11_stay_20 : decode cX11_stay 20 = .ok (.invokevirtual 176, 3) := by decide +kernel
theorem dX11_stay_23 : decode cX11_stay 23 = .ok (.ifCond .eq 5, 3) := by decide +kernel
theorem dX11_stay_26 : decode cX11_stay 26 = .ok (.iconst 0, 1) := by decide +kernel
theorem dX11_stay_27 : decode cX11_stay 27 = .ok (.ireturn, 1) := by decide +kernel
theorem dX11_stay_28 : decode cX11_stay 28 = .ok (.aload_n 0, 1) := by decide +kernel
theorem dX11_stay_29 : decode cX11_stay 29 = .ok (.getfield 49, 3) := by decide +kernel
theorem dX11_stay_32 : decode cX11_stay 32 = .ok (.iload_n 1, 1) := by decide +kernel
theorem dX11_stay_33 : decode cX11_stay 33 = .ok (.iaload, 1) := by decide +kernel
theorem dX11_stay_34 : decode cX11_stay 34 = .ok (.istore_n 3, 1) := by decide +kernel
theorem dX11_stay_35 : decode cX11_stay 35 = .ok (.iload_n 2, 1) := by decide +kernel
theorem dX11_stay_36 : decode cX11_stay 36 = .ok (.ifCond .eq 7, 3) := by decide +kernel
theorem dX11_stay_39 : decode cX11_stay 39 = .ok (.iload_n 3, 1) := by decide +kernel
theorem dX11_stay_40 : decode cX11_stay 40 = .ok (.ifCond .ne 18, 3) := by decide +kernel
theorem dX11_stay_43 : decode cX11_stay 43 = .ok (.aload_n 0, 1) := by decide +kernel
theorem dX11_stay_44 : decode cX11_stay 44 = .ok (.getfield 49, 3) := by decide +kernel
theorem dX11_stay_47 : decode cX11_stay 47 = .ok (.iload_n 1, 1) := by decide +kernel
theorem dX11_stay_48 : decode cX11_stay 48 = .ok (.iload_n 2, 1) := by decide +kernel
theorem dX11_stay_49 : decode cX11_stay 49 = .ok (.ifCond .eq 7, 3) := by decide +kernel
theorem dX11_stay_52 : decode cX11_stay 52 = .ok (.iconst 2, 1) := by decide +kernel
theorem dX11_stay_53 : decode cX11_stay 53 = .ok (.goto 4, 3) := by decide +kernel
theorem dX11_stay_56 : decode cX11_stay 56 = .ok (.iconst 0, 1) := by decide +kernel
theorem dX11_stay_57 : decode cX11_stay 57 = .ok (.iastore, 1) := by decide +kernel
theorem dX11_stay_58 : decode cX11_stay 58 = .ok (.iload_n 3, 1) := by decide +kernel
theorem dX11_stay_59 : decode cX11_stay 59 = .ok (.ireturn, 1) := by decide +kernel
theorem dX11_isShape_0 : decode cX11_isShape 0 = .ok (.iload_n 0, 1) := by decide +kernel
theorem dX11_isShape_1 : decode cX11_isShape 1 = .ok (.iconst 0, 1) := by decide +kernel
theorem dX11_isShape_2 : decode cX11_isShape 2 = .ok (.iconst 1, 1) := by decide +kernel
theorem dX11_isShape_3 : decode cX11_isShape 3 = .ok (.invokestatic 172, 3) := by decide +kernel
theorem dX11_isShape_6 : decode cX11_isShape 6 = .ok (.ifCond .eq 16, 3) := by decide +kernel
theorem dX11_isShape_9 : decode cX11_isShape 9 = .ok (.iload_n 1, 1) := by decide +kernel
theorem dX11_isShape_10 : decode cX11_isShape 10 = .ok (.iconst 1, 1) := by decide +kernel
theorem dX11_isShape_11 : decode cX11_isShape 11 = .ok (.iconst 4, 1) := by decide +kernel
theorem dX11_isShape_12 : decode cX11_isShape 12 = .ok (.invokestatic 172, 3) := by decide +kernel
theorem dX11_isShape_15 : decode cX11_isShape 15 = .ok (.ifCond .eq 7, 3) := by decide +kernel
theorem dX11_isShape_18 : decode cX11_isShape 18 = .ok (.iconst 1, 1) := by decide +kernel
theorem dX11_isShape_19 : decode cX11_isShape 19 = .ok (.goto 4, 3) := by decide +kernel
theorem dX11_isShape_22 : decode cX11_isShape 22 = .ok (.iconst 0, 1) := by decide +kernel
theorem dX11_isShape_23 : decode cX11_isShape 23 = .ok (.ireturn, 1) := by decide +kernel
theorem dX11_shapes_0 : decode cX11_shapes 0 = .ok (.iconst 0, 1) := by decide +kernel
theorem dX11_shapes_1 : decode cX11_shapes 1 = .ok (.istore 4, 2) := by decide +kernel
theorem dX11_shapes_3 : decode cX11_shapes 3 = .ok (.iload 4, 2) := by decide +kernel
theorem dX11_shapes_5 : decode cX11_shapes 5 = .ok (.aload_n 0, 1) := by decide +kernel
theorem dX11_shapes_6 : decode cX11_shapes 6 = .ok (.getfield 37, 3) := by decide +kernel
theorem dX11_shapes_9 : decode cX11_shapes 9 = .ok (.if_icmp .ge 64, 3) := by decide +kernel
theorem dX11_shapes_12 : decode cX11_shapes 12 = .ok (.iconst 0, 1) := by decide +kernel
theorem dX11_shapes_13 : decode cX11_shapes 13 = .ok (.istore 5, 2) := by decide +kernel
theorem dX11_shapes_15 : decode cX11_shapes 15 = .ok (.iload 5, 2) := by decide +kernel
theorem dX11_shapes_17 : decode cX11_shapes 17 = .ok (.iconst 4, 1) := by decide +kernel
theorem dX11_shapes_18 : decode cX11_shapes 18 = .ok (.if_icmp .ge 20, 3) := by decide +kernel
theorem dX11_shapes_21 : decode cX11_shapes 21 = .ok (.aload_n 0, 1) := by decide +kernel
theorem dX11_shapes_22 : decode cX11_shapes 22 = .ok (.getfield 43, 3) := by decide +kernel
theorem dX11_shapes_25 : decode cX11_shapes 25 = .ok (.iload 5, 2) := by decide +kernel
theorem dX11_shapes_27 : decode cX11_shapes 27 = .ok (.aaload, 1) := by decide +kernel
theorem dX11_shapes_28 : decode cX11_shapes 28 = .ok (.iload 4, 2) := by decide +kernel
theorem dX11_shapes_30 : decode cX11_shapes 30 = .ok (.iconst 0, 1) := by decide +kernel
theorem dX11_shapes_31 : decode cX11_shapes 31 = .ok (.iastore, 1) := by decide +kernel
theorem dX11_shapes_32 : decode cX11_shapes 32 = .ok (.iinc 5 1, 3) := by decide +kernel
theorem dX11_shapes_35 : decode cX11_shapes 35 = .ok (.goto (-20), 3) := by decide +kernel
theorem dX11_shapes_38 : decode cX11_shapes 38 = .ok (.aload_n 0, 1) := by decide +kernel
theorem dX11_shapes_39 : decode cX11_shapes 39 = .ok (.getfield 43, 3) := by decide +kernel
theorem dX11_shapes_42 : decode cX11_shapes 42 = .ok (.iload_n 1, 1) := by decide +kernel
theorem dX11_shapes_43 : decode cX11_shapes 43 = .ok (.aaload, 1) := by decide +kernel
theorem dX11_shapes_44 : decode cX11_shapes 44 = .ok (.iload 4, 2) := by decide +kernel
theorem dX11_shapes_46 : decode cX11_shapes 46 = .ok (.iload 4, 2) := by decide +kernel
theorem dX11_shapes_48 : decode cX11_shapes 48 = .ok (.iload_n 2, 1) := by decide +kernel
theorem dX11_shapes_49 : decode cX11_shapes 49 = .ok (.imul, 1) := by decide +kernel
theorem dX11_shapes_50 : decode cX11_shapes 50 = .ok (.aload_n 0, 1) := by decide +kernel
theorem dX11_shapes_51 : decode cX11_shapes 51 = .ok (.getfield 37, 3) := by decide +kernel
theorem dX11_shapes_54 : decode cX11_shapes 54 = .ok (.idiv, 1) := by decide +kernel
theorem dX11_shapes_55 : decode cX11_shapes 55 = .ok (.iconst 2, 1) := by decide +kernel
theorem dX11_shapes_56 : decode cX11_shapes 56 = .ok (.irem, 1) := by decide +kernel
theorem dX11_shapes_57 : decode cX11_shapes 57 = .ok (.ifCond .ne 7, 3) := by decide +kernel
theorem dX11_shapes_60 : decode cX11_shapes 60 = .ok (.iload_n 3, 1) := by decide +kernel
theorem dX11_shapes_61 : decode cX11_shapes 61 = .ok (.goto 5, 3) := by decide +kernel
theorem dX11_shapes_64 : decode cX11_shapes 64 = .ok (.iload_n 3, 1) := by decide +kernel
theorem dX11_shapes_65 : decode cX11_shapes 65 = .ok (.ineg, 1) := by decide +kernel
theorem dX11_shapes_66 : decode cX11_shapes 66 = .ok (.iastore, 1) := by decide +kernel
theorem dX11_shapes_67 : decode cX11_shapes 67 = .ok (.iinc 4 1, 3) := by decide +kernel
theorem dX11_shapes_70 : decode cX11_shapes 70 = .ok (.goto (-67), 3) := by decide +kernel
theorem dX11_shapes_73 : decode cX11_shapes 73 = .ok (.return_, 1) := by decide +kernel
theorem dX11_shape_0 : decode cX11_shape 0 = .ok (.aload_n 0, 1) := by decide +kernel
theorem dX11_shape_1 : decode cX11_shape 1 = .ok (.iconst 0, 1) := by decide +kernel
theorem dX11_shape_2 : decode cX11_shape 2 = .ok (.putfield 83, 3) := by decide +kernel
theorem dX11_shape_5 : decode cX11_shape 5 = .ok (.aload_n 0, 1) := by decide +kernel
theorem dX11_shape_6 : decode cX11_shape 6 = .ok (.iload_n 1, 1) := by decide +kernel
theorem dX11_shape_7 : decode cX11_shape 7 = .ok (.iload_n 2, 1) := by decide +kernel
theorem dX11_shape_8 : decode cX11_shape 8 = .ok (.invokestatic 213, 3) := by decide +kernel
theorem dX11_shape_11 : decode cX11_shape 11 = .ok (.ifCond .eq 14, 3) := by decide +kernel
theorem dX11_shape_14 : decode cX11_shape 14 = .ok (.iload_n 3, 1) := by decide +kernel
theorem dX11_shape_15 : decode cX11_shape 15 = .ok (.iconst 1, 1) := by decide +kernel
theorem dX11_shape_16 : decode cX11_shape 16 = .ok (.sipush 9999, 3) := by decide +kernel
theorem dX11_shape_19 : decode cX11_shape 19 = .ok (.invokestatic 172, 3) := by decide +kernel
theorem dX11_shape_22 : decode cX11_shape 22 = .ok (.ifCond .ne 7, 3) := by decide +kernel
theorem dX11_shape_25 : decode cX11_shape 25 = .ok (.iconst 1, 1) := by decide +kernel
theorem dX11_shape_26 : decode cX11_shape 26 = .ok (.goto 4, 3) := by decide +kernel
theorem dX11_shape_29 : decode cX11_shape 29 = .ok (.iconst 0, 1) := by decide +kernel
theorem dX11_shape_30 : decode cX11_shape 30 = .ok (.iconst 1, 1) := by decide +kernel
theorem dX11_shape_31 : decode cX11_shape 31 = .ok (.invokevirtual 176, 3) := by decide +kernel
theorem dX11_shape_34 : decode cX11_shape 34 = .ok (.ifCond .eq 5, 3) := by decide +kernel
theorem dX11_shape_37 : decode cX11_shape 37 = .ok (.iconst 0, 1) := by decide +kernel
theorem dX11_shape_38 : decode cX11_shape 38 = .ok (.ireturn, 1) := by decide +kernel
theorem dX11_shape_39 : decode cX11_shape 39 = .ok (.aload_n 0, 1) := by decide +kernel
theorem dX11_shape_40 : decode cX11_shape 40 = .ok (.iload_n 1, 1) := by decide +kernel
theorem dX11_shape_41 : decode cX11_shape 41 = .ok (.iload_n 2, 1) := by decide +kernel
theorem dX11_shape_42 : decode cX11_shape 42 = .ok (.iload_n 3, 1) := by decide +kernel
theorem dX11_shape_43 : decode cX11_shape 43 = .ok (.invokevirtual 217, 3) := by decide +kernel
theorem dX11_shape_46 : decode cX11_shape 46 = .ok (.aload_n 0, 1) := by decide +kernel
theorem dX11_shape_47 : decode cX11_shape 47 = .ok (.iload_n 1, 1) := by decide +kernel
theorem dX11_shape_48 : decode cX11_shape 48 = .ok (.invokevirtual 221, 3) := by decide +kernel
theorem dX11_shape_51 : decode cX11_shape 51 = .ok (.ireturn, 1) := by decide +kernel
theorem dX11_sizeOf_0 : decode cX11_sizeOf 0 = .ok (.iconst 0, 1) := by decide +kernel
theorem dX11_sizeOf_1 : decode cX11_sizeOf 1 = .ok (.istore_n 2, 1) := by decide +kernel
theorem dX11_sizeOf_2 : decode cX11_sizeOf 2 = .ok (.iconst 0, 1) := by decide +kernel
theorem dX11_sizeOf_3 : decode cX11_sizeOf 3 = .ok (.istore_n 3, 1) := by decide +kernel
theorem dX11_sizeOf_4 : decode cX11_sizeOf 4 = .ok (.iload_n 3, 1) := by decide +kernel
theorem dX11_sizeOf_5 : decode cX11_sizeOf 5 = .ok (.aload_n 0, 1) := by decide +kernel
theorem dX11_sizeOf_6 : decode cX11_sizeOf 6 = .ok (.getfield 37, 3) := by decide +kernel
theorem dX11_sizeOf_9 : decode cX11_sizeOf 9 = .ok (.if_icmp .ge 40, 3) := by decide +kernel
theorem dX11_sizeOf_12 : decode cX11_sizeOf 12 = .ok (.aload_n 0, 1) := by decide +kernel
theorem dX11_sizeOf_13 : decode cX11_sizeOf 13 = .ok (.getfield 43, 3) := by decide +kernel
theorem dX11_sizeOf_16 : decode cX11_sizeOf 16 = .ok (.iload_n 1, 1) := by decide +kernel
theorem dX11_sizeOf_17 : decode cX11_sizeOf 17 = .ok (.aaload, 1) := by decide +kernel
theorem dX11_sizeOf_18 : decode cX11_sizeOf 18 = .ok (.iload_n 3, 1) := by decide +kernel
theorem dX11_sizeOf_19 : decode cX11_sizeOf 19 = .ok (.iaload, 1) := by decide +kernel
theorem dX11_sizeOf_20 : decode cX11_sizeOf 20 = .ok (.invokestatic 224, 3) := by decide +kernel
theorem dX11_sizeOf_23 : decode cX11_sizeOf 23 = .ok (.iload_n 2, 1) := by decide +kernel
theorem dX11_sizeOf_24 : decode cX11_sizeOf 24 = .ok (.if_icmp .le 17, 3) := by decide +kernel
theorem dX11_sizeOf_27 : decode cX11_sizeOf 27 = .ok (.aload_n 0, 1) := by decide +kernel
theorem dX11_sizeOf_28 : decode cX11_sizeOf 28 = .ok (.getfield 43, 3) := by decide +kernel
theorem dX11_sizeOf_31 : decode cX11_sizeOf 31 = .ok (.iload_n 1, 1) := by decide +kernel
theorem dX11_sizeOf_32 : decode cX11_sizeOf 32 = .ok (.aaload, 1) := by decide +kernel
theorem dX11_sizeOf_33 : decode cX11_sizeOf 33 = .ok (.iload_n 3, 1) := by decide +kernel
theorem dX11_sizeOf_34 : decode cX11_sizeOf 34 = .ok (.iaload, 1) := by decide +kernel
theorem dX11_sizeOf_35 : decode cX11_sizeOf 35 = .ok (.invokestatic 224, 3) := by decide +kernel
theorem dX11_sizeOf_38 : decode cX11_sizeOf 38 = .ok (.goto 4, 3) := by decide +kernel
theorem dX11_sizeOf_41 : decode cX11_sizeOf 41 = .ok (.iload_n 2, 1) := by decide +kernel
theorem dX11_sizeOf_42 : decode cX11_sizeOf 42 = .ok (.istore_n 2, 1) := by decide +kernel
theorem dX11_sizeOf_43 : decode cX11_sizeOf 43 = .ok (.iinc 3 1, 3) := by decide +kernel
theorem dX11_sizeOf_46 : decode cX11_sizeOf 46 = .ok (.goto (-42), 3) := by decide +kernel
theorem dX11_sizeOf_49 : decode cX11_sizeOf 49 = .ok (.iload_n 2, 1) := by decide +kernel
theorem dX11_sizeOf_50 : decode cX11_sizeOf 50 = .ok (.ireturn, 1) := by decide +kernel
theorem dX11_tellsNames_0 : decode cX11_tellsNames 0 = .ok (.aload_n 0, 1) := by decide +kernel
theorem dX11_tellsNames_1 : decode cX11_tellsNames 1 = .ok (.getfield 31, 3) := by decide +kernel
theorem dX11_tellsNames_4 : decode cX11_tellsNames 4 = .ok (.iconst 0, 1) := by decide +kernel
theorem dX11_tellsNames_5 : decode cX11_tellsNames 5 = .ok (.iload_n 1, 1) := by decide +kernel
theorem dX11_tellsNames_6 : decode cX11_tellsNames 6 = .ok (.iastore, 1) := by decide +kernel
theorem dX11_tellsNames_7 : decode cX11_tellsNames 7 = .ok (.aload_n 0, 1) := by decide +kernel
theorem dX11_tellsNames_8 : decode cX11_tellsNames 8 = .ok (.getfield 31, 3) := by decide +kernel
theorem dX11_tellsNames_11 : decode cX11_tellsNames 11 = .ok (.iconst 1, 1) := by decide +kernel
theorem dX11_tellsNames_12 : decode cX11_tellsNames 12 = .ok (.aload_n 0, 1) := by decide +kernel
theorem dX11_tellsNames_13 : decode cX11_tellsNames 13 = .ok (.getfield 200, 3) := by decide +kernel
theorem dX11_tellsNames_16 : decode cX11_tellsNames 16 = .ok (.iastore, 1) := by decide +kernel
theorem dX11_tellsNames_17 : decode cX11_tellsNames 17 = .ok (.iconst 0, 1) := by decide +kernel
theorem dX11_tellsNames_18 : decode cX11_tellsNames 18 = .ok (.istore_n 3, 1) := by decide +kernel
theorem dX11_tellsNames_19 : decode cX11_tellsNames 19 = .ok (.iload_n 3, 1) := by decide +kernel
theorem dX11_tellsNames_20 : decode cX11_tellsNames 20 = .ok (.iconst 4, 1) := by decide +kernel
theorem dX11_tellsNames_21 : decode cX11_tellsNames 21 = .ok (.if_icmp .ge 25, 3) := by decide +kernel
theorem dX11_tellsNames_24 : decode cX11_tellsNames 24 = .ok (.aload_n 0, 1) := by decide +kernel
theorem dX11_tellsNames_25 : decode cX11_tellsNames 25 = .ok (.getfield 31, 3) := by decide +kernel
theorem dX11_tellsNames_28 : decode cX11_tellsNames 28 = .ok (.iconst 2, 1) := by decide +kernel
theorem dX11_tellsNames_29 : decode cX11_tellsNames 29 = .ok (.iload_n 3, 1) := by decide +kernel
theorem dX11_tellsNames_30 : decode cX11_tellsNames 30 = .ok (.iadd, 1) := by decide +kernel
theorem dX11_tellsNames_31 : decode cX11_tellsNames 31 = .ok (.aload_n 0, 1) := by decide +kernel
theorem dX11_tellsNames_32 : decode cX11_tellsNames 32 = .ok (.getfield 43, 3) := by decide +kernel
theorem dX11_tellsNames_35 : decode cX11_tellsNames 35 = .ok (.iload_n 3, 1) := by decide +kernel
theorem dX11_tellsNames_36 : decode cX11_tellsNames 36 = .ok (.aaload, 1) := by decide +kernel
theorem dX11_tellsNames_37 : decode cX11_tellsNames 37 = .ok (.iload_n 2, 1) := by decide +kernel
theorem dX11_tellsNames_38 : decode cX11_tellsNames 38 = .ok (.iaload, 1) := by decide +kernel
theorem dX11_tellsNames_39 : decode cX11_tellsNames 39 = .ok (.iastore, 1) := by decide +kernel
theorem dX11_tellsNames_40 : decode cX11_tellsNames 40 = .ok (.iinc 3 1, 3) := by decide +kernel
theorem dX11_tellsNames_43 : decode cX11_tellsNames 43 = .ok (.goto (-24), 3) := by decide +kernel
theorem dX11_tellsNames_46 : decode cX11_tellsNames 46 = .ok (.aload_n 0, 1) := by decide +kernel
theorem dX11_tellsNames_47 : decode cX11_tellsNames 47 = .ok (.getfield 31, 3) := by decide +kernel
theorem dX11_tellsNames_50 : decode cX11_tellsNames 50 = .ok (.bipush 6, 2) := by decide +kernel
theorem dX11_tellsNames_52 : decode cX11_tellsNames 52 = .ok (.aload_n 0, 1) := by decide +kernel
theorem dX11_tellsNames_53 : decode cX11_tellsNames 53 = .ok (.getfield 40, 3) := by decide +kernel
theorem dX11_tellsNames_56 : decode cX11_tellsNames 56 = .ok (.iconst 5, 1) := by decide +kernel
theorem dX11_tellsNames_57 : decode cX11_tellsNames 57 = .ok (.iaload, 1) := by decide +kernel
theorem dX11_tellsNames_58 : decode cX11_tellsNames 58 = .ok (.iastore, 1) := by decide +kernel
theorem dX11_tellsNames_59 : decode cX11_tellsNames 59 = .ok (.aload_n 0, 1) := by decide +kernel
theorem dX11_tellsNames_60 : decode cX11_tellsNames 60 = .ok (.getfield 31, 3) := by decide +kernel
theorem dX11_tellsNames_63 : decode cX11_tellsNames 63 = .ok (.bipush 7, 2) := by decide +kernel
theorem dX11_tellsNames_65 : decode cX11_tellsNames 65 = .ok (.aload_n 0, 1) := by decide +kernel
theorem dX11_tellsNames_66 : decode cX11_tellsNames 66 = .ok (.getfield 40, 3) := by decide +kernel
theorem dX11_tellsNames_69 : decode cX11_tellsNames 69 = .ok (.bipush 6, 2) := by decide +kernel
theorem dX11_tellsNames_71 : decode cX11_tellsNames 71 = .ok (.iaload, 1) := by decide +kernel
theorem dX11_tellsNames_72 : decode cX11_tellsNames 72 = .ok (.iastore, 1) := by decide +kernel
theorem dX11_tellsNames_73 : decode cX11_tellsNames 73 = .ok (.aload_n 0, 1) := by decide +kernel
theorem dX11_tellsNames_74 : decode cX11_tellsNames 74 = .ok (.getfield 31, 3) := by decide +kernel
theorem dX11_tellsNames_77 : decode cX11_tellsNames 77 = .ok (.bipush 8, 2) := by decide +kernel
theorem dX11_tellsNames_79 : decode cX11_tellsNames 79 = .ok (.iload_n 2, 1) := by decide +kernel
theorem dX11_tellsNames_80 : decode cX11_tellsNames 80 = .ok (.iastore, 1) := by decide +kernel
theorem dX11_tellsNames_81 : decode cX11_tellsNames 81 = .ok (.return_, 1) := by decide +kernel
theorem dX11_beside_0 : decode cX11_beside 0 = .ok (.iload_n 3, 1) := by decide +kernel
theorem dX11_beside_1 : decode cX11_beside 1 = .ok (.ifCond .lt 11, 3) := by decide +kernel
theorem dX11_beside_4 : decode cX11_beside 4 = .ok (.iload_n 3, 1) := by decide +kernel
theorem dX11_beside_5 : decode cX11_beside 5 = .ok (.aload_n 0, 1) := by decide +kernel
theorem dX11_beside_6 : decode cX11_beside 6 = .ok (.getfield 37, 3) := by decide +kernel
theorem dX11_beside_9 : decode cX11_beside 9 = .ok (.if_icmp .lt 5, 3) := by decide +kernel
theorem dX11_beside_12 : decode cX11_beside 12 = .ok (.iconst 0, 1) := by decide +kernel
theorem dX11_beside_13 : decode cX11_beside 13 = .ok (.ireturn, 1) := by decide +kernel
theorem dX11_beside_14 : decode cX11_beside 14 = .ok (.aload_n 0, 1) := by decide +kernel
theorem dX11_beside_15 : decode cX11_beside 15 = .ok (.getfield 52, 3) := by decide +kernel
theorem dX11_beside_18 : decode cX11_beside 18 = .ok (.iload_n 2, 1) := by decide +kernel
theorem dX11_beside_19 : decode cX11_beside 19 = .ok (.iload_n 3, 1) := by decide +kernel
theorem dX11_beside_20 : decode cX11_beside 20 = .ok (.if_icmp .ge 7, 3) := by decide +kernel
theorem dX11_beside_23 : decode cX11_beside 23 = .ok (.iload_n 2, 1) := by decide +kernel
theorem dX11_beside_24 : decode cX11_beside 24 = .ok (.goto 4, 3) := by decide +kernel
theorem dX11_beside_27 : decode cX11_beside 27 = .ok (.iload_n 3, 1) := by decide +kernel
theorem dX11_beside_28 : decode cX11_beside 28 = .ok (.baload, 1) := by decide +kernel
theorem dX11_beside_29 : decode cX11_beside 29 = .ok (.ifCond .eq 14, 3) := by decide +kernel
theorem dX11_beside_32 : decode cX11_beside 32 = .ok (.aload_n 0, 1) := by decide +kernel
theorem dX11_beside_33 : decode cX11_beside 33 = .ok (.getfield 43, 3) := by decide +kernel
theorem dX11_beside_36 : decode cX11_beside 36 = .ok (.iload_n 1, 1) := by decide +kernel
theorem dX11_beside_37 : decode cX11_beside 37 = .ok (.aaload, 1) := by decide +kernel
theorem dX11_beside_38 : decode cX11_beside 38 = .ok (.iload_n 2, 1) := by decide +kernel
theorem dX11_beside_39 : decode cX11_beside 39 = .ok (.iaload, 1) := by decide +kernel
theorem dX11_beside_40 : decode cX11_beside 40 = .ok (.goto 11, 3) := by decide +kernel
theorem dX11_beside_43 : decode cX11_beside 43 = .ok (.aload_n 0, 1) := by decide +kernel
theorem dX11_beside_44 : decode cX11_beside 44 = .ok (.getfield 43, 3) := by decide +kernel
theorem dX11_beside_47 : decode cX11_beside 47 = .ok (.iload_n 1, 1) := by decide +kernel
theorem dX11_beside_48 : decode cX11_beside 48 = .ok (.aaload, 1) := by decide +kernel
theorem dX11_beside_49 : decode cX11_beside 49 = .ok (.iload_n 3, 1) := by decide +kernel
theorem dX11_beside_50 : decode cX11_beside 50 = .ok (.iaload, 1) := by decide +kernel
theorem dX11_beside_51 : decode cX11_beside 51 = .ok (.ireturn, 1) := by decide +kernel
theorem dX11_pulls_0 : decode cX11_pulls 0 = .ok (.aload_n 0, 1) := by decide +kernel
theorem dX11_pulls_1 : decode cX11_pulls 1 = .ok (.getfield 43, 3) := by decide +kernel
theorem dX11_pulls_4 : decode cX11_pulls 4 = .ok (.iload_n 1, 1) := by decide +kernel
theorem dX11_pulls_5 : decode cX11_pulls 5 = .ok (.aaload, 1) := by decide +kernel
theorem dX11_pulls_6 : decode cX11_pulls 6 = .ok (.iload_n 2, 1) := by decide +kernel
theorem dX11_pulls_7 : decode cX11_pulls 7 = .ok (.iaload, 1) := by decide +kernel
theorem dX11_pulls_8 : decode cX11_pulls 8 = .ok (.istore_n 3, 1) := by decide +kernel
theorem dX11_pulls_9 : decode cX11_pulls 9 = .ok (.aload_n 0, 1) := by decide +kernel
theorem dX11_pulls_10 : decode cX11_pulls 10 = .ok (.getfield 40, 3) := by decide +kernel
theorem dX11_pulls_13 : decode cX11_pulls 13 = .ok (.iconst 1, 1) := by decide +kernel
theorem dX11_pulls_14 : decode cX11_pulls 14 = .ok (.iload_n 1, 1) := by decide +kernel
theorem dX11_pulls_15 : decode cX11_pulls 15 = .ok (.iadd, 1) := by decide +kernel
theorem dX11_pulls_16 : decode cX11_pulls 16 = .ok (.iaload, 1) := by decide +kernel
theorem dX11_pulls_17 : decode cX11_pulls 17 = .ok (.aload_n 0, 1) := by decide +kernel
theorem dX11_pulls_18 : decode cX11_pulls 18 = .ok (.iload_n 1, 1) := by decide +kernel
theorem dX11_pulls_19 : decode cX11_pulls 19 = .ok (.iload_n 2, 1) := by decide +kernel
theorem dX11_pulls_20 : decode cX11_pulls 20 = .ok (.iload_n 2, 1) := by decide +kernel
theorem dX11_pulls_21 : decode cX11_pulls 21 = .ok (.iconst 1, 1) := by decide +kernel
theorem dX11_pulls_22 : decode cX11_pulls 22 = .ok (.isub, 1) := by decide +kernel
theorem dX11_pulls_23 : decode cX11_pulls 23 = .ok (.invokevirtual 227, 3) := by decide +kernel
theorem dX11_pulls_26 : decode cX11_pulls 26 = .ok (.aload_n 0, 1) := by decide +kernel
theorem dX11_pulls_27 : decode cX11_pulls 27 = .ok (.iload_n 1, 1) := by decide +kernel
theorem dX11_pulls_28 : decode cX11_pulls 28 = .ok (.iload_n 2, 1) := by decide +kernel
theorem dX11_pulls_29 : decode cX11_pulls 29 = .ok (.iload_n 2, 1) := by decide +kernel
theorem dX11_pulls_30 : decode cX11_pulls 30 = .ok (.iconst 1, 1) := by decide +kernel
theorem dX11_pulls_31 : decode cX11_pulls 31 = .ok (.iadd, 1) := by decide +kernel
theorem dX11_pulls_32 : decode cX11_pulls 32 = .ok (.invokevirtual 227, 3) := by decide +kernel
theorem dX11_pulls_35 : decode cX11_pulls 35 = .ok (.iadd, 1) := by decide +kernel
theorem dX11_pulls_36 : decode cX11_pulls 36 = .ok (.iconst 2, 1) := by decide +kernel
theorem dX11_pulls_37 : decode cX11_pulls 37 = .ok (.iload_n 3, 1) := by decide +kernel
theorem dX11_pulls_38 : decode cX11_pulls 38 = .ok (.imul, 1) := by decide +kernel
theorem dX11_pulls_39 : decode cX11_pulls 39 = .ok (.isub, 1) := by decide +kernel
theorem dX11_pulls_40 : decode cX11_pulls 40 = .ok (.imul, 1) := by decide +kernel
theorem dX11_pulls_41 : decode cX11_pulls 41 = .ok (.istore 4, 2) := by decide +kernel
theorem dX11_pulls_43 : decode cX11_pulls 43 = .ok (.iload_n 1, 1) := by decide +kernel
theorem dX11_pulls_44 : decode cX11_pulls 44 = .ok (.ifCond .ne 17, 3) := by decide +kernel
theorem dX11_pulls_47 : decode cX11_pulls 47 = .ok (.iload 4, 2) := by decide +kernel
theorem dX11_pulls_49 : decode cX11_pulls 49 = .ok (.aload_n 0, 1) := by decide +kernel
theorem dX11_pulls_50 : decode cX11_pulls 50 = .ok (.getfield 40, 3) := by decide +kernel
theorem dX11_pulls_53 : decode cX11_pulls 53 = .ok (.iconst 3, 1) := by decide +kernel
theorem dX11_pulls_54 : decode cX11_pulls 54 = .ok (.iaload, 1) := by decide +kernel
theorem dX11_pulls_55 : decode cX11_pulls 55 = .ok (.iload_n 3, 1) := by decide +kernel
theorem dX11_pulls_56 : decode cX11_pulls 56 = .ok (.imul, 1) := by decide +kernel
theorem dX11_pulls_57 : decode cX11_pulls 57 = .ok (.isub, 1) := by decide +kernel
theorem dX11_pulls_58 : decode cX11_pulls 58 = .ok (.goto 30, 3) := by decide +kernel
theorem dX11_pulls_61 : decode cX11_pulls 61 = .ok (.aload_n 0, 1) := by decide +kernel
theorem dX11_pulls_62 : decode cX11_pulls 62 = .ok (.getfield 49, 3) := by decide +kernel
theorem dX11_pulls_65 : decode cX11_pulls 65 = .ok (.iload_n 2, 1) := by decide +kernel
theorem dX11_pulls_66 : decode cX11_pulls 66 = .ok (.iaload, 1) := by decide +kernel
theorem dX11_pulls_67 : decode cX11_pulls 67 = .ok (.iconst 2, 1) := by decide +kernel
theorem dX11_pulls_68 : decode cX11_pulls 68 = .ok (.if_icmp .ne 18, 3) := by decide +kernel
theorem dX11_pulls_71 : decode cX11_pulls 71 = .ok (.iload 4, 2) := by decide +kernel
theorem dX11_pulls_73 : decode cX11_pulls 73 = .ok (.aload_n 0, 1) := by decide +kernel
theorem dX11_pulls_74 : decode cX11_pulls 74 = .ok (.getfield 40, 3) := by decide +kernel
theorem dX11_pulls_77 : decode cX11_pulls 77 = .ok (.bipush 8, 2) := by decide +kernel
theorem dX11_pulls_79 : decode cX11_pulls 79 = .ok (.iaload, 1) := by decide +kernel
theorem dX11_pulls_80 : decode cX11_pulls 80 = .ok (.iload_n 3, 1) := by decide +kernel
theorem dX11_pulls_81 : decode cX11_pulls 81 = .ok (.imul, 1) := by decide +kernel
theorem dX11_pulls_82 : decode cX11_pulls 82 = .ok (.isub, 1) := by decide +kernel
theorem dX11_pulls_83 : decode cX11_pulls 83 = .ok (.goto 5, 3) := by decide +kernel
theorem dX11_pulls_86 : decode cX11_pulls 86 = .ok (.iload 4, 2) := by decide +kernel
theorem dX11_pulls_88 : decode cX11_pulls 88 = .ok (.ireturn, 1) := by decide +kernel
theorem dX11_tick_0 : decode cX11_tick 0 = .ok (.iconst 0, 1) := by decide +kernel
theorem dX11_tick_1 : decode cX11_tick 1 = .ok (.istore_n 3, 1) := by decide +kernel
theorem dX11_tick_2 : decode cX11_tick 2 = .ok (.iload_n 3, 1) := by decide +kernel
theorem dX11_tick_3 : decode cX11_tick 3 = .ok (.aload_n 0, 1) := by decide +kernel
theorem dX11_tick_4 : decode cX11_tick 4 = .ok (.getfield 37, 3) := by decide +kernel
theorem dX11_tick_7 : decode cX11_tick 7 = .ok (.if_icmp .ge 157, 3) := by decide +kernel
theorem dX11_tick_10 : decode cX11_tick 10 = .ok (.aload_n 0, 1) := by decide +kernel
theorem dX11_tick_11 : decode cX11_tick 11 = .ok (.iload_n 2, 1) := by decide +kernel
theorem dX11_tick_12 : decode cX11_tick 12 = .ok (.iload_n 3, 1) := by decide +kernel
theorem dX11_tick_13 : decode cX11_tick 13 = .ok (.invokevirtual 230, 3) := by decide +kernel
theorem dX11_tick_16 : decode cX11_tick 16 = .ok (.aload_n 0, 1) := by decide +kernel
theorem dX11_tick_17 : decode cX11_tick 17 = .ok (.iload_n 1, 1) := by decide +kernel
theorem dX11_tick_18 : decode cX11_tick 18 = .ok (.invokevirtual 233, 3) := by decide +kernel
theorem dX11_tick_21 : decode cX11_tick 21 = .ok (.iconst 0, 1) := by decide +kernel
theorem dX11_tick_22 : decode cX11_tick 22 = .ok (.istore 4, 2) := by decide +kernel
theorem dX11_tick_24 : decode cX11_tick 24 = .ok (.iload 4, 2) := by decide +kernel
theorem dX11_tick_26 : decode cX11_tick 26 = .ok (.iconst 2, 1) := by decide +kernel
theorem dX11_tick_27 : decode cX11_tick 27 = .ok (.if_icmp .ge 131, 3) := by decide +kernel
theorem dX11_tick_30 : decode cX11_tick 30 = .ok (.aload_n 0, 1) := by decide +kernel
theorem dX11_tick_31 : decode cX11_tick 31 = .ok (.getfield 43, 3) := by decide +kernel
theorem dX11_tick_34 : decode cX11_tick 34 = .ok (.iconst 2, 1) := by decide +kernel
theorem dX11_tick_35 : decode cX11_tick 35 = .ok (.iload 4, 2) := by decide +kernel
theorem dX11_tick_37 : decode cX11_tick 37 = .ok (.iadd, 1) := by decide +kernel
theorem dX11_tick_38 : decode cX11_tick 38 = .ok (.aaload, 1) := by decide +kernel
theorem dX11_tick_39 : decode cX11_tick 39 = .ok (.iload_n 3, 1) := by decide +kernel
theorem dX11_tick_40 : decode cX11_tick 40 = .ok (.iaload, 1) := by decide +kernel
theorem dX11_tick_41 : decode cX11_tick 41 = .ok (.istore 5, 2) := by decide +kernel
theorem dX11_tick_43 : decode cX11_tick 43 = .ok (.iload 4, 2) := by decide +kernel
theorem dX11_tick_45 : decode cX11_tick 45 = .ok (.ifCond .ne 10, 3) := by decide +kernel
theorem dX11_tick_48 : decode cX11_tick 48 = .ok (.aload_n 0, 1) := by decide +kernel
theorem dX11_tick_49 : decode cX11_tick 49 = .ok (.getfield 194, 3) := by decide +kernel
theorem dX11_tick_52 : decode cX11_tick 52 = .ok (.goto 7, 3) := by decide +kernel
theorem dX11_tick_55 : decode cX11_tick 55 = .ok (.aload_n 0, 1) := by decide +kernel
theorem dX11_tick_56 : decode cX11_tick 56 = .ok (.getfield 197, 3) := by decide +kernel
theorem dX11_tick_59 : decode cX11_tick 59 = .ok (.istore 6, 2) := by decide +kernel
theorem dX11_tick_61 : decode cX11_tick 61 = .ok (.aload_n 0, 1) := by decide +kernel
theorem dX11_tick_62 : decode cX11_tick 62 = .ok (.getfield 46, 3) := by decide +kernel
theorem dX11_tick_65 : decode cX11_tick 65 = .ok (.iconst 2, 1) := by decide +kernel
theorem dX11_tick_66 : decode cX11_tick 66 = .ok (.iload 4, 2) := by decide +kernel
theorem dX11_tick_68 : decode cX11_tick 68 = .ok (.iadd, 1) := by decide +kernel
theorem dX11_tick_69 : decode cX11_tick 69 = .ok (.aaload, 1) := by decide +kernel
theorem dX11_tick_70 : decode cX11_tick 70 = .ok (.iload_n 3, 1) := by decide +kernel
theorem dX11_tick_71 : decode cX11_tick 71 = .ok (.iload 5, 2) := by decide +kernel
theorem dX11_tick_73 : decode cX11_tick 73 = .ok (.aload_n 0, 1) := by decide +kernel
theorem dX11_tick_74 : decode cX11_tick 74 = .ok (.iload 4, 2) := by decide +kernel
theorem dX11_tick_76 : decode cX11_tick 76 = .ok (.iload_n 3, 1) := by decide +kernel
theorem dX11_tick_77 : decode cX11_tick 77 = .ok (.invokevirtual 236, 3) := by decide +kernel
theorem dX11_tick_80 : decode cX11_tick 80 = .ok (.bipush 10, 2) := by decide +kernel
theorem dX11_tick_82 : decode cX11_tick 82 = .ok (.idiv, 1) := by decide +kernel
theorem dX11_tick_83 : decode cX11_tick 83 = .ok (.iload 6, 2) := by decide +kernel
theorem dX11_tick_85 : decode cX11_tick 85 = .ok (.iadd, 1) := by decide +kernel
theorem dX11_tick_86 : decode cX11_tick 86 = .ok (.aload_n 0, 1) := by decide +kernel
theorem dX11_tick_87 : decode cX11_tick 87 = .ok (.getfield 40, 3) := by decide +kernel
theorem dX11_tick_90 : decode cX11_tick 90 = .ok (.iconst 0, 1) := by decide +kernel
theorem dX11_tick_91 : decode cX11_tick 91 = .ok (.iaload, 1) := by decide +kernel
theorem dX11_tick_92 : decode cX11_tick 92 = .ok (.idiv, 1) := by decide +kernel
theorem dX11_tick_93 : decode cX11_tick 93 = .ok (.iadd, 1) := by decide +kernel
theorem dX11_tick_94 : decode cX11_tick 94 = .ok (.aload_n 0, 1) := by decide +kernel
theorem dX11_tick_95 : decode cX11_tick 95 = .ok (.getfield 40, 3) := by decide +kernel
theorem dX11_tick_98 : decode cX11_tick 98 = .ok (.iconst 4, 1) := by decide +kernel
theorem dX11_tick_99 : decode cX11_tick 99 = .ok (.iaload, 1) := by decide +kernel
theorem dX11_tick_100 : decode cX11_tick 100 = .ok (.iload 5, 2) := by decide +kernel
theorem dX11_tick_102 : decode cX11_tick 102 = .ok (.imul, 1) := by decide +kernel
theorem dX11_tick_103 : decode cX11_tick 103 = .ok (.bipush 100, 2) := by decide +kernel
theorem dX11_tick_105 : decode cX11_tick 105 = .ok (.idiv, 1) := by decide +kernel
theorem dX11_tick_106 : decode cX11_tick 106 = .ok (.isub, 1) := by decide +kernel
theorem dX11_tick_107 : decode cX11_tick 107 = .ok (.ldc 240, 2) := by decide +kernel
theorem dX11_tick_109 : decode cX11_tick 109 = .ok (.ldc 241, 2) := by decide +kernel
theorem dX11_tick_111 : decode cX11_tick 111 = .ok (.invokestatic 191, 3) := by decide +kernel
theorem dX11_tick_114 : decode cX11_tick 114 = .ok (.iastore, 1) := by decide +kernel
theorem dX11_tick_115 : decode cX11_tick 115 = .ok (.aload_n 0, 1) := by decide +kernel
theorem dX11_tick_116 : decode cX11_tick 116 = .ok (.getfield 46, 3) := by decide +kernel
theorem dX11_tick_119 : decode cX11_tick 119 = .ok (.iload 4, 2) := by decide +kernel
theorem dX11_tick_121 : decode cX11_tick 121 = .ok (.aaload, 1) := by decide +kernel
theorem dX11_tick_122 : decode cX11_tick 122 = .ok (.iload_n 3, 1) := by decide +kernel
theorem dX11_tick_123 : decode cX11_tick 123 = .ok (.aload_n 0, 1) := by decide +kernel
theorem dX11_tick_124 : decode cX11_tick 124 = .ok (.getfield 43, 3) := by decide +kernel
theorem dX11_tick_127 : decode cX11_tick 127 = .ok (.iload 4, 2) := by decide +kernel
theorem dX11_tick_129 : decode cX11_tick 129 = .ok (.aaload, 1) := by decide +kernel
theorem dX11_tick_130 : decode cX11_tick 130 = .ok (.iload_n 3, 1) := by decide +kernel
theorem dX11_tick_131 : decode cX11_tick 131 = .ok (.iaload, 1) := by decide +kernel
theorem dX11_tick_132 : decode cX11_tick 132 = .ok (.aload_n 0, 1) := by decide +kernel
theorem dX11_tick_133 : decode cX11_tick 133 = .ok (.getfield 46, 3) := by decide +kernel
theorem dX11_tick_136 : decode cX11_tick 136 = .ok (.iconst 2, 1) := by decide +kernel
theorem dX11_tick_137 : decode cX11_tick 137 = .ok (.iload 4, 2) := by decide +kernel
theorem dX11_tick_139 : decode cX11_tick 139 = .ok (.iadd, 1) := by decide +kernel
theorem dX11_tick_140 : decode cX11_tick 140 = .ok (.aaload, 1) := by decide +kernel
theorem dX11_tick_141 : decode cX11_tick 141 = .ok (.iload_n 3, 1) := by decide +kernel
theorem dX11_tick_142 : decode cX11_tick 142 = .ok (.iaload, 1) := by decide +kernel
theorem dX11_tick_143 : decode cX11_tick 143 = .ok (.iadd, 1) := by decide +kernel
theorem dX11_tick_144 : decode cX11_tick 144 = .ok (.ldc 240, 2) := by decide +kernel
theorem dX11_tick_146 : decode cX11_tick 146 = .ok (.ldc 241, 2) := by decide +kernel
theorem dX11_tick_148 : decode cX11_tick 148 = .ok (.invokestatic 191, 3) := by decide +kernel
theorem dX11_tick_151 : decode cX11_tick 151 = .ok (.iastore, 1) := by decide +kernel
theorem dX11_tick_152 : decode cX11_tick 152 = .ok (.iinc 4 1, 3) := by decide +kernel
theorem dX11_tick_155 : decode cX11_tick 155 = .ok (.goto (-131), 3) := by decide +kernel
theorem dX11_tick_158 : decode cX11_tick 158 = .ok (.iinc 3 1, 3) := by decide +kernel
theorem dX11_tick_161 : decode cX11_tick 161 = .ok (.goto (-159), 3) := by decide +kernel
theorem dX11_tick_164 : decode cX11_tick 164 = .ok (.iconst 0, 1) := by decide +kernel
theorem dX11_tick_165 : decode cX11_tick 165 = .ok (.istore_n 3, 1) := by decide +kernel
theorem dX11_tick_166 : decode cX11_tick 166 = .ok (.iload_n 3, 1) := by decide +kernel
theorem dX11_tick_167 : decode cX11_tick 167 = .ok (.aload_n 0, 1) := by decide +kernel
theorem dX11_tick_168 : decode cX11_tick 168 = .ok (.getfield 37, 3) := by decide +kernel
theorem dX11_tick_171 : decode cX11_tick 171 = .ok (.if_icmp .ge 80, 3) := by decide +kernel
theorem dX11_tick_174 : decode cX11_tick 174 = .ok (.iconst 0, 1) := by decide +kernel
theorem dX11_tick_175 : decode cX11_tick 175 = .ok (.istore 4, 2) := by decide +kernel
theorem dX11_tick_177 : decode cX11_tick 177 = .ok (.iload 4, 2) := by decide +kernel
theorem dX11_tick_179 : decode cX11_tick 179 = .ok (.iconst 4, 1) := by decide +kernel
theorem dX11_tick_180 : decode cX11_tick 180 = .ok (.if_icmp .ge 27, 3) := by decide +kernel
theorem dX11_tick_183 : decode cX11_tick 183 = .ok (.aload_n 0, 1) := by decide +kernel
theorem dX11_tick_184 : decode cX11_tick 184 = .ok (.getfield 43, 3) := by decide +kernel
theorem dX11_tick_187 : decode cX11_tick 187 = .ok (.iload 4, 2) := by decide +kernel
theorem dX11_tick_189 : decode cX11_tick 189 = .ok (.aaload, 1) := by decide +kernel
theorem dX11_tick_190 : decode cX11_tick 190 = .ok (.iload_n 3, 1) := by decide +kernel
theorem dX11_tick_191 : decode cX11_tick 191 = .ok (.aload_n 0, 1) := by decide +kernel
theorem dX11_tick_192 : decode cX11_tick 192 = .ok (.getfield 46, 3) := by decide +kernel
theorem dX11_tick_195 : decode cX11_tick 195 = .ok (.iload 4, 2) := by decide +kernel
theorem dX11_tick_197 : decode cX11_tick 197 = .ok (.aaload, 1) := by decide +kernel
theorem dX11_tick_198 : decode cX11_tick 198 = .ok (.iload_n 3, 1) := by decide +kernel
theorem dX11_tick_199 : decode cX11_tick 199 = .ok (.iaload, 1) := by decide +kernel
theorem dX11_tick_200 : decode cX11_tick 200 = .ok (.iastore, 1) := by decide +kernel
theorem dX11_tick_201 : decode cX11_tick 201 = .ok (.iinc 4 1, 3) := by decide +kernel
theorem dX11_tick_204 : decode cX11_tick 204 = .ok (.goto (-27), 3) := by decide +kernel
theorem dX11_tick_207 : decode cX11_tick 207 = .ok (.aload_n 0, 1) := by decide +kernel
theorem dX11_tick_208 : decode cX11_tick 208 = .ok (.getfield 49, 3) := by decide +kernel
theorem dX11_tick_211 : decode cX11_tick 211 = .ok (.iload_n 3, 1) := by decide +kernel
theorem dX11_tick_212 : decode cX11_tick 212 = .ok (.iaload, 1) := by decide +kernel
theorem dX11_tick_213 : decode cX11_tick 213 = .ok (.iconst 2, 1) := by decide +kernel
theorem dX11_tick_214 : decode cX11_tick 214 = .ok (.if_icmp .ne 31, 3) := by decide +kernel
theorem dX11_tick_217 : decode cX11_tick 217 = .ok (.aload_n 0, 1) := by decide +kernel
theorem dX11_tick_218 : decode cX11_tick 218 = .ok (.getfield 43, 3) := by decide +kernel
theorem dX11_tick_221 : decode cX11_tick 221 = .ok (.iconst 1, 1) := by decide +kernel
theorem dX11_tick_222 : decode cX11_tick 222 = .ok (.aaload, 1) := by decide +kernel
theorem dX11_tick_223 : decode cX11_tick 223 = .ok (.iload_n 3, 1) := by decide +kernel
theorem dX11_tick_224 : decode cX11_tick 224 = .ok (.iaload, 1) := by decide +kernel
theorem dX11_tick_225 : decode cX11_tick 225 = .ok (.invokestatic 224, 3) := by decide +kernel
theorem dX11_tick_228 : decode cX11_tick 228 = .ok (.aload_n 0, 1) := by decide +kernel
theorem dX11_tick_229 : decode cX11_tick 229 = .ok (.getfield 40, 3) := by decide +kernel
theorem dX11_tick_232 : decode cX11_tick 232 = .ok (.bipush 7, 2) := by decide +kernel
theorem dX11_tick_234 : decode cX11_tick 234 = .ok (.iaload, 1) := by decide +kernel
theorem dX11_tick_235 : decode cX11_tick 235 = .ok (.if_icmp .le 10, 3) := by decide +kernel
theorem dX11_tick_238 : decode cX11_tick 238 = .ok (.aload_n 0, 1) := by decide +kernel
theorem dX11_tick_239 : decode cX11_tick 239 = .ok (.getfield 49, 3) := by decide +kernel
theorem dX11_tick_242 : decode cX11_tick 242 = .ok (.iload_n 3, 1) := by decide +kernel
theorem dX11_tick_243 : decode cX11_tick 243 = .ok (.iconst 1, 1) := by decide +kernel
theorem dX11_tick_244 : decode cX11_tick 244 = .ok (.iastore, 1) := by decide +kernel
theorem dX11_tick_245 : decode cX11_tick 245 = .ok (.iinc 3 1, 3) := by decide +kernel
theorem dX11_tick_248 : decode cX11_tick 248 = .ok (.goto (-82), 3) := by decide +kernel
theorem dX11_tick_251 : decode cX11_tick 251 = .ok (.iconst 0, 1) := by decide +kernel
theorem dX11_tick_252 : decode cX11_tick 252 = .ok (.istore_n 3, 1) := by decide +kernel
theorem dX11_tick_253 : decode cX11_tick 253 = .ok (.iload_n 3, 1) := by decide +kernel
theorem dX11_tick_254 : decode cX11_tick 254 = .ok (.iconst 1, 1) := by decide +kernel
theorem dX11_tick_255 : decode cX11_tick 255 = .ok (.iadd, 1) := by decide +kernel
theorem dX11_tick_256 : decode cX11_tick 256 = .ok (.aload_n 0, 1) := by decide +kernel
theorem dX11_tick_257 : decode cX11_tick 257 = .ok (.getfield 37, 3) := by decide +kernel
theorem dX11_tick_260 : decode cX11_tick 260 = .ok (.if_icmp .ge 58, 3) := by decide +kernel
theorem dX11_tick_263 : decode cX11_tick 263 = .ok (.aload_n 0, 1) := by decide +kernel
theorem dX11_tick_264 : decode cX11_tick 264 = .ok (.getfield 40, 3) := by decide +kernel
theorem dX11_tick_267 : decode cX11_tick 267 = .ok (.bipush 9, 2) := by decide +kernel
theorem dX11_tick_269 : decode cX11_tick 269 = .ok (.iaload, 1) := by decide +kernel
theorem dX11_tick_270 : decode cX11_tick 270 = .ok (.ifCond .le 42, 3) := by decide +kernel
theorem dX11_tick_273 : decode cX11_tick 273 = .ok (.aload_n 0, 1) := by decide +kernel
theorem dX11_tick_274 : decode cX11_tick 274 = .ok (.getfield 43, 3) := by decide +kernel
theorem dX11_tick_277 : decode cX11_tick 277 = .ok (.iconst 1, 1) := by decide +kernel
theorem dX11_tick_278 : decode cX11_tick 278 = .ok (.aaload, 1) := by decide +kernel
theorem dX11_tick_279 : decode cX11_tick 279 = .ok (.iload_n 3, 1) := by decide +kernel
theorem dX11_tick_280 : decode cX11_tick 280 = .ok (.iaload, 1) := by decide +kernel
theorem dX11_tick_281 : decode cX11_tick 281 = .ok (.aload_n 0, 1) := by decide +kernel
theorem dX11_tick_282 : decode cX11_tick 282 = .ok (.getfield 43, 3) := by decide +kernel
theorem dX11_tick_285 : decode cX11_tick 285 = .ok (.iconst 1, 1) := by decide +kernel
theorem dX11_tick_286 : decode cX11_tick 286 = .ok (.aaload, 1) := by decide +kernel
theorem dX11_tick_287 : decode cX11_tick 287 = .ok (.iload_n 3, 1) := by decide +kernel
theorem dX11_tick_288 : decode cX11_tick 288 = .ok (.iconst 1, 1) := by decide +kernel
theorem dX11_tick_289 : decode cX11_tick 289 = .ok (.iadd, 1) := by decide +kernel
theorem dX11_tick_290 : decode cX11_tick 290 = .ok (.iaload, 1) := by decide +kernel
theorem dX11_tick_291 : decode cX11_tick 291 = .ok (.isub, 1) := by decide +kernel
theorem dX11_tick_292 : decode cX11_tick 292 = .ok (.invokestatic 224, 3) := by decide +kernel
theorem dX11_tick_295 : decode cX11_tick 295 = .ok (.aload_n 0, 1) := by decide +kernel
theorem dX11_tick_296 : decode cX11_tick 296 = .ok (.getfield 40, 3) := by decide +kernel
theorem dX11_tick_299 : decode cX11_tick 299 = .ok (.bipush 9, 2) := by decide +kernel
theorem dX11_tick_301 : decode cX11_tick 301 = .ok (.iaload, 1) := by decide +kernel
theorem dX11_tick_302 : decode cX11_tick 302 = .ok (.if_icmp .le 10, 3) := by decide +kernel
theorem dX11_tick_305 : decode cX11_tick 305 = .ok (.aload_n 0, 1) := by decide +kernel
theorem dX11_tick_306 : decode cX11_tick 306 = .ok (.getfield 52, 3) := by decide +kernel
theorem dX11_tick_309 : decode cX11_tick 309 = .ok (.iload_n 3, 1) := by decide +kernel
theorem dX11_tick_310 : decode cX11_tick 310 = .ok (.iconst 1, 1) := by decide +kernel
theorem dX11_tick_311 : decode cX11_tick 311 = .ok (.bastore, 1) := by decide +kernel
theorem dX11_tick_312 : decode cX11_tick 312 = .ok (.iinc 3 1, 3) := by decide +kernel
theorem dX11_tick_315 : decode cX11_tick 315 = .ok (.goto (-62), 3) := by decide +kernel
theorem dX11_tick_318 : decode cX11_tick 318 = .ok (.aload_n 0, 1) := by decide +kernel
theorem dX11_tick_319 : decode cX11_tick 319 = .ok (.dup, 1) := by decide +kernel
theorem dX11_tick_320 : decode cX11_tick 320 = .ok (.getfield 200, 3) := by decide +kernel
theorem dX11_tick_323 : decode cX11_tick 323 = .ok (.iconst 1, 1) := by decide +kernel
theorem dX11_tick_324 : decode cX11_tick 324 = .ok (.iadd, 1) := by decide +kernel
theorem dX11_tick_325 : decode cX11_tick 325 = .ok (.putfield 200, 3) := by decide +kernel
theorem dX11_tick_328 : decode cX11_tick 328 = .ok (.return_, 1) := by decide +kernel
theorem dX11_isLaw_0 : decode cX11_isLaw 0 = .ok (.iload_n 1, 1) := by decide +kernel
theorem dX11_isLaw_1 : decode cX11_isLaw 1 = .ok (.iconst 0, 1) := by decide +kernel
theorem dX11_isLaw_2 : decode cX11_isLaw 2 = .ok (.aload_n 0, 1) := by decide +kernel
theorem dX11_isLaw_3 : decode cX11_isLaw 3 = .ok (.getfield 180, 3) := by decide +kernel
theorem dX11_isLaw_6 : decode cX11_isLaw 6 = .ok (.iconst 1, 1) := by decide +kernel
theorem dX11_isLaw_7 : decode cX11_isLaw 7 = .ok (.isub, 1) := by decide +kernel
theorem dX11_isLaw_8 : decode cX11_isLaw 8 = .ok (.invokestatic 172, 3) := by decide +kernel
theorem dX11_isLaw_11 : decode cX11_isLaw 11 = .ok (.ireturn, 1) := by decide +kernel
theorem dX11_go_0 : decode cX11_go 0 = .ok (.aload_n 0, 1) := by decide +kernel
theorem dX11_go_1 : decode cX11_go 1 = .ok (.iconst 0, 1) := by decide +kernel
theorem dX11_go_2 : decode cX11_go 2 = .ok (.putfield 83, 3) := by decide +kernel
theorem dX11_go_5 : decode cX11_go 5 = .ok (.aload_n 0, 1) := by decide +kernel
theorem dX11_go_6 : decode cX11_go 6 = .ok (.aload_n 0, 1) := by decide +kernel
theorem dX11_go_7 : decode cX11_go 7 = .ok (.iload_n 1, 1) := by decide +kernel
theorem dX11_go_8 : decode cX11_go 8 = .ok (.invokevirtual 242, 3) := by decide +kernel
theorem dX11_go_11 : decode cX11_go 11 = .ok (.ifCond .ne 7, 3) := by decide +kernel
theorem dX11_go_14 : decode cX11_go 14 = .ok (.iconst 1, 1) := by decide +kernel
theorem dX11_go_15 : decode cX11_go 15 = .ok (.goto 4, 3) := by decide +kernel
theorem dX11_go_18 : decode cX11_go 18 = .ok (.iconst 0, 1) := by decide +kernel
theorem dX11_go_19 : decode cX11_go 19 = .ok (.iconst 1, 1) := by decide +kernel
theorem dX11_go_20 : decode cX11_go 20 = .ok (.invokevirtual 176, 3) := by decide +kernel
theorem dX11_go_23 : decode cX11_go 23 = .ok (.ifCond .ne 36, 3) := by decide +kernel
theorem dX11_go_26 : decode cX11_go 26 = .ok (.aload_n 0, 1) := by decide +kernel
theorem dX11_go_27 : decode cX11_go 27 = .ok (.iload_n 3, 1) := by decide +kernel
theorem dX11_go_28 : decode cX11_go 28 = .ok (.iconst 0, 1) := by decide +kernel
theorem dX11_go_29 : decode cX11_go 29 = .ok (.bipush 100, 2) := by decide +kernel
theorem dX11_go_31 : decode cX11_go 31 = .ok (.invokestatic 172, 3) := by decide +kernel
theorem dX11_go_34 : decode cX11_go 34 = .ok (.ifCond .eq 13, 3) := by decide +kernel
theorem dX11_go_37 : decode cX11_go 37 = .ok (.iload_n 2, 1) := by decide +kernel
theorem dX11_go_38 : decode cX11_go 38 = .ok (.iconst 0, 1) := by decide +kernel
theorem dX11_go_39 : decode cX11_go 39 = .ok (.bipush 99, 2) := by decide +kernel
theorem dX11_go_41 : decode cX11_go 41 = .ok (.invokestatic 172, 3) := by decide +kernel
theorem dX11_go_44 : decode cX11_go 44 = .ok (.ifCond .ne 7, 3) := by decide +kernel
theorem dX11_go_47 : decode cX11_go 47 = .ok (.iconst 1, 1) := by decide +kernel
theorem dX11_go_48 : decode cX11_go 48 = .ok (.goto 4, 3) := by decide +kernel
theorem dX11_go_51 : decode cX11_go 51 = .ok (.iconst 0, 1) := by decide +kernel
theorem dX11_go_52 : decode cX11_go 52 = .ok (.iconst 2, 1) := by decide +kernel
theorem dX11_go_53 : decode cX11_go 53 = .ok (.invokevirtual 176, 3) := by decide +kernel
theorem dX11_go_56 : decode cX11_go 56 = .ok (.ifCond .eq 5, 3) := by decide +kernel
theorem dX11_go_59 : decode cX11_go 59 = .ok (.iconst 0, 1) := by decide +kernel
theorem dX11_go_60 : decode cX11_go 60 = .ok (.ireturn, 1) := by decide +kernel
theorem dX11_go_61 : decode cX11_go 61 = .ok (.iconst 0, 1) := by decide +kernel
theorem dX11_go_62 : decode cX11_go 62 = .ok (.istore 4, 2) := by decide +kernel
theorem dX11_go_64 : decode cX11_go 64 = .ok (.iload 4, 2) := by decide +kernel
theorem dX11_go_66 : decode cX11_go 66 = .ok (.iload_n 3, 1) := by decide +kernel
theorem dX11_go_67 : decode cX11_go 67 = .ok (.if_icmp .ge 15, 3) := by decide +kernel
theorem dX11_go_70 : decode cX11_go 70 = .ok (.aload_n 0, 1) := by decide +kernel
theorem dX11_go_71 : decode cX11_go 71 = .ok (.iload_n 1, 1) := by decide +kernel
theorem dX11_go_72 : decode cX11_go 72 = .ok (.iload_n 2, 1) := by decide +kernel
theorem dX11_go_73 : decode cX11_go 73 = .ok (.invokevirtual 245, 3) := by decide +kernel
theorem dX11_go_76 : decode cX11_go 76 = .ok (.iinc 4 1, 3) := by decide +kernel
theorem dX11_go_79 : decode cX11_go 79 = .ok (.goto (-15), 3) := by decide +kernel
theorem dX11_go_82 : decode cX11_go 82 = .ok (.aload_n 0, 1) := by decide +kernel
theorem dX11_go_83 : decode cX11_go 83 = .ok (.iconst 1, 1) := by decide +kernel
theorem dX11_go_84 : decode cX11_go 84 = .ok (.invokevirtual 221, 3) := by decide +kernel
theorem dX11_go_87 : decode cX11_go 87 = .ok (.ireturn, 1) := by decide +kernel
theorem dX11_piece_0 : decode cX11_piece 0 = .ok (.aload_n 0, 1) := by decide +kernel
theorem dX11_piece_1 : decode cX11_piece 1 = .ok (.iconst 0, 1) := by decide +kernel
theorem dX11_piece_2 : decode cX11_piece 2 = .ok (.putfield 83, 3) := by decide +kernel
theorem dX11_piece_5 : decode cX11_piece 5 = .ok (.aload_n 0, 1) := by decide +kernel
theorem dX11_piece_6 : decode cX11_piece 6 = .ok (.aload_n 0, 1) := by decide +kernel
theorem dX11_piece_7 : decode cX11_piece 7 = .ok (.iload_n 1, 1) := by decide +kernel
theorem dX11_piece_8 : decode cX11_piece 8 = .ok (.invokevirtual 210, 3) := by decide +kernel
theorem dX11_piece_11 : decode cX11_piece 11 = .ok (.ifCond .ne 7, 3) := by decide +kernel
theorem dX11_piece_14 : decode cX11_piece 14 = .ok (.iconst 1, 1) := by decide +kernel
theorem dX11_piece_15 : decode cX11_piece 15 = .ok (.goto 4, 3) := by decide +kernel
theorem dX11_piece_18 : decode cX11_piece 18 = .ok (.iconst 0, 1) := by decide +kernel
theorem dX11_piece_19 : decode cX11_piece 19 = .ok (.iconst 1, 1) := by decide +kernel
theorem dX11_piece_20 : decode cX11_piece 20 = .ok (.invokevirtual 176, 3) := by decide +kernel
theorem dX11_piece_23 : decode cX11_piece 23 = .ok (.ifCond .ne 25, 3) := by decide +kernel
theorem dX11_piece_26 : decode cX11_piece 26 = .ok (.aload_n 0, 1) := by decide +kernel
theorem dX11_piece_27 : decode cX11_piece 27 = .ok (.iload_n 2, 1) := by decide +kernel
theorem dX11_piece_28 : decode cX11_piece 28 = .ok (.iconst 0, 1) := by decide +kernel
theorem dX11_piece_29 : decode cX11_piece 29 = .ok (.iconst 5, 1) := by decide +kernel
theorem dX11_piece_30 : decode cX11_piece 30 = .ok (.invokestatic 172, 3) := by decide +kernel
theorem dX11_piece_33 : decode cX11_piece 33 = .ok (.ifCond .ne 7, 3) := by decide +kernel
theorem dX11_piece_36 : decode cX11_piece 36 = .ok (.iconst 1, 1) := by decide +kernel
theorem dX11_piece_37 : decode cX11_piece 37 = .ok (.goto 4, 3) := by decide +kernel
theorem dX11_piece_40 : decode cX11_piece 40 = .ok (.iconst 0, 1) := by decide +kernel
theorem dX11_piece_41 : decode cX11_piece 41 = .ok (.iconst 2, 1) := by decide +kernel
theorem dX11_piece_42 : decode cX11_piece 42 = .ok (.invokevirtual 176, 3) := by decide +kernel
theorem dX11_piece_45 : decode cX11_piece 45 = .ok (.ifCond .eq 5, 3) := by decide +kernel
theorem dX11_piece_48 : decode cX11_piece 48 = .ok (.iconst 0, 1) := by decide +kernel
theorem dX11_piece_49 : decode cX11_piece 49 = .ok (.ireturn, 1) := by decide +kernel
theorem dX11_piece_50 : decode cX11_piece 50 = .ok (.iload_n 2, 1) := by decide +kernel
theorem dX11_piece_51 : decode cX11_piece 51 = .ok (.iconst 4, 1) := by decide +kernel
theorem dX11_piece_52 : decode cX11_piece 52 = .ok (.if_icmp .ge 14, 3) := by decide +kernel
theorem dX11_piece_55 : decode cX11_piece 55 = .ok (.aload_n 0, 1) := by decide +kernel
theorem dX11_piece_56 : decode cX11_piece 56 = .ok (.getfield 43, 3) := by decide +kernel
theorem dX11_piece_59 : decode cX11_piece 59 = .ok (.iload_n 2, 1) := by decide +kernel
theorem dX11_piece_60 : decode cX11_piece 60 = .ok (.aaload, 1) := by decide +kernel
theorem dX11_piece_61 : decode cX11_piece 61 = .ok (.iload_n 1, 1) := by decide +kernel
theorem dX11_piece_62 : decode cX11_piece 62 = .ok (.iaload, 1) := by decide +kernel
theorem dX11_piece_63 : decode cX11_piece 63 = .ok (.goto 41, 3) := by decide +kernel
theorem dX11_piece_66 : decode cX11_piece 66 = .ok (.iload_n 2, 1) := by decide +kernel
theorem dX11_piece_67 : decode cX11_piece 67 = .ok (.iconst 4, 1) := by decide +kernel
theorem dX11_piece_68 : decode cX11_piece 68 = .ok (.if_icmp .ne 12, 3) := by decide +kernel
theorem dX11_piece_71 : decode cX11_piece 71 = .ok (.aload_n 0, 1) := by decide +kernel
theorem dX11_piece_72 : decode cX11_piece 72 = .ok (.getfield 49, 3) := by decide +kernel
theorem dX11_piece_75 : decode cX11_piece 75 = .ok (.iload_n 1, 1) := by decide +kernel
theorem dX11_piece_76 : decode cX11_piece 76 = .ok (.iaload, 1) := by decide +kernel
theorem dX11_piece_77 : decode cX11_piece 77 = .ok (.goto 27, 3) := by decide +kernel
theorem dX11_piece_80 : decode cX11_piece 80 = .ok (.iload_n 1, 1) := by decide +kernel
theorem dX11_piece_81 : decode cX11_piece 81 = .ok (.iconst 1, 1) := by decide +kernel
theorem dX11_piece_82 : decode cX11_piece 82 = .ok (.iadd, 1) := by decide +kernel
theorem dX11_piece_83 : decode cX11_piece 83 = .ok (.aload_n 0, 1) := by decide +kernel
theorem dX11_piece_84 : decode cX11_piece 84 = .ok (.getfield 37, 3) := by decide +kernel
theorem dX11_piece_87 : decode cX11_piece 87 = .ok (.if_icmp .ge 16, 3) := by decide +kernel
theorem dX11_piece_90 : decode cX11_piece 90 = .ok (.aload_n 0, 1) := by decide +kernel
theorem dX11_piece_91 : decode cX11_piece 91 = .ok (.getfield 52, 3) := by decide +kernel
theorem dX11_piece_94 : decode cX11_piece 94 = .ok (.iload_n 1, 1) := by decide +kernel
theorem dX11_piece_95 : decode cX11_piece 95 = .ok (.baload, 1) := by decide +kernel
theorem dX11_piece_96 : decode cX11_piece 96 = .ok (.ifCond .eq 7, 3) := by decide +kernel
theorem dX11_piece_99 : decode cX11_piece 99 = .ok (.iconst 1, 1) := by decide +kernel
theorem dX11_piece_100 : decode cX11_piece 100 = .ok (.goto 4, 3) := by decide +kernel
theorem dX11_piece_103 : decode cX11_piece 103 = .ok (.iconst 0, 1) := by decide +kernel
theorem dX11_piece_104 : decode cX11_piece 104 = .ok (.ireturn, 1) := by decide +kernel
theorem dX11_push_0 : decode cX11_push 0 = .ok (.aload_n 0, 1) := by decide +kernel
theorem dX11_push_1 : decode cX11_push 1 = .ok (.iconst 0, 1) := by decide +kernel
theorem dX11_push_2 : decode cX11_push 2 = .ok (.putfield 83, 3) := by decide +kernel
theorem dX11_push_5 : decode cX11_push 5 = .ok (.aload_n 0, 1) := by decide +kernel
theorem dX11_push_6 : decode cX11_push 6 = .ok (.aload_n 0, 1) := by decide +kernel
theorem dX11_push_7 : decode cX11_push 7 = .ok (.iload_n 1, 1) := by decide +kernel
theorem dX11_push_8 : decode cX11_push 8 = .ok (.invokevirtual 242, 3) := by decide +kernel
theorem dX11_push_11 : decode cX11_push 11 = .ok (.ifCond .ne 7, 3) := by decide +kernel
theorem dX11_push_14 : decode cX11_push 14 = .ok (.iconst 1, 1) := by decide +kernel
theorem dX11_push_15 : decode cX11_push 15 = .ok (.goto 4, 3) := by decide +kernel
theorem dX11_push_18 : decode cX11_push 18 = .ok (.iconst 0, 1) := by decide +kernel
theorem dX11_push_19 : decode cX11_push 19 = .ok (.iconst 1, 1) := by decide +kernel
theorem dX11_push_20 : decode cX11_push 20 = .ok (.invokevirtual 176, 3) := by decide +kernel
theorem dX11_push_23 : decode cX11_push 23 = .ok (.ifCond .ne 47, 3) := by decide +kernel
theorem dX11_push_26 : decode cX11_push 26 = .ok (.aload_n 0, 1) := by decide +kernel
theorem dX11_push_27 : decode cX11_push 27 = .ok (.aload_n 0, 1) := by decide +kernel
theorem dX11_push_28 : decode cX11_push 28 = .ok (.iload_n 3, 1) := by decide +kernel
theorem dX11_push_29 : decode cX11_push 29 = .ok (.invokevirtual 210, 3) := by decide +kernel
theorem dX11_push_32 : decode cX11_push 32 = .ok (.ifCond .ne 7, 3) := by decide +kernel
theorem dX11_push_35 : decode cX11_push 35 = .ok (.iconst 1, 1) := by decide +kernel
theorem dX11_push_36 : decode cX11_push 36 = .ok (.goto 4, 3) := by decide +kernel
theorem dX11_push_39 : decode cX11_push 39 = .ok (.iconst 0, 1) := by decide +kernel
theorem dX11_push_40 : decode cX11_push 40 = .ok (.iconst 2, 1) := by decide +kernel
theorem dX11_push_41 : decode cX11_push 41 = .ok (.invokevirtual 176, 3) := by decide +kernel
theorem dX11_push_44 : decode cX11_push 44 = .ok (.ifCond .ne 26, 3) := by decide +kernel
theorem dX11_push_47 : decode cX11_push 47 = .ok (.aload_n 0, 1) := by decide +kernel
theorem dX11_push_48 : decode cX11_push 48 = .ok (.iload_n 2, 1) := by decide +kernel
theorem dX11_push_49 : decode cX11_push 49 = .ok (.iconst 0, 1) := by decide +kernel
theorem dX11_push_50 : decode cX11_push 50 = .ok (.bipush 99, 2) := by decide +kernel
theorem dX11_push_52 : decode cX11_push 52 = .ok (.invokestatic 172, 3) := by decide +kernel
theorem dX11_push_55 : decode cX11_push 55 = .ok (.ifCond .ne 7, 3) := by decide +kernel
theorem dX11_push_58 : decode cX11_push 58 = .ok (.iconst 1, 1) := by decide +kernel
theorem dX11_push_59 : decode cX11_push 59 = .ok (.goto 4, 3) := by decide +kernel
theorem dX11_push_62 : decode cX11_push 62 = .ok (.iconst 0, 1) := by decide +kernel
theorem dX11_push_63 : decode cX11_push 63 = .ok (.iconst 3, 1) := by decide +kernel
theorem dX11_push_64 : decode cX11_push 64 = .ok (.invokevirtual 176, 3) := by decide +kernel
theorem dX11_push_67 : decode cX11_push 67 = .ok (.ifCond .eq 5, 3) := by decide +kernel
theorem dX11_push_70 : decode cX11_push 70 = .ok (.iconst 0, 1) := by decide +kernel
theorem dX11_push_71 : decode cX11_push 71 = .ok (.ireturn, 1) := by decide +kernel
theorem dX11_push_72 : decode cX11_push 72 = .ok (.aload_n 0, 1) := by decide +kernel
theorem dX11_push_73 : decode cX11_push 73 = .ok (.iload_n 2, 1) := by decide +kernel
theorem dX11_push_74 : decode cX11_push 74 = .ok (.iload_n 3, 1) := by decide +kernel
theorem dX11_push_75 : decode cX11_push 75 = .ok (.invokevirtual 230, 3) := by decide +kernel
theorem dX11_push_78 : decode cX11_push 78 = .ok (.aload_n 0, 1) := by decide +kernel
theorem dX11_push_79 : decode cX11_push 79 = .ok (.iload_n 1, 1) := by decide +kernel
theorem dX11_push_80 : decode cX11_push 80 = .ok (.invokevirtual 233, 3) := by decide +kernel
theorem dX11_push_83 : decode cX11_push 83 = .ok (.iload 4, 2) := by decide +kernel
theorem dX11_push_85 : decode cX11_push 85 = .ok (.ifCond .eq 10, 3) := by decide +kernel
theorem dX11_push_88 : decode cX11_push 88 = .ok (.aload_n 0, 1) := by decide +kernel
theorem dX11_push_89 : decode cX11_push 89 = .ok (.getfield 197, 3) := by decide +kernel
theorem dX11_push_92 : decode cX11_push 92 = .ok (.goto 7, 3) := by decide +kernel
theorem dX11_push_95 : decode cX11_push 95 = .ok (.aload_n 0, 1) := by decide +kernel
theorem dX11_push_96 : decode cX11_push 96 = .ok (.getfield 194, 3) := by decide +kernel
theorem dX11_push_99 : decode cX11_push 99 = .ok (.ireturn, 1) := by decide +kernel
theorem dX11_lays_0 : decode cX11_lays 0 = .ok (.aload_n 0, 1) := by decide +kernel
theorem dX11_lays_1 : decode cX11_lays 1 = .ok (.aload_n 0, 1) := by decide +kernel
theorem dX11_lays_2 : decode cX11_lays 2 = .ok (.getfield 200, 3) := by decide +kernel
theorem dX11_lays_5 : decode cX11_lays 5 = .ok (.putfield 248, 3) := by decide +kernel
theorem dX11_lays_8 : decode cX11_lays 8 = .ok (.iconst 0, 1) := by decide +kernel
theorem dX11_lays_9 : decode cX11_lays 9 = .ok (.istore_n 1, 1) := by decide +kernel
theorem dX11_lays_10 : decode cX11_lays 10 = .ok (.iload_n 1, 1) := by decide +kernel
theorem dX11_lays_11 : decode cX11_lays 11 = .ok (.bipush 8, 2) := by decide +kernel
theorem dX11_lays_13 : decode cX11_lays 13 = .ok (.if_icmp .ge 62, 3) := by decide +kernel
theorem dX11_lays_16 : decode cX11_lays 16 = .ok (.iconst 0, 1) := by decide +kernel
theorem dX11_lays_17 : decode cX11_lays 17 = .ok (.istore_n 2, 1) := by decide +kernel
theorem dX11_lays_18 : decode cX11_lays 18 = .ok (.iload_n 2, 1) := by decide +kernel
theorem dX11_lays_19 : decode cX11_lays 19 = .ok (.iconst 4, 1) := by decide +kernel
theorem dX11_lays_20 : decode cX11_lays 20 = .ok (.if_icmp .ge 25, 3) := by decide +kernel
theorem dX11_lays_23 : decode cX11_lays 23 = .ok (.aload_n 0, 1) := by decide +kernel
theorem dX11_lays_24 : decode cX11_lays 24 = .ok (.getfield 56, 3) := by decide +kernel
theorem dX11_lays_27 : decode cX11_lays 27 = .ok (.iload_n 2, 1) := by decide +kernel
theorem dX11_lays_28 : decode cX11_lays 28 = .ok (.aaload, 1) := by decide +kernel
theorem dX11_lays_29 : decode cX11_lays 29 = .ok (.iload_n 1, 1) := by decide +kernel
theorem dX11_lays_30 : decode cX11_lays 30 = .ok (.aload_n 0, 1) := by decide +kernel
theorem dX11_lays_31 : decode cX11_lays 31 = .ok (.getfield 43, 3) := by decide +kernel
theorem dX11_lays_34 : decode cX11_lays 34 = .ok (.iload_n 2, 1) := by decide +kernel
theorem dX11_lays_35 : decode cX11_lays 35 = .ok (.aaload, 1) := by decide +kernel
theorem dX11_lays_36 : decode cX11_lays 36 = .ok (.iload_n 1, 1) := by decide +kernel
theorem dX11_lays_37 : decode cX11_lays 37 = .ok (.iaload, 1) := by decide +kernel
theorem dX11_lays_38 : decode cX11_lays 38 = .ok (.iastore, 1) := by decide +kernel
theorem dX11_lays_39 : decode cX11_lays 39 = .ok (.iinc 2 1, 3) := by decide +kernel
theorem dX11_lays_42 : decode cX11_lays 42 = .ok (.goto (-24), 3) := by decide +kernel
theorem dX11_lays_45 : decode cX11_lays 45 = .ok (.aload_n 0, 1) := by decide +kernel
theorem dX11_lays_46 : decode cX11_lays 46 = .ok (.getfield 59, 3) := by decide +kernel
theorem dX11_lays_49 : decode cX11_lays 49 = .ok (.iload_n 1, 1) := by decide +kernel
theorem dX11_lays_50 : decode cX11_lays 50 = .ok (.aload_n 0, 1) := by decide +kernel
theorem dX11_lays_51 : decode cX11_lays 51 = .ok (.getfield 49, 3) := by decide +kernel
theorem dX11_lays_54 : decode cX11_lays 54 = .ok (.iload_n 1, 1) := by decide +kernel
theorem dX11_lays_55 : decode cX11_lays 55 = .ok (.iaload, 1) := by decide +kernel
theorem dX11_lays_56 : decode cX11_lays 56 = .ok (.iastore, 1) := by decide +kernel
theorem dX11_lays_57 : decode cX11_lays 57 = .ok (.aload_n 0, 1) := by decide +kernel
theorem dX11_lays_58 : decode cX11_lays 58 = .ok (.getfield 65, 3) := by decide +kernel
theorem dX11_lays_61 : decode cX11_lays 61 = .ok (.iload_n 1, 1) := by decide +kernel
theorem dX11_lays_62 : decode cX11_lays 62 = .ok (.aload_n 0, 1) := by decide +kernel
theorem dX11_lays_63 : decode cX11_lays 63 = .ok (.getfield 52, 3) := by decide +kernel
theorem dX11_lays_66 : decode cX11_lays 66 = .ok (.iload_n 1, 1) := by decide +kernel
theorem dX11_lays_67 : decode cX11_lays 67 = .ok (.baload, 1) := by decide +kernel
theorem dX11_lays_68 : decode cX11_lays 68 = .ok (.bastore, 1) := by decide +kernel
theorem dX11_lays_69 : decode cX11_lays 69 = .ok (.iinc 1 1, 3) := by decide +kernel
theorem dX11_lays_72 : decode cX11_lays 72 = .ok (.goto (-62), 3) := by decide +kernel
theorem dX11_lays_75 : decode cX11_lays 75 = .ok (.return_, 1) := by decide +kernel
theorem dX11_laysBack_0 : decode cX11_laysBack 0 = .ok (.aload_n 0, 1) := by decide +kernel
theorem dX11_laysBack_1 : decode cX11_laysBack 1 = .ok (.aload_n 0, 1) := by decide +kernel
theorem dX11_laysBack_2 : decode cX11_laysBack 2 = .ok (.getfield 248, 3) := by decide +kernel
theorem dX11_laysBack_5 : decode cX11_laysBack 5 = .ok (.putfield 200, 3) := by decide +kernel
theorem dX11_laysBack_8 : decode cX11_laysBack 8 = .ok (.iconst 0, 1) := by decide +kernel
theorem dX11_laysBack_9 : decode cX11_laysBack 9 = .ok (.istore_n 1, 1) := by decide +kernel
theorem dX11_laysBack_10 : decode cX11_laysBack 10 = .ok (.iload_n 1, 1) := by decide +kernel
theorem dX11_laysBack_11 : decode cX11_laysBack 11 = .ok (.bipush 8, 2) := by decide +kernel
theorem dX11_laysBack_13 : decode cX11_laysBack 13 = .ok (.if_icmp .ge 62, 3) := by decide +kernel
theorem dX11_laysBack_16 : decode cX11_laysBack 16 = .ok (.iconst 0, 1) := by decide +kernel
theorem dX11_laysBack_17 : decode cX11_laysBack 17 = .ok (.istore_n 2, 1) := by decide +kernel
theorem dX11_laysBack_18 : decode cX11_laysBack 18 = .ok (.iload_n 2, 1) := by decide +kernel
theorem dX11_laysBack_19 : decode cX11_laysBack 19 = .ok (.iconst 4, 1) := by decide +kernel
theorem dX11_laysBack_20 : decode cX11_laysBack 20 = .ok (.if_icmp .ge 25, 3) := by decide +kernel
theorem dX11_laysBack_23 : decode cX11_laysBack 23 = .ok (.aload_n 0, 1) := by decide +kernel
theorem dX11_laysBack_24 : decode cX11_laysBack 24 = .ok (.getfield 43, 3) := by decide +kernel
theorem dX11_laysBack_27 : decode cX11_laysBack 27 = .ok (.iload_n 2, 1) := by decide +kernel
theorem dX11_laysBack_28 : decode cX11_laysBack 28 = .ok (.aaload, 1) := by decide +kernel
theorem dX11_laysBack_29 : decode cX11_laysBack 29 = .ok (.iload_n 1, 1) := by decide +kernel
theorem dX11_laysBack_30 : decode cX11_laysBack 30 = .ok (.aload_n 0, 1) := by decide +kernel
theorem dX11_laysBack_31 : decode cX11_laysBack 31 = .ok (.getfield 56, 3) := by decide +kernel
theorem dX11_laysBack_34 : decode cX11_laysBack 34 = .ok (.iload_n 2, 1) := by decide +kernel
theorem dX11_laysBack_35 : decode cX11_laysBack 35 = .ok (.aaload, 1) := by decide +kernel
theorem dX11_laysBack_36 : decode cX11_laysBack 36 = .ok (.iload_n 1, 1) := by decide +kernel
theorem dX11_laysBack_37 : decode cX11_laysBack 37 = .ok (.iaload, 1) := by decide +kernel
theorem dX11_laysBack_38 : decode cX11_laysBack 38 = .ok (.iastore, 1) := by decide +kernel
theorem dX11_laysBack_39 : decode cX11_laysBack 39 = .ok (.iinc 2 1, 3) := by decide +kernel
theorem dX11_laysBack_42 : decode cX11_laysBack 42 = .ok (.goto (-24), 3) := by decide +kernel
theorem dX11_laysBack_45 : decode cX11_laysBack 45 = .ok (.aload_n 0, 1) := by decide +kernel
theorem dX11_laysBack_46 : decode cX11_laysBack 46 = .ok (.getfield 49, 3) := by decide +kernel
theorem dX11_laysBack_49 : decode cX11_laysBack 49 = .ok (.iload_n 1, 1) := by decide +kernel
theorem dX11_laysBack_50 : decode cX11_laysBack 50 = .ok (.aload_n 0, 1) := by decide +kernel
theorem dX11_laysBack_51 : decode cX11_laysBack 51 = .ok (.getfield 59, 3) := by decide +kernel
theorem dX11_laysBack_54 : decode cX11_laysBack 54 = .ok (.iload_n 1, 1) := by decide +kernel
theorem dX11_laysBack_55 : decode cX11_laysBack 55 = .ok (.iaload, 1) := by decide +kernel
theorem dX11_laysBack_56 : decode cX11_laysBack 56 = .ok (.iastore, 1) := by decide +kernel
theorem dX11_laysBack_57 : decode cX11_laysBack 57 = .ok (.aload_n 0, 1) := by decide +kernel
theorem dX11_laysBack_58 : decode cX11_laysBack 58 = .ok (.getfield 52, 3) := by decide +kernel
theorem dX11_laysBack_61 : decode cX11_laysBack 61 = .ok (.iload_n 1, 1) := by decide +kernel
theorem dX11_laysBack_62 : decode cX11_laysBack 62 = .ok (.aload_n 0, 1) := by decide +kernel
theorem dX11_laysBack_63 : decode cX11_laysBack 63 = .ok (.getfield 65, 3) := by decide +kernel
theorem dX11_laysBack_66 : decode cX11_laysBack 66 = .ok (.iload_n 1, 1) := by decide +kernel
theorem dX11_laysBack_67 : decode cX11_laysBack 67 = .ok (.baload, 1) := by decide +kernel
theorem dX11_laysBack_68 : decode cX11_laysBack 68 = .ok (.bastore, 1) := by decide +kernel
theorem dX11_laysBack_69 : decode cX11_laysBack 69 = .ok (.iinc 1 1, 3) := by decide +kernel
theorem dX11_laysBack_72 : decode cX11_laysBack 72 = .ok (.goto (-62), 3) := by decide +kernel
theorem dX11_laysBack_75 : decode cX11_laysBack 75 = .ok (.return_, 1) := by decide +kernel
theorem dX11_begins_0 : decode cX11_begins 0 = .ok (.aload_n 0, 1) := by decide +kernel
theorem dX11_begins_1 : decode cX11_begins 1 = .ok (.invokevirtual 251, 3) := by decide +kernel
theorem dX11_begins_4 : decode cX11_begins 4 = .ok (.aload_n 0, 1) := by decide +kernel
theorem dX11_begins_5 : decode cX11_begins 5 = .ok (.iconst 0, 1) := by decide +kernel
theorem dX11_begins_6 : decode cX11_begins 6 = .ok (.putfield 200, 3) := by decide +kernel
theorem dX11_begins_9 : decode cX11_begins 9 = .ok (.iconst 0, 1) := by decide +kernel
theorem dX11_begins_10 : decode cX11_begins 10 = .ok (.istore 4, 2) := by decide +kernel
theorem dX11_begins_12 : decode cX11_begins 12 = .ok (.iload 4, 2) := by decide +kernel
theorem dX11_begins_14 : decode cX11_begins 14 = .ok (.bipush 8, 2) := by decide +kernel
theorem dX11_begins_16 : decode cX11_begins 16 = .ok (.if_icmp .ge 39, 3) := by decide +kernel
theorem dX11_begins_19 : decode cX11_begins 19 = .ok (.aload_n 0, 1) := by decide +kernel
theorem dX11_begins_20 : decode cX11_begins 20 = .ok (.getfield 49, 3) := by decide +kernel
theorem dX11_begins_23 : decode cX11_begins 23 = .ok (.iload 4, 2) := by decide +kernel
theorem dX11_begins_25 : decode cX11_begins 25 = .ok (.aload_n 0, 1) := by decide +kernel
theorem dX11_begins_26 : decode cX11_begins 26 = .ok (.getfield 49, 3) := by decide +kernel
theorem dX11_begins_29 : decode cX11_begins 29 = .ok (.iload 4, 2) := by decide +kernel
theorem dX11_begins_31 : decode cX11_begins 31 = .ok (.iaload, 1) := by decide +kernel
theorem dX11_begins_32 : decode cX11_begins 32 = .ok (.ifCond .le 7, 3) := by decide +kernel
theorem dX11_begins_35 : decode cX11_begins 35 = .ok (.iconst 2, 1) := by decide +kernel
theorem dX11_begins_36 : decode cX11_begins 36 = .ok (.goto 4, 3) := by decide +kernel
theorem dX11_begins_39 : decode cX11_begins 39 = .ok (.iconst 0, 1) := by decide +kernel
theorem dX11_begins_40 : decode cX11_begins 40 = .ok (.iastore, 1) := by decide +kernel
theorem dX11_begins_41 : decode cX11_begins 41 = .ok (.aload_n 0, 1) := by decide +kernel
theorem dX11_begins_42 : decode cX11_begins 42 = .ok (.getfield 52, 3) := by decide +kernel
theorem dX11_begins_45 : decode cX11_begins 45 = .ok (.iload 4, 2) := by decide +kernel
theorem dX11_begins_47 : decode cX11_begins 47 = .ok (.iconst 0, 1) := by decide +kernel
theorem dX11_begins_48 : decode cX11_begins 48 = .ok (.bastore, 1) := by decide +kernel
theorem dX11_begins_49 : decode cX11_begins 49 = .ok (.iinc 4 1, 3) := by decide +kernel
theorem dX11_begins_52 : decode cX11_begins 52 = .ok (.goto (-40), 3) := by decide +kernel
theorem dX11_begins_55 : decode cX11_begins 55 = .ok (.aload_n 0, 1) := by decide +kernel
theorem dX11_begins_56 : decode cX11_begins 56 = .ok (.iload_n 1, 1) := by decide +kernel
theorem dX11_begins_57 : decode cX11_begins 57 = .ok (.iload_n 2, 1) := by decide +kernel
theorem dX11_begins_58 : decode cX11_begins 58 = .ok (.iload_n 3, 1) := by decide +kernel
theorem dX11_begins_59 : decode cX11_begins 59 = .ok (.invokevirtual 217, 3) := by decide +kernel
theorem dX11_begins_62 : decode cX11_begins 62 = .ok (.return_, 1) := by decide +kernel
theorem dX11_growsBy_0 : decode cX11_growsBy 0 = .ok (.aload_n 0, 1) := by decide +kernel
theorem dX11_growsBy_1 : decode cX11_growsBy 1 = .ok (.iload_n 3, 1) := by decide +kernel
theorem dX11_growsBy_2 : decode cX11_growsBy 2 = .ok (.iload 4, 2) := by decide +kernel
theorem dX11_growsBy_4 : decode cX11_growsBy 4 = .ok (.iload 5, 2) := by decide +kernel
theorem dX11_growsBy_6 : decode cX11_growsBy 6 = .ok (.invokevirtual 254, 3) := by decide +kernel
theorem dX11_growsBy_9 : decode cX11_growsBy 9 = .ok (.iconst 0, 1) := by decide +kernel
theorem dX11_growsBy_10 : decode cX11_growsBy 10 = .ok (.istore 6, 2) := by decide +kernel
theorem dX11_growsBy_12 : decode cX11_growsBy 12 = .ok (.iconst 0, 1) := by decide +kernel
theorem dX11_growsBy_13 : decode cX11_growsBy 13 = .ok (.istore 7, 2) := by decide +kernel
theorem dX11_growsBy_15 : decode cX11_growsBy 15 = .ok (.iconst 1, 1) := by decide +kernel
theorem dX11_growsBy_16 : decode cX11_growsBy 16 = .ok (.istore 8, 2) := by decide +kernel
theorem dX11_growsBy_18 : decode cX11_growsBy 18 = .ok (.iload 8, 2) := by decide +kernel
theorem dX11_growsBy_20 : decode cX11_growsBy 20 = .ok (.bipush 60, 2) := by decide +kernel
theorem dX11_growsBy_22 : decode cX11_growsBy 22 = .ok (.if_icmp .gt 64, 3) := by decide +kernel
theorem dX11_growsBy_25 : decode cX11_growsBy 25 = .ok (.aload_n 0, 1) := by decide +kernel
theorem dX11_growsBy_26 : decode cX11_growsBy 26 = .ok (.iload_n 1, 1) := by decide +kernel
theorem dX11_growsBy_27 : decode cX11_growsBy 27 = .ok (.iload_n 2, 1) := by decide +kernel
theorem dX11_growsBy_28 : decode cX11_growsBy 28 = .ok (.invokevirtual 245, 3) := by decide +kernel
theorem dX11_growsBy_31 : decode cX11_growsBy 31 = .ok (.aload_n 0, 1) := by decide +kernel
theorem dX11_growsBy_32 : decode cX11_growsBy 32 = .ok (.iload_n 3, 1) := by decide +kernel
theorem dX11_growsBy_33 : decode cX11_growsBy 33 = .ok (.invokevirtual 221, 3) := by decide +kernel
theorem dX11_growsBy_36 : decode cX11_growsBy 36 = .ok (.istore 9, 2) := by decide +kernel
theorem dX11_growsBy_38 : decode cX11_growsBy 38 = .ok (.iload 8, 2) := by decide +kernel
theorem dX11_growsBy_40 : decode cX11_growsBy 40 = .ok (.bipush 30, 2) := by decide +kernel
theorem dX11_growsBy_42 : decode cX11_growsBy 42 = .ok (.if_icmp .gt 22, 3) := by decide +kernel
theorem dX11_growsBy_45 : decode cX11_growsBy 45 = .ok (.iload 9, 2) := by decide +kernel
theorem dX11_growsBy_47 : decode cX11_growsBy 47 = .ok (.iload 6, 2) := by decide +kernel
theorem dX11_growsBy_49 : decode cX11_growsBy 49 = .ok (.if_icmp .le 8, 3) := by decide +kernel
theorem dX11_growsBy_52 : decode cX11_growsBy 52 = .ok (.iload 9, 2) := by decide +kernel
theorem dX11_growsBy_54 : decode cX11_growsBy 54 = .ok (.goto 5, 3) := by decide +kernel
theorem dX11_growsBy_57 : decode cX11_growsBy 57 = .ok (.iload 6, 2) := by decide +kernel
theorem dX11_growsBy_59 : decode cX11_growsBy 59 = .ok (.istore 6, 2) := by decide +kernel
theorem dX11_growsBy_61 : decode cX11_growsBy 61 = .ok (.goto 19, 3) := by decide +kernel
theorem dX11_growsBy_64 : decode cX11_growsBy 64 = .ok (.iload 9, 2) := by decide +kernel
theorem dX11_growsBy_66 : decode cX11_growsBy 66 = .ok (.iload 7, 2) := by decide +kernel
theorem dX11_growsBy_68 : decode cX11_growsBy 68 = .ok (.if_icmp .le 8, 3) := by decide +kernel
theorem dX11_growsBy_71 : decode cX11_growsBy 71 = .ok (.iload 9, 2) := by decide +kernel
theorem dX11_growsBy_73 : decode cX11_growsBy 73 = .ok (.goto 5, 3) := by decide +kernel
theorem dX11_growsBy_76 : decode cX11_growsBy 76 = .ok (.iload 7, 2) := by decide +kernel
theorem dX11_growsBy_78 : decode cX11_growsBy 78 = .ok (.istore 7, 2) := by decide +kernel
theorem dX11_growsBy_80 : decode cX11_growsBy 80 = .ok (.iinc 8 1, 3) := by decide +kernel
theorem dX11_growsBy_83 : decode cX11_growsBy 83 = .ok (.goto (-65), 3) := by decide +kernel
theorem dX11_growsBy_86 : decode cX11_growsBy 86 = .ok (.aload_n 0, 1) := by decide +kernel
theorem dX11_growsBy_87 : decode cX11_growsBy 87 = .ok (.invokevirtual 257, 3) := by decide +kernel
theorem dX11_growsBy_90 : decode cX11_growsBy 90 = .ok (.iload 7, 2) := by decide +kernel
theorem dX11_growsBy_92 : decode cX11_growsBy 92 = .ok (.iload 6, 2) := by decide +kernel
theorem dX11_growsBy_94 : decode cX11_growsBy 94 = .ok (.if_icmp .le 7, 3) := by decide +kernel
theorem dX11_growsBy_97 : decode cX11_growsBy 97 = .ok (.iconst 1, 1) := by decide +kernel
theorem dX11_growsBy_98 : decode cX11_growsBy 98 = .ok (.goto 4, 3) := by decide +kernel
theorem dX11_growsBy_101 : decode cX11_growsBy 101 = .ok (.iconst 0, 1) := by decide +kernel
theorem dX11_growsBy_102 : decode cX11_growsBy 102 = .ok (.ireturn, 1) := by decide +kernel
theorem dX11_badTrial_0 : decode cX11_badTrial 0 = .ok (.aload_n 0, 1) := by decide +kernel
theorem dX11_badTrial_1 : decode cX11_badTrial 1 = .ok (.aload_n 0, 1) := by decide +kernel
theorem dX11_badTrial_2 : decode cX11_badTrial 2 = .ok (.iload_n 1, 1) := by decide +kernel
theorem dX11_badTrial_3 : decode cX11_badTrial 3 = .ok (.invokevirtual 242, 3) := by decide +kernel
theorem dX11_badTrial_6 : decode cX11_badTrial 6 = .ok (.ifCond .ne 7, 3) := by decide +kernel
theorem dX11_badTrial_9 : decode cX11_badTrial 9 = .ok (.iconst 1, 1) := by decide +kernel
theorem dX11_badTrial_10 : decode cX11_badTrial 10 = .ok (.goto 4, 3) := by decide +kernel
theorem dX11_badTrial_13 : decode cX11_badTrial 13 = .ok (.iconst 0, 1) := by decide +kernel
theorem dX11_badTrial_14 : decode cX11_badTrial 14 = .ok (.iconst 1, 1) := by decide +kernel
theorem dX11_badTrial_15 : decode cX11_badTrial 15 = .ok (.invokevirtual 176, 3) := by decide +kernel
theorem dX11_badTrial_18 : decode cX11_badTrial 18 = .ok (.ifCond .ne 35, 3) := by decide +kernel
theorem dX11_badTrial_21 : decode cX11_badTrial 21 = .ok (.aload_n 0, 1) := by decide +kernel
theorem dX11_badTrial_22 : decode cX11_badTrial 22 = .ok (.iload_n 2, 1) := by decide +kernel
theorem dX11_badTrial_23 : decode cX11_badTrial 23 = .ok (.iconst 0, 1) := by decide +kernel
theorem dX11_badTrial_24 : decode cX11_badTrial 24 = .ok (.bipush 99, 2) := by decide +kernel
theorem dX11_badTrial_26 : decode cX11_badTrial 26 = .ok (.invokestatic 172, 3) := by decide +kernel
theorem dX11_badTrial_29 : decode cX11_badTrial 29 = .ok (.ifCond .eq 12, 3) := by decide +kernel
theorem dX11_badTrial_32 : decode cX11_badTrial 32 = .ok (.iload_n 3, 1) := by decide +kernel
theorem dX11_badTrial_33 : decode cX11_badTrial 33 = .ok (.iload 4, 2) := by decide +kernel
theorem dX11_badTrial_35 : decode cX11_badTrial 35 = .ok (.invokestatic 213, 3) := by decide +kernel
theorem dX11_badTrial_38 : decode cX11_badTrial 38 = .ok (.ifCond .ne 7, 3) := by decide +kernel
theorem dX11_badTrial_41 : decode cX11_badTrial 41 = .ok (.iconst 1, 1) := by decide +kernel
theorem dX11_badTrial_42 : decode cX11_badTrial 42 = .ok (.goto 4, 3) := by decide +kernel
theorem dX11_badTrial_45 : decode cX11_badTrial 45 = .ok (.iconst 0, 1) := by decide +kernel
theorem dX11_badTrial_46 : decode cX11_badTrial 46 = .ok (.iconst 2, 1) := by decide +kernel
theorem dX11_badTrial_47 : decode cX11_badTrial 47 = .ok (.invokevirtual 176, 3) := by decide +kernel
theorem dX11_badTrial_50 : decode cX11_badTrial 50 = .ok (.ifCond .eq 7, 3) := by decide +kernel
theorem dX11_badTrial_53 : decode cX11_badTrial 53 = .ok (.iconst 1, 1) := by decide +kernel
theorem dX11_badTrial_54 : decode cX11_badTrial 54 = .ok (.goto 4, 3) := by decide +kernel
theorem dX11_badTrial_57 : decode cX11_badTrial 57 = .ok (.iconst 0, 1) := by decide +kernel
theorem dX11_badTrial_58 : decode cX11_badTrial 58 = .ok (.ireturn, 1) := by decide +kernel
theorem dX11_grows_0 : decode cX11_grows 0 = .ok (.aload_n 0, 1) := by decide +kernel
theorem dX11_grows_1 : decode cX11_grows 1 = .ok (.iconst 0, 1) := by decide +kernel
theorem dX11_grows_2 : decode cX11_grows 2 = .ok (.putfield 83, 3) := by decide +kernel
theorem dX11_grows_5 : decode cX11_grows 5 = .ok (.aload_n 0, 1) := by decide +kernel
theorem dX11_grows_6 : decode cX11_grows 6 = .ok (.iload_n 1, 1) := by decide +kernel
theorem dX11_grows_7 : decode cX11_grows 7 = .ok (.iload_n 2, 1) := by decide +kernel
theorem dX11_grows_8 : decode cX11_grows 8 = .ok (.iload_n 3, 1) := by decide +kernel
theorem dX11_grows_9 : decode cX11_grows 9 = .ok (.iload 4, 2) := by decide +kernel
theorem dX11_grows_11 : decode cX11_grows 11 = .ok (.invokevirtual 260, 3) := by decide +kernel
theorem dX11_grows_14 : decode cX11_grows 14 = .ok (.ifCond .eq 5, 3) := by decide +kernel
theorem dX11_grows_17 : decode cX11_grows 17 = .ok (.iconst 0, 1) := by decide +kernel
theorem dX11_grows_18 : decode cX11_grows 18 = .ok (.ireturn, 1) := by decide +kernel
theorem dX11_grows_19 : decode cX11_grows 19 = .ok (.aload_n 0, 1) := by decide +kernel
theorem dX11_grows_20 : decode cX11_grows 20 = .ok (.iload_n 1, 1) := by decide +kernel
theorem dX11_grows_21 : decode cX11_grows 21 = .ok (.iload_n 2, 1) := by decide +kernel
theorem dX11_grows_22 : decode cX11_grows 22 = .ok (.iload_n 3, 1) := by decide +kernel
theorem dX11_grows_23 : decode cX11_grows 23 = .ok (.iload 4, 2) := by decide +kernel
theorem dX11_grows_25 : decode cX11_grows 25 = .ok (.bipush 100, 2) := by decide +kernel
theorem dX11_grows_27 : decode cX11_grows 27 = .ok (.invokevirtual 264, 3) := by decide +kernel
theorem dX11_grows_30 : decode cX11_grows 30 = .ok (.ireturn, 1) := by decide +kernel
theorem dX11_lineOf_0 : decode cX11_lineOf 0 = .ok (.iconst 0, 1) := by decide +kernel
theorem dX11_lineOf_1 : decode cX11_lineOf 1 = .ok (.istore 4, 2) := by decide +kernel
theorem dX11_lineOf_3 : decode cX11_lineOf 3 = .ok (.iload 4, 2) := by decide +kernel
theorem dX11_lineOf_5 : decode cX11_lineOf 5 = .ok (.bipush 60, 2) := by decide +kernel
theorem dX11_lineOf_7 : decode cX11_lineOf 7 = .ok (.if_icmp .gt 26, 3) := by decide +kernel
theorem dX11_lineOf_10 : decode cX11_lineOf 10 = .ok (.aload_n 0, 1) := by decide +kernel
theorem dX11_lineOf_11 : decode cX11_lineOf 11 = .ok (.iload_n 1, 1) := by decide +kernel
theorem dX11_lineOf_12 : decode cX11_lineOf 12 = .ok (.iload 4, 2) := by decide +kernel
theorem dX11_lineOf_14 : decode cX11_lineOf 14 = .ok (.iload_n 2, 1) := by decide +kernel
theorem dX11_lineOf_15 : decode cX11_lineOf 15 = .ok (.iload_n 3, 1) := by decide +kernel
theorem dX11_lineOf_16 : decode cX11_lineOf 16 = .ok (.bipush 100, 2) := by decide +kernel
theorem dX11_lineOf_18 : decode cX11_lineOf 18 = .ok (.invokevirtual 264, 3) := by decide +kernel
theorem dX11_lineOf_21 : decode cX11_lineOf 21 = .ok (.ifCond .eq 6, 3) := by decide +kernel
theorem dX11_lineOf_24 : decode cX11_lineOf 24 = .ok (.iload 4, 2) := by decide +kernel
theorem dX11_lineOf_26 : decode cX11_lineOf 26 = .ok (.ireturn, 1) := by decide +kernel
theorem dX11_lineOf_27 : decode cX11_lineOf 27 = .ok (.iinc 4 1, 3) := by decide +kernel
theorem dX11_lineOf_30 : decode cX11_lineOf 30 = .ok (.goto (-27), 3) := by decide +kernel
theorem dX11_lineOf_33 : decode cX11_lineOf 33 = .ok (.iconst (-1), 1) := by decide +kernel
theorem dX11_lineOf_34 : decode cX11_lineOf 34 = .ok (.ireturn, 1) := by decide +kernel
theorem dX11_line_0 : decode cX11_line 0 = .ok (.aload_n 0, 1) := by decide +kernel
theorem dX11_line_1 : decode cX11_line 1 = .ok (.iconst 0, 1) := by decide +kernel
theorem dX11_line_2 : decode cX11_line 2 = .ok (.putfield 83, 3) := by decide +kernel
theorem dX11_line_5 : decode cX11_line 5 = .ok (.aload_n 0, 1) := by decide +kernel
theorem dX11_line_6 : decode cX11_line 6 = .ok (.iload_n 1, 1) := by decide +kernel
theorem dX11_line_7 : decode cX11_line 7 = .ok (.iconst 0, 1) := by decide +kernel
theorem dX11_line_8 : decode cX11_line 8 = .ok (.iload_n 2, 1) := by decide +kernel
theorem dX11_line_9 : decode cX11_line 9 = .ok (.iload_n 3, 1) := by decide +kernel
theorem dX11_line_10 : decode cX11_line 10 = .ok (.invokevirtual 260, 3) := by decide +kernel
theorem dX11_line_13 : decode cX11_line 13 = .ok (.ifCond .eq 5, 3) := by decide +kernel
theorem dX11_line_16 : decode cX11_line 16 = .ok (.iconst 0, 1) := by decide +kernel
theorem dX11_line_17 : decode cX11_line 17 = .ok (.ireturn, 1) := by decide +kernel
theorem dX11_line_18 : decode cX11_line 18 = .ok (.aload_n 0, 1) := by decide +kernel
theorem dX11_line_19 : decode cX11_line 19 = .ok (.iload_n 1, 1) := by decide +kernel
theorem dX11_line_20 : decode cX11_line 20 = .ok (.iload_n 2, 1) := by decide +kernel
theorem dX11_line_21 : decode cX11_line 21 = .ok (.iload_n 3, 1) := by decide +kernel
theorem dX11_line_22 : decode cX11_line 22 = .ok (.invokevirtual 268, 3) := by decide +kernel
theorem dX11_line_25 : decode cX11_line 25 = .ok (.ireturn, 1) := by decide +kernel
theorem dX11_why_0 : decode cX11_why 0 = .ok (.aload_n 0, 1) := by decide +kernel
theorem dX11_why_1 : decode cX11_why 1 = .ok (.iconst 0, 1) := by decide +kernel
theorem dX11_why_2 : decode cX11_why 2 = .ok (.putfield 83, 3) := by decide +kernel
theorem dX11_why_5 : decode cX11_why 5 = .ok (.aload_n 0, 1) := by decide +kernel
theorem dX11_why_6 : decode cX11_why 6 = .ok (.iload_n 1, 1) := by decide +kernel
theorem dX11_why_7 : decode cX11_why 7 = .ok (.iload_n 2, 1) := by decide +kernel
theorem dX11_why_8 : decode cX11_why 8 = .ok (.iload_n 3, 1) := by decide +kernel
theorem dX11_why_9 : decode cX11_why 9 = .ok (.iload 4, 2) := by decide +kernel
theorem dX11_why_11 : decode cX11_why 11 = .ok (.invokevirtual 260, 3) := by decide +kernel
theorem dX11_why_14 : decode cX11_why 14 = .ok (.ifCond .eq 5, 3) := by decide +kernel
theorem dX11_why_17 : decode cX11_why 17 = .ok (.iconst 0, 1) := by decide +kernel
theorem dX11_why_18 : decode cX11_why 18 = .ok (.ireturn, 1) := by decide +kernel
theorem dX11_why_19 : decode cX11_why 19 = .ok (.aload_n 0, 1) := by decide +kernel
theorem dX11_why_20 : decode cX11_why 20 = .ok (.iload_n 1, 1) := by decide +kernel
theorem dX11_why_21 : decode cX11_why 21 = .ok (.iload_n 2, 1) := by decide +kernel
theorem dX11_why_22 : decode cX11_why 22 = .ok (.iload_n 3, 1) := by decide +kernel
theorem dX11_why_23 : decode cX11_why 23 = .ok (.iload 4, 2) := by decide +kernel
theorem dX11_why_25 : decode cX11_why 25 = .ok (.bipush 100, 2) := by decide +kernel
theorem dX11_why_27 : decode cX11_why 27 = .ok (.invokevirtual 264, 3) := by decide +kernel
theorem dX11_why_30 : decode cX11_why 30 = .ok (.ifCond .eq 22, 3) := by decide +kernel
theorem dX11_why_33 : decode cX11_why 33 = .ok (.aload_n 0, 1) := by decide +kernel
theorem dX11_why_34 : decode cX11_why 34 = .ok (.iload_n 1, 1) := by decide +kernel
theorem dX11_why_35 : decode cX11_why 35 = .ok (.iload_n 2, 1) := by decide +kernel
theorem dX11_why_36 : decode cX11_why 36 = .ok (.iload_n 3, 1) := by decide +kernel
theorem dX11_why_37 : decode cX11_why 37 = .ok (.iload 4, 2) := by decide +kernel
theorem dX11_why_39 : decode cX11_why 39 = .ok (.sipush 200, 3) := by decide +kernel
theorem dX11_why_42 : decode cX11_why 42 = .ok (.invokevirtual 264, 3) := by decide +kernel
theorem dX11_why_45 : decode cX11_why 45 = .ok (.ifCond .eq 7, 3) := by decide +kernel
theorem dX11_why_48 : decode cX11_why 48 = .ok (.iconst 1, 1) := by decide +kernel
theorem dX11_why_49 : decode cX11_why 49 = .ok (.goto 4, 3) := by decide +kernel
theorem dX11_why_52 : decode cX11_why 52 = .ok (.iconst 0, 1) := by decide +kernel
theorem dX11_why_53 : decode cX11_why 53 = .ok (.istore 5, 2) := by decide +kernel
theorem dX11_why_55 : decode cX11_why 55 = .ok (.iload 5, 2) := by decide +kernel
theorem dX11_why_57 : decode cX11_why 57 = .ok (.aload_n 0, 1) := by decide +kernel
theorem dX11_why_58 : decode cX11_why 58 = .ok (.iload_n 1, 1) := by decide +kernel
theorem dX11_why_59 : decode cX11_why 59 = .ok (.iload_n 2, 1) := by decide +kernel
theorem dX11_why_60 : decode cX11_why 60 = .ok (.iload_n 3, 1) := by decide +kernel
theorem dX11_why_61 : decode cX11_why 61 = .ok (.iload 4, 2) := by decide +kernel
theorem dX11_why_63 : decode cX11_why 63 = .ok (.iconst 1, 1) := by decide +kernel
theorem dX11_why_64 : decode cX11_why 64 = .ok (.invokevirtual 264, 3) := by decide +kernel
theorem dX11_why_67 : decode cX11_why 67 = .ok (.ifCond .eq 22, 3) := by decide +kernel
theorem dX11_why_70 : decode cX11_why 70 = .ok (.aload_n 0, 1) := by decide +kernel
theorem dX11_why_71 : decode cX11_why 71 = .ok (.iload_n 1, 1) := by decide +kernel
theorem dX11_why_72 : decode cX11_why 72 = .ok (.iload_n 2, 1) := by decide +kernel
theorem dX11_why_73 : decode cX11_why 73 = .ok (.iload_n 3, 1) := by decide +kernel
theorem dX11_why_74 : decode cX11_why 74 = .ok (.iload 4, 2) := by decide +kernel
theorem dX11_why_76 : decode cX11_why 76 = .ok (.sipush 1000, 3) := by decide +kernel
theorem dX11_why_79 : decode cX11_why 79 = .ok (.invokevirtual 264, 3) := by decide +kernel
theorem dX11_why_82 : decode cX11_why 82 = .ok (.ifCond .ne 7, 3) := by decide +kernel
theorem dX11_why_85 : decode cX11_why 85 = .ok (.iconst 2, 1) := by decide +kernel
theorem dX11_why_86 : decode cX11_why 86 = .ok (.goto 4, 3) := by decide +kernel
theorem dX11_why_89 : decode cX11_why 89 = .ok (.iconst 0, 1) := by decide +kernel
theorem dX11_why_90 : decode cX11_why 90 = .ok (.iadd, 1) := by decide +kernel
theorem dX11_why_91 : decode cX11_why 91 = .ok (.ireturn, 1) := by decide +kernel
theorem dX11_isSo_0 : decode cX11_isSo 0 = .ok (.iconst 0, 1) := by decide +kernel
theorem dX11_isSo_1 : decode cX11_isSo 1 = .ok (.istore_n 2, 1) := by decide +kernel
theorem dX11_isSo_2 : decode cX11_isSo 2 = .ok (.iload_n 2, 1) := by decide +kernel
theorem dX11_isSo_3 : decode cX11_isSo 3 = .ok (.aload_n 0, 1) := by decide +kernel
theorem dX11_isSo_4 : decode cX11_isSo 4 = .ok (.getfield 37, 3) := by decide +kernel
theorem dX11_isSo_7 : decode cX11_isSo 7 = .ok (.if_icmp .ge 37, 3) := by decide +kernel
theorem dX11_isSo_10 : decode cX11_isSo 10 = .ok (.iload_n 1, 1) := by decide +kernel
theorem dX11_isSo_11 : decode cX11_isSo 11 = .ok (.ifCond .eq 15, 3) := by decide +kernel
theorem dX11_isSo_14 : decode cX11_isSo 14 = .ok (.aload_n 0, 1) := by decide +kernel
theorem dX11_isSo_15 : decode cX11_isSo 15 = .ok (.getfield 52, 3) := by decide +kernel
theorem dX11_isSo_18 : decode cX11_isSo 18 = .ok (.iload_n 2, 1) := by decide +kernel
theorem dX11_isSo_19 : decode cX11_isSo 19 = .ok (.baload, 1) := by decide +kernel
theorem dX11_isSo_20 : decode cX11_isSo 20 = .ok (.ifCond .eq 18, 3) := by decide +kernel
theorem dX11_isSo_23 : decode cX11_isSo 23 = .ok (.goto 13, 3) := by decide +kernel
theorem dX11_isSo_26 : decode cX11_isSo 26 = .ok (.aload_n 0, 1) := by decide +kernel
theorem dX11_isSo_27 : decode cX11_isSo 27 = .ok (.getfield 49, 3) := by decide +kernel
theorem dX11_isSo_30 : decode cX11_isSo 30 = .ok (.iload_n 2, 1) := by decide +kernel
theorem dX11_isSo_31 : decode cX11_isSo 31 = .ok (.iaload, 1) := by decide +kernel
theorem dX11_isSo_32 : decode cX11_isSo 32 = .ok (.iconst 1, 1) := by decide +kernel
theorem dX11_isSo_33 : decode cX11_isSo 33 = .ok (.if_icmp .ne 5, 3) := by decide +kernel
theorem dX11_isSo_36 : decode cX11_isSo 36 = .ok (.iload_n 2, 1) := by decide +kernel
theorem dX11_isSo_37 : decode cX11_isSo 37 = .ok (.ireturn, 1) := by decide +kernel
theorem dX11_isSo_38 : decode cX11_isSo 38 = .ok (.iinc 2 1, 3) := by decide +kernel
theorem dX11_isSo_41 : decode cX11_isSo 41 = .ok (.goto (-39), 3) := by decide +kernel
theorem dX11_isSo_44 : decode cX11_isSo 44 = .ok (.iconst (-1), 1) := by decide +kernel
theorem dX11_isSo_45 : decode cX11_isSo 45 = .ok (.ireturn, 1) := by decide +kernel
theorem dX11_firstOf_0 : decode cX11_firstOf 0 = .ok (.aload_n 0, 1) := by decide +kernel
theorem dX11_firstOf_1 : decode cX11_firstOf 1 = .ok (.iload_n 3, 1) := by decide +kernel
theorem dX11_firstOf_2 : decode cX11_firstOf 2 = .ok (.iload 4, 2) := by decide +kernel
theorem dX11_firstOf_4 : decode cX11_firstOf 4 = .ok (.bipush 100, 2) := by decide +kernel
theorem dX11_firstOf_6 : decode cX11_firstOf 6 = .ok (.invokevirtual 254, 3) := by decide +kernel
theorem dX11_firstOf_9 : decode cX11_firstOf 9 = .ok (.iconst (-1), 1) := by decide +kernel
theorem dX11_firstOf_10 : decode cX11_firstOf 10 = .ok (.istore 6, 2) := by decide +kernel
theorem dX11_firstOf_12 : decode cX11_firstOf 12 = .ok (.iconst 1, 1) := by decide +kernel
theorem dX11_firstOf_13 : decode cX11_firstOf 13 = .ok (.istore 7, 2) := by decide +kernel
theorem dX11_firstOf_15 : decode cX11_firstOf 15 = .ok (.iload 7, 2) := by decide +kernel
theorem dX11_firstOf_17 : decode cX11_firstOf 17 = .ok (.bipush 60, 2) := by decide +kernel
theorem dX11_firstOf_19 : decode cX11_firstOf 19 = .ok (.if_icmp .gt 49, 3) := by decide +kernel
theorem dX11_firstOf_22 : decode cX11_firstOf 22 = .ok (.iload 6, 2) := by decide +kernel
theorem dX11_firstOf_24 : decode cX11_firstOf 24 = .ok (.iconst (-1), 1) := by decide +kernel
theorem dX11_firstOf_25 : decode cX11_firstOf 25 = .ok (.if_icmp .ne 43, 3) := by decide +kernel
theorem dX11_firstOf_28 : decode cX11_firstOf 28 = .ok (.aload_n 0, 1) := by decide +kernel
theorem dX11_firstOf_29 : decode cX11_firstOf 29 = .ok (.iload_n 1, 1) := by decide +kernel
theorem dX11_firstOf_30 : decode cX11_firstOf 30 = .ok (.iload_n 2, 1) := by decide +kernel
theorem dX11_firstOf_31 : decode cX11_firstOf 31 = .ok (.invokevirtual 245, 3) := by decide +kernel
theorem dX11_firstOf_34 : decode cX11_firstOf 34 = .ok (.aload_n 0, 1) := by decide +kernel
theorem dX11_firstOf_35 : decode cX11_firstOf 35 = .ok (.iload 5, 2) := by decide +kernel
theorem dX11_firstOf_37 : decode cX11_firstOf 37 = .ok (.invokevirtual 271, 3) := by decide +kernel
theorem dX11_firstOf_40 : decode cX11_firstOf 40 = .ok (.istore 8, 2) := by decide +kernel
theorem dX11_firstOf_42 : decode cX11_firstOf 42 = .ok (.iload 8, 2) := by decide +kernel
theorem dX11_firstOf_44 : decode cX11_firstOf 44 = .ok (.iconst (-1), 1) := by decide +kernel
theorem dX11_firstOf_45 : decode cX11_firstOf 45 = .ok (.if_icmp .ne 7, 3) := by decide +kernel
theorem dX11_firstOf_48 : decode cX11_firstOf 48 = .ok (.iconst (-1), 1) := by decide +kernel
theorem dX11_firstOf_49 : decode cX11_firstOf 49 = .ok (.goto 11, 3) := by decide +kernel
theorem dX11_firstOf_52 : decode cX11_firstOf 52 = .ok (.bipush 100, 2) := by decide +kernel
theorem dX11_firstOf_54 : decode cX11_firstOf 54 = .ok (.iload 7, 2) := by decide +kernel
theorem dX11_firstOf_56 : decode cX11_firstOf 56 = .ok (.imul, 1) := by decide +kernel
theorem dX11_firstOf_57 : decode cX11_firstOf 57 = .ok (.iload 8, 2) := by decide +kernel
theorem dX11_firstOf_59 : decode cX11_firstOf 59 = .ok (.iadd, 1) := by decide +kernel
theorem dX11_firstOf_60 : decode cX11_firstOf 60 = .ok (.istore 6, 2) := by decide +kernel
theorem dX11_firstOf_62 : decode cX11_firstOf 62 = .ok (.iinc 7 1, 3) := by decide +kernel
theorem dX11_firstOf_65 : decode cX11_firstOf 65 = .ok (.goto (-50), 3) := by decide +kernel
theorem dX11_firstOf_68 : decode cX11_firstOf 68 = .ok (.aload_n 0, 1) := by decide +kernel
theorem dX11_firstOf_69 : decode cX11_firstOf 69 = .ok (.invokevirtual 257, 3) := by decide +kernel
theorem dX11_firstOf_72 : decode cX11_firstOf 72 = .ok (.iload 6, 2) := by decide +kernel
theorem dX11_firstOf_74 : decode cX11_firstOf 74 = .ok (.ireturn, 1) := by decide +kernel
theorem dX11_first_0 : decode cX11_first 0 = .ok (.aload_n 0, 1) := by decide +kernel
theorem dX11_first_1 : decode cX11_first 1 = .ok (.iconst 0, 1) := by decide +kernel
theorem dX11_first_2 : decode cX11_first 2 = .ok (.putfield 83, 3) := by decide +kernel
theorem dX11_first_5 : decode cX11_first 5 = .ok (.aload_n 0, 1) := by decide +kernel
theorem dX11_first_6 : decode cX11_first 6 = .ok (.iload_n 1, 1) := by decide +kernel
theorem dX11_first_7 : decode cX11_first 7 = .ok (.iload_n 2, 1) := by decide +kernel
theorem dX11_first_8 : decode cX11_first 8 = .ok (.iload_n 3, 1) := by decide +kernel
theorem dX11_first_9 : decode cX11_first 9 = .ok (.iload 4, 2) := by decide +kernel
theorem dX11_first_11 : decode cX11_first 11 = .ok (.invokevirtual 260, 3) := by decide +kernel
theorem dX11_first_14 : decode cX11_first 14 = .ok (.ifCond .eq 5, 3) := by decide +kernel
theorem dX11_first_17 : decode cX11_first 17 = .ok (.iconst 0, 1) := by decide +kernel
theorem dX11_first_18 : decode cX11_first 18 = .ok (.ireturn, 1) := by decide +kernel
theorem dX11_first_19 : decode cX11_first 19 = .ok (.aload_n 0, 1) := by decide +kernel
theorem dX11_first_20 : decode cX11_first 20 = .ok (.iload_n 1, 1) := by decide +kernel
theorem dX11_first_21 : decode cX11_first 21 = .ok (.iload_n 2, 1) := by decide +kernel
theorem dX11_first_22 : decode cX11_first 22 = .ok (.iload_n 3, 1) := by decide +kernel
theorem dX11_first_23 : decode cX11_first 23 = .ok (.iload 4, 2) := by decide +kernel
theorem dX11_first_25 : decode cX11_first 25 = .ok (.iload 5, 2) := by decide +kernel
theorem dX11_first_27 : decode cX11_first 27 = .ok (.invokevirtual 275, 3) := by decide +kernel
theorem dX11_first_30 : decode cX11_first 30 = .ok (.istore 6, 2) := by decide +kernel
theorem dX11_first_32 : decode cX11_first 32 = .ok (.iload 6, 2) := by decide +kernel
theorem dX11_first_34 : decode cX11_first 34 = .ok (.iconst (-1), 1) := by decide +kernel
theorem dX11_first_35 : decode cX11_first 35 = .ok (.if_icmp .ne 7, 3) := by decide +kernel
theorem dX11_first_38 : decode cX11_first 38 = .ok (.iconst (-1), 1) := by decide +kernel
theorem dX11_first_39 : decode cX11_first 39 = .ok (.goto 8, 3) := by decide +kernel
theorem dX11_first_42 : decode cX11_first 42 = .ok (.iload 6, 2) := by decide +kernel
theorem dX11_first_44 : decode cX11_first 44 = .ok (.bipush 100, 2) := by decide +kernel
theorem dX11_first_46 : decode cX11_first 46 = .ok (.idiv, 1) := by decide +kernel
theorem dX11_first_47 : decode cX11_first 47 = .ok (.ireturn, 1) := by decide +kernel
theorem dX11_where_0 : decode cX11_where 0 = .ok (.aload_n 0, 1) := by decide +kernel
theorem dX11_where_1 : decode cX11_where 1 = .ok (.iconst 0, 1) := by decide +kernel
theorem dX11_where_2 : decode cX11_where 2 = .ok (.putfield 83, 3) := by decide +kernel
theorem dX11_where_5 : decode cX11_where 5 = .ok (.aload_n 0, 1) := by decide +kernel
theorem dX11_where_6 : decode cX11_where 6 = .ok (.iload_n 1, 1) := by decide +kernel
theorem dX11_where_7 : decode cX11_where 7 = .ok (.iload_n 2, 1) := by decide +kernel
theorem dX11_where_8 : decode cX11_where 8 = .ok (.iload_n 3, 1) := by decide +kernel
theorem dX11_where_9 : decode cX11_where 9 = .ok (.iload 4, 2) := by decide +kernel
theorem dX11_where_11 : decode cX11_where 11 = .ok (.invokevirtual 260, 3) := by decide +kernel
theorem dX11_where_14 : decode cX11_where 14 = .ok (.ifCond .eq 5, 3) := by decide +kernel
theorem dX11_where_17 : decode cX11_where 17 = .ok (.iconst 0, 1) := by decide +kernel
theorem dX11_where_18 : decode cX11_where 18 = .ok (.ireturn, 1) := by decide +kernel
theorem dX11_where_19 : decode cX11_where 19 = .ok (.aload_n 0, 1) := by decide +kernel
theorem dX11_where_20 : decode cX11_where 20 = .ok (.iload_n 1, 1) := by decide +kernel
theorem dX11_where_21 : decode cX11_where 21 = .ok (.iload_n 2, 1) := by decide +kernel
theorem dX11_where_22 : decode cX11_where 22 = .ok (.iload_n 3, 1) := by decide +kernel
theorem dX11_where_23 : decode cX11_where 23 = .ok (.iload 4, 2) := by decide +kernel
theorem dX11_where_25 : decode cX11_where 25 = .ok (.iload 5, 2) := by decide +kernel
theorem dX11_where_27 : decode cX11_where 27 = .ok (.invokevirtual 275, 3) := by decide +kernel
theorem dX11_where_30 : decode cX11_where 30 = .ok (.istore 6, 2) := by decide +kernel
theorem dX11_where_32 : decode cX11_where 32 = .ok (.iload 6, 2) := by decide +kernel
theorem dX11_where_34 : decode cX11_where 34 = .ok (.iconst (-1), 1) := by decide +kernel
theorem dX11_where_35 : decode cX11_where 35 = .ok (.if_icmp .ne 7, 3) := by decide +kernel
theorem dX11_where_38 : decode cX11_where 38 = .ok (.iconst (-1), 1) := by decide +kernel
theorem dX11_where_39 : decode cX11_where 39 = .ok (.goto 8, 3) := by decide +kernel
theorem dX11_where_42 : decode cX11_where 42 = .ok (.iload 6, 2) := by decide +kernel
theorem dX11_where_44 : decode cX11_where 44 = .ok (.bipush 100, 2) := by decide +kernel
theorem dX11_where_46 : decode cX11_where 46 = .ok (.irem, 1) := by decide +kernel
theorem dX11_where_47 : decode cX11_where 47 = .ok (.ireturn, 1) := by decide +kernel
theorem dX11_slip_0 : decode cX11_slip 0 = .ok (.aload_n 0, 1) := by decide +kernel
theorem dX11_slip_1 : decode cX11_slip 1 = .ok (.iconst 0, 1) := by decide +kernel
theorem dX11_slip_2 : decode cX11_slip 2 = .ok (.putfield 83, 3) := by decide +kernel
theorem dX11_slip_5 : decode cX11_slip 5 = .ok (.aload_n 0, 1) := by decide +kernel
theorem dX11_slip_6 : decode cX11_slip 6 = .ok (.iload_n 1, 1) := by decide +kernel
theorem dX11_slip_7 : decode cX11_slip 7 = .ok (.iload_n 2, 1) := by decide +kernel
theorem dX11_slip_8 : decode cX11_slip 8 = .ok (.iconst 1, 1) := by decide +kernel
theorem dX11_slip_9 : decode cX11_slip 9 = .ok (.iload_n 3, 1) := by decide +kernel
theorem dX11_slip_10 : decode cX11_slip 10 = .ok (.invokevirtual 260, 3) := by decide +kernel
theorem dX11_slip_13 : decode cX11_slip 13 = .ok (.ifCond .eq 5, 3) := by decide +kernel
theorem dX11_slip_16 : decode cX11_slip 16 = .ok (.iconst 0, 1) := by decide +kernel
theorem dX11_slip_17 : decode cX11_slip 17 = .ok (.ireturn, 1) := by decide +kernel
theorem dX11_slip_18 : decode cX11_slip 18 = .ok (.aload_n 0, 1) := by decide +kernel
theorem dX11_slip_19 : decode cX11_slip 19 = .ok (.iload_n 1, 1) := by decide +kernel
theorem dX11_slip_20 : decode cX11_slip 20 = .ok (.iload_n 2, 1) := by decide +kernel
theorem dX11_slip_21 : decode cX11_slip 21 = .ok (.iconst 1, 1) := by decide +kernel
theorem dX11_slip_22 : decode cX11_slip 22 = .ok (.iload_n 3, 1) := by decide +kernel
theorem dX11_slip_23 : decode cX11_slip 23 = .ok (.bipush 100, 2) := by decide +kernel
theorem dX11_slip_25 : decode cX11_slip 25 = .ok (.invokevirtual 264, 3) := by decide +kernel
theorem dX11_slip_28 : decode cX11_slip 28 = .ok (.ifCond .eq 7, 3) := by decide +kernel
theorem dX11_slip_31 : decode cX11_slip 31 = .ok (.iconst 1, 1) := by decide +kernel
theorem dX11_slip_32 : decode cX11_slip 32 = .ok (.goto 4, 3) := by decide +kernel
theorem dX11_slip_35 : decode cX11_slip 35 = .ok (.iconst 0, 1) := by decide +kernel
theorem dX11_slip_36 : decode cX11_slip 36 = .ok (.istore 4, 2) := by decide +kernel
theorem dX11_slip_38 : decode cX11_slip 38 = .ok (.bipush 8, 2) := by decide +kernel
theorem dX11_slip_40 : decode cX11_slip 40 = .ok (.newarray .int, 2) := by decide +kernel
theorem dX11_slip_42 : decode cX11_slip 42 = .ok (.astore 5, 2) := by decide +kernel
theorem dX11_slip_44 : decode cX11_slip 44 = .ok (.iconst 0, 1) := by decide +kernel
theorem dX11_slip_45 : decode cX11_slip 45 = .ok (.istore 6, 2) := by decide +kernel
theorem dX11_slip_47 : decode cX11_slip 47 = .ok (.iload 6, 2) := by decide +kernel
theorem dX11_slip_49 : decode cX11_slip 49 = .ok (.bipush 8, 2) := by decide +kernel
theorem dX11_slip_51 : decode cX11_slip 51 = .ok (.if_icmp .ge 29, 3) := by decide +kernel
theorem dX11_slip_54 : decode cX11_slip 54 = .ok (.aload 5, 2) := by decide +kernel
theorem dX11_slip_56 : decode cX11_slip 56 = .ok (.iload 6, 2) := by decide +kernel
theorem dX11_slip_58 : decode cX11_slip 58 = .ok (.aload_n 0, 1) := by decide +kernel
theorem dX11_slip_59 : decode cX11_slip 59 = .ok (.getfield 49, 3) := by decide +kernel
theorem dX11_slip_62 : decode cX11_slip 62 = .ok (.iload 6, 2) := by decide +kernel
theorem dX11_slip_64 : decode cX11_slip 64 = .ok (.iaload, 1) := by decide +kernel
theorem dX11_slip_65 : decode cX11_slip 65 = .ok (.iastore, 1) := by decide +kernel
theorem dX11_slip_66 : decode cX11_slip 66 = .ok (.aload_n 0, 1) := by decide +kernel
theorem dX11_slip_67 : decode cX11_slip 67 = .ok (.getfield 49, 3) := by decide +kernel
theorem dX11_slip_70 : decode cX11_slip 70 = .ok (.iload 6, 2) := by decide +kernel
theorem dX11_slip_72 : decode cX11_slip 72 = .ok (.iconst 0, 1) := by decide +kernel
theorem dX11_slip_73 : decode cX11_slip 73 = .ok (.iastore, 1) := by decide +kernel
theorem dX11_slip_74 : decode cX11_slip 74 = .ok (.iinc 6 1, 3) := by decide +kernel
theorem dX11_slip_77 : decode cX11_slip 77 = .ok (.goto (-30), 3) := by decide +kernel
theorem dX11_slip_80 : decode cX11_slip 80 = .ok (.iload 4, 2) := by decide +kernel
theorem dX11_slip_82 : decode cX11_slip 82 = .ok (.aload_n 0, 1) := by decide +kernel
theorem dX11_slip_83 : decode cX11_slip 83 = .ok (.iload_n 1, 1) := by decide +kernel
theorem dX11_slip_84 : decode cX11_slip 84 = .ok (.iload_n 2, 1) := by decide +kernel
theorem dX11_slip_85 : decode cX11_slip 85 = .ok (.iconst 1, 1) := by decide +kernel
theorem dX11_slip_86 : decode cX11_slip 86 = .ok (.iload_n 3, 1) := by decide +kernel
theorem dX11_slip_87 : decode cX11_slip 87 = .ok (.bipush 100, 2) := by decide +kernel
theorem dX11_slip_89 : decode cX11_slip 89 = .ok (.invokevirtual 264, 3) := by decide +kernel
theorem dX11_slip_92 : decode cX11_slip 92 = .ok (.ifCond .eq 7, 3) := by decide +kernel
theorem dX11_slip_95 : decode cX11_slip 95 = .ok (.iconst 2, 1) := by decide +kernel
theorem dX11_slip_96 : decode cX11_slip 96 = .ok (.goto 4, 3) := by decide +kernel
theorem dX11_slip_99 : decode cX11_slip 99 = .ok (.iconst 0, 1) := by decide +kernel
theorem dX11_slip_100 : decode cX11_slip 100 = .ok (.iadd, 1) := by decide +kernel
theorem dX11_slip_101 : decode cX11_slip 101 = .ok (.istore 4, 2) := by decide +kernel
theorem dX11_slip_103 : decode cX11_slip 103 = .ok (.iconst 0, 1) := by decide +kernel
theorem dX11_slip_104 : decode cX11_slip 104 = .ok (.istore 6, 2) := by decide +kernel
theorem dX11_slip_106 : decode cX11_slip 106 = .ok (.iload 6, 2) := by decide +kernel
theorem dX11_slip_108 : decode cX11_slip 108 = .ok (.bipush 8, 2) := by decide +kernel
theorem dX11_slip_110 : decode cX11_slip 110 = .ok (.if_icmp .ge 21, 3) := by decide +kernel
theorem dX11_slip_113 : decode cX11_slip 113 = .ok (.aload_n 0, 1) := by decide +kernel
theorem dX11_slip_114 : decode cX11_slip 114 = .ok (.getfield 49, 3) := by decide +kernel
theorem dX11_slip_117 : decode cX11_slip 117 = .ok (.iload 6, 2) := by decide +kernel
theorem dX11_slip_119 : decode cX11_slip 119 = .ok (.aload 5, 2) := by decide +kernel
theorem dX11_slip_121 : decode cX11_slip 121 = .ok (.iload 6, 2) := by decide +kernel
theorem dX11_slip_123 : decode cX11_slip 123 = .ok (.iaload, 1) := by decide +kernel
theorem dX11_slip_124 : decode cX11_slip 124 = .ok (.iastore, 1) := by decide +kernel
theorem dX11_slip_125 : decode cX11_slip 125 = .ok (.iinc 6 1, 3) := by decide +kernel
theorem dX11_slip_128 : decode cX11_slip 128 = .ok (.goto (-22), 3) := by decide +kernel
theorem dX11_slip_131 : decode cX11_slip 131 = .ok (.iload 4, 2) := by decide +kernel
theorem dX11_slip_133 : decode cX11_slip 133 = .ok (.ireturn, 1) := by decide +kernel
theorem dX11_film_0 : decode cX11_film 0 = .ok (.aload_n 0, 1) := by decide +kernel
theorem dX11_film_1 : decode cX11_film 1 = .ok (.iconst 0, 1) := by decide +kernel
theorem dX11_film_2 : decode cX11_film 2 = .ok (.putfield 83, 3) := by decide +kernel
theorem dX11_film_5 : decode cX11_film 5 = .ok (.aload_n 0, 1) := by decide +kernel
theorem dX11_film_6 : decode cX11_film 6 = .ok (.aload_n 0, 1) := by decide +kernel
theorem dX11_film_7 : decode cX11_film 7 = .ok (.iload_n 2, 1) := by decide +kernel
theorem dX11_film_8 : decode cX11_film 8 = .ok (.invokevirtual 210, 3) := by decide +kernel
theorem dX11_film_11 : decode cX11_film 11 = .ok (.ifCond .ne 7, 3) := by decide +kernel
theorem dX11_film_14 : decode cX11_film 14 = .ok (.iconst 1, 1) := by decide +kernel
theorem dX11_film_15 : decode cX11_film 15 = .ok (.goto 4, 3) := by decide +kernel
theorem dX11_film_18 : decode cX11_film 18 = .ok (.iconst 0, 1) := by decide +kernel
theorem dX11_film_19 : decode cX11_film 19 = .ok (.iconst 1, 1) := by decide +kernel
theorem dX11_film_20 : decode cX11_film 20 = .ok (.invokevirtual 176, 3) := by decide +kernel
theorem dX11_film_23 : decode cX11_film 23 = .ok (.ifCond .ne 49, 3) := by decide +kernel
theorem dX11_film_26 : decode cX11_film 26 = .ok (.aload_n 0, 1) := by decide +kernel
theorem dX11_film_27 : decode cX11_film 27 = .ok (.iload_n 1, 1) := by decide +kernel
theorem dX11_film_28 : decode cX11_film 28 = .ok (.iconst 1, 1) := by decide +kernel
theorem dX11_film_29 : decode cX11_film 29 = .ok (.bipush 100, 2) := by decide +kernel
theorem dX11_film_31 : decode cX11_film 31 = .ok (.invokestatic 172, 3) := by decide +kernel
theorem dX11_film_34 : decode cX11_film 34 = .ok (.ifCond .eq 26, 3) := by decide +kernel
theorem dX11_film_37 : decode cX11_film 37 = .ok (.iload_n 3, 1) := by decide +kernel
theorem dX11_film_38 : decode cX11_film 38 = .ok (.ldc 240, 2) := by decide +kernel
theorem dX11_film_40 : decode cX11_film 40 = .ok (.ldc 241, 2) := by decide +kernel
theorem dX11_film_42 : decode cX11_film 42 = .ok (.invokestatic 172, 3) := by decide +kernel
theorem dX11_film_45 : decode cX11_film 45 = .ok (.ifCond .eq 15, 3) := by decide +kernel
theorem dX11_film_48 : decode cX11_film 48 = .ok (.iload 4, 2) := by decide +kernel
theorem dX11_film_50 : decode cX11_film 50 = .ok (.ldc 240, 2) := by decide +kernel
theorem dX11_film_52 : decode cX11_film 52 = .ok (.ldc 241, 2) := by decide +kernel
theorem dX11_film_54 : decode cX11_film 54 = .ok (.invokestatic 172, 3) := by decide +kernel
theorem dX11_film_57 : decode cX11_film 57 = .ok (.ifCond .ne 7, 3) := by decide +kernel
theorem dX11_film_60 : decode cX11_film 60 = .ok (.iconst 1, 1) := by decide +kernel
theorem dX11_film_61 : decode cX11_film 61 = .ok (.goto 4, 3) := by decide +kernel
theorem dX11_film_64 : decode cX11_film 64 = .ok (.iconst 0, 1) := by decide +kernel
theorem dX11_film_65 : decode cX11_film 65 = .ok (.iconst 2, 1) := by decide +kernel
theorem dX11_film_66 : decode cX11_film 66 = .ok (.invokevirtual 176, 3) := by decide +kernel
theorem dX11_film_69 : decode cX11_film 69 = .ok (.ifCond .eq 5, 3) := by decide +kernel
theorem dX11_film_72 : decode cX11_film 72 = .ok (.iconst 0, 1) := by decide +kernel
theorem dX11_film_73 : decode cX11_film 73 = .ok (.ireturn, 1) := by decide +kernel
theorem dX11_film_74 : decode cX11_film 74 = .ok (.aload_n 0, 1) := by decide +kernel
theorem dX11_film_75 : decode cX11_film 75 = .ok (.getfield 279, 3) := by decide +kernel
theorem dX11_film_78 : decode cX11_film 78 = .ok (.bipush 20, 2) := by decide +kernel
theorem dX11_film_80 : decode cX11_film 80 = .ok (.if_icmp .ne 5, 3) := by decide +kernel
theorem dX11_film_83 : decode cX11_film 83 = .ok (.iconst (-1), 1) := by decide +kernel
theorem dX11_film_84 : decode cX11_film 84 = .ok (.ireturn, 1) := by decide +kernel
theorem dX11_film_85 : decode cX11_film 85 = .ok (.aload_n 0, 1) := by decide +kernel
theorem dX11_film_86 : decode cX11_film 86 = .ok (.getfield 68, 3) := by decide +kernel
theorem dX11_film_89 : decode cX11_film 89 = .ok (.aload_n 0, 1) := by decide +kernel
theorem dX11_film_90 : decode cX11_film 90 = .ok (.getfield 279, 3) := by decide +kernel
theorem dX11_film_93 : decode cX11_film 93 = .ok (.aaload, 1) := by decide +kernel
theorem dX11_film_94 : decode cX11_film 94 = .ok (.iconst 0, 1) := by decide +kernel
theorem dX11_film_95 : decode cX11_film 95 = .ok (.iload_n 1, 1) := by decide +kernel
theorem dX11_film_96 : decode cX11_film 96 = .ok (.iastore, 1) := by decide +kernel
theorem dX11_film_97 : decode cX11_film 97 = .ok (.aload_n 0, 1) := by decide +kernel
theorem dX11_film_98 : decode cX11_film 98 = .ok (.getfield 68, 3) := by decide +kernel
theorem dX11_film_101 : decode cX11_film 101 = .ok (.aload_n 0, 1) := by decide +kernel
theorem dX11_film_102 : decode cX11_film 102 = .ok (.getfield 279, 3) := by decide +kernel
theorem dX11_film_105 : decode cX11_film 105 = .ok (.aaload, 1) := by decide +kernel
theorem dX11_film_106 : decode cX11_film 106 = .ok (.iconst 1, 1) := by decide +kernel
theorem dX11_film_107 : decode cX11_film 107 = .ok (.iload_n 2, 1) := by decide +kernel
theorem dX11_film_108 : decode cX11_film 108 = .ok (.iastore, 1) := by decide +kernel
theorem dX11_film_109 : decode cX11_film 109 = .ok (.aload_n 0, 1) := by decide +kernel
theorem dX11_film_110 : decode cX11_film 110 = .ok (.getfield 68, 3) := by decide +kernel
theorem dX11_film_113 : decode cX11_film 113 = .ok (.aload_n 0, 1) := by decide +kernel
theorem dX11_film_114 : decode cX11_film 114 = .ok (.getfield 279, 3) := by decide +kernel
theorem dX11_film_117 : decode cX11_film 117 = .ok (.aaload, 1) := by decide +kernel
theorem dX11_film_118 : decode cX11_film 118 = .ok (.iconst 2, 1) := by decide +kernel
theorem dX11_film_119 : decode cX11_film 119 = .ok (.iload_n 3, 1) := by decide +kernel
theorem dX11_film_120 : decode cX11_film 120 = .ok (.iastore, 1) := by decide +kernel
theorem dX11_film_121 : decode cX11_film 121 = .ok (.aload_n 0, 1) := by decide +kernel
theorem dX11_film_122 : decode cX11_film 122 = .ok (.getfield 68, 3) := by decide +kernel
theorem dX11_film_125 : decode cX11_film 125 = .ok (.aload_n 0, 1) := by decide +kernel
theorem dX11_film_126 : decode cX11_film 126 = .ok (.getfield 279, 3) := by decide +kernel
theorem dX11_film_129 : decode cX11_film 129 = .ok (.aaload, 1) := by decide +kernel
theorem dX11_film_130 : decode cX11_film 130 = .ok (.iconst 3, 1) := by decide +kernel
theorem dX11_film_131 : decode cX11_film 131 = .ok (.iload 4, 2) := by decide +kernel
theorem dX11_film_133 : decode cX11_film 133 = .ok (.iastore, 1) := by decide +kernel
theorem dX11_film_134 : decode cX11_film 134 = .ok (.aload_n 0, 1) := by decide +kernel
theorem dX11_film_135 : decode cX11_film 135 = .ok (.dup, 1) := by decide +kernel
theorem dX11_film_136 : decode cX11_film 136 = .ok (.getfield 279, 3) := by decide +kernel
theorem dX11_film_139 : decode cX11_film 139 = .ok (.iconst 1, 1) := by decide +kernel
theorem dX11_film_140 : decode cX11_film 140 = .ok (.iadd, 1) := by decide +kernel
theorem dX11_film_141 : decode cX11_film 141 = .ok (.putfield 279, 3) := by decide +kernel
theorem dX11_film_144 : decode cX11_film 144 = .ok (.aload_n 0, 1) := by decide +kernel
theorem dX11_film_145 : decode cX11_film 145 = .ok (.getfield 279, 3) := by decide +kernel
theorem dX11_film_148 : decode cX11_film 148 = .ok (.ireturn, 1) := by decide +kernel
theorem dX11_barred_0 : decode cX11_barred 0 = .ok (.aload_n 0, 1) := by decide +kernel
theorem dX11_barred_1 : decode cX11_barred 1 = .ok (.iconst 0, 1) := by decide +kernel
theorem dX11_barred_2 : decode cX11_barred 2 = .ok (.putfield 83, 3) := by decide +kernel
theorem dX11_barred_5 : decode cX11_barred 5 = .ok (.aload_n 0, 1) := by decide +kernel
theorem dX11_barred_6 : decode cX11_barred 6 = .ok (.aload_n 0, 1) := by decide +kernel
theorem dX11_barred_7 : decode cX11_barred 7 = .ok (.iload_n 1, 1) := by decide +kernel
theorem dX11_barred_8 : decode cX11_barred 8 = .ok (.invokevirtual 242, 3) := by decide +kernel
theorem dX11_barred_11 : decode cX11_barred 11 = .ok (.ifCond .ne 7, 3) := by decide +kernel
theorem dX11_barred_14 : decode cX11_barred 14 = .ok (.iconst 1, 1) := by decide +kernel
theorem dX11_barred_15 : decode cX11_barred 15 = .ok (.goto 4, 3) := by decide +kernel
theorem dX11_barred_18 : decode cX11_barred 18 = .ok (.iconst 0, 1) := by decide +kernel
theorem dX11_barred_19 : decode cX11_barred 19 = .ok (.iconst 1, 1) := by decide +kernel
theorem dX11_barred_20 : decode cX11_barred 20 = .ok (.invokevirtual 176, 3) := by decide +kernel
theorem dX11_barred_23 : decode cX11_barred 23 = .ok (.ifCond .ne 58, 3) := by decide +kernel
theorem dX11_barred_26 : decode cX11_barred 26 = .ok (.aload_n 0, 1) := by decide +kernel
theorem dX11_barred_27 : decode cX11_barred 27 = .ok (.iload_n 2, 1) := by decide +kernel
theorem dX11_barred_28 : decode cX11_barred 28 = .ok (.iconst 0, 1) := by decide +kernel
theorem dX11_barred_29 : decode cX11_barred 29 = .ok (.bipush 99, 2) := by decide +kernel
theorem dX11_barred_31 : decode cX11_barred 31 = .ok (.invokestatic 172, 3) := by decide +kernel
theorem dX11_barred_34 : decode cX11_barred 34 = .ok (.ifCond .eq 35, 3) := by decide +kernel
theorem dX11_barred_37 : decode cX11_barred 37 = .ok (.iload_n 3, 1) := by decide +kernel
theorem dX11_barred_38 : decode cX11_barred 38 = .ok (.iload 4, 2) := by decide +kernel
theorem dX11_barred_40 : decode cX11_barred 40 = .ok (.invokestatic 213, 3) := by decide +kernel
theorem dX11_barred_43 : decode cX11_barred 43 = .ok (.ifCond .eq 26, 3) := by decide +kernel
theorem dX11_barred_46 : decode cX11_barred 46 = .ok (.iload 5, 2) := by decide +kernel
theorem dX11_barred_48 : decode cX11_barred 48 = .ok (.iconst 1, 1) := by decide +kernel
theorem dX11_barred_49 : decode cX11_barred 49 = .ok (.sipush 9999, 3) := by decide +kernel
theorem dX11_barred_52 : decode cX11_barred 52 = .ok (.invokestatic 172, 3) := by decide +kernel
theorem dX11_barred_55 : decode cX11_barred 55 = .ok (.ifCond .eq 14, 3) := by decide +kernel
theorem dX11_barred_58 : decode cX11_barred 58 = .ok (.iload 6, 2) := by decide +kernel
theorem dX11_barred_60 : decode cX11_barred 60 = .ok (.iconst 0, 1) := by decide +kernel
theorem dX11_barred_61 : decode cX11_barred 61 = .ok (.ldc 241, 2) := by decide +kernel
theorem dX11_barred_63 : decode cX11_barred 63 = .ok (.invokestatic 172, 3) := by decide +kernel
theorem dX11_barred_66 : decode cX11_barred 66 = .ok (.ifCond .ne 7, 3) := by decide +kernel
theorem dX11_barred_69 : decode cX11_barred 69 = .ok (.iconst 1, 1) := by decide +kernel
theorem dX11_barred_70 : decode cX11_barred 70 = .ok (.goto 4, 3) := by decide +kernel
theorem dX11_barred_73 : decode cX11_barred 73 = .ok (.iconst 0, 1) := by decide +kernel
theorem dX11_barred_74 : decode cX11_barred 74 = .ok (.iconst 2, 1) := by decide +kernel
theorem dX11_barred_75 : decode cX11_barred 75 = .ok (.invokevirtual 176, 3) := by decide +kernel
theorem dX11_barred_78 : decode cX11_barred 78 = .ok (.ifCond .eq 5, 3) := by decide +kernel
theorem dX11_barred_81 : decode cX11_barred 81 = .ok (.iconst 0, 1) := by decide +kernel
theorem dX11_barred_82 : decode cX11_barred 82 = .ok (.ireturn, 1) := by decide +kernel
theorem dX11_barred_83 : decode cX11_barred 83 = .ok (.aload_n 0, 1) := by decide +kernel
theorem dX11_barred_84 : decode cX11_barred 84 = .ok (.iload_n 3, 1) := by decide +kernel
theorem dX11_barred_85 : decode cX11_barred 85 = .ok (.iload 4, 2) := by decide +kernel
theorem dX11_barred_87 : decode cX11_barred 87 = .ok (.iload 5, 2) := by decide +kernel
theorem dX11_barred_89 : decode cX11_barred 89 = .ok (.invokevirtual 254, 3) := by decide +kernel
theorem dX11_barred_92 : decode cX11_barred 92 = .ok (.iconst (-1), 1) := by decide +kernel
theorem dX11_barred_93 : decode cX11_barred 93 = .ok (.istore 7, 2) := by decide +kernel
theorem dX11_barred_95 : decode cX11_barred 95 = .ok (.iconst 1, 1) := by decide +kernel
theorem dX11_barred_96 : decode cX11_barred 96 = .ok (.istore 8, 2) := by decide +kernel
theorem dX11_barred_98 : decode cX11_barred 98 = .ok (.iload 8, 2) := by decide +kernel
theorem dX11_barred_100 : decode cX11_barred 100 = .ok (.bipush 100, 2) := by decide +kernel
theorem dX11_barred_102 : decode cX11_barred 102 = .ok (.if_icmp .gt 141, 3) := by decide +kernel
theorem dX11_barred_105 : decode cX11_barred 105 = .ok (.aload_n 0, 1) := by decide +kernel
theorem dX11_barred_106 : decode cX11_barred 106 = .ok (.iload_n 1, 1) := by decide +kernel
theorem dX11_barred_107 : decode cX11_barred 107 = .ok (.iload_n 2, 1) := by decide +kernel
theorem dX11_barred_108 : decode cX11_barred 108 = .ok (.invokevirtual 245, 3) := by decide +kernel
theorem dX11_barred_111 : decode cX11_barred 111 = .ok (.iconst 0, 1) := by decide +kernel
theorem dX11_barred_112 : decode cX11_barred 112 = .ok (.istore 9, 2) := by decide +kernel
theorem dX11_barred_114 : decode cX11_barred 114 = .ok (.iload 9, 2) := by decide +kernel
theorem dX11_barred_116 : decode cX11_barred 116 = .ok (.aload_n 0, 1) := by decide +kernel
theorem dX11_barred_117 : decode cX11_barred 117 = .ok (.getfield 279, 3) := by decide +kernel
theorem dX11_barred_120 : decode cX11_barred 120 = .ok (.if_icmp .ge 117, 3) := by decide +kernel
theorem dX11_barred_123 : decode cX11_barred 123 = .ok (.aload_n 0, 1) := by decide +kernel
theorem dX11_barred_124 : decode cX11_barred 124 = .ok (.getfield 68, 3) := by decide +kernel
theorem dX11_barred_127 : decode cX11_barred 127 = .ok (.iload 9, 2) := by decide +kernel
theorem dX11_barred_129 : decode cX11_barred 129 = .ok (.aaload, 1) := by decide +kernel
theorem dX11_barred_130 : decode cX11_barred 130 = .ok (.iconst 1, 1) := by decide +kernel
theorem dX11_barred_131 : decode cX11_barred 131 = .ok (.iaload, 1) := by decide +kernel
theorem dX11_barred_132 : decode cX11_barred 132 = .ok (.istore 10, 2) := by decide +kernel
theorem dX11_barred_134 : decode cX11_barred 134 = .ok (.aload_n 0, 1) := by decide +kernel
theorem dX11_barred_135 : decode cX11_barred 135 = .ok (.getfield 68, 3) := by decide +kernel
theorem dX11_barred_138 : decode cX11_barred 138 = .ok (.iload 9, 2) := by decide +kernel
theorem dX11_barred_140 : decode cX11_barred 140 = .ok (.aaload, 1) := by decide +kernel
theorem dX11_barred_141 : decode cX11_barred 141 = .ok (.iconst 0, 1) := by decide +kernel
theorem dX11_barred_142 : decode cX11_barred 142 = .ok (.iaload, 1) := by decide +kernel
theorem dX11_barred_143 : decode cX11_barred 143 = .ok (.iload 8, 2) := by decide +kernel
theorem dX11_barred_145 : decode cX11_barred 145 = .ok (.if_icmp .ne 86, 3) := by decide +kernel
theorem dX11_barred_148 : decode cX11_barred 148 = .ok (.iload 10, 2) := by decide +kernel
theorem dX11_barred_150 : decode cX11_barred 150 = .ok (.aload_n 0, 1) := by decide +kernel
theorem dX11_barred_151 : decode cX11_barred 151 = .ok (.getfield 37, 3) := by decide +kernel
theorem dX11_barred_154 : decode cX11_barred 154 = .ok (.if_icmp .ge 77, 3) := by decide +kernel
theorem dX11_barred_157 : decode cX11_barred 157 = .ok (.iload 7, 2) := by decide +kernel
theorem dX11_barred_159 : decode cX11_barred 159 = .ok (.iconst (-1), 1) := by decide +kernel
theorem dX11_barred_160 : decode cX11_barred 160 = .ok (.if_icmp .eq 13, 3) := by decide +kernel
theorem dX11_barred_163 : decode cX11_barred 163 = .ok (.iload 9, 2) := by decide +kernel
theorem dX11_barred_165 : decode cX11_barred 165 = .ok (.iload 7, 2) := by decide +kernel
theorem dX11_barred_167 : decode cX11_barred 167 = .ok (.if_icmp .lt 6, 3) := by decide +kernel
theorem dX11_barred_170 : decode cX11_barred 170 = .ok (.goto 61, 3) := by decide +kernel
theorem dX11_barred_173 : decode cX11_barred 173 = .ok (.aload_n 0, 1) := by decide +kernel
theorem dX11_barred_174 : decode cX11_barred 174 = .ok (.getfield 43, 3) := by decide +kernel
theorem dX11_barred_177 : decode cX11_barred 177 = .ok (.iconst 0, 1) := by decide +kernel
theorem dX11_barred_178 : decode cX11_barred 178 = .ok (.aaload, 1) := by decide +kernel
theorem dX11_barred_179 : decode cX11_barred 179 = .ok (.iload 10, 2) := by decide +kernel
theorem dX11_barred_181 : decode cX11_barred 181 = .ok (.iaload, 1) := by decide +kernel
theorem dX11_barred_182 : decode cX11_barred 182 = .ok (.aload_n 0, 1) := by decide +kernel
theorem dX11_barred_183 : decode cX11_barred 183 = .ok (.getfield 68, 3) := by decide +kernel
theorem dX11_barred_186 : decode cX11_barred 186 = .ok (.iload 9, 2) := by decide +kernel
theorem dX11_barred_188 : decode cX11_barred 188 = .ok (.aaload, 1) := by decide +kernel
theorem dX11_barred_189 : decode cX11_barred 189 = .ok (.iconst 2, 1) := by decide +kernel
theorem dX11_barred_190 : decode cX11_barred 190 = .ok (.iaload, 1) := by decide +kernel
theorem dX11_barred_191 : decode cX11_barred 191 = .ok (.isub, 1) := by decide +kernel
theorem dX11_barred_192 : decode cX11_barred 192 = .ok (.invokestatic 224, 3) := by decide +kernel
theorem dX11_barred_195 : decode cX11_barred 195 = .ok (.iload 6, 2) := by decide +kernel
theorem dX11_barred_197 : decode cX11_barred 197 = .ok (.if_icmp .gt 30, 3) := by decide +kernel
theorem dX11_barred_200 : decode cX11_barred 200 = .ok (.aload_n 0, 1) := by decide +kernel
theorem dX11_barred_201 : decode cX11_barred 201 = .ok (.getfield 43, 3) := by decide +kernel
theorem dX11_barred_204 : decode cX11_barred 204 = .ok (.iconst 1, 1) := by decide +kernel
theorem dX11_barred_205 : decode cX11_barred 205 = .ok (.aaload, 1) := by decide +kernel
theorem dX11_barred_206 : decode cX11_barred 206 = .ok (.iload 10, 2) := by decide +kernel
theorem dX11_barred_208 : decode cX11_barred 208 = .ok (.iaload, 1) := by decide +kernel
theorem dX11_barred_209 : decode cX11_barred 209 = .ok (.aload_n 0, 1) := by decide +kernel
theorem dX11_barred_210 : decode cX11_barred 210 = .ok (.getfield 68, 3) := by decide +kernel
theorem dX11_barred_213 : decode cX11_barred 213 = .ok (.iload 9, 2) := by decide +kernel
theorem dX11_barred_215 : decode cX11_barred 215 = .ok (.aaload, 1) := by decide +kernel
theorem dX11_barred_216 : decode cX11_barred 216 = .ok (.iconst 3, 1) := by decide +kernel
theorem dX11_barred_217 : decode cX11_barred 217 = .ok (.iaload, 1) := by decide +kernel
theorem dX11_barred_218 : decode cX11_barred 218 = .ok (.isub, 1) := by decide +kernel
theorem dX11_barred_219 : decode cX11_barred 219 = .ok (.invokestatic 224, 3) := by decide +kernel
theorem dX11_barred_222 : decode cX11_barred 222 = .ok (.iload 6, 2) := by decide +kernel
theorem dX11_barred_224 : decode cX11_barred 224 = .ok (.if_icmp .le 7, 3) := by decide +kernel
theorem dX11_barred_227 : decode cX11_barred 227 = .ok (.iload 9, 2) := by decide +kernel
theorem dX11_barred_229 : decode cX11_barred 229 = .ok (.istore 7, 2) := by decide +kernel
theorem dX11_barred_231 : decode cX11_barred 231 = .ok (.iinc 9 1, 3) := by decide +kernel
theorem dX11_barred_234 : decode cX11_barred 234 = .ok (.goto (-120), 3) := by decide +kernel
theorem dX11_barred_237 : decode cX11_barred 237 = .ok (.iinc 8 1, 3) := by decide +kernel
theorem dX11_barred_240 : decode cX11_barred 240 = .ok (.goto (-142), 3) := by decide +kernel
theorem dX11_barred_243 : decode cX11_barred 243 = .ok (.aload_n 0, 1) := by decide +kernel
theorem dX11_barred_244 : decode cX11_barred 244 = .ok (.invokevirtual 257, 3) := by decide +kernel
theorem dX11_barred_247 : decode cX11_barred 247 = .ok (.iload 7, 2) := by decide +kernel
theorem dX11_barred_249 : decode cX11_barred 249 = .ok (.ireturn, 1) := by decide +kernel
theorem dX11_shut_0 : decode cX11_shut 0 = .ok (.aload_n 0, 1) := by decide +kernel
theorem dX11_shut_1 : decode cX11_shut 1 = .ok (.iconst 0, 1) := by decide +kernel
theorem dX11_shut_2 : decode cX11_shut 2 = .ok (.putfield 83, 3) := by decide +kernel

theorem dL_law_0 : decode cL_law 0 = .ok (.aload_n 2, 1) := by decide +kernel
theorem dL_law_1 : decode cL_law 1 = .ok (.iconst 0, 1) := by decide +kernel
theorem dL_law_2 : decode cL_law 2 = .ok (.aload_n 0, 1) := by decide +kernel
theorem dL_law_3 : decode cL_law 3 = .ok (.iload_n 1, 1) := by decide +kernel
theorem dL_law_4 : decode cL_law 4 = .ok (.invokevirtual 7, 3) := by decide +kernel
theorem dL_law_7 : decode cL_law 7 = .ok (.i2l, 1) := by decide +kernel
theorem dL_law_8 : decode cL_law 8 = .ok (.lastore, 1) := by decide +kernel
theorem dL_law_9 : decode cL_law 9 = .ok (.goto 6, 3) := by decide +kernel
theorem dL_law_12 : decode cL_law 12 = .ok (.astore_n 3, 1) := by decide +kernel
theorem dL_law_13 : decode cL_law 13 = .ok (.iconst 1, 1) := by decide +kernel
theorem dL_law_14 : decode cL_law 14 = .ok (.ireturn, 1) := by decide +kernel
theorem dL_law_15 : decode cL_law 15 = .ok (.iconst 0, 1) := by decide +kernel
theorem dL_law_16 : decode cL_law 16 = .ok (.ireturn, 1) := by decide +kernel
theorem dL_deck_0 : decode cL_deck 0 = .ok (.aload_n 2, 1) := by decide +kernel
theorem dL_deck_1 : decode cL_deck 1 = .ok (.iconst 0, 1) := by decide +kernel
theorem dL_deck_2 : decode cL_deck 2 = .ok (.aload_n 0, 1) := by decide +kernel
theorem dL_deck_3 : decode cL_deck 3 = .ok (.iload_n 1, 1) := by decide +kernel
theorem dL_deck_4 : decode cL_deck 4 = .ok (.invokevirtual 15, 3) := by decide +kernel
theorem dL_deck_7 : decode cL_deck 7 = .ok (.i2l, 1) := by decide +kernel
theorem dL_deck_8 : decode cL_deck 8 = .ok (.lastore, 1) := by decide +kernel
theorem dL_deck_9 : decode cL_deck 9 = .ok (.goto 6, 3) := by decide +kernel
theorem dL_deck_12 : decode cL_deck 12 = .ok (.astore_n 3, 1) := by decide +kernel
theorem dL_deck_13 : decode cL_deck 13 = .ok (.iconst 1, 1) := by decide +kernel
theorem dL_deck_14 : decode cL_deck 14 = .ok (.ireturn, 1) := by decide +kernel
theorem dL_deck_15 : decode cL_deck 15 = .ok (.iconst 0, 1) := by decide +kernel
theorem dL_deck_16 : decode cL_deck 16 = .ok (.ireturn, 1) := by decide +kernel
theorem dL_set_0 : decode cL_set 0 = .ok (.aload_n 3, 1) := by decide +kernel
theorem dL_set_1 : decode cL_set 1 = .ok (.iconst 0, 1) := by decide +kernel
theorem dL_set_2 : decode cL_set 2 = .ok (.aload_n 0, 1) := by decide +kernel
theorem dL_set_3 : decode cL_set 3 = .ok (.iload_n 1, 1) := by decide +kernel
theorem dL_set_4 : decode cL_set 4 = .ok (.iload_n 2, 1) := by decide +kernel
theorem dL_set_5 : decode cL_set 5 = .ok (.invokevirtual 18, 3) := by decide +kernel
theorem dL_set_8 : decode cL_set 8 = .ok (.i2l, 1) := by decide +kernel
theorem dL_set_9 : decode cL_set 9 = .ok (.lastore, 1) := by decide +kernel
theorem dL_set_10 : decode cL_set 10 = .ok (.goto 7, 3) := by decide +kernel
theorem dL_set_13 : decode cL_set 13 = .ok (.astore 4, 2) := by decide +kernel
theorem dL_set_15 : decode cL_set 15 = .ok (.iconst 1, 1) := by decide +kernel
theorem dL_set_16 : decode cL_set 16 = .ok (.ireturn, 1) := by decide +kernel
theorem dL_set_17 : decode cL_set 17 = .ok (.iconst 0, 1) := by decide +kernel
theorem dL_set_18 : decode cL_set 18 = .ok (.ireturn, 1) := by decide +kernel
theorem dL_stay_0 : decode cL_stay 0 = .ok (.aload_n 3, 1) := by decide +kernel
theorem dL_stay_1 : decode cL_stay 1 = .ok (.iconst 0, 1) := by decide +kernel
theorem dL_stay_2 : decode cL_stay 2 = .ok (.aload_n 0, 1) := by decide +kernel
theorem dL_stay_3 : decode cL_stay 3 = .ok (.iload_n 1, 1) := by decide +kernel
theorem dL_stay_4 : decode cL_stay 4 = .ok (.iload_n 2, 1) := by decide +kernel
theorem dL_stay_5 : decode cL_stay 5 = .ok (.invokevirtual 22, 3) := by decide +kernel
theorem dL_stay_8 : decode cL_stay 8 = .ok (.i2l, 1) := by decide +kernel
theorem dL_stay_9 : decode cL_stay 9 = .ok (.lastore, 1) := by decide +kernel
theorem dL_stay_10 : decode cL_stay 10 = .ok (.goto 7, 3) := by decide +kernel
theorem dL_stay_13 : decode cL_stay 13 = .ok (.astore 4, 2) := by decide +kernel
theorem dL_stay_15 : decode cL_stay 15 = .ok (.iconst 1, 1) := by decide +kernel
theorem dL_stay_16 : decode cL_stay 16 = .ok (.ireturn, 1) := by decide +kernel
theorem dL_stay_17 : decode cL_stay 17 = .ok (.iconst 0, 1) := by decide +kernel
theorem dL_stay_18 : decode cL_stay 18 = .ok (.ireturn, 1) := by decide +kernel
theorem dL_shape_0 : decode cL_shape 0 = .ok (.aload 4, 2) := by decide +kernel
theorem dL_shape_2 : decode cL_shape 2 = .ok (.iconst 0, 1) := by decide +kernel
theorem dL_shape_3 : decode cL_shape 3 = .ok (.aload_n 0, 1) := by decide +kernel
theorem dL_shape_4 : decode cL_shape 4 = .ok (.iload_n 1, 1) := by decide +kernel
theorem dL_shape_5 : decode cL_shape 5 = .ok (.iload_n 2, 1) := by decide +kernel
theorem dL_shape_6 : decode cL_shape 6 = .ok (.iload_n 3, 1) := by decide +kernel
theorem dL_shape_7 : decode cL_shape 7 = .ok (.invokevirtual 28, 3) := by decide +kernel
theorem dL_shape_10 : decode cL_shape 10 = .ok (.i2l, 1) := by decide +kernel
theorem dL_shape_11 : decode cL_shape 11 = .ok (.lastore, 1) := by decide +kernel
theorem dL_shape_12 : decode cL_shape 12 = .ok (.goto 7, 3) := by decide +kernel
theorem dL_shape_15 : decode cL_shape 15 = .ok (.astore 5, 2) := by decide +kernel
theorem dL_shape_17 : decode cL_shape 17 = .ok (.iconst 1, 1) := by decide +kernel
theorem dL_shape_18 : decode cL_shape 18 = .ok (.ireturn, 1) := by decide +kernel
theorem dL_shape_19 : decode cL_shape 19 = .ok (.iconst 0, 1) := by decide +kernel
theorem dL_shape_20 : decode cL_shape 20 = .ok (.ireturn, 1) := by decide +kernel
theorem dL_go_0 : decode cL_go 0 = .ok (.aload 4, 2) := by decide +kernel
theorem dL_go_2 : decode cL_go 2 = .ok (.iconst 0, 1) := by decide +kernel
theorem dL_go_3 : decode cL_go 3 = .ok (.aload_n 0, 1) := by decide +kernel
theorem dL_go_4 : decode cL_go 4 = .ok (.iload_n 1, 1) := by decide +kernel
theorem dL_go_5 : decode cL_go 5 = .ok (.iload_n 2, 1) := by decide +kernel
theorem dL_go_6 : decode cL_go 6 = .ok (.iload_n 3, 1) := by decide +kernel
theorem dL_go_7 : decode cL_go 7 = .ok (.invokevirtual 32, 3) := by decide +kernel
theorem dL_go_10 : decode cL_go 10 = .ok (.i2l, 1) := by decide +kernel
theorem dL_go_11 : decode cL_go 11 = .ok (.lastore, 1) := by decide +kernel
theorem dL_go_12 : decode cL_go 12 = .ok (.goto 11, 3) := by decide +kernel
theorem dL_go_15 : decode cL_go 15 = .ok (.astore 5, 2) := by decide +kernel
theorem dL_go_17 : decode cL_go 17 = .ok (.iconst 1, 1) := by decide +kernel
theorem dL_go_18 : decode cL_go 18 = .ok (.ireturn, 1) := by decide +kernel
theorem dL_go_19 : decode cL_go 19 = .ok (.astore 5, 2) := by decide +kernel
theorem dL_go_21 : decode cL_go 21 = .ok (.iconst 2, 1) := by decide +kernel
theorem dL_go_22 : decode cL_go 22 = .ok (.ireturn, 1) := by decide +kernel
theorem dL_go_23 : decode cL_go 23 = .ok (.iconst 0, 1) := by decide +kernel
theorem dL_go_24 : decode cL_go 24 = .ok (.ireturn, 1) := by decide +kernel
theorem dL_piece_0 : decode cL_piece 0 = .ok (.aload_n 3, 1) := by decide +kernel
theorem dL_piece_1 : decode cL_piece 1 = .ok (.iconst 0, 1) := by decide +kernel
theorem dL_piece_2 : decode cL_piece 2 = .ok (.aload_n 0, 1) := by decide +kernel
theorem dL_piece_3 : decode cL_piece 3 = .ok (.iload_n 1, 1) := by decide +kernel
theorem dL_piece_4 : decode cL_piece 4 = .ok (.iload_n 2, 1) := by decide +kernel
theorem dL_piece_5 : decode cL_piece 5 = .ok (.invokevirtual 37, 3) := by decide +kernel
theorem dL_piece_8 : decode cL_piece 8 = .ok (.i2l, 1) := by decide +kernel
theorem dL_piece_9 : decode cL_piece 9 = .ok (.lastore, 1) := by decide +kernel
theorem dL_piece_10 : decode cL_piece 10 = .ok (.goto 11, 3) := by decide +kernel
theorem dL_piece_13 : decode cL_piece 13 = .ok (.astore 4, 2) := by decide +kernel
theorem dL_piece_15 : decode cL_piece 15 = .ok (.iconst 1, 1) := by decide +kernel
theorem dL_piece_16 : decode cL_piece 16 = .ok (.ireturn, 1) := by decide +kernel
theorem dL_piece_17 : decode cL_piece 17 = .ok (.astore 4, 2) := by decide +kernel
theorem dL_piece_19 : decode cL_piece 19 = .ok (.iconst 2, 1) := by decide +kernel
theorem dL_piece_20 : decode cL_piece 20 = .ok (.ireturn, 1) := by decide +kernel
theorem dL_piece_21 : decode cL_piece 21 = .ok (.iconst 0, 1) := by decide +kernel
theorem dL_piece_22 : decode cL_piece 22 = .ok (.ireturn, 1) := by decide +kernel
theorem dL_push_0 : decode cL_push 0 = .ok (.aload 5, 2) := by decide +kernel
theorem dL_push_2 : decode cL_push 2 = .ok (.iconst 0, 1) := by decide +kernel
theorem dL_push_3 : decode cL_push 3 = .ok (.aload_n 0, 1) := by decide +kernel
theorem dL_push_4 : decode cL_push 4 = .ok (.iload_n 1, 1) := by decide +kernel
theorem dL_push_5 : decode cL_push 5 = .ok (.iload_n 2, 1) := by decide +kernel
theorem dL_push_6 : decode cL_push 6 = .ok (.iload_n 3, 1) := by decide +kernel
theorem dL_push_7 : decode cL_push 7 = .ok (.iload 4, 2) := by decide +kernel
theorem dL_push_9 : decode cL_push 9 = .ok (.invokevirtual 40, 3) := by decide +kernel
theorem dL_push_12 : decode cL_push 12 = .ok (.i2l, 1) := by decide +kernel
theorem dL_push_13 : decode cL_push 13 = .ok (.lastore, 1) := by decide +kernel
theorem dL_push_14 : decode cL_push 14 = .ok (.goto 15, 3) := by decide +kernel
theorem dL_push_17 : decode cL_push 17 = .ok (.astore 6, 2) := by decide +kernel
theorem dL_push_19 : decode cL_push 19 = .ok (.iconst 1, 1) := by decide +kernel
theorem dL_push_20 : decode cL_push 20 = .ok (.ireturn, 1) := by decide +kernel
theorem dL_push_21 : decode cL_push 21 = .ok (.astore 6, 2) := by decide +kernel
theorem dL_push_23 : decode cL_push 23 = .ok (.iconst 2, 1) := by decide +kernel
theorem dL_push_24 : decode cL_push 24 = .ok (.ireturn, 1) := by decide +kernel
theorem dL_push_25 : decode cL_push 25 = .ok (.astore 6, 2) := by decide +kernel
theorem dL_push_27 : decode cL_push 27 = .ok (.iconst 3, 1) := by decide +kernel
theorem dL_push_28 : decode cL_push 28 = .ok (.ireturn, 1) := by decide +kernel
theorem dL_push_29 : decode cL_push 29 = .ok (.iconst 0, 1) := by decide +kernel
theorem dL_push_30 : decode cL_push 30 = .ok (.ireturn, 1) := by decide +kernel
theorem dL_grows_0 : decode cL_grows 0 = .ok (.aload 5, 2) := by decide +kernel
theorem dL_grows_2 : decode cL_grows 2 = .ok (.iconst 0, 1) := by decide +kernel
theorem dL_grows_3 : decode cL_grows 3 = .ok (.aload_n 0, 1) := by decide +kernel
theorem dL_grows_4 : decode cL_grows 4 = .ok (.iload_n 1, 1) := by decide +kernel
theorem dL_grows_5 : decode cL_grows 5 = .ok (.iload_n 2, 1) := by decide +kernel
theorem dL_grows_6 : decode cL_grows 6 = .ok (.iload_n 3, 1) := by decide +kernel
theorem dL_grows_7 : decode cL_grows 7 = .ok (.iload 4, 2) := by decide +kernel
theorem dL_grows_9 : decode cL_grows 9 = .ok (.invokevirtual 44, 3) := by decide +kernel
theorem dL_grows_12 : decode cL_grows 12 = .ok (.ifCond .eq 7, 3) := by decide +kernel
theorem dL_grows_15 : decode cL_grows 15 = .ok (.lconst 1, 1) := by decide +kernel
theorem dL_grows_16 : decode cL_grows 16 = .ok (.goto 4, 3) := by decide +kernel
theorem dL_grows_19 : decode cL_grows 19 = .ok (.lconst 0, 1) := by decide +kernel
theorem dL_grows_20 : decode cL_grows 20 = .ok (.lastore, 1) := by decide +kernel
theorem dL_grows_21 : decode cL_grows 21 = .ok (.goto 11, 3) := by decide +kernel
theorem dL_grows_24 : decode cL_grows 24 = .ok (.astore 6, 2) := by decide +kernel
theorem dL_grows_26 : decode cL_grows 26 = .ok (.iconst 1, 1) := by decide +kernel
theorem dL_grows_27 : decode cL_grows 27 = .ok (.ireturn, 1) := by decide +kernel
theorem dL_grows_28 : decode cL_grows 28 = .ok (.astore 6, 2) := by decide +kernel
theorem dL_grows_30 : decode cL_grows 30 = .ok (.iconst 2, 1) := by decide +kernel
theorem dL_grows_31 : decode cL_grows 31 = .ok (.ireturn, 1) := by decide +kernel
theorem dL_grows_32 : decode cL_grows 32 = .ok (.iconst 0, 1) := by decide +kernel
theorem dL_grows_33 : decode cL_grows 33 = .ok (.ireturn, 1) := by decide +kernel
theorem dL_line_0 : decode cL_line 0 = .ok (.aload 4, 2) := by decide +kernel
theorem dL_line_2 : decode cL_line 2 = .ok (.iconst 0, 1) := by decide +kernel
theorem dL_line_3 : decode cL_line 3 = .ok (.aload_n 0, 1) := by decide +kernel
theorem dL_line_4 : decode cL_line 4 = .ok (.iload_n 1, 1) := by decide +kernel
theorem dL_line_5 : decode cL_line 5 = .ok (.iload_n 2, 1) := by decide +kernel
theorem dL_line_6 : decode cL_line 6 = .ok (.iload_n 3, 1) := by decide +kernel
theorem dL_line_7 : decode cL_line 7 = .ok (.invokevirtual 48, 3) := by decide +kernel
theorem dL_line_10 : decode cL_line 10 = .ok (.i2l, 1) := by decide +kernel
theorem dL_line_11 : decode cL_line 11 = .ok (.lastore, 1) := by decide +kernel
theorem dL_line_12 : decode cL_line 12 = .ok (.goto 11, 3) := by decide +kernel
theorem dL_line_15 : decode cL_line 15 = .ok (.astore 5, 2) := by decide +kernel
theorem dL_line_17 : decode cL_line 17 = .ok (.iconst 1, 1) := by decide +kernel
theorem dL_line_18 : decode cL_line 18 = .ok (.ireturn, 1) := by decide +kernel
theorem dL_line_19 : decode cL_line 19 = .ok (.astore 5, 2) := by decide +kernel
theorem dL_line_21 : decode cL_line 21 = .ok (.iconst 2, 1) := by decide +kernel
theorem dL_line_22 : decode cL_line 22 = .ok (.ireturn, 1) := by decide +kernel
theorem dL_line_23 : decode cL_line 23 = .ok (.iconst 0, 1) := by decide +kernel
theorem dL_line_24 : decode cL_line 24 = .ok (.ireturn, 1) := by decide +kernel
theorem dL_why_0 : decode cL_why 0 = .ok (.aload 5, 2) := by decide +kernel
theorem dL_why_2 : decode cL_why 2 = .ok (.iconst 0, 1) := by decide +kernel
theorem dL_why_3 : decode cL_why 3 = .ok (.aload_n 0, 1) := by decide +kernel
theorem dL_why_4 : decode cL_why 4 = .ok (.iload_n 1, 1) := by decide +kernel
theorem dL_why_5 : decode cL_why 5 = .ok (.iload_n 2, 1) := by decide +kernel
theorem dL_why_6 : decode cL_why 6 = .ok (.iload_n 3, 1) := by decide +kernel
theorem dL_why_7 : decode cL_why 7 = .ok (.iload 4, 2) := by decide +kernel
theorem dL_why_9 : decode cL_why 9 = .ok (.invokevirtual 51, 3) := by decide +kernel
theorem dL_why_12 : decode cL_why 12 = .ok (.i2l, 1) := by decide +kernel
theorem dL_why_13 : decode cL_why 13 = .ok (.lastore, 1) := by decide +kernel
theorem dL_why_14 : decode cL_why 14 = .ok (.goto 11, 3) := by decide +kernel
theorem dL_why_17 : decode cL_why 17 = .ok (.astore 6, 2) := by decide +kernel
theorem dL_why_19 : decode cL_why 19 = .ok (.iconst 1, 1) := by decide +kernel
theorem dL_why_20 : decode cL_why 20 = .ok (.ireturn, 1) := by decide +kernel
theorem dL_why_21 : decode cL_why 21 = .ok (.astore 6, 2) := by decide +kernel
theorem dL_why_23 : decode cL_why 23 = .ok (.iconst 2, 1) := by decide +kernel
theorem dL_why_24 : decode cL_why 24 = .ok (.ireturn, 1) := by decide +kernel
theorem dL_why_25 : decode cL_why 25 = .ok (.iconst 0, 1) := by decide +kernel
theorem dL_why_26 : decode cL_why 26 = .ok (.ireturn, 1) := by decide +kernel
theorem dL_first_0 : decode cL_first 0 = .ok (.aload 6, 2) := by decide +kernel
theorem dL_first_2 : decode cL_first 2 = .ok (.iconst 0, 1) := by decide +kernel
theorem dL_first_3 : decode cL_first 3 = .ok (.aload_n 0, 1) := by decide +kernel
theorem dL_first_4 : decode cL_first 4 = .ok (.iload_n 1, 1) := by decide +kernel
theorem dL_first_5 : decode cL_first 5 = .ok (.iload_n 2, 1) := by decide +kernel
theorem dL_first_6 : decode cL_first 6 = .ok (.iload_n 3, 1) := by decide +kernel
theorem dL_first_7 : decode cL_first 7 = .ok (.iload 4, 2) := by decide +kernel
theorem dL_first_9 : decode cL_first 9 = .ok (.iload 5, 2) := by decide +kernel
theorem dL_first_11 : decode cL_first 11 = .ok (.invokevirtual 55, 3) := by decide +kernel
theorem dL_first_14 : decode cL_first 14 = .ok (.i2l, 1) := by decide +kernel
theorem dL_first_15 : decode cL_first 15 = .ok (.lastore, 1) := by decide +kernel
theorem dL_first_16 : decode cL_first 16 = .ok (.goto 11, 3) := by decide +kernel
theorem dL_first_19 : decode cL_first 19 = .ok (.astore 7, 2) := by decide +kernel
theorem dL_first_21 : decode cL_first 21 = .ok (.iconst 1, 1) := by decide +kernel
theorem dL_first_22 : decode cL_first 22 = .ok (.ireturn, 1) := by decide +kernel
theorem dL_first_23 : decode cL_first 23 = .ok (.astore 7, 2) := by decide +kernel
theorem dL_first_25 : decode cL_first 25 = .ok (.iconst 2, 1) := by decide +kernel
theorem dL_first_26 : decode cL_first 26 = .ok (.ireturn, 1) := by decide +kernel
theorem dL_first_27 : decode cL_first 27 = .ok (.iconst 0, 1) := by decide +kernel
theorem dL_first_28 : decode cL_first 28 = .ok (.ireturn, 1) := by decide +kernel
theorem dL_where_0 : decode cL_where 0 = .ok (.aload 6, 2) := by decide +kernel
theorem dL_where_2 : decode cL_where 2 = .ok (.iconst 0, 1) := by decide +kernel
theorem dL_where_3 : decode cL_where 3 = .ok (.aload_n 0, 1) := by decide +kernel
theorem dL_where_4 : decode cL_where 4 = .ok (.iload_n 1, 1) := by decide +kernel
theorem dL_where_5 : decode cL_where 5 = .ok (.iload_n 2, 1) := by decide +kernel
theorem dL_where_6 : decode cL_where 6 = .ok (.iload_n 3, 1) := by decide +kernel
theorem dL_where_7 : decode cL_where 7 = .ok (.iload 4, 2) := by decide +kernel
theorem dL_where_9 : decode cL_where 9 = .ok (.iload 5, 2) := by decide +kernel
theorem dL_where_11 : decode cL_where 11 = .ok (.invokevirtual 59, 3) := by decide +kernel
theorem dL_where_14 : decode cL_where 14 = .ok (.i2l, 1) := by decide +kernel
theorem dL_where_15 : decode cL_where 15 = .ok (.lastore, 1) := by decide +kernel
theorem dL_where_16 : decode cL_where 16 = .ok (.goto 11, 3) := by decide +kernel
theorem dL_where_19 : decode cL_where 19 = .ok (.astore 7, 2) := by decide +kernel
theorem dL_where_21 : decode cL_where 21 = .ok (.iconst 1, 1) := by decide +kernel
theorem dL_where_22 : decode cL_where 22 = .ok (.ireturn, 1) := by decide +kernel
theorem dL_where_23 : decode cL_where 23 = .ok (.astore 7, 2) := by decide +kernel
theorem dL_where_25 : decode cL_where 25 = .ok (.iconst 2, 1) := by decide +kernel
theorem dL_where_26 : decode cL_where 26 = .ok (.ireturn, 1) := by decide +kernel
theorem dL_where_27 : decode cL_where 27 = .ok (.iconst 0, 1) := by decide +kernel
theorem dL_where_28 : decode cL_where 28 = .ok (.ireturn, 1) := by decide +kernel
theorem dL_slip_0 : decode cL_slip 0 = .ok (.aload 4, 2) := by decide +kernel
theorem dL_slip_2 : decode cL_slip 2 = .ok (.iconst 0, 1) := by decide +kernel
theorem dL_slip_3 : decode cL_slip 3 = .ok (.aload_n 0, 1) := by decide +kernel
theorem dL_slip_4 : decode cL_slip 4 = .ok (.iload_n 1, 1) := by decide +kernel
theorem dL_slip_5 : decode cL_slip 5 = .ok (.iload_n 2, 1) := by decide +kernel
theorem dL_slip_6 : decode cL_slip 6 = .ok (.iload_n 3, 1) := by decide +kernel
theorem dL_slip_7 : decode cL_slip 7 = .ok (.invokevirtual 62, 3) := by decide +kernel
theorem dL_slip_10 : decode cL_slip 10 = .ok (.i2l, 1) := by decide +kernel
theorem dL_slip_11 : decode cL_slip 11 = .ok (.lastore, 1) := by decide +kernel
theorem dL_slip_12 : decode cL_slip 12 = .ok (.goto 11, 3) := by decide +kernel
theorem dL_slip_15 : decode cL_slip 15 = .ok (.astore 5, 2) := by decide +kernel
theorem dL_slip_17 : decode cL_slip 17 = .ok (.iconst 1, 1) := by decide +kernel
theorem dL_slip_18 : decode cL_slip 18 = .ok (.ireturn, 1) := by decide +kernel
theorem dL_slip_19 : decode cL_slip 19 = .ok (.astore 5, 2) := by decide +kernel
theorem dL_slip_21 : decode cL_slip 21 = .ok (.iconst 2, 1) := by decide +kernel
theorem dL_slip_22 : decode cL_slip 22 = .ok (.ireturn, 1) := by decide +kernel
theorem dL_slip_23 : decode cL_slip 23 = .ok (.iconst 0, 1) := by decide +kernel
theorem dL_slip_24 : decode cL_slip 24 = .ok (.ireturn, 1) := by decide +kernel
theorem dL_film_0 : decode cL_film 0 = .ok (.aload 5, 2) := by decide +kernel
theorem dL_film_2 : decode cL_film 2 = .ok (.iconst 0, 1) := by decide +kernel
theorem dL_film_3 : decode cL_film 3 = .ok (.aload_n 0, 1) := by decide +kernel
theorem dL_film_4 : decode cL_film 4 = .ok (.iload_n 1, 1) := by decide +kernel
theorem dL_film_5 : decode cL_film 5 = .ok (.iload_n 2, 1) := by decide +kernel
theorem dL_film_6 : decode cL_film 6 = .ok (.iload_n 3, 1) := by decide +kernel
theorem dL_film_7 : decode cL_film 7 = .ok (.iload 4, 2) := by decide +kernel
theorem dL_film_9 : decode cL_film 9 = .ok (.invokevirtual 65, 3) := by decide +kernel
theorem dL_film_12 : decode cL_film 12 = .ok (.i2l, 1) := by decide +kernel
theorem dL_film_13 : decode cL_film 13 = .ok (.lastore, 1) := by decide +kernel
theorem dL_film_14 : decode cL_film 14 = .ok (.goto 11, 3) := by decide +kernel
theorem dL_film_17 : decode cL_film 17 = .ok (.astore 6, 2) := by decide +kernel
theorem dL_film_19 : decode cL_film 19 = .ok (.iconst 1, 1) := by decide +kernel
theorem dL_film_20 : decode cL_film 20 = .ok (.ireturn, 1) := by decide +kernel
theorem dL_film_21 : decode cL_film 21 = .ok (.astore 6, 2) := by decide +kernel
theorem dL_film_23 : decode cL_film 23 = .ok (.iconst 2, 1) := by decide +kernel
theorem dL_film_24 : decode cL_film 24 = .ok (.ireturn, 1) := by decide +kernel
theorem dL_film_25 : decode cL_film 25 = .ok (.iconst 0, 1) := by decide +kernel
theorem dL_film_26 : decode cL_film 26 = .ok (.ireturn, 1) := by decide +kernel
theorem dL_barred_0 : decode cL_barred 0 = .ok (.aload 7, 2) := by decide +kernel
theorem dL_barred_2 : decode cL_barred 2 = .ok (.iconst 0, 1) := by decide +kernel
theorem dL_barred_3 : decode cL_barred 3 = .ok (.aload_n 0, 1) := by decide +kernel
theorem dL_barred_4 : decode cL_barred 4 = .ok (.iload_n 1, 1) := by decide +kernel
theorem dL_barred_5 : decode cL_barred 5 = .ok (.iload_n 2, 1) := by decide +kernel
theorem dL_barred_6 : decode cL_barred 6 = .ok (.iload_n 3, 1) := by decide +kernel
theorem dL_barred_7 : decode cL_barred 7 = .ok (.iload 4, 2) := by decide +kernel
theorem dL_barred_9 : decode cL_barred 9 = .ok (.iload 5, 2) := by decide +kernel
theorem dL_barred_11 : decode cL_barred 11 = .ok (.iload 6, 2) := by decide +kernel
theorem dL_barred_13 : decode cL_barred 13 = .ok (.invokevirtual 68, 3) := by decide +kernel
theorem dL_barred_16 : decode cL_barred 16 = .ok (.i2l, 1) := by decide +kernel
theorem dL_barred_17 : decode cL_barred 17 = .ok (.lastore, 1) := by decide +kernel
theorem dL_barred_18 : decode cL_barred 18 = .ok (.goto 11, 3) := by decide +kernel
theorem dL_barred_21 : decode cL_barred 21 = .ok (.astore 8, 2) := by decide +kernel
theorem dL_barred_23 : decode cL_barred 23 = .ok (.iconst 1, 1) := by decide +kernel
theorem dL_barred_24 : decode cL_barred 24 = .ok (.ireturn, 1) := by decide +kernel
theorem dL_barred_25 : decode cL_barred 25 = .ok (.astore 8, 2) := by decide +kernel
theorem dL_barred_27 : decode cL_barred 27 = .ok (.iconst 2, 1) := by decide +kernel
theorem dL_barred_28 : decode cL_barred 28 = .ok (.ireturn, 1) := by decide +kernel
theorem dL_barred_29 : decode cL_barred 29 = .ok (.iconst 0, 1) := by decide +kernel
theorem dL_barred_30 : decode cL_barred 30 = .ok (.ireturn, 1) := by decide +kernel
theorem dL_mend_0 : decode cL_mend 0 = .ok (.aload 4, 2) := by decide +kernel
theorem dL_mend_2 : decode cL_mend 2 = .ok (.iconst 0, 1) := by decide +kernel
theorem dL_mend_3 : decode cL_mend 3 = .ok (.aload_n 0, 1) := by decide +kernel
theorem dL_mend_4 : decode cL_mend 4 = .ok (.iload_n 1, 1) := by decide +kernel
theorem dL_mend_5 : decode cL_mend 5 = .ok (.iload_n 2, 1) := by decide +kernel
theorem dL_mend_6 : decode cL_mend 6 = .ok (.iload_n 3, 1) := by decide +kernel
theorem dL_mend_7 : decode cL_mend 7 = .ok (.invokevirtual 72, 3) := by decide +kernel
theorem dL_mend_10 : decode cL_mend 10 = .ok (.i2l, 1) := by decide +kernel
theorem dL_mend_11 : decode cL_mend 11 = .ok (.lastore, 1) := by decide +kernel
theorem dL_mend_12 : decode cL_mend 12 = .ok (.goto 7, 3) := by decide +kernel
theorem dL_mend_15 : decode cL_mend 15 = .ok (.astore 5, 2) := by decide +kernel
theorem dL_mend_17 : decode cL_mend 17 = .ok (.iconst 1, 1) := by decide +kernel
theorem dL_mend_18 : decode cL_mend 18 = .ok (.ireturn, 1) := by decide +kernel
theorem dL_mend_19 : decode cL_mend 19 = .ok (.iconst 0, 1) := by decide +kernel
theorem dL_mend_20 : decode cL_mend 20 = .ok (.ireturn, 1) := by decide +kernel
theorem dL_calm_0 : decode cL_calm 0 = .ok (.aload_n 3, 1) := by decide +kernel
theorem dL_calm_1 : decode cL_calm 1 = .ok (.iconst 0, 1) := by decide +kernel
theorem dL_calm_2 : decode cL_calm 2 = .ok (.aload_n 0, 1) := by decide +kernel
theorem dL_calm_3 : decode cL_calm 3 = .ok (.iload_n 1, 1) := by decide +kernel
theorem dL_calm_4 : decode cL_calm 4 = .ok (.iload_n 2, 1) := by decide +kernel
theorem dL_calm_5 : decode cL_calm 5 = .ok (.invokevirtual 75, 3) := by decide +kernel
theorem dL_calm_8 : decode cL_calm 8 = .ok (.ifCond .eq 7, 3) := by decide +kernel
theorem dL_calm_11 : decode cL_calm 11 = .ok (.lconst 1, 1) := by decide +kernel
theorem dL_calm_12 : decode cL_calm 12 = .ok (.goto 4, 3) := by decide +kernel
theorem dL_calm_15 : decode cL_calm 15 = .ok (.lconst 0, 1) := by decide +kernel
theorem dL_calm_16 : decode cL_calm 16 = .ok (.lastore, 1) := by decide +kernel
theorem dL_calm_17 : decode cL_calm 17 = .ok (.goto 11, 3) := by decide +kernel
theorem dL_calm_20 : decode cL_calm 20 = .ok (.astore 4, 2) := by decide +kernel
theorem dL_calm_22 : decode cL_calm 22 = .ok (.iconst 1, 1) := by decide +kernel
theorem dL_calm_23 : decode cL_calm 23 = .ok (.ireturn, 1) := by decide +kernel
theorem dL_calm_24 : decode cL_calm 24 = .ok (.astore 4, 2) := by decide +kernel
theorem dL_calm_26 : decode cL_calm 26 = .ok (.iconst 2, 1) := by decide +kernel
theorem dL_calm_27 : decode cL_calm 27 = .ok (.ireturn, 1) := by decide +kernel
theorem dL_calm_28 : decode cL_calm 28 = .ok (.iconst 0, 1) := by decide +kernel
theorem dL_calm_29 : decode cL_calm 29 = .ok (.ireturn, 1) := by decide +kernel
theorem dL_mended_0 : decode cL_mended 0 = .ok (.aload_n 3, 1) := by decide +kernel
theorem dL_mended_1 : decode cL_mended 1 = .ok (.iconst 0, 1) := by decide +kernel
theorem dL_mended_2 : decode cL_mended 2 = .ok (.aload_n 0, 1) := by decide +kernel
theorem dL_mended_3 : decode cL_mended 3 = .ok (.iload_n 1, 1) := by decide +kernel
theorem dL_mended_4 : decode cL_mended 4 = .ok (.iload_n 2, 1) := by decide +kernel
theorem dL_mended_5 : decode cL_mended 5 = .ok (.invokevirtual 79, 3) := by decide +kernel
theorem dL_mended_8 : decode cL_mended 8 = .ok (.i2l, 1) := by decide +kernel
theorem dL_mended_9 : decode cL_mended 9 = .ok (.lastore, 1) := by decide +kernel
theorem dL_mended_10 : decode cL_mended 10 = .ok (.goto 11, 3) := by decide +kernel
theorem dL_mended_13 : decode cL_mended 13 = .ok (.astore 4, 2) := by decide +kernel
theorem dL_mended_15 : decode cL_mended 15 = .ok (.iconst 1, 1) := by decide +kernel
theorem dL_mended_16 : decode cL_mended 16 = .ok (.ireturn, 1) := by decide +kernel
theorem dL_mended_17 : decode cL_mended 17 = .ok (.astore 4, 2) := by decide +kernel
theorem dL_mended_19 : decode cL_mended 19 = .ok (.iconst 2, 1) := by decide +kernel
theorem dL_mended_20 : decode cL_mended 20 = .ok (.ireturn, 1) := by decide +kernel
theorem dL_mended_21 : decode cL_mended 21 = .ok (.iconst 0, 1) := by decide +kernel
theorem dL_mended_22 : decode cL_mended 22 = .ok (.ireturn, 1) := by decide +kernel
theorem dL_week_0 : decode cL_week 0 = .ok (.aload_n 3, 1) := by decide +kernel
theorem dL_week_1 : decode cL_week 1 = .ok (.iconst 0, 1) := by decide +kernel
theorem dL_week_2 : decode cL_week 2 = .ok (.aload_n 0, 1) := by decide +kernel
theorem dL_week_3 : decode cL_week 3 = .ok (.iload_n 1, 1) := by decide +kernel
theorem dL_week_4 : decode cL_week 4 = .ok (.iload_n 2, 1) := by decide +kernel
theorem dL_week_5 : decode cL_week 5 = .ok (.invokevirtual 82, 3) := by decide +kernel
theorem dL_week_8 : decode cL_week 8 = .ok (.i2l, 1) := by decide +kernel
theorem dL_week_9 : decode cL_week 9 = .ok (.lastore, 1) := by decide +kernel
theorem dL_week_10 : decode cL_week 10 = .ok (.goto 11, 3) := by decide +kernel
theorem dL_week_13 : decode cL_week 13 = .ok (.astore 4, 2) := by decide +kernel
theorem dL_week_15 : decode cL_week 15 = .ok (.iconst 1, 1) := by decide +kernel
theorem dL_week_16 : decode cL_week 16 = .ok (.ireturn, 1) := by decide +kernel
theorem dL_week_17 : decode cL_week 17 = .ok (.astore 4, 2) := by decide +kernel
theorem dL_week_19 : decode cL_week 19 = .ok (.iconst 2, 1) := by decide +kernel
theorem dL_week_20 : decode cL_week 20 = .ok (.ireturn, 1) := by decide +kernel
theorem dL_week_21 : decode cL_week 21 = .ok (.iconst 0, 1) := by decide +kernel
theorem dL_week_22 : decode cL_week 22 = .ok (.ireturn, 1) := by decide +kernel
theorem dL_span_0 : decode cL_span 0 = .ok (.aload 6, 2) := by decide +kernel
theorem dL_span_2 : decode cL_span 2 = .ok (.iconst 0, 1) := by decide +kernel
theorem dL_span_3 : decode cL_span 3 = .ok (.aload_n 0, 1) := by decide +kernel
theorem dL_span_4 : decode cL_span 4 = .ok (.iload_n 1, 1) := by decide +kernel
theorem dL_span_5 : decode cL_span 5 = .ok (.iload_n 2, 1) := by decide +kernel
theorem dL_span_6 : decode cL_span 6 = .ok (.iload_n 3, 1) := by decide +kernel
theorem dL_span_7 : decode cL_span 7 = .ok (.iload 4, 2) := by decide +kernel
theorem dL_span_9 : decode cL_span 9 = .ok (.iload 5, 2) := by decide +kernel
theorem dL_span_11 : decode cL_span 11 = .ok (.invokevirtual 85, 3) := by decide +kernel
theorem dL_span_14 : decode cL_span 14 = .ok (.i2l, 1) := by decide +kernel
theorem dL_span_15 : decode cL_span 15 = .ok (.lastore, 1) := by decide +kernel
theorem dL_span_16 : decode cL_span 16 = .ok (.goto 11, 3) := by decide +kernel
theorem dL_span_19 : decode cL_span 19 = .ok (.astore 7, 2) := by decide +kernel
theorem dL_span_21 : decode cL_span 21 = .ok (.iconst 1, 1) := by decide +kernel
theorem dL_span_22 : decode cL_span 22 = .ok (.ireturn, 1) := by decide +kernel
theorem dL_span_23 : decode cL_span 23 = .ok (.astore 7, 2) := by decide +kernel
theorem dL_span_25 : decode cL_span 25 = .ok (.iconst 2, 1) := by decide +kernel
theorem dL_span_26 : decode cL_span 26 = .ok (.ireturn, 1) := by decide +kernel
theorem dL_span_27 : decode cL_span 27 = .ok (.iconst 0, 1) := by decide +kernel
theorem dL_span_28 : decode cL_span 28 = .ok (.ireturn, 1) := by decide +kernel
theorem dL_bridge_0 : decode cL_bridge 0 = .ok (.aload_n 2, 1) := by decide +kernel
theorem dL_bridge_1 : decode cL_bridge 1 = .ok (.iconst 0, 1) := by decide +kernel
theorem dL_bridge_2 : decode cL_bridge 2 = .ok (.aload_n 0, 1) := by decide +kernel
theorem dL_bridge_3 : decode cL_bridge 3 = .ok (.iload_n 1, 1) := by decide +kernel
theorem dL_bridge_4 : decode cL_bridge 4 = .ok (.invokevirtual 88, 3) := by decide +kernel
theorem dL_bridge_7 : decode cL_bridge 7 = .ok (.i2l, 1) := by decide +kernel
theorem dL_bridge_8 : decode cL_bridge 8 = .ok (.lastore, 1) := by decide +kernel
theorem dL_bridge_9 : decode cL_bridge 9 = .ok (.goto 6, 3) := by decide +kernel
theorem dL_bridge_12 : decode cL_bridge 12 = .ok (.astore_n 3, 1) := by decide +kernel
theorem dL_bridge_13 : decode cL_bridge 13 = .ok (.iconst 1, 1) := by decide +kernel
theorem dL_bridge_14 : decode cL_bridge 14 = .ok (.ireturn, 1) := by decide +kernel
theorem dL_bridge_15 : decode cL_bridge 15 = .ok (.iconst 0, 1) := by decide +kernel
theorem dL_bridge_16 : decode cL_bridge 16 = .ok (.ireturn, 1) := by decide +kernel
theorem dL_blows_0 : decode cL_blows 0 = .ok (.aload 4, 2) := by decide +kernel
theorem dL_blows_2 : decode cL_blows 2 = .ok (.iconst 0, 1) := by decide +kernel
theorem dL_blows_3 : decode cL_blows 3 = .ok (.aload_n 0, 1) := by decide +kernel
theorem dL_blows_4 : decode cL_blows 4 = .ok (.iload_n 1, 1) := by decide +kernel
theorem dL_blows_5 : decode cL_blows 5 = .ok (.iload_n 2, 1) := by decide +kernel
theorem dL_blows_6 : decode cL_blows 6 = .ok (.iload_n 3, 1) := by decide +kernel
theorem dL_blows_7 : decode cL_blows 7 = .ok (.invokevirtual 91, 3) := by decide +kernel
theorem dL_blows_10 : decode cL_blows 10 = .ok (.i2l, 1) := by decide +kernel
theorem dL_blows_11 : decode cL_blows 11 = .ok (.lastore, 1) := by decide +kernel
theorem dL_blows_12 : decode cL_blows 12 = .ok (.goto 11, 3) := by decide +kernel
theorem dL_blows_15 : decode cL_blows 15 = .ok (.astore 5, 2) := by decide +kernel
theorem dL_blows_17 : decode cL_blows 17 = .ok (.iconst 1, 1) := by decide +kernel
theorem dL_blows_18 : decode cL_blows 18 = .ok (.ireturn, 1) := by decide +kernel
theorem dL_blows_19 : decode cL_blows 19 = .ok (.astore 5, 2) := by decide +kernel
theorem dL_blows_21 : decode cL_blows 21 = .ok (.iconst 2, 1) := by decide +kernel
theorem dL_blows_22 : decode cL_blows 22 = .ok (.ireturn, 1) := by decide +kernel
theorem dL_blows_23 : decode cL_blows 23 = .ok (.iconst 0, 1) := by decide +kernel
theorem dL_blows_24 : decode cL_blows 24 = .ok (.ireturn, 1) := by decide +kernel
theorem dL_hours_0 : decode cL_hours 0 = .ok (.aload_n 2, 1) := by decide +kernel
theorem dL_hours_1 : decode cL_hours 1 = .ok (.iconst 0, 1) := by decide +kernel
theorem dL_hours_2 : decode cL_hours 2 = .ok (.aload_n 0, 1) := by decide +kernel
theorem dL_hours_3 : decode cL_hours 3 = .ok (.iload_n 1, 1) := by decide +kernel
theorem dL_hours_4 : decode cL_hours 4 = .ok (.invokevirtual 94, 3) := by decide +kernel
theorem dL_hours_7 : decode cL_hours 7 = .ok (.i2l, 1) := by decide +kernel
theorem dL_hours_8 : decode cL_hours 8 = .ok (.lastore, 1) := by decide +kernel
theorem dL_hours_9 : decode cL_hours 9 = .ok (.goto 6, 3) := by decide +kernel
theorem dL_hours_12 : decode cL_hours 12 = .ok (.astore_n 3, 1) := by decide +kernel
theorem dL_hours_13 : decode cL_hours 13 = .ok (.iconst 1, 1) := by decide +kernel
theorem dL_hours_14 : decode cL_hours 14 = .ok (.ireturn, 1) := by decide +kernel
theorem dL_hours_15 : decode cL_hours 15 = .ok (.iconst 0, 1) := by decide +kernel
theorem dL_hours_16 : decode cL_hours 16 = .ok (.ireturn, 1) := by decide +kernel
theorem dL_paper_0 : decode cL_paper 0 = .ok (.aload 4, 2) := by decide +kernel
theorem dL_paper_2 : decode cL_paper 2 = .ok (.iconst 0, 1) := by decide +kernel
theorem dL_paper_3 : decode cL_paper 3 = .ok (.aload_n 0, 1) := by decide +kernel
theorem dL_paper_4 : decode cL_paper 4 = .ok (.iload_n 1, 1) := by decide +kernel
theorem dL_paper_5 : decode cL_paper 5 = .ok (.iload_n 2, 1) := by decide +kernel
theorem dL_paper_6 : decode cL_paper 6 = .ok (.iload_n 3, 1) := by decide +kernel
theorem dL_paper_7 : decode cL_paper 7 = .ok (.invokevirtual 97, 3) := by decide +kernel
theorem dL_paper_10 : decode cL_paper 10 = .ok (.i2l, 1) := by decide +kernel
theorem dL_paper_11 : decode cL_paper 11 = .ok (.lastore, 1) := by decide +kernel
theorem dL_paper_12 : decode cL_paper 12 = .ok (.goto 7, 3) := by decide +kernel
theorem dL_paper_15 : decode cL_paper 15 = .ok (.astore 5, 2) := by decide +kernel
theorem dL_paper_17 : decode cL_paper 17 = .ok (.iconst 1, 1) := by decide +kernel
theorem dL_paper_18 : decode cL_paper 18 = .ok (.ireturn, 1) := by decide +kernel
theorem dL_paper_19 : decode cL_paper 19 = .ok (.iconst 0, 1) := by decide +kernel
theorem dL_paper_20 : decode cL_paper 20 = .ok (.ireturn, 1) := by decide +kernel
theorem dL_known_0 : decode cL_known 0 = .ok (.aload_n 2, 1) := by decide +kernel
theorem dL_known_1 : decode cL_known 1 = .ok (.iconst 0, 1) := by decide +kernel
theorem dL_known_2 : decode cL_known 2 = .ok (.aload_n 0, 1) := by decide +kernel
theorem dL_known_3 : decode cL_known 3 = .ok (.iload_n 1, 1) := by decide +kernel
theorem dL_known_4 : decode cL_known 4 = .ok (.invokevirtual 100, 3) := by decide +kernel
theorem dL_known_7 : decode cL_known 7 = .ok (.i2l, 1) := by decide +kernel
theorem dL_known_8 : decode cL_known 8 = .ok (.lastore, 1) := by decide +kernel
theorem dL_known_9 : decode cL_known 9 = .ok (.goto 6, 3) := by decide +kernel
theorem dL_known_12 : decode cL_known 12 = .ok (.astore_n 3, 1) := by decide +kernel
theorem dL_known_13 : decode cL_known 13 = .ok (.iconst 1, 1) := by decide +kernel
theorem dL_known_14 : decode cL_known 14 = .ok (.ireturn, 1) := by decide +kernel
theorem dL_known_15 : decode cL_known 15 = .ok (.iconst 0, 1) := by decide +kernel
theorem dL_known_16 : decode cL_known 16 = .ok (.ireturn, 1) := by decide +kernel
theorem dL_could_0 : decode cL_could 0 = .ok (.aload_n 2, 1) := by decide +kernel
theorem dL_could_1 : decode cL_could 1 = .ok (.iconst 0, 1) := by decide +kernel
theorem dL_could_2 : decode cL_could 2 = .ok (.aload_n 0, 1) := by decide +kernel
theorem dL_could_3 : decode cL_could 3 = .ok (.iload_n 1, 1) := by decide +kernel
theorem dL_could_4 : decode cL_could 4 = .ok (.invokevirtual 103, 3) := by decide +kernel
theorem dL_could_7 : decode cL_could 7 = .ok (.i2l, 1) := by decide +kernel
theorem dL_could_8 : decode cL_could 8 = .ok (.lastore, 1) := by decide +kernel
theorem dL_could_9 : decode cL_could 9 = .ok (.goto 6, 3) := by decide +kernel
theorem dL_could_12 : decode cL_could 12 = .ok (.astore_n 3, 1) := by decide +kernel
theorem dL_could_13 : decode cL_could 13 = .ok (.iconst 1, 1) := by decide +kernel
theorem dL_could_14 : decode cL_could 14 = .ok (.ireturn, 1) := by decide +kernel
theorem dL_could_15 : decode cL_could 15 = .ok (.iconst 0, 1) := by decide +kernel
theorem dL_could_16 : decode cL_could 16 = .ok (.ireturn, 1) := by decide +kernel
theorem dL_shut_0 : decode cL_shut 0 = .ok (.aload 7, 2) := by decide +kernel
theorem dL_shut_2 : decode cL_shut 2 = .ok (.iconst 0, 1) := by decide +kernel
theorem dL_shut_3 : decode cL_shut 3 = .ok (.aload_n 0, 1) := by decide +kernel
theorem dL_shut_4 : decode cL_shut 4 = .ok (.iload_n 1, 1) := by decide +kernel
theorem dL_shut_5 : decode cL_shut 5 = .ok (.iload_n 2, 1) := by decide +kernel
theorem dL_shut_6 : decode cL_shut 6 = .ok (.iload_n 3, 1) := by decide +kernel
theorem dL_shut_7 : decode cL_shut 7 = .ok (.iload 4, 2) := by decide +kernel
theorem dL_shut_9 : decode cL_shut 9 = .ok (.iload 5, 2) := by decide +kernel
theorem dL_shut_11 : decode cL_shut 11 = .ok (.iload 6, 2) := by decide +kernel
theorem dL_shut_13 : decode cL_shut 13 = .ok (.invokevirtual 106, 3) := by decide +kernel
theorem dL_shut_16 : decode cL_shut 16 = .ok (.i2l, 1) := by decide +kernel
theorem dL_shut_17 : decode cL_shut 17 = .ok (.lastore, 1) := by decide +kernel
theorem dL_shut_18 : decode cL_shut 18 = .ok (.goto 11, 3) := by decide +kernel
theorem dL_shut_21 : decode cL_shut 21 = .ok (.astore 8, 2) := by decide +kernel
theorem dL_shut_23 : decode cL_shut 23 = .ok (.iconst 1, 1) := by decide +kernel
theorem dL_shut_24 : decode cL_shut 24 = .ok (.ireturn, 1) := by decide +kernel
theorem dL_shut_25 : decode cL_shut 25 = .ok (.astore 8, 2) := by decide +kernel
theorem dL_shut_27 : decode cL_shut 27 = .ok (.iconst 2, 1) := by decide +kernel
theorem dL_shut_28 : decode cL_shut 28 = .ok (.ireturn, 1) := by decide +kernel
theorem dL_shut_29 : decode cL_shut 29 = .ok (.iconst 0, 1) := by decide +kernel
theorem dL_shut_30 : decode cL_shut 30 = .ok (.ireturn, 1) := by decide +kernel

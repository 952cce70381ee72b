theorem dL_law_0 : decode cL_law 0 = .ok (.aload_n 2, 1) := by decide +kernel
theorem dL_law_1 : decode cL_law 1 = .ok (.iconst 0, 1) := by decide +kernel
theorem dL_law_2 : decode cL_law 2 = .ok (.aload_n 0, 1) := by decide +kernel
theorem dL_law_3 : decode cL_law 3 = .ok (.iload_n 1, 1) := by decide +kernel
theorem dL_law_4 : decode cL_law 4 = .ok (.invokevirtual 7, 3) := by decide +kernel
theorem dL_law_7 : decode cL_law 7 = .ok (.i2l, 1) := by decide +kernel
theorem dL_law_8 : decode cL_law 8 = .ok (.lastore, 1) := by decide +kernel
theorem dL_law_9 : decode cL_law 9 = .ok (.goto 6, 3) := by decide +kernel
theorem dL_law_12 : decode cL_law 12 = .ok (.astore_n 3, 1) := by decide +kernel
theorem dL_law_13 : decode cL_law 13 = .ok (.iconst 1, 1) := by decide +kernel
theorem dL_law_14 : decode cL_law 14 = .ok (.ireturn, 1) := by decide +kernel
theorem dL_law_15 : decode cL_law 15 = .ok (.iconst 0, 1) := by decide +kernel
theorem dL_law_16 : decode cL_law 16 = .ok (.ireturn, 1) := by decide +kernel
theorem dL_deck_0 : decode cL_deck 0 = .ok (.aload_n 2, 1) := by decide +kernel
theorem dL_deck_1 : decode cL_deck 1 = .ok (.iconst 0, 1) := by decide +kernel
theorem dL_deck_2 : decode cL_deck 2 = .ok (.aload_n 0, 1) := by decide +kernel
theorem dL_deck_3 : decode cL_deck 3 = .ok (.iload_n 1, 1) := by decide +kernel
theorem dL_deck_4 : decode cL_deck 4 = .ok (.invokevirtual 15, 3) := by decide +kernel
theorem dL_deck_7 : decode cL_deck 7 = .ok (.i2l, 1) := by decide +kernel
theorem dL_deck_8 : decode cL_deck 8 = .ok (.lastore, 1) := by decide +kernel
theorem dL_deck_9 : decode cL_deck 9 = .ok (.goto 6, 3) := by decide +kernel
theorem dL_deck_12 : decode cL_deck 12 = .ok (.astore_n 3, 1) := by decide +kernel
theorem dL_deck_13 : decode cL_deck 13 = .ok (.iconst 1, 1) := by decide +kernel
theorem dL_deck_14 : decode cL_deck 14 = .ok (.ireturn, 1) := by decide +kernel
theorem dL_deck_15 : decode cL_deck 15 = .ok (.iconst 0, 1) := by decide +kernel
theorem dL_deck_16 : decode cL_deck 16 = .ok (.ireturn, 1) := by decide +kernel
theorem dL_set_0 : decode cL_set 0 = .ok (.aload_n 3, 1) := by decide +kernel
theorem dL_set_1 : decode cL_set 1 = .ok (.iconst 0, 1) := by decide +kernel
theorem dL_set_2 : decode cL_set 2 = .ok (.aload_n 0, 1) := by decide +kernel
theorem dL_set_3 : decode cL_set 3 = .ok (.iload_n 1, 1) := by decide +kernel
theorem dL_set_4 : decode cL_set 4 = .ok (.iload_n 2, 1) := by decide +kernel
theorem dL_set_5 : decode cL_set 5 = .ok (.invokevirtual 18, 3) := by decide +kernel
theorem dL_set_8 : decode cL_set 8 = .ok (.i2l, 1) := by decide +kernel
theorem dL_set_9 : decode cL_set 9 = .ok (.lastore, 1) := by decide +kernel
theorem dL_set_10 : decode cL_set 10 = .ok (.goto 7, 3) := by decide +kernel
theorem dL_set_13 : decode cL_set 13 = .ok (.astore 4, 2) := by decide +kernel
theorem dL_set_15 : decode cL_set 15 = .ok (.iconst 1, 1) := by decide +kernel
theorem dL_set_16 : decode cL_set 16 = .ok (.ireturn, 1) := by decide +kernel
theorem dL_set_17 : decode cL_set 17 = .ok (.iconst 0, 1) := by decide +kernel
theorem dL_set_18 : decode cL_set 18 = .ok (.ireturn, 1) := by decide +kernel
theorem dL_stay_0 : decode cL_stay 0 = .ok (.aload_n 3, 1) := by decide +kernel
theorem dL_stay_1 : decode cL_stay 1 = .ok (.iconst 0, 1) := by decide +kernel
theorem dL_stay_2 : decode cL_stay 2 = .ok (.aload_n 0, 1) := by decide +kernel
theorem dL_stay_3 : decode cL_stay 3 = .ok (.iload_n 1, 1) := by decide +kernel
theorem dL_stay_4 : decode cL_stay 4 = .ok (.iload_n 2, 1) := by decide +kernel
theorem dL_stay_5 : decode cL_stay 5 = .ok (.invokevirtual 22, 3) := by decide +kernel
theorem dL_stay_8 : decode cL_stay 8 = .ok (.i2l, 1) := by decide +kernel
theorem dL_stay_9 : decode cL_stay 9 = .ok (.lastore, 1) := by decide +kernel
theorem dL_stay_10 : decode cL_stay 10 = .ok (.goto 7, 3) := by decide +kernel
theorem dL_stay_13 : decode cL_stay 13 = .ok (.astore 4, 2) := by decide +kernel
theorem dL_stay_15 : decode cL_stay 15 = .ok (.iconst 1, 1) := by decide +kernel
theorem dL_stay_16 : decode cL_stay 16 = .ok (.ireturn, 1) := by decide +kernel
theorem dL_stay_17 : decode cL_stay 17 = .ok (.iconst 0, 1) := by decide +kernel
theorem dL_stay_18 : decode cL_stay 18 = .ok (.ireturn, 1) := by decide +kernel
theorem dL_shape_0 : decode cL_shape 0 = .ok (.aload 4, 2) := by decide +kernel
theorem dL_shape_2 : decode cL_shape 2 = .ok (.iconst 0, 1) := by decide +kernel
theorem dL_shape_3 : decode cL_shape 3 = .ok (.aload_n 0, 1) := by decide +kernel
theorem dL_shape_4 : decode cL_shape 4 = .ok (.iload_n 1, 1) := by decide +kernel
theorem dL_shape_5 : decode cL_shape 5 = .ok (.iload_n 2, 1) := by decide +kernel
theorem dL_shape_6 : decode cL_shape 6 = .ok (.iload_n 3, 1) := by decide +kernel
theorem dL_shape_7 : decode cL_shape 7 = .ok (.invokevirtual 28, 3) := by decide +kernel
theorem dL_shape_10 : decode cL_shape 10 = .ok (.i2l, 1) := by decide +kernel
theorem dL_shape_11 : decode cL_shape 11 = .ok (.lastore, 1) := by decide +kernel
theorem dL_shape_12 : decode cL_shape 12 = .ok (.goto 7, 3) := by decide +kernel
theorem dL_shape_15 : decode cL_shape 15 = .ok (.astore 5, 2) := by decide +kernel
theorem dL_shape_17 : decode cL_shape 17 = .ok (.iconst 1, 1) := by decide +kernel
theorem dL_shape_18 : decode cL_shape 18 = .ok (.ireturn, 1) := by decide +kernel
theorem dL_shape_19 : decode cL_shape 19 = .ok (.iconst 0, 1) := by decide +kernel
theorem dL_shape_20 : decode cL_shape 20 = .ok (.ireturn, 1) := by decide +kernel
theorem dL_go_0 : decode cL_go 0 = .ok (.aload 4, 2) := by decide +kernel
theorem dL_go_2 : decode cL_go 2 = .ok (.iconst 0, 1) := by decide +kernel
theorem dL_go_3 : decode cL_go 3 = .ok (.aload_n 0, 1) := by decide +kernel
theorem dL_go_4 : decode cL_go 4 = .ok (.iload_n 1, 1) := by decide +kernel
theorem dL_go_5 : decode cL_go 5 = .ok (.iload_n 2, 1) := by decide +kernel
theorem dL_go_6 : decode cL_go 6 = .ok (.iload_n 3, 1) := by decide +kernel
theorem dL_go_7 : decode cL_go 7 = .ok (.invokevirtual 32, 3) := by decide +kernel
theorem dL_go_10 : decode cL_go 10 = .ok (.i2l, 1) := by decide +kernel
theorem dL_go_11 : decode cL_go 11 = .ok (.lastore, 1) := by decide +kernel
theorem dL_go_12 : decode cL_go 12 = .ok (.goto 11, 3) := by decide +kernel
theorem dL_go_15 : decode cL_go 15 = .ok (.astore 5, 2) := by decide +kernel
theorem dL_go_17 : decode cL_go 17 = .ok (.iconst 1, 1) := by decide +kernel
theorem dL_go_18 : decode cL_go 18 = .ok (.ireturn, 1) := by decide +kernel
theorem dL_go_19 : decode cL_go 19 = .ok (.astore 5, 2) := by decide +kernel
theorem dL_go_21 : decode cL_go 21 = .ok (.iconst 2, 1) := by decide +kernel
theorem dL_go_22 : decode cL_go 22 = .ok (.ireturn, 1) := by decide +kernel
theorem dL_go_23 : decode cL_go 23 = .ok (.iconst 0, 1) := by decide +kernel
theorem dL_go_24 : decode cL_go 24 = .ok (.ireturn, 1) := by decide +kernel
theorem dL_piece_0 : decode cL_piece 0 = .ok (.aload_n 3, 1) := by decide +kernel
theorem dL_piece_1 : decode cL_piece 1 = .ok (.iconst 0, 1) := by decide +kernel
theorem dL_piece_2 : decode cL_piece 2 = .ok (.aload_n 0, 1) := by decide +kernel
theorem dL_piece_3 : decode cL_piece 3 = .ok (.iload_n 1, 1) := by decide +kernel
theorem dL_piece_4 : decode cL_piece 4 = .ok (.iload_n 2, 1) := by decide +kernel
theorem dL_piece_5 : decode cL_piece 5 = .ok (.invokevirtual 37, 3) := by decide +kernel
theorem dL_piece_8 : decode cL_piece 8 = .ok (.i2l, 1) := by decide +kernel
theorem dL_piece_9 : decode cL_piece 9 = .ok (.lastore, 1) := by decide +kernel
theorem dL_piece_10 : decode cL_piece 10 = .ok (.goto 11, 3) := by decide +kernel
theorem dL_piece_13 : decode cL_piece 13 = .ok (.astore 4, 2) := by decide +kernel
theorem dL_piece_15 : decode cL_piece 15 = .ok (.iconst 1, 1) := by decide +kernel
theorem dL_piece_16 : decode cL_piece 16 = .ok (.ireturn, 1) := by decide +kernel
theorem dL_piece_17 : decode cL_piece 17 = .ok (.astore 4, 2) := by decide +kernel
theorem dL_piece_19 : decode cL_piece 19 = .ok (.iconst 2, 1) := by decide +kernel
theorem dL_piece_20 : decode cL_piece 20 = .ok (.ireturn, 1) := by decide +kernel
theorem dL_piece_21 : decode cL_piece 21 = .ok (.iconst 0, 1) := by decide +kernel
theorem dL_piece_22 : decode cL_piece 22 = .ok (.ireturn, 1) := by decide +kernel
theorem dL_push_0 : decode cL_push 0 = .ok (.aload 5, 2) := by decide +kernel
theorem dL_push_2 : decode cL_push 2 = .ok (.iconst 0, 1) := by decide +kernel
theorem dL_push_3 : decode cL_push 3 = .ok (.aload_n 0, 1) := by decide +kernel
theorem dL_push_4 : decode cL_push 4 = .ok (.iload_n 1, 1) := by decide +kernel
theorem dL_push_5 : decode cL_push 5 = .ok (.iload_n 2, 1) := by decide +kernel
theorem dL_push_6 : decode cL_push 6 = .ok (.iload_n 3, 1) := by decide +kernel
theorem dL_push_7 : decode cL_push 7 = .ok (.iload 4, 2) := by decide +kernel
theorem dL_push_9 : decode cL_push 9 = .ok (.invokevirtual 40, 3) := by decide +kernel
theorem dL_push_12 : decode cL_push 12 = .ok (.i2l, 1) := by decide +kernel
theorem dL_push_13 : decode cL_push 13 = .ok (.lastore, 1) := by decide +kernel
theorem dL_push_14 : decode cL_push 14 = .ok (.goto 15, 3) := by decide +kernel
theorem dL_push_17 : decode cL_push 17 = .ok (.astore 6, 2) := by decide +kernel
theorem dL_push_19 : decode cL_push 19 = .ok (.iconst 1, 1) := by decide +kernel
theorem dL_push_20 : decode cL_push 20 = .ok (.ireturn, 1) := by decide +kernel
theorem dL_push_21 : decode cL_push 21 = .ok (.astore 6, 2) := by decide +kernel
theorem dL_push_23 : decode cL_push 23 = .ok (.iconst 2, 1) := by decide +kernel
theorem dL_push_24 : decode cL_push 24 = .ok (.ireturn, 1) := by decide +kernel
theorem dL_push_25 : decode cL_push 25 = .ok (.astore 6, 2) := by decide +kernel
theorem dL_push_27 : decode cL_push 27 = .ok (.iconst 3, 1) := by decide +kernel
theorem dL_push_28 : decode cL_push 28 = .ok (.ireturn, 1) := by decide +kernel
theorem dL_push_29 : decode cL_push 29 = .ok (.iconst 0, 1) := by decide +kernel
theorem dL_push_30 : decode cL_push 30 = .ok (.ireturn, 1) := by decide +kernel
theorem dL_grows_0 : decode cL_grows 0 = .ok (.aload 5, 2) := by decide +kernel
theorem dL_grows_2 : decode cL_grows 2 = .ok (.iconst 0, 1) := by decide +kernel
theorem dL_grows_3 : decode cL_grows 3 = .ok (.aload_n 0, 1) := by decide +kernel
theorem dL_grows_4 : decode cL_grows 4 = .ok (.iload_n 1, 1) := by decide +kernel
theorem dL_grows_5 : decode cL_grows 5 = .ok (.iload_n 2, 1) := by decide +kernel
theorem dL_grows_6 : decode cL_grows 6 = .ok (.iload_n 3, 1) := by decide +kernel
theorem dL_grows_7 : decode cL_grows 7 = .ok (.iload 4, 2) := by decide +kernel
theorem dL_grows_9 : decode cL_grows 9 = .ok (.invokevirtual 44, 3) := by decide +kernel
theorem dL_grows_12 : decode cL_grows 12 = .ok (.ifCond .eq 7, 3) := by decide +kernel
theorem dL_grows_15 : decode cL_grows 15 = .ok (.lconst 1, 1) := by decide +kernel
theorem dL_grows_16 : decode cL_grows 16 = .ok (.goto 4, 3) := by decide +kernel
theorem dL_grows_19 : decode cL_grows 19 = .ok (.lconst 0, 1) := by decide +kernel
theorem dL_grows_20 : decode cL_grows 20 = .ok (.lastore, 1) := by decide +kernel
theorem dL_grows_21 : decode cL_grows 21 = .ok (.goto 11, 3) := by decide +kernel
theorem dL_grows_24 : decode cL_grows 24 = .ok (.astore 6, 2) := by decide +kernel
theorem dL_grows_26 : decode cL_grows 26 = .ok (.iconst 1, 1) := by decide +kernel
theorem dL_grows_27 : decode cL_grows 27 = .ok (.ireturn, 1) := by decide +kernel
theorem dL_grows_28 : decode cL_grows 28 = .ok (.astore 6, 2) := by decide +kernel
theorem dL_grows_30 : decode cL_grows 30 = .ok (.iconst 2, 1) := by decide +kernel
theorem dL_grows_31 : decode cL_grows 31 = .ok (.ireturn, 1) := by decide +kernel
theorem dL_grows_32 : decode cL_grows 32 = .ok (.iconst 0, 1) := by decide +kernel
theorem dL_grows_33 : decode cL_grows 33 = .ok (.ireturn, 1) := by decide +kernel
theorem dL_line_0 : decode cL_line 0 = .ok (.aload 4, 2) := by decide +kernel
theorem dL_line_2 : decode cL_line 2 = .ok (.iconst 0, 1) := by decide +kernel
theorem dL_line_3 : decode cL_line 3 = .ok (.aload_n 0, 1) := by decide +kernel
theorem dL_line_4 : decode cL_line 4 = .ok (.iload_n 1, 1) := by decide +kernel
theorem dL_line_5 : decode cL_line 5 = .ok (.iload_n 2, 1) := by decide +kernel
theorem dL_line_6 : decode cL_line 6 = .ok (.iload_n 3, 1) := by decide +kernel
theorem dL_line_7 : decode cL_line 7 = .ok (.invokevirtual 48, 3) := by decide +kernel
theorem dL_line_10 : decode cL_line 10 = .ok (.i2l, 1) := by decide +kernel
theorem dL_line_11 : decode cL_line 11 = .ok (.lastore, 1) := by decide +kernel
theorem dL_line_12 : decode cL_line 12 = .ok (.goto 11, 3) := by decide +kernel
theorem dL_line_15 : decode cL_line 15 = .ok (.astore 5, 2) := by decide +kernel
theorem dL_line_17 : decode cL_line 17 = .ok (.iconst 1, 1) := by decide +kernel
theorem dL_line_18 : decode cL_line 18 = .ok (.ireturn, 1) := by decide +kernel
theorem dL_line_19 : decode cL_line 19 = .ok (.astore 5, 2) := by decide +kernel
theorem dL_line_21 : decode cL_line 21 = .ok (.iconst 2, 1) := by decide +kernel
theorem dL_line_22 : decode cL_line 22 = .ok (.ireturn, 1) := by decide +kernel
theorem dL_line_23 : decode cL_line 23 = .ok (.iconst 0, 1) := by decide +kernel
theorem dL_line_24 : decode cL_line 24 = .ok (.ireturn, 1) := by decide +kernel
theorem dL_why_0 : decode cL_why 0 = .ok (.aload 5, 2) := by decide +kernel
theorem dL_why_2 : decode cL_why 2 = .ok (.iconst 0, 1) := by decide +kernel
theorem dL_why_3 : decode cL_why 3 = .ok (.aload_n 0, 1) := by decide +kernel
theorem dL_why_4 : decode cL_why 4 = .ok (.iload_n 1, 1) := by decide +kernel
theorem dL_why_5 : decode cL_why 5 = .ok (.iload_n 2, 1) := by decide +kernel
theorem dL_why_6 : decode cL_why 6 = .ok (.iload_n 3, 1) := by decide +kernel
theorem dL_why_7 : decode cL_why 7 = .ok (.iload 4, 2) := by decide +kernel
theorem dL_why_9 : decode cL_why 9 = .ok (.invokevirtual 51, 3) := by decide +kernel
theorem dL_why_12 : decode cL_why 12 = .ok (.i2l, 1) := by decide +kernel
theorem dL_why_13 : decode cL_why 13 = .ok (.lastore, 1) := by decide +kernel
theorem dL_why_14 : decode cL_why 14 = .ok (.goto 11, 3) := by decide +kernel
theorem dL_why_17 : decode cL_why 17 = .ok (.astore 6, 2) := by decide +kernel
theorem dL_why_19 : decode cL_why 19 = .ok (.iconst 1, 1) := by decide +kernel
theorem dL_why_20 : decode cL_why 20 = .ok (.ireturn, 1) := by decide +kernel
theorem dL_why_21 : decode cL_why 21 = .ok (.astore 6, 2) := by decide +kernel
theorem dL_why_23 : decode cL_why 23 = .ok (.iconst 2, 1) := by decide +kernel
theorem dL_why_24 : decode cL_why 24 = .ok (.ireturn, 1) := by decide +kernel
theorem dL_why_25 : decode cL_why 25 = .ok (.iconst 0, 1) := by decide +kernel
theorem dL_why_26 : decode cL_why 26 = .ok (.ireturn, 1) := by decide +kernel
theorem dL_first_0 : decode cL_first 0 = .ok (.aload 6, 2) := by decide +kernel
theorem dL_first_2 : decode cL_first 2 = .ok (.iconst 0, 1) := by decide +kernel
theorem dL_first_3 : decode cL_first 3 = .ok (.aload_n 0, 1) := by decide +kernel
theorem dL_first_4 : decode cL_first 4 = .ok (.iload_n 1, 1) := by decide +kernel
theorem dL_first_5 : decode cL_first 5 = .ok (.iload_n 2, 1) := by decide +kernel
theorem dL_first_6 : decode cL_first 6 = .ok (.iload_n 3, 1) := by decide +kernel
theorem dL_first_7 : decode cL_first 7 = .ok (.iload 4, 2) := by decide +kernel
theorem dL_first_9 : decode cL_first 9 = .ok (.iload 5, 2) := by decide +kernel
theorem dL_first_11 : decode cL_first 11 = .ok (.invokevirtual 55, 3) := by decide +kernel
theorem dL_first_14 : decode cL_first 14 = .ok (.i2l, 1) := by decide +kernel
theorem dL_first_15 : decode cL_first 15 = .ok (.lastore, 1) := by decide +kernel
theorem dL_first_16 : decode cL_first 16 = .ok (.goto 11, 3) := by decide +kernel
theorem dL_first_19 : decode cL_first 19 = .ok (.astore 7, 2) := by decide +kernel
theorem dL_first_21 : decode cL_first 21 = .ok (.iconst 1, 1) := by decide +kernel
theorem dL_first_22 : decode cL_first 22 = .ok (.ireturn, 1) := by decide +kernel
theorem dL_first_23 : decode cL_first 23 = .ok (.astore 7, 2) := by decide +kernel
theorem dL_first_25 : decode cL_first 25 = .ok (.iconst 2, 1) := by decide +kernel
theorem dL_first_26 : decode cL_first 26 = .ok (.ireturn, 1) := by decide +kernel
theorem dL_first_27 : decode cL_first 27 = .ok (.iconst 0, 1) := by decide +kernel
theorem dL_first_28 : decode cL_first 28 = .ok (.ireturn, 1) := by decide +kernel
theorem dL_where_0 : decode cL_where 0 = .ok (.aload 6, 2) := by decide +kernel
theorem dL_where_2 : decode cL_where 2 = .ok (.iconst 0, 1) := by decide +kernel
theorem dL_where_3 : decode cL_where 3 = .ok (.aload_n 0, 1) := by decide +kernel
theorem dL_where_4 : decode cL_where 4 = .ok (.iload_n 1, 1) := by decide +kernel
theorem dL_where_5 : decode cL_where 5 = .ok (.iload_n 2, 1) := by decide +kernel
theorem dL_where_6 : decode cL_where 6 = .ok (.iload_n 3, 1) := by decide +kernel
theorem dL_where_7 : decode cL_where 7 = .ok (.iload 4, 2) := by decide +kernel
theorem dL_where_9 : decode cL_where 9 = .ok (.iload 5, 2) := by decide +kernel
theorem dL_where_11 : decode cL_where 11 = .ok (.invokevirtual 59, 3) := by decide +kernel
theorem dL_where_14 : decode cL_where 14 = .ok (.i2l, 1) := by decide +kernel
theorem dL_where_15 : decode cL_where 15 = .ok (.lastore, 1) := by decide +kernel
theorem dL_where_16 : decode cL_where 16 = .ok (.goto 11, 3) := by decide +kernel
theorem dL_where_19 : decode cL_where 19 = .ok (.astore 7, 2) := by decide +kernel
theorem dL_where_21 : decode cL_where 21 = .ok (.iconst 1, 1) := by decide +kernel
theorem dL_where_22 : decode cL_where 22 = .ok (.ireturn, 1) := by decide +kernel
theorem dL_where_23 : decode cL_where 23 = .ok (.astore 7, 2) := by decide +kernel
theorem dL_where_25 : decode cL_where 25 = .ok (.iconst 2, 1) := by decide +kernel
theorem dL_where_26 : decode cL_where 26 = .ok (.ireturn, 1) := by decide +kernel
theorem dL_where_27 : decode cL_where 27 = .ok (.iconst 0, 1) := by decide +kernel
theorem dL_where_28 : decode cL_where 28 = .ok (.ireturn, 1) := by decide +kernel
theorem dL_slip_0 : decode cL_slip 0 = .ok (.aload 4, 2) := by decide +kernel
theorem dL_slip_2 : decode cL_slip 2 = .ok (.iconst 0, 1) := by decide +kernel
theorem dL_slip_3 : decode cL_slip 3 = .ok (.aload_n 0, 1) := by decide +kernel
theorem dL_slip_4 : decode cL_slip 4 = .ok (.iload_n 1, 1) := by decide +kernel
theorem dL_slip_5 : decode cL_slip 5 = .ok (.iload_n 2, 1) := by decide +kernel
theorem dL_slip_6 : decode cL_slip 6 = .ok (.iload_n 3, 1) := by decide +kernel
theorem dL_slip_7 : decode cL_slip 7 = .ok (.invokevirtual 62, 3) := by decide +kernel
theorem dL_slip_10 : decode cL_slip 10 = .ok (.i2l, 1) := by decide +kernel
theorem dL_slip_11 : decode cL_slip 11 = .ok (.lastore, 1) := by decide +kernel
theorem dL_slip_12 : decode cL_slip 12 = .ok (.goto 11, 3) := by decide +kernel
theorem dL_slip_15 : decode cL_slip 15 = .ok (.astore 5, 2) := by decide +kernel
theorem dL_slip_17 : decode cL_slip 17 = .ok (.iconst 1, 1) := by decide +kernel
theorem dL_slip_18 : decode cL_slip 18 = .ok (.ireturn, 1) := by decide +kernel
theorem dL_slip_19 : decode cL_slip 19 = .ok (.astore 5, 2) := by decide +kernel
theorem dL_slip_21 : decode cL_slip 21 = .ok (.iconst 2, 1) := by decide +kernel
theorem dL_slip_22 : decode cL_slip 22 = .ok (.ireturn, 1) := by decide +kernel
theorem dL_slip_23 : decode cL_slip 23 = .ok (.iconst 0, 1) := by decide +kernel
theorem dL_slip_24 : decode cL_slip 24 = .ok (.ireturn, 1) := by decide +kernel
theorem dL_film_0 : decode cL_film 0 = .ok (.aload 5, 2) := by decide +kernel
theorem dL_film_2 : decode cL_film 2 = .ok (.iconst 0, 1) := by decide +kernel
theorem dL_film_3 : decode cL_film 3 = .ok (.aload_n 0, 1) := by decide +kernel
theorem dL_film_4 : decode cL_film 4 = .ok (.iload_n 1, 1) := by decide +kernel
theorem dL_film_5 : decode cL_film 5 = .ok (.iload_n 2, 1) := by decide +kernel
theorem dL_film_6 : decode cL_film 6 = .ok (.iload_n 3, 1) := by decide +kernel
theorem dL_film_7 : decode cL_film 7 = .ok (.iload 4, 2) := by decide +kernel
theorem dL_film_9 : decode cL_film 9 = .ok (.invokevirtual 65, 3) := by decide +kernel
theorem dL_film_12 : decode cL_film 12 = .ok (.i2l, 1) := by decide +kernel
theorem dL_film_13 : decode cL_film 13 = .ok (.lastore, 1) := by decide +kernel
theorem dL_film_14 : decode cL_film 14 = .ok (.goto 11, 3) := by decide +kernel
theorem dL_film_17 : decode cL_film 17 = .ok (.astore 6, 2) := by decide +kernel
theorem dL_film_19 : decode cL_film 19 = .ok (.iconst 1, 1) := by decide +kernel
theorem dL_film_20 : decode cL_film 20 = .ok (.ireturn, 1) := by decide +kernel
theorem dL_film_21 : decode cL_film 21 = .ok (.astore 6, 2) := by decide +kernel
theorem dL_film_23 : decode cL_film 23 = .ok (.iconst 2, 1) := by decide +kernel
theorem dL_film_24 : decode cL_film 24 = .ok (.ireturn, 1) := by decide +kernel
theorem dL_film_25 : decode cL_film 25 = .ok (.iconst 0, 1) := by decide +kernel
theorem dL_film_26 : decode cL_film 26 = .ok (.ireturn, 1) := by decide +kernel
theorem dL_barred_0 : decode cL_barred 0 = .ok (.aload 7, 2) := by decide +kernel
theorem dL_barred_2 : decode cL_barred 2 = .ok (.iconst 0, 1) := by decide +kernel
theorem dL_barred_3 : decode cL_barred 3 = .ok (.aload_n 0, 1) := by decide +kernel
theorem dL_barred_4 : decode cL_barred 4 = .ok (.iload_n 1, 1) := by decide +kernel
theorem dL_barred_5 : decode cL_barred 5 = .ok (.iload_n 2, 1) := by decide +kernel
theorem dL_barred_6 : decode cL_barred 6 = .ok (.iload_n 3, 1) := by decide +kernel
theorem dL_barred_7 : decode cL_barred 7 = .ok (.iload 4, 2) := by decide +kernel
theorem dL_barred_9 : decode cL_barred 9 = .ok (.iload 5, 2) := by decide +kernel
theorem dL_barred_11 : decode cL_barred 11 = .ok (.iload 6, 2) := by decide +kernel
theorem dL_barred_13 : decode cL_barred 13 = .ok (.invokevirtual 68, 3) := by decide +kernel
theorem dL_barred_16 : decode cL_barred 16 = .ok (.i2l, 1) := by decide +kernel
theorem dL_barred_17 : decode cL_barred 17 = .ok (.lastore, 1) := by decide +kernel
theorem dL_barred_18 : decode cL_barred 18 = .ok (.goto 11, 3) := by decide +kernel
theorem dL_barred_21 : decode cL_barred 21 = .ok (.astore 8, 2) := by decide +kernel
theorem dL_barred_23 : decode cL_barred 23 = .ok (.iconst 1, 1) := by decide +kernel
theorem dL_barred_24 : decode cL_barred 24 = .ok (.ireturn, 1) := by decide +kernel
theorem dL_barred_25 : decode cL_barred 25 = .ok (.astore 8, 2) := by decide +kernel
theorem dL_barred_27 : decode cL_barred 27 = .ok (.iconst 2, 1) := by decide +kernel
theorem dL_barred_28 : decode cL_barred 28 = .ok (.ireturn, 1) := by decide +kernel
theorem dL_barred_29 : decode cL_barred 29 = .ok (.iconst 0, 1) := by decide +kernel
theorem dL_barred_30 : decode cL_barred 30 = .ok (.ireturn, 1) := by decide +kernel
theorem dL_mend_0 : decode cL_mend 0 = .ok (.aload 4, 2) := by decide +kernel
theorem dL_mend_2 : decode cL_mend 2 = .ok (.iconst 0, 1) := by decide +kernel
theorem dL_mend_3 : decode cL_mend 3 = .ok (.aload_n 0, 1) := by decide +kernel
theorem dL_mend_4 : decode cL_mend 4 = .ok (.iload_n 1, 1) := by decide +kernel
theorem dL_mend_5 : decode cL_mend 5 = .ok (.iload_n 2, 1) := by decide +kernel
theorem dL_mend_6 : decode cL_mend 6 = .ok (.iload_n 3, 1) := by decide +kernel
theorem dL_mend_7 : decode cL_mend 7 = .ok (.invokevirtual 72, 3) := by decide +kernel
theorem dL_mend_10 : decode cL_mend 10 = .ok (.i2l, 1) := by decide +kernel
theorem dL_mend_11 : decode cL_mend 11 = .ok (.lastore, 1) := by decide +kernel
theorem dL_mend_12 : decode cL_mend 12 = .ok (.goto 7, 3) := by decide +kernel
theorem dL_mend_15 : decode cL_mend 15 = .ok (.astore 5, 2) := by decide +kernel
theorem dL_mend_17 : decode cL_mend 17 = .ok (.iconst 1, 1) := by decide +kernel
theorem dL_mend_18 : decode cL_mend 18 = .ok (.ireturn, 1) := by decide +kernel
theorem dL_mend_19 : decode cL_mend 19 = .ok (.iconst 0, 1) := by decide +kernel
theorem dL_mend_20 : decode cL_mend 20 = .ok (.ireturn, 1) := by decide +kernel
theorem dL_calm_0 : decode cL_calm 0 = .ok (.aload_n 3, 1) := by decide +kernel
theorem dL_calm_1 : decode cL_calm 1 = .ok (.iconst 0, 1) := by decide +kernel
theorem dL_calm_2 : decode cL_calm 2 = .ok (.aload_n 0, 1) := by decide +kernel
theorem dL_calm_3 : decode cL_calm 3 = .ok (.iload_n 1, 1) := by decide +kernel
theorem dL_calm_4 : decode cL_calm 4 = .ok (.iload_n 2, 1) := by decide +kernel
theorem dL_calm_5 : decode cL_calm 5 = .ok (.invokevirtual 75, 3) := by decide +kernel
theorem dL_calm_8 : decode cL_calm 8 = .ok (.ifCond .eq 7, 3) := by decide +kernel
theorem dL_calm_11 : decode cL_calm 11 = .ok (.lconst 1, 1) := by decide +kernel
theorem dL_calm_12 : decode cL_calm 12 = .ok (.goto 4, 3) := by decide +kernel
theorem dL_calm_15 : decode cL_calm 15 = .ok (.lconst 0, 1) := by decide +kernel
theorem dL_calm_16 : decode cL_calm 16 = .ok (.lastore, 1) := by decide +kernel
theorem dL_calm_17 : decode cL_calm 17 = .ok (.goto 11, 3) := by decide +kernel
theorem dL_calm_20 : decode cL_calm 20 = .ok (.astore 4, 2) := by decide +kernel
theorem dL_calm_22 : decode cL_calm 22 = .ok (.iconst 1, 1) := by decide +kernel
theorem dL_calm_23 : decode cL_calm 23 = .ok (.ireturn, 1) := by decide +kernel
theorem dL_calm_24 : decode cL_calm 24 = .ok (.astore 4, 2) := by decide +kernel
theorem dL_calm_26 : decode cL_calm 26 = .ok (.iconst 2, 1) := by decide +kernel
theorem dL_calm_27 : decode cL_calm 27 = .ok (.ireturn, 1) := by decide +kernel
theorem dL_calm_28 : decode cL_calm 28 = .ok (.iconst 0, 1) := by decide +kernel
theorem dL_calm_29 : decode cL_calm 29 = .ok (.ireturn, 1) := by decide +kernel
theorem dL_mended_0 : decode cL_mended 0 = .ok (.aload_n 3, 1) := by decide +kernel
theorem dL_mended_1 : decode cL_mended 1 = .ok (.iconst 0, 1) := by decide +kernel
theorem dL_mended_2 : decode cL_mended 2 = .ok (.aload_n 0, 1) := by decide +kernel
theorem dL_mended_3 : decode cL_mended 3 = .ok (.iload_n 1, 1) := by decide +kernel
theorem dL_mended_4 : decode cL_mended 4 = .ok (.iload_n 2, 1) := by decide +kernel
theorem dL_mended_5 : decode cL_mended 5 = .ok (.invokevirtual 79, 3) := by decide +kernel
theorem dL_mended_8 : decode cL_mended 8 = .ok (.i2l, 1) := by decide +kernel
theorem dL_mended_9 : decode cL_mended 9 = .ok (.lastore, 1) := by decide +kernel
theorem dL_mended_10 : decode cL_mended 10 = .ok (.goto 11, 3) := by decide +kernel
theorem dL_mended_13 : decode cL_mended 13 = .ok (.astore 4, 2) := by decide +kernel
theorem dL_mended_15 : decode cL_mended 15 = .ok (.iconst 1, 1) := by decide +kernel
theorem dL_mended_16 : decode cL_mended 16 = .ok (.ireturn, 1) := by decide +kernel
theorem dL_mended_17 : decode cL_mended 17 = .ok (.astore 4, 2) := by decide +kernel
theorem dL_mended_19 : decode cL_mended 19 = .ok (.iconst 2, 1) := by decide +kernel
theorem dL_mended_20 : decode cL_mended 20 = .ok (.ireturn, 1) := by decide +kernel
theorem dL_mended_21 : decode cL_mended 21 = .ok (.iconst 0, 1) := by decide +kernel
theorem dL_mended_22 : decode cL_mended 22 = .ok (.ireturn, 1) := by decide +kernel
theorem dL_week_0 : decode cL_week 0 = .ok (.aload_n 3, 1) := by decide +kernel
theorem dL_week_1 : decode cL_week 1 = .ok (.iconst 0, 1) := by decide +kernel
theorem dL_week_2 : decode cL_week 2 = .ok (.aload_n 0, 1) := by decide +kernel
theorem dL_week_3 : decode cL_week 3 = .ok (.iload_n 1, 1) := by decide +kernel
theorem dL_week_4 : decode cL_week 4 = .ok (.iload_n 2, 1) := by decide +kernel
theorem dL_week_5 : decode cL_week 5 = .ok (.invokevirtual 82, 3) := by decide +kernel
theorem dL_week_8 : decode cL_week 8 = .ok (.i2l, 1) := by decide +kernel
theorem dL_week_9 : decode cL_week 9 = .ok (.lastore, 1) := by decide +kernel
theorem dL_week_10 : decode cL_week 10 = .ok (.goto 11, 3) := by decide +kernel
theorem dL_week_13 : decode cL_week 13 = .ok (.astore 4, 2) := by decide +kernel
theorem dL_week_15 : decode cL_week 15 = .ok (.iconst 1, 1) := by decide +kernel
theorem dL_week_16 : decode cL_week 16 = .ok (.ireturn, 1) := by decide +kernel
theorem dL_week_17 : decode cL_week 17 = .ok (.astore 4, 2) := by decide +kernel
theorem dL_week_19 : decode cL_week 19 = .ok (.iconst 2, 1) := by decide +kernel
theorem dL_week_20 : decode cL_week 20 = .ok (.ireturn, 1) := by decide +kernel
theorem dL_week_21 : decode cL_week 21 = .ok (.iconst 0, 1) := by decide +kernel
theorem dL_week_22 : decode cL_week 22 = .ok (.ireturn, 1) := by decide +kernel
theorem dL_span_0 : decode cL_span 0 = .ok (.aload 6, 2) := by decide +kernel
theorem dL_span_2 : decode cL_span 2 = .ok (.iconst 0, 1) := by decide +kernel
theorem dL_span_3 : decode cL_span 3 = .ok (.aload_n 0, 1) := by decide +kernel
theorem dL_span_4 : decode cL_span 4 = .ok (.iload_n 1, 1) := by decide +kernel
theorem dL_span_5 : decode cL_span 5 = .ok (.iload_n 2, 1) := by decide +kernel
theorem dL_span_6 : decode cL_span 6 = .ok (.iload_n 3, 1) := by decide +kernel
theorem dL_span_7 : decode cL_span 7 = .ok (.iload 4, 2) := by decide +kernel
theorem dL_span_9 : decode cL_span 9 = .ok (.iload 5, 2) := by decide +kernel
theorem dL_span_11 : decode cL_span 11 = .ok (.invokevirtual 85, 3) := by decide +kernel
theorem dL_span_14 : decode cL_span 14 = .ok (.i2l, 1) := by decide +kernel
theorem dL_span_15 : decode cL_span 15 = .ok (.lastore, 1) := by decide +kernel
theorem dL_span_16 : decode cL_span 16 = .ok (.goto 11, 3) := by decide +kernel
theorem dL_span_19 : decode cL_span 19 = .ok (.astore 7, 2) := by decide +kernel
theorem dL_span_21 : decode cL_span 21 = .ok (.iconst 1, 1) := by decide +kernel
theorem dL_span_22 : decode cL_span 22 = .ok (.ireturn, 1) := by decide +kernel
theorem dL_span_23 : decode cL_span 23 = .ok (.astore 7, 2) := by decide +kernel
theorem dL_span_25 : decode cL_span 25 = .ok (.iconst 2, 1) := by decide +kernel
theorem dL_span_26 : decode cL_span 26 = .ok (.ireturn, 1) := by decide +kernel
theorem dL_span_27 : decode cL_span 27 = .ok (.iconst 0, 1) := by decide +kernel
theorem dL_span_28 : decode cL_span 28 = .ok (.ireturn, 1) := by decide +kernel
theorem dL_bridge_0 : decode cL_bridge 0 = .ok (.aload_n 2, 1) := by decide +kernel
theorem dL_bridge_1 : decode cL_bridge 1 = .ok (.iconst 0, 1) := by decide +kernel
theorem dL_bridge_2 : decode cL_bridge 2 = .ok (.aload_n 0, 1) := by decide +kernel
theorem dL_bridge_3 : decode cL_bridge 3 = .ok (.iload_n 1, 1) := by decide +kernel
theorem dL_bridge_4 : decode cL_bridge 4 = .ok (.invokevirtual 88, 3) := by decide +kernel
theorem dL_bridge_7 : decode cL_bridge 7 = .ok (.i2l, 1) := by decide +kernel
theorem dL_bridge_8 : decode cL_bridge 8 = .ok (.lastore, 1) := by decide +kernel
theorem dL_bridge_9 : decode cL_bridge 9 = .ok (.goto 6, 3) := by decide +kernel
theorem dL_bridge_12 : decode cL_bridge 12 = .ok (.astore_n 3, 1) := by decide +kernel
theorem dL_bridge_13 : decode cL_bridge 13 = .ok (.iconst 1, 1) := by decide +kernel
theorem dL_bridge_14 : decode cL_bridge 14 = .ok (.ireturn, 1) := by decide +kernel
theorem dL_bridge_15 : decode cL_bridge 15 = .ok (.iconst 0, 1) := by decide +kernel
theorem dL_bridge_16 : decode cL_bridge 16 = .ok (.ireturn, 1) := by decide +kernel
theorem dL_blows_0 : decode cL_blows 0 = .ok (.aload 4, 2) := by decide +kernel
theorem dL_blows_2 : decode cL_blows 2 = .ok (.iconst 0, 1) := by decide +kernel
theorem dL_blows_3 : decode cL_blows 3 = .ok (.aload_n 0, 1) := by decide +kernel
theorem dL_blows_4 : decode cL_blows 4 = .ok (.iload_n 1, 1) := by decide +kernel
theorem dL_blows_5 : decode cL_blows 5 = .ok (.iload_n 2, 1) := by decide +kernel
theorem dL_blows_6 : decode cL_blows 6 = .ok (.iload_n 3, 1) := by decide +kernel
theorem dL_blows_7 : decode cL_blows 7 = .ok (.invokevirtual 91, 3) := by decide +kernel
theorem dL_blows_10 : decode cL_blows 10 = .ok (.i2l, 1) := by decide +kernel
theorem dL_blows_11 : decode cL_blows 11 = .ok (.lastore, 1) := by decide +kernel
theorem dL_blows_12 : decode cL_blows 12 = .ok (.goto 11, 3) := by decide +kernel
theorem dL_blows_15 : decode cL_blows 15 = .ok (.astore 5, 2) := by decide +kernel
theorem dL_blows_17 : decode cL_blows 17 = .ok (.iconst 1, 1) := by decide +kernel
theorem dL_blows_18 : decode cL_blows 18 = .ok (.ireturn, 1) := by decide +kernel
theorem dL_blows_19 : decode cL_blows 19 = .ok (.astore 5, 2) := by decide +kernel
theorem dL_blows_21 : decode cL_blows 21 = .ok (.iconst 2, 1) := by decide +kernel
theorem dL_blows_22 : decode cL_blows 22 = .ok (.ireturn, 1) := by decide +kernel
theorem dL_blows_23 : decode cL_blows 23 = .ok (.iconst 0, 1) := by decide +kernel
theorem dL_blows_24 : decode cL_blows 24 = .ok (.ireturn, 1) := by decide +kernel
theorem dL_hours_0 : decode cL_hours 0 = .ok (.aload_n 2, 1) := by decide +kernel
theorem dL_hours_1 : decode cL_hours 1 = .ok (.iconst 0, 1) := by decide +kernel
theorem dL_hours_2 : decode cL_hours 2 = .ok (.aload_n 0, 1) := by decide +kernel
theorem dL_hours_3 : decode cL_hours 3 = .ok (.iload_n 1, 1) := by decide +kernel
theorem dL_hours_4 : decode cL_hours 4 = .ok (.invokevirtual 94, 3) := by decide +kernel
theorem dL_hours_7 : decode cL_hours 7 = .ok (.i2l, 1) := by decide +kernel
theorem dL_hours_8 : decode cL_hours 8 = .ok (.lastore, 1) := by decide +kernel
theorem dL_hours_9 : decode cL_hours 9 = .ok (.goto 6, 3) := by decide +kernel
theorem dL_hours_12 : decode cL_hours 12 = .ok (.astore_n 3, 1) := by decide +kernel
theorem dL_hours_13 : decode cL_hours 13 = .ok (.iconst 1, 1) := by decide +kernel
theorem dL_hours_14 : decode cL_hours 14 = .ok (.ireturn, 1) := by decide +kernel
theorem dL_hours_15 : decode cL_hours 15 = .ok (.iconst 0, 1) := by decide +kernel
theorem dL_hours_16 : decode cL_hours 16 = .ok (.ireturn, 1) := by decide +kernel
theorem dL_paper_0 : decode cL_paper 0 = .ok (.aload 4, 2) := by decide +kernel
theorem dL_paper_2 : decode cL_paper 2 = .ok (.iconst 0, 1) := by decide +kernel
theorem dL_paper_3 : decode cL_paper 3 = .ok (.aload_n 0, 1) := by decide +kernel
theorem dL_paper_4 : decode cL_paper 4 = .ok (.iload_n 1, 1) := by decide +kernel
theorem dL_paper_5 : decode cL_paper 5 = .ok (.iload_n 2, 1) := by decide +kernel
theorem dL_paper_6 : decode cL_paper 6 = .ok (.iload_n 3, 1) := by decide +kernel
theorem dL_paper_7 : decode cL_paper 7 = .ok (.invokevirtual 97, 3) := by decide +kernel
theorem dL_paper_10 : decode cL_paper 10 = .ok (.i2l, 1) := by decide +kernel
theorem dL_paper_11 : decode cL_paper 11 = .ok (.lastore, 1) := by decide +kernel
theorem dL_paper_12 : decode cL_paper 12 = .ok (.goto 7, 3) := by decide +kernel
theorem dL_paper_15 : decode cL_paper 15 = .ok (.astore 5, 2) := by decide +kernel
theorem dL_paper_17 : decode cL_paper 17 = .ok (.iconst 1, 1) := by decide +kernel
theorem dL_paper_18 : decode cL_paper 18 = .ok (.ireturn, 1) := by decide +kernel
theorem dL_paper_19 : decode cL_paper 19 = .ok (.iconst 0, 1) := by decide +kernel
theorem dL_paper_20 : decode cL_paper 20 = .ok (.ireturn, 1) := by decide +kernel
theorem dL_known_0 : decode cL_known 0 = .ok (.aload_n 2, 1) := by decide +kernel
theorem dL_known_1 : decode cL_known 1 = .ok (.iconst 0, 1) := by decide +kernel
theorem dL_known_2 : decode cL_known 2 = .ok (.aload_n 0, 1) := by decide +kernel
theorem dL_known_3 : decode cL_known 3 = .ok (.iload_n 1, 1) := by decide +kernel
theorem dL_known_4 : decode cL_known 4 = .ok (.invokevirtual 100, 3) := by decide +kernel
theorem dL_known_7 : decode cL_known 7 = .ok (.i2l, 1) := by decide +kernel
theorem dL_known_8 : decode cL_known 8 = .ok (.lastore, 1) := by decide +kernel
theorem dL_known_9 : decode cL_known 9 = .ok (.goto 6, 3) := by decide +kernel
theorem dL_known_12 : decode cL_known 12 = .ok (.astore_n 3, 1) := by decide +kernel
theorem dL_known_13 : decode cL_known 13 = .ok (.iconst 1, 1) := by decide +kernel
theorem dL_known_14 : decode cL_known 14 = .ok (.ireturn, 1) := by decide +kernel
theorem dL_known_15 : decode cL_known 15 = .ok (.iconst 0, 1) := by decide +kernel
theorem dL_known_16 : decode cL_known 16 = .ok (.ireturn, 1) := by decide +kernel
theorem dL_could_0 : decode cL_could 0 = .ok (.aload_n 2, 1) := by decide +kernel
theorem dL_could_1 : decode cL_could 1 = .ok (.iconst 0, 1) := by decide +kernel
theorem dL_could_2 : decode cL_could 2 = .ok (.aload_n 0, 1) := by decide +kernel
theorem dL_could_3 : decode cL_could 3 = .ok (.iload_n 1, 1) := by decide +kernel
theorem dL_could_4 : decode cL_could 4 = .ok (.invokevirtual 103, 3) := by decide +kernel
theorem dL_could_7 : decode cL_could 7 = .ok (.i2l, 1) := by decide +kernel
theorem dL_could_8 : decode cL_could 8 = .ok (.lastore, 1) := by decide +kernel
theorem dL_could_9 : decode cL_could 9 = .ok (.goto 6, 3) := by decide +kernel
theorem dL_could_12 : decode cL_could 12 = .ok (.astore_n 3, 1) := by decide +kernel
theorem dL_could_13 : decode cL_could 13 = .ok (.iconst 1, 1) := by decide +kernel
theorem dL_could_14 : decode cL_could 14 = .ok (.ireturn, 1) := by decide +kernel
theorem dL_could_15 : decode cL_could 15 = .ok (.iconst 0, 1) := by decide +kernel
theorem dL_could_16 : decode cL_could 16 = .ok (.ireturn, 1) := by decide +kernel
theorem dL_shut_0 : decode cL_shut 0 = .ok (.aload 7, 2) := by decide +kernel
theorem dL_shut_2 : decode cL_shut 2 = .ok (.iconst 0, 1) := by decide +kernel
theorem dL_shut_3 : decode cL_shut 3 = .ok (.aload_n 0, 1) := by decide +kernel
theorem dL_shut_4 : decode cL_shut 4 = .ok (.iload_n 1, 1) := by decide +kernel
theorem dL_shut_5 : decode cL_shut 5 = .ok (.iload_n 2, 1) := by decide +kernel
theorem dL_shut_6 : decode cL_shut 6 = .ok (.iload_n 3, 1) := by decide +kernel
theorem dL_shut_7 : decode cL_shut 7 = .ok (.iload 4, 2) := by decide +kernel
theorem dL_shut_9 : decode cL_shut 9 = .ok (.iload 5, 2) := by decide +kernel
theorem dL_shut_11 : decode cL_shut 11 = .ok (.iload 6, 2) := by decide +kernel
theorem dL_shut_13 : decode cL_shut 13 = .ok (.invokevirtual 106, 3) := by decide +kernel
theorem dL_shut_16 : decode cL_shut 16 = .ok (.i2l, 1) := by decide +kernel
theorem dL_shut_17 : decode cL_shut 17 = .ok (.lastore, 1) := by decide +kernel
theorem dL_shut_18 : decode cL_shut 18 = .ok (.goto 11, 3) := by decide +kernel
theorem dL_shut_21 : decode cL_shut 21 = .ok (.astore 8, 2) := by decide +kernel
theorem dL_shut_23 : decode cL_shut 23 = .ok (.iconst 1, 1) := by decide +kernel
theorem dL_shut_24 : decode cL_shut 24 = .ok (.ireturn, 1) := by decide +kernel
theorem dL_shut_25 : decode cL_shut 25 = .ok (.astore 8, 2) := by decide +kernel
theorem dL_shut_27 : decode cL_shut 27 = .ok (.iconst 2, 1) := by decide +kernel
theorem dL_shut_28 : decode cL_shut 28 = .ok (.ireturn, 1) := by decide +kernel
theorem dL_shut_29 : decode cL_shut 29 = .ok (.iconst 0, 1) := by decide +kernel
theorem dL_shut_30 : decode cL_shut 30 = .ok (.ireturn, 1) := by decide +kernel
theorem dL_law__0 : decode cL_law_ 0 = .ok (.new 8, 3) := by decide +kernel
theorem dL_law__3 : decode cL_law_ 3 = .ok (.dup, 1) := by decide +kernel
theorem dL_law__4 : decode cL_law_ 4 = .ok (.invokespecial 109, 3) := by decide +kernel
theorem dL_law__7 : decode cL_law_ 7 = .ok (.astore_n 1, 1) := by decide +kernel
theorem dL_law__8 : decode cL_law_ 8 = .ok (.new 110, 3) := by decide +kernel
theorem dL_law__11 : decode cL_law_ 11 = .ok (.dup, 1) := by decide +kernel
theorem dL_law__12 : decode cL_law_ 12 = .ok (.invokespecial 112, 3) := by decide +kernel
theorem dL_law__15 : decode cL_law_ 15 = .ok (.astore_n 2, 1) := by decide +kernel
theorem dL_law__16 : decode cL_law_ 16 = .ok (.iconst 1, 1) := by decide +kernel
theorem dL_law__17 : decode cL_law_ 17 = .ok (.newarray .long, 2) := by decide +kernel
theorem dL_law__19 : decode cL_law_ 19 = .ok (.astore_n 3, 1) := by decide +kernel
theorem dL_law__20 : decode cL_law_ 20 = .ok (.iconst 0, 1) := by decide +kernel
theorem dL_law__21 : decode cL_law_ 21 = .ok (.istore 4, 2) := by decide +kernel
theorem dL_law__23 : decode cL_law_ 23 = .ok (.iload 4, 2) := by decide +kernel
theorem dL_law__25 : decode cL_law_ 25 = .ok (.aload_n 0, 1) := by decide +kernel
theorem dL_law__26 : decode cL_law_ 26 = .ok (.arraylength, 1) := by decide +kernel
theorem dL_law__27 : decode cL_law_ 27 = .ok (.bipush 7, 2) := by decide +kernel
theorem dL_law__29 : decode cL_law_ 29 = .ok (.isub, 1) := by decide +kernel
theorem dL_law__30 : decode cL_law_ 30 = .ok (.if_icmp .gt 2615, 3) := by decide +kernel
theorem dL_law__33 : decode cL_law_ 33 = .ok (.aload_n 0, 1) := by decide +kernel
theorem dL_law__34 : decode cL_law_ 34 = .ok (.iload 4, 2) := by decide +kernel
theorem dL_law__36 : decode cL_law_ 36 = .ok (.iaload, 1) := by decide +kernel
theorem dL_law__37 : decode cL_law_ 37 = .ok (.bipush 63, 2) := by decide +kernel
theorem dL_law__39 : decode cL_law_ 39 = .ok (.iand, 1) := by decide +kernel
theorem dL_law__40 : decode cL_law_ 40 = .ok (.tableswitch 2599 0 32 #[148, 221, 277, 290, 346, 414, 498, 578, 658, 726, 834, 933, 1013, 1105, 1225, 1345, 1425, 1517, 1635, 1715, 1790, 1858, 1926, 2046, 2102, 2182, 2238, 2318, 2374, 2430, 2548, 2561, 2574], 148) := by decide +kernel
theorem dL_law__188 : decode cL_law_ 188 = .ok (.aload_n 1, 1) := by decide +kernel
theorem dL_law__189 : decode cL_law_ 189 = .ok (.aload_n 0, 1) := by decide +kernel
theorem dL_law__190 : decode cL_law_ 190 = .ok (.iload 4, 2) := by decide +kernel
theorem dL_law__192 : decode cL_law_ 192 = .ok (.iconst 1, 1) := by decide +kernel
theorem dL_law__193 : decode cL_law_ 193 = .ok (.iadd, 1) := by decide +kernel
theorem dL_law__194 : decode cL_law_ 194 = .ok (.iaload, 1) := by decide +kernel
theorem dL_law__195 : decode cL_law_ 195 = .ok (.aload_n 0, 1) := by decide +kernel
theorem dL_law__196 : decode cL_law_ 196 = .ok (.iload 4, 2) := by decide +kernel
theorem dL_law__198 : decode cL_law_ 198 = .ok (.iconst 2, 1) := by decide +kernel
theorem dL_law__199 : decode cL_law_ 199 = .ok (.iadd, 1) := by decide +kernel
theorem dL_law__200 : decode cL_law_ 200 = .ok (.iaload, 1) := by decide +kernel
theorem dL_law__201 : decode cL_law_ 201 = .ok (.aload_n 0, 1) := by decide +kernel
theorem dL_law__202 : decode cL_law_ 202 = .ok (.iload 4, 2) := by decide +kernel
theorem dL_law__204 : decode cL_law_ 204 = .ok (.iconst 3, 1) := by decide +kernel
theorem dL_law__205 : decode cL_law_ 205 = .ok (.iadd, 1) := by decide +kernel
theorem dL_law__206 : decode cL_law_ 206 = .ok (.iaload, 1) := by decide +kernel
theorem dL_law__207 : decode cL_law_ 207 = .ok (.aload_n 0, 1) := by decide +kernel
theorem dL_law__208 : decode cL_law_ 208 = .ok (.iload 4, 2) := by decide +kernel
theorem dL_law__210 : decode cL_law_ 210 = .ok (.iconst 4, 1) := by decide +kernel
theorem dL_law__211 : decode cL_law_ 211 = .ok (.iadd, 1) := by decide +kernel
theorem dL_law__212 : decode cL_law_ 212 = .ok (.iaload, 1) := by decide +kernel
theorem dL_law__213 : decode cL_law_ 213 = .ok (.aload_n 0, 1) := by decide +kernel
theorem dL_law__214 : decode cL_law_ 214 = .ok (.iload 4, 2) := by decide +kernel
theorem dL_law__216 : decode cL_law_ 216 = .ok (.iconst 5, 1) := by decide +kernel
theorem dL_law__217 : decode cL_law_ 217 = .ok (.iadd, 1) := by decide +kernel
theorem dL_law__218 : decode cL_law_ 218 = .ok (.iaload, 1) := by decide +kernel
theorem dL_law__219 : decode cL_law_ 219 = .ok (.invokevirtual 113, 3) := by decide +kernel
theorem dL_law__222 : decode cL_law_ 222 = .ok (.aload_n 2, 1) := by decide +kernel
theorem dL_law__223 : decode cL_law_ 223 = .ok (.aload_n 0, 1) := by decide +kernel
theorem dL_law__224 : decode cL_law_ 224 = .ok (.iload 4, 2) := by decide +kernel
theorem dL_law__226 : decode cL_law_ 226 = .ok (.iconst 1, 1) := by decide +kernel
theorem dL_law__227 : decode cL_law_ 227 = .ok (.iadd, 1) := by decide +kernel
theorem dL_law__228 : decode cL_law_ 228 = .ok (.iaload, 1) := by decide +kernel
theorem dL_law__229 : decode cL_law_ 229 = .ok (.aload_n 0, 1) := by decide +kernel
theorem dL_law__230 : decode cL_law_ 230 = .ok (.iload 4, 2) := by decide +kernel
theorem dL_law__232 : decode cL_law_ 232 = .ok (.iconst 2, 1) := by decide +kernel
theorem dL_law__233 : decode cL_law_ 233 = .ok (.iadd, 1) := by decide +kernel
theorem dL_law__234 : decode cL_law_ 234 = .ok (.iaload, 1) := by decide +kernel
theorem dL_law__235 : decode cL_law_ 235 = .ok (.aload_n 0, 1) := by decide +kernel
theorem dL_law__236 : decode cL_law_ 236 = .ok (.iload 4, 2) := by decide +kernel
theorem dL_law__238 : decode cL_law_ 238 = .ok (.iconst 3, 1) := by decide +kernel
theorem dL_law__239 : decode cL_law_ 239 = .ok (.iadd, 1) := by decide +kernel
theorem dL_law__240 : decode cL_law_ 240 = .ok (.iaload, 1) := by decide +kernel
theorem dL_law__241 : decode cL_law_ 241 = .ok (.aload_n 0, 1) := by decide +kernel
theorem dL_law__242 : decode cL_law_ 242 = .ok (.iload 4, 2) := by decide +kernel
theorem dL_law__244 : decode cL_law_ 244 = .ok (.iconst 4, 1) := by decide +kernel
theorem dL_law__245 : decode cL_law_ 245 = .ok (.iadd, 1) := by decide +kernel
theorem dL_law__246 : decode cL_law_ 246 = .ok (.iaload, 1) := by decide +kernel
theorem dL_law__247 : decode cL_law_ 247 = .ok (.aload_n 0, 1) := by decide +kernel
theorem dL_law__248 : decode cL_law_ 248 = .ok (.iload 4, 2) := by decide +kernel
theorem dL_law__250 : decode cL_law_ 250 = .ok (.iconst 5, 1) := by decide +kernel
theorem dL_law__251 : decode cL_law_ 251 = .ok (.iadd, 1) := by decide +kernel
theorem dL_law__252 : decode cL_law_ 252 = .ok (.iaload, 1) := by decide +kernel
theorem dL_law__253 : decode cL_law_ 253 = .ok (.invokevirtual 117, 3) := by decide +kernel
theorem dL_law__256 : decode cL_law_ 256 = .ok (.if_icmp .eq 2383, 3) := by decide +kernel
theorem dL_law__259 : decode cL_law_ 259 = .ok (.iconst 0, 1) := by decide +kernel
theorem dL_law__260 : decode cL_law_ 260 = .ok (.ireturn, 1) := by decide +kernel
theorem dL_law__261 : decode cL_law_ 261 = .ok (.aload_n 1, 1) := by decide +kernel
theorem dL_law__262 : decode cL_law_ 262 = .ok (.aload_n 0, 1) := by decide +kernel
theorem dL_law__263 : decode cL_law_ 263 = .ok (.iload 4, 2) := by decide +kernel
theorem dL_law__265 : decode cL_law_ 265 = .ok (.iconst 1, 1) := by decide +kernel
theorem dL_law__266 : decode cL_law_ 266 = .ok (.iadd, 1) := by decide +kernel
theorem dL_law__267 : decode cL_law_ 267 = .ok (.iaload, 1) := by decide +kernel
theorem dL_law__268 : decode cL_law_ 268 = .ok (.aload_n 3, 1) := by decide +kernel
theorem dL_law__269 : decode cL_law_ 269 = .ok (.invokestatic 118, 3) := by decide +kernel
theorem dL_law__272 : decode cL_law_ 272 = .ok (.istore 5, 2) := by decide +kernel
theorem dL_law__274 : decode cL_law_ 274 = .ok (.aload_n 2, 1) := by decide +kernel
theorem dL_law__275 : decode cL_law_ 275 = .ok (.aload_n 0, 1) := by decide +kernel
theorem dL_law__276 : decode cL_law_ 276 = .ok (.iload 4, 2) := by decide +kernel
theorem dL_law__278 : decode cL_law_ 278 = .ok (.iconst 1, 1) := by decide +kernel
theorem dL_law__279 : decode cL_law_ 279 = .ok (.iadd, 1) := by decide +kernel
theorem dL_law__280 : decode cL_law_ 280 = .ok (.iaload, 1) := by decide +kernel
theorem dL_law__281 : decode cL_law_ 281 = .ok (.invokevirtual 123, 3) := by decide +kernel
theorem dL_law__284 : decode cL_law_ 284 = .ok (.istore 6, 2) := by decide +kernel
theorem dL_law__286 : decode cL_law_ 286 = .ok (.aload_n 2, 1) := by decide +kernel
theorem dL_law__287 : decode cL_law_ 287 = .ok (.invokevirtual 124, 3) := by decide +kernel
theorem dL_law__290 : decode cL_law_ 290 = .ok (.iload 5, 2) := by decide +kernel
theorem dL_law__292 : decode cL_law_ 292 = .ok (.if_icmp .eq 5, 3) := by decide +kernel
theorem dL_law__295 : decode cL_law_ 295 = .ok (.iconst 0, 1) := by decide +kernel
theorem dL_law__296 : decode cL_law_ 296 = .ok (.ireturn, 1) := by decide +kernel
theorem dL_law__297 : decode cL_law_ 297 = .ok (.iload 5, 2) := by decide +kernel
theorem dL_law__299 : decode cL_law_ 299 = .ok (.ifCond .ne 15, 3) := by decide +kernel
theorem dL_law__302 : decode cL_law_ 302 = .ok (.aload_n 3, 1) := by decide +kernel
theorem dL_law__303 : decode cL_law_ 303 = .ok (.iconst 0, 1) := by decide +kernel
theorem dL_law__304 : decode cL_law_ 304 = .ok (.laload, 1) := by decide +kernel
theorem dL_law__305 : decode cL_law_ 305 = .ok (.iload 6, 2) := by decide +kernel
theorem dL_law__307 : decode cL_law_ 307 = .ok (.i2l, 1) := by decide +kernel
theorem dL_law__308 : decode cL_law_ 308 = .ok (.lcmp, 1) := by decide +kernel
theorem dL_law__309 : decode cL_law_ 309 = .ok (.ifCond .eq 5, 3) := by decide +kernel
theorem dL_law__312 : decode cL_law_ 312 = .ok (.iconst 0, 1) := by decide +kernel
theorem dL_law__313 : decode cL_law_ 313 = .ok (.ireturn, 1) := by decide +kernel
theorem dL_law__314 : decode cL_law_ 314 = .ok (.goto 2325, 3) := by decide +kernel
theorem dL_law__317 : decode cL_law_ 317 = .ok (.aload_n 1, 1) := by decide +kernel
theorem dL_law__318 : decode cL_law_ 318 = .ok (.invokevirtual 128, 3) := by decide +kernel
theorem dL_law__321 : decode cL_law_ 321 = .ok (.aload_n 2, 1) := by decide +kernel
theorem dL_law__322 : decode cL_law_ 322 = .ok (.invokevirtual 131, 3) := by decide +kernel
theorem dL_law__325 : decode cL_law_ 325 = .ok (.if_icmp .eq 2314, 3) := by decide +kernel
theorem dL_law__328 : decode cL_law_ 328 = .ok (.iconst 0, 1) := by decide +kernel
theorem dL_law__329 : decode cL_law_ 329 = .ok (.ireturn, 1) := by decide +kernel
theorem dL_law__330 : decode cL_law_ 330 = .ok (.aload_n 1, 1) := by decide +kernel
theorem dL_law__331 : decode cL_law_ 331 = .ok (.aload_n 0, 1) := by decide +kernel
theorem dL_law__332 : decode cL_law_ 332 = .ok (.iload 4, 2) := by decide +kernel
theorem dL_law__334 : decode cL_law_ 334 = .ok (.iconst 1, 1) := by decide +kernel
theorem dL_law__335 : decode cL_law_ 335 = .ok (.iadd, 1) := by decide +kernel
theorem dL_law__336 : decode cL_law_ 336 = .ok (.iaload, 1) := by decide +kernel
theorem dL_law__337 : decode cL_law_ 337 = .ok (.aload_n 3, 1) := by decide +kernel
theorem dL_law__338 : decode cL_law_ 338 = .ok (.invokestatic 132, 3) := by decide +kernel
theorem dL_law__341 : decode cL_law_ 341 = .ok (.istore 5, 2) := by decide +kernel
theorem dL_law__343 : decode cL_law_ 343 = .ok (.aload_n 2, 1) := by decide +kernel
theorem dL_law__344 : decode cL_law_ 344 = .ok (.aload_n 0, 1) := by decide +kernel
theorem dL_law__345 : decode cL_law_ 345 = .ok (.iload 4, 2) := by decide +kernel
theorem dL_law__347 : decode cL_law_ 347 = .ok (.iconst 1, 1) := by decide +kernel
theorem dL_law__348 : decode cL_law_ 348 = .ok (.iadd, 1) := by decide +kernel
theorem dL_law__349 : decode cL_law_ 349 = .ok (.iaload, 1) := by decide +kernel
theorem dL_law__350 : decode cL_law_ 350 = .ok (.invokevirtual 134, 3) := by decide +kernel
theorem dL_law__353 : decode cL_law_ 353 = .ok (.istore 6, 2) := by decide +kernel
theorem dL_law__355 : decode cL_law_ 355 = .ok (.aload_n 2, 1) := by decide +kernel
theorem dL_law__356 : decode cL_law_ 356 = .ok (.invokevirtual 124, 3) := by decide +kernel
theorem dL_law__359 : decode cL_law_ 359 = .ok (.iload 5, 2) := by decide +kernel
theorem dL_law__361 : decode cL_law_ 361 = .ok (.if_icmp .eq 5, 3) := by decide +kernel
theorem dL_law__364 : decode cL_law_ 364 = .ok (.iconst 0, 1) := by decide +kernel
theorem dL_law__365 : decode cL_law_ 365 = .ok (.ireturn, 1) := by decide +kernel
theorem dL_law__366 : decode cL_law_ 366 = .ok (.iload 5, 2) := by decide +kernel
theorem dL_law__368 : decode cL_law_ 368 = .ok (.ifCond .ne 15, 3) := by decide +kernel
theorem dL_law__371 : decode cL_law_ 371 = .ok (.aload_n 3, 1) := by decide +kernel
theorem dL_law__372 : decode cL_law_ 372 = .ok (.iconst 0, 1) := by decide +kernel
theorem dL_law__373 : decode cL_law_ 373 = .ok (.laload, 1) := by decide +kernel
theorem dL_law__374 : decode cL_law_ 374 = .ok (.iload 6, 2) := by decide +kernel
theorem dL_law__376 : decode cL_law_ 376 = .ok (.i2l, 1) := by decide +kernel
theorem dL_law__377 : decode cL_law_ 377 = .ok (.lcmp, 1) := by decide +kernel
theorem dL_law__378 : decode cL_law_ 378 = .ok (.ifCond .eq 5, 3) := by decide +kernel
theorem dL_law__381 : decode cL_law_ 381 = .ok (.iconst 0, 1) := by decide +kernel
theorem dL_law__382 : decode cL_law_ 382 = .ok (.ireturn, 1) := by decide +kernel
theorem dL_law__383 : decode cL_law_ 383 = .ok (.goto 2256, 3) := by decide +kernel
theorem dL_law__386 : decode cL_law_ 386 = .ok (.aload_n 1, 1) := by decide +kernel
theorem dL_law__387 : decode cL_law_ 387 = .ok (.aload_n 0, 1) := by decide +kernel
theorem dL_law__388 : decode cL_law_ 388 = .ok (.iload 4, 2) := by decide +kernel
theorem dL_law__390 : decode cL_law_ 390 = .ok (.iconst 1, 1) := by decide +kernel
theorem dL_law__391 : decode cL_law_ 391 = .ok (.iadd, 1) := by decide +kernel
theorem dL_law__392 : decode cL_law_ 392 = .ok (.iaload, 1) := by decide +kernel
theorem dL_law__393 : decode cL_law_ 393 = .ok (.aload_n 0, 1) := by decide +kernel
theorem dL_law__394 : decode cL_law_ 394 = .ok (.iload 4, 2) := by decide +kernel
theorem dL_law__396 : decode cL_law_ 396 = .ok (.iconst 2, 1) := by decide +kernel
theorem dL_law__397 : decode cL_law_ 397 = .ok (.iadd, 1) := by decide +kernel
theorem dL_law__398 : decode cL_law_ 398 = .ok (.iaload, 1) := by decide +kernel
theorem dL_law__399 : decode cL_law_ 399 = .ok (.aload_n 3, 1) := by decide +kernel
theorem dL_law__400 : decode cL_law_ 400 = .ok (.invokestatic 135, 3) := by decide +kernel
theorem dL_law__403 : decode cL_law_ 403 = .ok (.istore 5, 2) := by decide +kernel
theorem dL_law__405 : decode cL_law_ 405 = .ok (.aload_n 2, 1) := by decide +kernel
theorem dL_law__406 : decode cL_law_ 406 = .ok (.aload_n 0, 1) := by decide +kernel
theorem dL_law__407 : decode cL_law_ 407 = .ok (.iload 4, 2) := by decide +kernel
theorem dL_law__409 : decode cL_law_ 409 = .ok (.iconst 1, 1) := by decide +kernel
theorem dL_law__410 : decode cL_law_ 410 = .ok (.iadd, 1) := by decide +kernel
theorem dL_law__411 : decode cL_law_ 411 = .ok (.iaload, 1) := by decide +kernel
theorem dL_law__412 : decode cL_law_ 412 = .ok (.aload_n 0, 1) := by decide +kernel
theorem dL_law__413 : decode cL_law_ 413 = .ok (.iload 4, 2) := by decide +kernel
theorem dL_law__415 : decode cL_law_ 415 = .ok (.iconst 2, 1) := by decide +kernel
theorem dL_law__416 : decode cL_law_ 416 = .ok (.iadd, 1) := by decide +kernel
theorem dL_law__417 : decode cL_law_ 417 = .ok (.iaload, 1) := by decide +kernel
theorem dL_law__418 : decode cL_law_ 418 = .ok (.invokevirtual 138, 3) := by decide +kernel
theorem dL_law__421 : decode cL_law_ 421 = .ok (.istore 6, 2) := by decide +kernel
theorem dL_law__423 : decode cL_law_ 423 = .ok (.aload_n 2, 1) := by decide +kernel
theorem dL_law__424 : decode cL_law_ 424 = .ok (.invokevirtual 124, 3) := by decide +kernel
theorem dL_law__427 : decode cL_law_ 427 = .ok (.iload 5, 2) := by decide +kernel
theorem dL_law__429 : decode cL_law_ 429 = .ok (.if_icmp .eq 5, 3) := by decide +kernel
theorem dL_law__432 : decode cL_law_ 432 = .ok (.iconst 0, 1) := by decide +kernel
theorem dL_law__433 : decode cL_law_ 433 = .ok (.ireturn, 1) := by decide +kernel
theorem dL_law__434 : decode cL_law_ 434 = .ok (.iload 5, 2) := by decide +kernel
theorem dL_law__436 : decode cL_law_ 436 = .ok (.ifCond .ne 15, 3) := by decide +kernel
theorem dL_law__439 : decode cL_law_ 439 = .ok (.aload_n 3, 1) := by decide +kernel
theorem dL_law__440 : decode cL_law_ 440 = .ok (.iconst 0, 1) := by decide +kernel
theorem dL_law__441 : decode cL_law_ 441 = .ok (.laload, 1) := by decide +kernel
theorem dL_law__442 : decode cL_law_ 442 = .ok (.iload 6, 2) := by decide +kernel
theorem dL_law__444 : decode cL_law_ 444 = .ok (.i2l, 1) := by decide +kernel
theorem dL_law__445 : decode cL_law_ 445 = .ok (.lcmp, 1) := by decide +kernel
theorem dL_law__446 : decode cL_law_ 446 = .ok (.ifCond .eq 5, 3) := by decide +kernel
theorem dL_law__449 : decode cL_law_ 449 = .ok (.iconst 0, 1) := by decide +kernel
theorem dL_law__450 : decode cL_law_ 450 = .ok (.ireturn, 1) := by decide +kernel
theorem dL_law__451 : decode cL_law_ 451 = .ok (.goto 2188, 3) := by decide +kernel
theorem dL_law__454 : decode cL_law_ 454 = .ok (.aload_n 1, 1) := by decide +kernel
theorem dL_law__455 : decode cL_law_ 455 = .ok (.aload_n 0, 1) := by decide +kernel
theorem dL_law__456 : decode cL_law_ 456 = .ok (.iload 4, 2) := by decide +kernel
theorem dL_law__458 : decode cL_law_ 458 = .ok (.iconst 1, 1) := by decide +kernel
theorem dL_law__459 : decode cL_law_ 459 = .ok (.iadd, 1) := by decide +kernel
theorem dL_law__460 : decode cL_law_ 460 = .ok (.iaload, 1) := by decide +kernel
theorem dL_law__461 : decode cL_law_ 461 = .ok (.aload_n 0, 1) := by decide +kernel
theorem dL_law__462 : decode cL_law_ 462 = .ok (.iload 4, 2) := by decide +kernel
theorem dL_law__464 : decode cL_law_ 464 = .ok (.iconst 2, 1) := by decide +kernel
theorem dL_law__465 : decode cL_law_ 465 = .ok (.iadd, 1) := by decide +kernel
theorem dL_law__466 : decode cL_law_ 466 = .ok (.iaload, 1) := by decide +kernel
theorem dL_law__467 : decode cL_law_ 467 = .ok (.ifCond .eq 7, 3) := by decide +kernel
theorem dL_law__470 : decode cL_law_ 470 = .ok (.iconst 1, 1) := by decide +kernel
theorem dL_law__471 : decode cL_law_ 471 = .ok (.goto 4, 3) := by decide +kernel
theorem dL_law__474 : decode cL_law_ 474 = .ok (.iconst 0, 1) := by decide +kernel
theorem dL_law__475 : decode cL_law_ 475 = .ok (.aload_n 3, 1) := by decide +kernel
theorem dL_law__476 : decode cL_law_ 476 = .ok (.invokestatic 139, 3) := by decide +kernel
theorem dL_law__479 : decode cL_law_ 479 = .ok (.istore 5, 2) := by decide +kernel
theorem dL_law__481 : decode cL_law_ 481 = .ok (.aload_n 2, 1) := by decide +kernel
theorem dL_law__482 : decode cL_law_ 482 = .ok (.aload_n 0, 1) := by decide +kernel
theorem dL_law__483 : decode cL_law_ 483 = .ok (.iload 4, 2) := by decide +kernel
theorem dL_law__485 : decode cL_law_ 485 = .ok (.iconst 1, 1) := by decide +kernel
theorem dL_law__486 : decode cL_law_ 486 = .ok (.iadd, 1) := by decide +kernel
theorem dL_law__487 : decode cL_law_ 487 = .ok (.iaload, 1) := by decide +kernel
theorem dL_law__488 : decode cL_law_ 488 = .ok (.aload_n 0, 1) := by decide +kernel
theorem dL_law__489 : decode cL_law_ 489 = .ok (.iload 4, 2) := by decide +kernel
theorem dL_law__491 : decode cL_law_ 491 = .ok (.iconst 2, 1) := by decide +kernel
theorem dL_law__492 : decode cL_law_ 492 = .ok (.iadd, 1) := by decide +kernel
theorem dL_law__493 : decode cL_law_ 493 = .ok (.iaload, 1) := by decide +kernel
theorem dL_law__494 : decode cL_law_ 494 = .ok (.ifCond .eq 7, 3) := by decide +kernel
theorem dL_law__497 : decode cL_law_ 497 = .ok (.iconst 1, 1) := by decide +kernel
theorem dL_law__498 : decode cL_law_ 498 = .ok (.goto 4, 3) := by decide +kernel
theorem dL_law__501 : decode cL_law_ 501 = .ok (.iconst 0, 1) := by decide +kernel
theorem dL_law__502 : decode cL_law_ 502 = .ok (.invokevirtual 142, 3) := by decide +kernel
theorem dL_law__505 : decode cL_law_ 505 = .ok (.istore 6, 2) := by decide +kernel
theorem dL_law__507 : decode cL_law_ 507 = .ok (.aload_n 2, 1) := by decide +kernel
theorem dL_law__508 : decode cL_law_ 508 = .ok (.invokevirtual 124, 3) := by decide +kernel
theorem dL_law__511 : decode cL_law_ 511 = .ok (.iload 5, 2) := by decide +kernel
theorem dL_law__513 : decode cL_law_ 513 = .ok (.if_icmp .eq 5, 3) := by decide +kernel
theorem dL_law__516 : decode cL_law_ 516 = .ok (.iconst 0, 1) := by decide +kernel
theorem dL_law__517 : decode cL_law_ 517 = .ok (.ireturn, 1) := by decide +kernel
theorem dL_law__518 : decode cL_law_ 518 = .ok (.iload 5, 2) := by decide +kernel
theorem dL_law__520 : decode cL_law_ 520 = .ok (.ifCond .ne 15, 3) := by decide +kernel
theorem dL_law__523 : decode cL_law_ 523 = .ok (.aload_n 3, 1) := by decide +kernel
theorem dL_law__524 : decode cL_law_ 524 = .ok (.iconst 0, 1) := by decide +kernel
theorem dL_law__525 : decode cL_law_ 525 = .ok (.laload, 1) := by decide +kernel
theorem dL_law__526 : decode cL_law_ 526 = .ok (.iload 6, 2) := by decide +kernel
theorem dL_law__528 : decode cL_law_ 528 = .ok (.i2l, 1) := by decide +kernel
theorem dL_law__529 : decode cL_law_ 529 = .ok (.lcmp, 1) := by decide +kernel
theorem dL_law__530 : decode cL_law_ 530 = .ok (.ifCond .eq 5, 3) := by decide +kernel
theorem dL_law__533 : decode cL_law_ 533 = .ok (.iconst 0, 1) := by decide +kernel
theorem dL_law__534 : decode cL_law_ 534 = .ok (.ireturn, 1) := by decide +kernel
theorem dL_law__535 : decode cL_law_ 535 = .ok (.goto 2104, 3) := by decide +kernel
theorem dL_law__538 : decode cL_law_ 538 = .ok (.aload_n 1, 1) := by decide +kernel
theorem dL_law__539 : decode cL_law_ 539 = .ok (.aload_n 0, 1) := by decide +kernel
theorem dL_law__540 : decode cL_law_ 540 = .ok (.iload 4, 2) := by decide +kernel
theorem dL_law__542 : decode cL_law_ 542 = .ok (.iconst 1, 1) := by decide +kernel
theorem dL_law__543 : decode cL_law_ 543 = .ok (.iadd, 1) := by decide +kernel
theorem dL_law__544 : decode cL_law_ 544 = .ok (.iaload, 1) := by decide +kernel
theorem dL_law__545 : decode cL_law_ 545 = .ok (.aload_n 0, 1) := by decide +kernel
theorem dL_law__546 : decode cL_law_ 546 = .ok (.iload 4, 2) := by decide +kernel
theorem dL_law__548 : decode cL_law_ 548 = .ok (.iconst 2, 1) := by decide +kernel
theorem dL_law__549 : decode cL_law_ 549 = .ok (.iadd, 1) := by decide +kernel
theorem dL_law__550 : decode cL_law_ 550 = .ok (.iaload, 1) := by decide +kernel
theorem dL_law__551 : decode cL_law_ 551 = .ok (.aload_n 0, 1) := by decide +kernel
theorem dL_law__552 : decode cL_law_ 552 = .ok (.iload 4, 2) := by decide +kernel
theorem dL_law__554 : decode cL_law_ 554 = .ok (.iconst 3, 1) := by decide +kernel
theorem dL_law__555 : decode cL_law_ 555 = .ok (.iadd, 1) := by decide +kernel
theorem dL_law__556 : decode cL_law_ 556 = .ok (.iaload, 1) := by decide +kernel
theorem dL_law__557 : decode cL_law_ 557 = .ok (.aload_n 3, 1) := by decide +kernel
theorem dL_law__558 : decode cL_law_ 558 = .ok (.invokestatic 143, 3) := by decide +kernel
theorem dL_law__561 : decode cL_law_ 561 = .ok (.istore 5, 2) := by decide +kernel
theorem dL_law__563 : decode cL_law_ 563 = .ok (.aload_n 2, 1) := by decide +kernel
theorem dL_law__564 : decode cL_law_ 564 = .ok (.aload_n 0, 1) := by decide +kernel
theorem dL_law__565 : decode cL_law_ 565 = .ok (.iload 4, 2) := by decide +kernel
theorem dL_law__567 : decode cL_law_ 567 = .ok (.iconst 1, 1) := by decide +kernel
theorem dL_law__568 : decode cL_law_ 568 = .ok (.iadd, 1) := by decide +kernel
theorem dL_law__569 : decode cL_law_ 569 = .ok (.iaload, 1) := by decide +kernel
theorem dL_law__570 : decode cL_law_ 570 = .ok (.aload_n 0, 1) := by decide +kernel
theorem dL_law__571 : decode cL_law_ 571 = .ok (.iload 4, 2) := by decide +kernel
theorem dL_law__573 : decode cL_law_ 573 = .ok (.iconst 2, 1) := by decide +kernel
theorem dL_law__574 : decode cL_law_ 574 = .ok (.iadd, 1) := by decide +kernel
theorem dL_law__575 : decode cL_law_ 575 = .ok (.iaload, 1) := by decide +kernel
theorem dL_law__576 : decode cL_law_ 576 = .ok (.aload_n 0, 1) := by decide +kernel
theorem dL_law__577 : decode cL_law_ 577 = .ok (.iload 4, 2) := by decide +kernel
theorem dL_law__579 : decode cL_law_ 579 = .ok (.iconst 3, 1) := by decide +kernel
theorem dL_law__580 : decode cL_law_ 580 = .ok (.iadd, 1) := by decide +kernel
theorem dL_law__581 : decode cL_law_ 581 = .ok (.iaload, 1) := by decide +kernel
theorem dL_law__582 : decode cL_law_ 582 = .ok (.invokevirtual 146, 3) := by decide +kernel
theorem dL_law__585 : decode cL_law_ 585 = .ok (.istore 6, 2) := by decide +kernel
theorem dL_law__587 : decode cL_law_ 587 = .ok (.aload_n 2, 1) := by decide +kernel
theorem dL_law__588 : decode cL_law_ 588 = .ok (.invokevirtual 124, 3) := by decide +kernel
theorem dL_law__591 : decode cL_law_ 591 = .ok (.iload 5, 2) := by decide +kernel
theorem dL_law__593 : decode cL_law_ 593 = .ok (.if_icmp .eq 5, 3) := by decide +kernel
theorem dL_law__596 : decode cL_law_ 596 = .ok (.iconst 0, 1) := by decide +kernel
theorem dL_law__597 : decode cL_law_ 597 = .ok (.ireturn, 1) := by decide +kernel
theorem dL_law__598 : decode cL_law_ 598 = .ok (.iload 5, 2) := by decide +kernel
theorem dL_law__600 : decode cL_law_ 600 = .ok (.ifCond .ne 15, 3) := by decide +kernel
theorem dL_law__603 : decode cL_law_ 603 = .ok (.aload_n 3, 1) := by decide +kernel
theorem dL_law__604 : decode cL_law_ 604 = .ok (.iconst 0, 1) := by decide +kernel
theorem dL_law__605 : decode cL_law_ 605 = .ok (.laload, 1) := by decide +kernel
theorem dL_law__606 : decode cL_law_ 606 = .ok (.iload 6, 2) := by decide +kernel
theorem dL_law__608 : decode cL_law_ 608 = .ok (.i2l, 1) := by decide +kernel
theorem dL_law__609 : decode cL_law_ 609 = .ok (.lcmp, 1) := by decide +kernel
theorem dL_law__610 : decode cL_law_ 610 = .ok (.ifCond .eq 5, 3) := by decide +kernel
theorem dL_law__613 : decode cL_law_ 613 = .ok (.iconst 0, 1) := by decide +kernel
theorem dL_law__614 : decode cL_law_ 614 = .ok (.ireturn, 1) := by decide +kernel
theorem dL_law__615 : decode cL_law_ 615 = .ok (.goto 2024, 3) := by decide +kernel
theorem dL_law__618 : decode cL_law_ 618 = .ok (.aload_n 1, 1) := by decide +kernel
theorem dL_law__619 : decode cL_law_ 619 = .ok (.aload_n 0, 1) := by decide +kernel
theorem dL_law__620 : decode cL_law_ 620 = .ok (.iload 4, 2) := by decide +kernel
theorem dL_law__622 : decode cL_law_ 622 = .ok (.iconst 1, 1) := by decide +kernel
theorem dL_law__623 : decode cL_law_ 623 = .ok (.iadd, 1) := by decide +kernel
theorem dL_law__624 : decode cL_law_ 624 = .ok (.iaload, 1) := by decide +kernel
theorem dL_law__625 : decode cL_law_ 625 = .ok (.aload_n 0, 1) := by decide +kernel
theorem dL_law__626 : decode cL_law_ 626 = .ok (.iload 4, 2) := by decide +kernel
theorem dL_law__628 : decode cL_law_ 628 = .ok (.iconst 2, 1) := by decide +kernel
theorem dL_law__629 : decode cL_law_ 629 = .ok (.iadd, 1) := by decide +kernel
theorem dL_law__630 : decode cL_law_ 630 = .ok (.iaload, 1) := by decide +kernel
theorem dL_law__631 : decode cL_law_ 631 = .ok (.aload_n 0, 1) := by decide +kernel
theorem dL_law__632 : decode cL_law_ 632 = .ok (.iload 4, 2) := by decide +kernel
theorem dL_law__634 : decode cL_law_ 634 = .ok (.iconst 3, 1) := by decide +kernel
theorem dL_law__635 : decode cL_law_ 635 = .ok (.iadd, 1) := by decide +kernel
theorem dL_law__636 : decode cL_law_ 636 = .ok (.iaload, 1) := by decide +kernel
theorem dL_law__637 : decode cL_law_ 637 = .ok (.aload_n 3, 1) := by decide +kernel
theorem dL_law__638 : decode cL_law_ 638 = .ok (.invokestatic 147, 3) := by decide +kernel
theorem dL_law__641 : decode cL_law_ 641 = .ok (.istore 5, 2) := by decide +kernel
theorem dL_law__643 : decode cL_law_ 643 = .ok (.aload_n 2, 1) := by decide +kernel
theorem dL_law__644 : decode cL_law_ 644 = .ok (.aload_n 0, 1) := by decide +kernel
theorem dL_law__645 : decode cL_law_ 645 = .ok (.iload 4, 2) := by decide +kernel
theorem dL_law__647 : decode cL_law_ 647 = .ok (.iconst 1, 1) := by decide +kernel
theorem dL_law__648 : decode cL_law_ 648 = .ok (.iadd, 1) := by decide +kernel
theorem dL_law__649 : decode cL_law_ 649 = .ok (.iaload, 1) := by decide +kernel
theorem dL_law__650 : decode cL_law_ 650 = .ok (.aload_n 0, 1) := by decide +kernel
theorem dL_law__651 : decode cL_law_ 651 = .ok (.iload 4, 2) := by decide +kernel
theorem dL_law__653 : decode cL_law_ 653 = .ok (.iconst 2, 1) := by decide +kernel
theorem dL_law__654 : decode cL_law_ 654 = .ok (.iadd, 1) := by decide +kernel
theorem dL_law__655 : decode cL_law_ 655 = .ok (.iaload, 1) := by decide +kernel
theorem dL_law__656 : decode cL_law_ 656 = .ok (.aload_n 0, 1) := by decide +kernel
theorem dL_law__657 : decode cL_law_ 657 = .ok (.iload 4, 2) := by decide +kernel
theorem dL_law__659 : decode cL_law_ 659 = .ok (.iconst 3, 1) := by decide +kernel
theorem dL_law__660 : decode cL_law_ 660 = .ok (.iadd, 1) := by decide +kernel
theorem dL_law__661 : decode cL_law_ 661 = .ok (.iaload, 1) := by decide +kernel
theorem dL_law__662 : decode cL_law_ 662 = .ok (.invokevirtual 149, 3) := by decide +kernel
theorem dL_law__665 : decode cL_law_ 665 = .ok (.istore 6, 2) := by decide +kernel
theorem dL_law__667 : decode cL_law_ 667 = .ok (.aload_n 2, 1) := by decide +kernel
theorem dL_law__668 : decode cL_law_ 668 = .ok (.invokevirtual 124, 3) := by decide +kernel
theorem dL_law__671 : decode cL_law_ 671 = .ok (.iload 5, 2) := by decide +kernel
theorem dL_law__673 : decode cL_law_ 673 = .ok (.if_icmp .eq 5, 3) := by decide +kernel
theorem dL_law__676 : decode cL_law_ 676 = .ok (.iconst 0, 1) := by decide +kernel
theorem dL_law__677 : decode cL_law_ 677 = .ok (.ireturn, 1) := by decide +kernel
theorem dL_law__678 : decode cL_law_ 678 = .ok (.iload 5, 2) := by decide +kernel
theorem dL_law__680 : decode cL_law_ 680 = .ok (.ifCond .ne 15, 3) := by decide +kernel
theorem dL_law__683 : decode cL_law_ 683 = .ok (.aload_n 3, 1) := by decide +kernel
theorem dL_law__684 : decode cL_law_ 684 = .ok (.iconst 0, 1) := by decide +kernel
theorem dL_law__685 : decode cL_law_ 685 = .ok (.laload, 1) := by decide +kernel
theorem dL_law__686 : decode cL_law_ 686 = .ok (.iload 6, 2) := by decide +kernel
theorem dL_law__688 : decode cL_law_ 688 = .ok (.i2l, 1) := by decide +kernel
theorem dL_law__689 : decode cL_law_ 689 = .ok (.lcmp, 1) := by decide +kernel
theorem dL_law__690 : decode cL_law_ 690 = .ok (.ifCond .eq 5, 3) := by decide +kernel
theorem dL_law__693 : decode cL_law_ 693 = .ok (.iconst 0, 1) := by decide +kernel
theorem dL_law__694 : decode cL_law_ 694 = .ok (.ireturn, 1) := by decide +kernel
theorem dL_law__695 : decode cL_law_ 695 = .ok (.goto 1944, 3) := by decide +kernel
theorem dL_law__698 : decode cL_law_ 698 = .ok (.aload_n 1, 1) := by decide +kernel
theorem dL_law__699 : decode cL_law_ 699 = .ok (.aload_n 0, 1) := by decide +kernel
theorem dL_law__700 : decode cL_law_ 700 = .ok (.iload 4, 2) := by decide +kernel
theorem dL_law__702 : decode cL_law_ 702 = .ok (.iconst 1, 1) := by decide +kernel
theorem dL_law__703 : decode cL_law_ 703 = .ok (.iadd, 1) := by decide +kernel
theorem dL_law__704 : decode cL_law_ 704 = .ok (.iaload, 1) := by decide +kernel
theorem dL_law__705 : decode cL_law_ 705 = .ok (.aload_n 0, 1) := by decide +kernel
theorem dL_law__706 : decode cL_law_ 706 = .ok (.iload 4, 2) := by decide +kernel
theorem dL_law__708 : decode cL_law_ 708 = .ok (.iconst 2, 1) := by decide +kernel
theorem dL_law__709 : decode cL_law_ 709 = .ok (.iadd, 1) := by decide +kernel
theorem dL_law__710 : decode cL_law_ 710 = .ok (.iaload, 1) := by decide +kernel
theorem dL_law__711 : decode cL_law_ 711 = .ok (.aload_n 3, 1) := by decide +kernel
theorem dL_law__712 : decode cL_law_ 712 = .ok (.invokestatic 150, 3) := by decide +kernel
theorem dL_law__715 : decode cL_law_ 715 = .ok (.istore 5, 2) := by decide +kernel
theorem dL_law__717 : decode cL_law_ 717 = .ok (.aload_n 2, 1) := by decide +kernel
theorem dL_law__718 : decode cL_law_ 718 = .ok (.aload_n 0, 1) := by decide +kernel
theorem dL_law__719 : decode cL_law_ 719 = .ok (.iload 4, 2) := by decide +kernel
theorem dL_law__721 : decode cL_law_ 721 = .ok (.iconst 1, 1) := by decide +kernel
theorem dL_law__722 : decode cL_law_ 722 = .ok (.iadd, 1) := by decide +kernel
theorem dL_law__723 : decode cL_law_ 723 = .ok (.iaload, 1) := by decide +kernel
theorem dL_law__724 : decode cL_law_ 724 = .ok (.aload_n 0, 1) := by decide +kernel
theorem dL_law__725 : decode cL_law_ 725 = .ok (.iload 4, 2) := by decide +kernel
theorem dL_law__727 : decode cL_law_ 727 = .ok (.iconst 2, 1) := by decide +kernel
theorem dL_law__728 : decode cL_law_ 728 = .ok (.iadd, 1) := by decide +kernel
theorem dL_law__729 : decode cL_law_ 729 = .ok (.iaload, 1) := by decide +kernel
theorem dL_law__730 : decode cL_law_ 730 = .ok (.invokevirtual 152, 3) := by decide +kernel
theorem dL_law__733 : decode cL_law_ 733 = .ok (.istore 6, 2) := by decide +kernel
theorem dL_law__735 : decode cL_law_ 735 = .ok (.aload_n 2, 1) := by decide +kernel
theorem dL_law__736 : decode cL_law_ 736 = .ok (.invokevirtual 124, 3) := by decide +kernel
theorem dL_law__739 : decode cL_law_ 739 = .ok (.iload 5, 2) := by decide +kernel
theorem dL_law__741 : decode cL_law_ 741 = .ok (.if_icmp .eq 5, 3) := by decide +kernel
theorem dL_law__744 : decode cL_law_ 744 = .ok (.iconst 0, 1) := by decide +kernel
theorem dL_law__745 : decode cL_law_ 745 = .ok (.ireturn, 1) := by decide +kernel
theorem dL_law__746 : decode cL_law_ 746 = .ok (.iload 5, 2) := by decide +kernel
theorem dL_law__748 : decode cL_law_ 748 = .ok (.ifCond .ne 15, 3) := by decide +kernel
theorem dL_law__751 : decode cL_law_ 751 = .ok (.aload_n 3, 1) := by decide +kernel
theorem dL_law__752 : decode cL_law_ 752 = .ok (.iconst 0, 1) := by decide +kernel
theorem dL_law__753 : decode cL_law_ 753 = .ok (.laload, 1) := by decide +kernel
theorem dL_law__754 : decode cL_law_ 754 = .ok (.iload 6, 2) := by decide +kernel
theorem dL_law__756 : decode cL_law_ 756 = .ok (.i2l, 1) := by decide +kernel
theorem dL_law__757 : decode cL_law_ 757 = .ok (.lcmp, 1) := by decide +kernel
theorem dL_law__758 : decode cL_law_ 758 = .ok (.ifCond .eq 5, 3) := by decide +kernel
theorem dL_law__761 : decode cL_law_ 761 = .ok (.iconst 0, 1) := by decide +kernel
theorem dL_law__762 : decode cL_law_ 762 = .ok (.ireturn, 1) := by decide +kernel
theorem dL_law__763 : decode cL_law_ 763 = .ok (.goto 1876, 3) := by decide +kernel
theorem dL_law__766 : decode cL_law_ 766 = .ok (.aload_n 1, 1) := by decide +kernel
theorem dL_law__767 : decode cL_law_ 767 = .ok (.aload_n 0, 1) := by decide +kernel
theorem dL_law__768 : decode cL_law_ 768 = .ok (.iload 4, 2) := by decide +kernel
theorem dL_law__770 : decode cL_law_ 770 = .ok (.iconst 1, 1) := by decide +kernel
theorem dL_law__771 : decode cL_law_ 771 = .ok (.iadd, 1) := by decide +kernel
theorem dL_law__772 : decode cL_law_ 772 = .ok (.iaload, 1) := by decide +kernel
theorem dL_law__773 : decode cL_law_ 773 = .ok (.aload_n 0, 1) := by decide +kernel
theorem dL_law__774 : decode cL_law_ 774 = .ok (.iload 4, 2) := by decide +kernel
theorem dL_law__776 : decode cL_law_ 776 = .ok (.iconst 2, 1) := by decide +kernel
theorem dL_law__777 : decode cL_law_ 777 = .ok (.iadd, 1) := by decide +kernel
theorem dL_law__778 : decode cL_law_ 778 = .ok (.iaload, 1) := by decide +kernel
theorem dL_law__779 : decode cL_law_ 779 = .ok (.aload_n 0, 1) := by decide +kernel
theorem dL_law__780 : decode cL_law_ 780 = .ok (.iload 4, 2) := by decide +kernel
theorem dL_law__782 : decode cL_law_ 782 = .ok (.iconst 3, 1) := by decide +kernel
theorem dL_law__783 : decode cL_law_ 783 = .ok (.iadd, 1) := by decide +kernel
theorem dL_law__784 : decode cL_law_ 784 = .ok (.iaload, 1) := by decide +kernel
theorem dL_law__785 : decode cL_law_ 785 = .ok (.aload_n 0, 1) := by decide +kernel
theorem dL_law__786 : decode cL_law_ 786 = .ok (.iload 4, 2) := by decide +kernel
theorem dL_law__788 : decode cL_law_ 788 = .ok (.iconst 4, 1) := by decide +kernel
theorem dL_law__789 : decode cL_law_ 789 = .ok (.iadd, 1) := by decide +kernel
theorem dL_law__790 : decode cL_law_ 790 = .ok (.iaload, 1) := by decide +kernel
theorem dL_law__791 : decode cL_law_ 791 = .ok (.ifCond .eq 7, 3) := by decide +kernel
theorem dL_law__794 : decode cL_law_ 794 = .ok (.iconst 1, 1) := by decide +kernel
theorem dL_law__795 : decode cL_law_ 795 = .ok (.goto 4, 3) := by decide +kernel
theorem dL_law__798 : decode cL_law_ 798 = .ok (.iconst 0, 1) := by decide +kernel
theorem dL_law__799 : decode cL_law_ 799 = .ok (.aload_n 3, 1) := by decide +kernel
theorem dL_law__800 : decode cL_law_ 800 = .ok (.invokestatic 153, 3) := by decide +kernel
theorem dL_law__803 : decode cL_law_ 803 = .ok (.istore 5, 2) := by decide +kernel
theorem dL_law__805 : decode cL_law_ 805 = .ok (.aload_n 2, 1) := by decide +kernel
theorem dL_law__806 : decode cL_law_ 806 = .ok (.aload_n 0, 1) := by decide +kernel
theorem dL_law__807 : decode cL_law_ 807 = .ok (.iload 4, 2) := by decide +kernel
theorem dL_law__809 : decode cL_law_ 809 = .ok (.iconst 1, 1) := by decide +kernel
theorem dL_law__810 : decode cL_law_ 810 = .ok (.iadd, 1) := by decide +kernel
theorem dL_law__811 : decode cL_law_ 811 = .ok (.iaload, 1) := by decide +kernel
theorem dL_law__812 : decode cL_law_ 812 = .ok (.aload_n 0, 1) := by decide +kernel
theorem dL_law__813 : decode cL_law_ 813 = .ok (.iload 4, 2) := by decide +kernel
theorem dL_law__815 : decode cL_law_ 815 = .ok (.iconst 2, 1) := by decide +kernel
theorem dL_law__816 : decode cL_law_ 816 = .ok (.iadd, 1) := by decide +kernel
theorem dL_law__817 : decode cL_law_ 817 = .ok (.iaload, 1) := by decide +kernel
theorem dL_law__818 : decode cL_law_ 818 = .ok (.aload_n 0, 1) := by decide +kernel
theorem dL_law__819 : decode cL_law_ 819 = .ok (.iload 4, 2) := by decide +kernel
theorem dL_law__821 : decode cL_law_ 821 = .ok (.iconst 3, 1) := by decide +kernel
theorem dL_law__822 : decode cL_law_ 822 = .ok (.iadd, 1) := by decide +kernel
theorem dL_law__823 : decode cL_law_ 823 = .ok (.iaload, 1) := by decide +kernel
theorem dL_law__824 : decode cL_law_ 824 = .ok (.aload_n 0, 1) := by decide +kernel
theorem dL_law__825 : decode cL_law_ 825 = .ok (.iload 4, 2) := by decide +kernel
theorem dL_law__827 : decode cL_law_ 827 = .ok (.iconst 4, 1) := by decide +kernel
theorem dL_law__828 : decode cL_law_ 828 = .ok (.iadd, 1) := by decide +kernel
theorem dL_law__829 : decode cL_law_ 829 = .ok (.iaload, 1) := by decide +kernel
theorem dL_law__830 : decode cL_law_ 830 = .ok (.ifCond .eq 7, 3) := by decide +kernel
theorem dL_law__833 : decode cL_law_ 833 = .ok (.iconst 1, 1) := by decide +kernel
theorem dL_law__834 : decode cL_law_ 834 = .ok (.goto 4, 3) := by decide +kernel
theorem dL_law__837 : decode cL_law_ 837 = .ok (.iconst 0, 1) := by decide +kernel
theorem dL_law__838 : decode cL_law_ 838 = .ok (.invokevirtual 156, 3) := by decide +kernel
theorem dL_law__841 : decode cL_law_ 841 = .ok (.istore 6, 2) := by decide +kernel
theorem dL_law__843 : decode cL_law_ 843 = .ok (.aload_n 2, 1) := by decide +kernel
theorem dL_law__844 : decode cL_law_ 844 = .ok (.invokevirtual 124, 3) := by decide +kernel
theorem dL_law__847 : decode cL_law_ 847 = .ok (.iload 5, 2) := by decide +kernel
theorem dL_law__849 : decode cL_law_ 849 = .ok (.if_icmp .eq 5, 3) := by decide +kernel
theorem dL_law__852 : decode cL_law_ 852 = .ok (.iconst 0, 1) := by decide +kernel
theorem dL_law__853 : decode cL_law_ 853 = .ok (.ireturn, 1) := by decide +kernel
theorem dL_law__854 : decode cL_law_ 854 = .ok (.iload 5, 2) := by decide +kernel
theorem dL_law__856 : decode cL_law_ 856 = .ok (.ifCond .ne 15, 3) := by decide +kernel
theorem dL_law__859 : decode cL_law_ 859 = .ok (.aload_n 3, 1) := by decide +kernel
theorem dL_law__860 : decode cL_law_ 860 = .ok (.iconst 0, 1) := by decide +kernel
theorem dL_law__861 : decode cL_law_ 861 = .ok (.laload, 1) := by decide +kernel
theorem dL_law__862 : decode cL_law_ 862 = .ok (.iload 6, 2) := by decide +kernel
theorem dL_law__864 : decode cL_law_ 864 = .ok (.i2l, 1) := by decide +kernel
theorem dL_law__865 : decode cL_law_ 865 = .ok (.lcmp, 1) := by decide +kernel
theorem dL_law__866 : decode cL_law_ 866 = .ok (.ifCond .eq 5, 3) := by decide +kernel
theorem dL_law__869 : decode cL_law_ 869 = .ok (.iconst 0, 1) := by decide +kernel
theorem dL_law__870 : decode cL_law_ 870 = .ok (.ireturn, 1) := by decide +kernel
theorem dL_law__871 : decode cL_law_ 871 = .ok (.goto 1768, 3) := by decide +kernel
theorem dL_law__874 : decode cL_law_ 874 = .ok (.aload_n 1, 1) := by decide +kernel
theorem dL_law__875 : decode cL_law_ 875 = .ok (.aload_n 0, 1) := by decide +kernel
theorem dL_law__876 : decode cL_law_ 876 = .ok (.iload 4, 2) := by decide +kernel
theorem dL_law__878 : decode cL_law_ 878 = .ok (.iconst 1, 1) := by decide +kernel
theorem dL_law__879 : decode cL_law_ 879 = .ok (.iadd, 1) := by decide +kernel
theorem dL_law__880 : decode cL_law_ 880 = .ok (.iaload, 1) := by decide +kernel
theorem dL_law__881 : decode cL_law_ 881 = .ok (.aload_n 0, 1) := by decide +kernel
theorem dL_law__882 : decode cL_law_ 882 = .ok (.iload 4, 2) := by decide +kernel
theorem dL_law__884 : decode cL_law_ 884 = .ok (.iconst 2, 1) := by decide +kernel
theorem dL_law__885 : decode cL_law_ 885 = .ok (.iadd, 1) := by decide +kernel
theorem dL_law__886 : decode cL_law_ 886 = .ok (.iaload, 1) := by decide +kernel
theorem dL_law__887 : decode cL_law_ 887 = .ok (.aload_n 0, 1) := by decide +kernel
theorem dL_law__888 : decode cL_law_ 888 = .ok (.iload 4, 2) := by decide +kernel
theorem dL_law__890 : decode cL_law_ 890 = .ok (.iconst 3, 1) := by decide +kernel
theorem dL_law__891 : decode cL_law_ 891 = .ok (.iadd, 1) := by decide +kernel
theorem dL_law__892 : decode cL_law_ 892 = .ok (.iaload, 1) := by decide +kernel
theorem dL_law__893 : decode cL_law_ 893 = .ok (.aload_n 0, 1) := by decide +kernel
theorem dL_law__894 : decode cL_law_ 894 = .ok (.iload 4, 2) := by decide +kernel
theorem dL_law__896 : decode cL_law_ 896 = .ok (.iconst 4, 1) := by decide +kernel
theorem dL_law__897 : decode cL_law_ 897 = .ok (.iadd, 1) := by decide +kernel
theorem dL_law__898 : decode cL_law_ 898 = .ok (.iaload, 1) := by decide +kernel
theorem dL_law__899 : decode cL_law_ 899 = .ok (.aload_n 3, 1) := by decide +kernel
theorem dL_law__900 : decode cL_law_ 900 = .ok (.invokestatic 157, 3) := by decide +kernel
theorem dL_law__903 : decode cL_law_ 903 = .ok (.istore 5, 2) := by decide +kernel
theorem dL_law__905 : decode cL_law_ 905 = .ok (.aload_n 2, 1) := by decide +kernel
theorem dL_law__906 : decode cL_law_ 906 = .ok (.aload_n 0, 1) := by decide +kernel
theorem dL_law__907 : decode cL_law_ 907 = .ok (.iload 4, 2) := by decide +kernel
theorem dL_law__909 : decode cL_law_ 909 = .ok (.iconst 1, 1) := by decide +kernel
theorem dL_law__910 : decode cL_law_ 910 = .ok (.iadd, 1) := by decide +kernel
theorem dL_law__911 : decode cL_law_ 911 = .ok (.iaload, 1) := by decide +kernel
theorem dL_law__912 : decode cL_law_ 912 = .ok (.aload_n 0, 1) := by decide +kernel
theorem dL_law__913 : decode cL_law_ 913 = .ok (.iload 4, 2) := by decide +kernel
theorem dL_law__915 : decode cL_law_ 915 = .ok (.iconst 2, 1) := by decide +kernel
theorem dL_law__916 : decode cL_law_ 916 = .ok (.iadd, 1) := by decide +kernel
theorem dL_law__917 : decode cL_law_ 917 = .ok (.iaload, 1) := by decide +kernel
theorem dL_law__918 : decode cL_law_ 918 = .ok (.aload_n 0, 1) := by decide +kernel
theorem dL_law__919 : decode cL_law_ 919 = .ok (.iload 4, 2) := by decide +kernel
theorem dL_law__921 : decode cL_law_ 921 = .ok (.iconst 3, 1) := by decide +kernel
theorem dL_law__922 : decode cL_law_ 922 = .ok (.iadd, 1) := by decide +kernel
theorem dL_law__923 : decode cL_law_ 923 = .ok (.iaload, 1) := by decide +kernel
theorem dL_law__924 : decode cL_law_ 924 = .ok (.aload_n 0, 1) := by decide +kernel
theorem dL_law__925 : decode cL_law_ 925 = .ok (.iload 4, 2) := by decide +kernel
theorem dL_law__927 : decode cL_law_ 927 = .ok (.iconst 4, 1) := by decide +kernel
theorem dL_law__928 : decode cL_law_ 928 = .ok (.iadd, 1) := by decide +kernel
theorem dL_law__929 : decode cL_law_ 929 = .ok (.iaload, 1) := by decide +kernel
theorem dL_law__930 : decode cL_law_ 930 = .ok (.invokevirtual 160, 3) := by decide +kernel
theorem dL_law__933 : decode cL_law_ 933 = .ok (.istore 6, 2) := by decide +kernel
theorem dL_law__935 : decode cL_law_ 935 = .ok (.aload_n 2, 1) := by decide +kernel
theorem dL_law__936 : decode cL_law_ 936 = .ok (.invokevirtual 124, 3) := by decide +kernel
theorem dL_law__939 : decode cL_law_ 939 = .ok (.iload 5, 2) := by decide +kernel
theorem dL_law__941 : decode cL_law_ 941 = .ok (.if_icmp .eq 5, 3) := by decide +kernel
theorem dL_law__944 : decode cL_law_ 944 = .ok (.iconst 0, 1) := by decide +kernel
theorem dL_law__945 : decode cL_law_ 945 = .ok (.ireturn, 1) := by decide +kernel
theorem dL_law__946 : decode cL_law_ 946 = .ok (.iload 5, 2) := by decide +kernel
theorem dL_law__948 : decode cL_law_ 948 = .ok (.ifCond .ne 22, 3) := by decide +kernel
theorem dL_law__951 : decode cL_law_ 951 = .ok (.aload_n 3, 1) := by decide +kernel
theorem dL_law__952 : decode cL_law_ 952 = .ok (.iconst 0, 1) := by decide +kernel
theorem dL_law__953 : decode cL_law_ 953 = .ok (.laload, 1) := by decide +kernel
theorem dL_law__954 : decode cL_law_ 954 = .ok (.iload 6, 2) := by decide +kernel
theorem dL_law__956 : decode cL_law_ 956 = .ok (.ifCond .eq 7, 3) := by decide +kernel
theorem dL_law__959 : decode cL_law_ 959 = .ok (.lconst 1, 1) := by decide +kernel
theorem dL_law__960 : decode cL_law_ 960 = .ok (.goto 4, 3) := by decide +kernel
theorem dL_law__963 : decode cL_law_ 963 = .ok (.lconst 0, 1) := by decide +kernel
theorem dL_law__964 : decode cL_law_ 964 = .ok (.lcmp, 1) := by decide +kernel
theorem dL_law__965 : decode cL_law_ 965 = .ok (.ifCond .eq 5, 3) := by decide +kernel
theorem dL_law__968 : decode cL_law_ 968 = .ok (.iconst 0, 1) := by decide +kernel
theorem dL_law__969 : decode cL_law_ 969 = .ok (.ireturn, 1) := by decide +kernel
theorem dL_law__970 : decode cL_law_ 970 = .ok (.goto 1669, 3) := by decide +kernel
theorem dL_law__973 : decode cL_law_ 973 = .ok (.aload_n 1, 1) := by decide +kernel
theorem dL_law__974 : decode cL_law_ 974 = .ok (.aload_n 0, 1) := by decide +kernel
theorem dL_law__975 : decode cL_law_ 975 = .ok (.iload 4, 2) := by decide +kernel
theorem dL_law__977 : decode cL_law_ 977 = .ok (.iconst 1, 1) := by decide +kernel
theorem dL_law__978 : decode cL_law_ 978 = .ok (.iadd, 1) := by decide +kernel
theorem dL_law__979 : decode cL_law_ 979 = .ok (.iaload, 1) := by decide +kernel
theorem dL_law__980 : decode cL_law_ 980 = .ok (.aload_n 0, 1) := by decide +kernel
theorem dL_law__981 : decode cL_law_ 981 = .ok (.iload 4, 2) := by decide +kernel
theorem dL_law__983 : decode cL_law_ 983 = .ok (.iconst 2, 1) := by decide +kernel
theorem dL_law__984 : decode cL_law_ 984 = .ok (.iadd, 1) := by decide +kernel
theorem dL_law__985 : decode cL_law_ 985 = .ok (.iaload, 1) := by decide +kernel
theorem dL_law__986 : decode cL_law_ 986 = .ok (.aload_n 0, 1) := by decide +kernel
theorem dL_law__987 : decode cL_law_ 987 = .ok (.iload 4, 2) := by decide +kernel
theorem dL_law__989 : decode cL_law_ 989 = .ok (.iconst 3, 1) := by decide +kernel
theorem dL_law__990 : decode cL_law_ 990 = .ok (.iadd, 1) := by decide +kernel
theorem dL_law__991 : decode cL_law_ 991 = .ok (.iaload, 1) := by decide +kernel
theorem dL_law__992 : decode cL_law_ 992 = .ok (.aload_n 3, 1) := by decide +kernel
theorem dL_law__993 : decode cL_law_ 993 = .ok (.invokestatic 161, 3) := by decide +kernel
theorem dL_law__996 : decode cL_law_ 996 = .ok (.istore 5, 2) := by decide +kernel
theorem dL_law__998 : decode cL_law_ 998 = .ok (.aload_n 2, 1) := by decide +kernel
theorem dL_law__999 : decode cL_law_ 999 = .ok (.aload_n 0, 1) := by decide +kernel
theorem dL_law__1000 : decode cL_law_ 1000 = .ok (.iload 4, 2) := by decide +kernel
theorem dL_law__1002 : decode cL_law_ 1002 = .ok (.iconst 1, 1) := by decide +kernel
theorem dL_law__1003 : decode cL_law_ 1003 = .ok (.iadd, 1) := by decide +kernel
theorem dL_law__1004 : decode cL_law_ 1004 = .ok (.iaload, 1) := by decide +kernel
theorem dL_law__1005 : decode cL_law_ 1005 = .ok (.aload_n 0, 1) := by decide +kernel
theorem dL_law__1006 : decode cL_law_ 1006 = .ok (.iload 4, 2) := by decide +kernel
theorem dL_law__1008 : decode cL_law_ 1008 = .ok (.iconst 2, 1) := by decide +kernel
theorem dL_law__1009 : decode cL_law_ 1009 = .ok (.iadd, 1) := by decide +kernel
theorem dL_law__1010 : decode cL_law_ 1010 = .ok (.iaload, 1) := by decide +kernel
theorem dL_law__1011 : decode cL_law_ 1011 = .ok (.aload_n 0, 1) := by decide +kernel
theorem dL_law__1012 : decode cL_law_ 1012 = .ok (.iload 4, 2) := by decide +kernel
theorem dL_law__1014 : decode cL_law_ 1014 = .ok (.iconst 3, 1) := by decide +kernel
theorem dL_law__1015 : decode cL_law_ 1015 = .ok (.iadd, 1) := by decide +kernel
theorem dL_law__1016 : decode cL_law_ 1016 = .ok (.iaload, 1) := by decide +kernel
theorem dL_law__1017 : decode cL_law_ 1017 = .ok (.invokevirtual 163, 3) := by decide +kernel
theorem dL_law__1020 : decode cL_law_ 1020 = .ok (.istore 6, 2) := by decide +kernel
theorem dL_law__1022 : decode cL_law_ 1022 = .ok (.aload_n 2, 1) := by decide +kernel
theorem dL_law__1023 : decode cL_law_ 1023 = .ok (.invokevirtual 124, 3) := by decide +kernel
theorem dL_law__1026 : decode cL_law_ 1026 = .ok (.iload 5, 2) := by decide +kernel
theorem dL_law__1028 : decode cL_law_ 1028 = .ok (.if_icmp .eq 5, 3) := by decide +kernel
theorem dL_law__1031 : decode cL_law_ 1031 = .ok (.iconst 0, 1) := by decide +kernel
theorem dL_law__1032 : decode cL_law_ 1032 = .ok (.ireturn, 1) := by decide +kernel
theorem dL_law__1033 : decode cL_law_ 1033 = .ok (.iload 5, 2) := by decide +kernel
theorem dL_law__1035 : decode cL_law_ 1035 = .ok (.ifCond .ne 15, 3) := by decide +kernel
theorem dL_law__1038 : decode cL_law_ 1038 = .ok (.aload_n 3, 1) := by decide +kernel
theorem dL_law__1039 : decode cL_law_ 1039 = .ok (.iconst 0, 1) := by decide +kernel
theorem dL_law__1040 : decode cL_law_ 1040 = .ok (.laload, 1) := by decide +kernel
theorem dL_law__1041 : decode cL_law_ 1041 = .ok (.iload 6, 2) := by decide +kernel
theorem dL_law__1043 : decode cL_law_ 1043 = .ok (.i2l, 1) := by decide +kernel
theorem dL_law__1044 : decode cL_law_ 1044 = .ok (.lcmp, 1) := by decide +kernel
theorem dL_law__1045 : decode cL_law_ 1045 = .ok (.ifCond .eq 5, 3) := by decide +kernel
theorem dL_law__1048 : decode cL_law_ 1048 = .ok (.iconst 0, 1) := by decide +kernel
theorem dL_law__1049 : decode cL_law_ 1049 = .ok (.ireturn, 1) := by decide +kernel
theorem dL_law__1050 : decode cL_law_ 1050 = .ok (.goto 1589, 3) := by decide +kernel
theorem dL_law__1053 : decode cL_law_ 1053 = .ok (.aload_n 1, 1) := by decide +kernel
theorem dL_law__1054 : decode cL_law_ 1054 = .ok (.aload_n 0, 1) := by decide +kernel
theorem dL_law__1055 : decode cL_law_ 1055 = .ok (.iload 4, 2) := by decide +kernel
theorem dL_law__1057 : decode cL_law_ 1057 = .ok (.iconst 1, 1) := by decide +kernel
theorem dL_law__1058 : decode cL_law_ 1058 = .ok (.iadd, 1) := by decide +kernel
theorem dL_law__1059 : decode cL_law_ 1059 = .ok (.iaload, 1) := by decide +kernel
theorem dL_law__1060 : decode cL_law_ 1060 = .ok (.aload_n 0, 1) := by decide +kernel
theorem dL_law__1061 : decode cL_law_ 1061 = .ok (.iload 4, 2) := by decide +kernel
theorem dL_law__1063 : decode cL_law_ 1063 = .ok (.iconst 2, 1) := by decide +kernel
theorem dL_law__1064 : decode cL_law_ 1064 = .ok (.iadd, 1) := by decide +kernel
theorem dL_law__1065 : decode cL_law_ 1065 = .ok (.iaload, 1) := by decide +kernel
theorem dL_law__1066 : decode cL_law_ 1066 = .ok (.aload_n 0, 1) := by decide +kernel
theorem dL_law__1067 : decode cL_law_ 1067 = .ok (.iload 4, 2) := by decide +kernel
theorem dL_law__1069 : decode cL_law_ 1069 = .ok (.iconst 3, 1) := by decide +kernel
theorem dL_law__1070 : decode cL_law_ 1070 = .ok (.iadd, 1) := by decide +kernel
theorem dL_law__1071 : decode cL_law_ 1071 = .ok (.iaload, 1) := by decide +kernel
theorem dL_law__1072 : decode cL_law_ 1072 = .ok (.aload_n 0, 1) := by decide +kernel
theorem dL_law__1073 : decode cL_law_ 1073 = .ok (.iload 4, 2) := by decide +kernel
theorem dL_law__1075 : decode cL_law_ 1075 = .ok (.iconst 4, 1) := by decide +kernel
theorem dL_law__1076 : decode cL_law_ 1076 = .ok (.iadd, 1) := by decide +kernel
theorem dL_law__1077 : decode cL_law_ 1077 = .ok (.iaload, 1) := by decide +kernel
theorem dL_law__1078 : decode cL_law_ 1078 = .ok (.aload_n 3, 1) := by decide +kernel
theorem dL_law__1079 : decode cL_law_ 1079 = .ok (.invokestatic 164, 3) := by decide +kernel
theorem dL_law__1082 : decode cL_law_ 1082 = .ok (.istore 5, 2) := by decide +kernel
theorem dL_law__1084 : decode cL_law_ 1084 = .ok (.aload_n 2, 1) := by decide +kernel
theorem dL_law__1085 : decode cL_law_ 1085 = .ok (.aload_n 0, 1) := by decide +kernel
theorem dL_law__1086 : decode cL_law_ 1086 = .ok (.iload 4, 2) := by decide +kernel
theorem dL_law__1088 : decode cL_law_ 1088 = .ok (.iconst 1, 1) := by decide +kernel
theorem dL_law__1089 : decode cL_law_ 1089 = .ok (.iadd, 1) := by decide +kernel
theorem dL_law__1090 : decode cL_law_ 1090 = .ok (.iaload, 1) := by decide +kernel
theorem dL_law__1091 : decode cL_law_ 1091 = .ok (.aload_n 0, 1) := by decide +kernel
theorem dL_law__1092 : decode cL_law_ 1092 = .ok (.iload 4, 2) := by decide +kernel
theorem dL_law__1094 : decode cL_law_ 1094 = .ok (.iconst 2, 1) := by decide +kernel
theorem dL_law__1095 : decode cL_law_ 1095 = .ok (.iadd, 1) := by decide +kernel
theorem dL_law__1096 : decode cL_law_ 1096 = .ok (.iaload, 1) := by decide +kernel
theorem dL_law__1097 : decode cL_law_ 1097 = .ok (.aload_n 0, 1) := by decide +kernel
theorem dL_law__1098 : decode cL_law_ 1098 = .ok (.iload 4, 2) := by decide +kernel
theorem dL_law__1100 : decode cL_law_ 1100 = .ok (.iconst 3, 1) := by decide +kernel
theorem dL_law__1101 : decode cL_law_ 1101 = .ok (.iadd, 1) := by decide +kernel
theorem dL_law__1102 : decode cL_law_ 1102 = .ok (.iaload, 1) := by decide +kernel
theorem dL_law__1103 : decode cL_law_ 1103 = .ok (.aload_n 0, 1) := by decide +kernel
theorem dL_law__1104 : decode cL_law_ 1104 = .ok (.iload 4, 2) := by decide +kernel
theorem dL_law__1106 : decode cL_law_ 1106 = .ok (.iconst 4, 1) := by decide +kernel
theorem dL_law__1107 : decode cL_law_ 1107 = .ok (.iadd, 1) := by decide +kernel
theorem dL_law__1108 : decode cL_law_ 1108 = .ok (.iaload, 1) := by decide +kernel
theorem dL_law__1109 : decode cL_law_ 1109 = .ok (.invokevirtual 166, 3) := by decide +kernel
theorem dL_law__1112 : decode cL_law_ 1112 = .ok (.istore 6, 2) := by decide +kernel
theorem dL_law__1114 : decode cL_law_ 1114 = .ok (.aload_n 2, 1) := by decide +kernel
theorem dL_law__1115 : decode cL_law_ 1115 = .ok (.invokevirtual 124, 3) := by decide +kernel
theorem dL_law__1118 : decode cL_law_ 1118 = .ok (.iload 5, 2) := by decide +kernel
theorem dL_law__1120 : decode cL_law_ 1120 = .ok (.if_icmp .eq 5, 3) := by decide +kernel
theorem dL_law__1123 : decode cL_law_ 1123 = .ok (.iconst 0, 1) := by decide +kernel
theorem dL_law__1124 : decode cL_law_ 1124 = .ok (.ireturn, 1) := by decide +kernel
theorem dL_law__1125 : decode cL_law_ 1125 = .ok (.iload 5, 2) := by decide +kernel
theorem dL_law__1127 : decode cL_law_ 1127 = .ok (.ifCond .ne 15, 3) := by decide +kernel
theorem dL_law__1130 : decode cL_law_ 1130 = .ok (.aload_n 3, 1) := by decide +kernel
theorem dL_law__1131 : decode cL_law_ 1131 = .ok (.iconst 0, 1) := by decide +kernel
theorem dL_law__1132 : decode cL_law_ 1132 = .ok (.laload, 1) := by decide +kernel
theorem dL_law__1133 : decode cL_law_ 1133 = .ok (.iload 6, 2) := by decide +kernel
theorem dL_law__1135 : decode cL_law_ 1135 = .ok (.i2l, 1) := by decide +kernel
theorem dL_law__1136 : decode cL_law_ 1136 = .ok (.lcmp, 1) := by decide +kernel
theorem dL_law__1137 : decode cL_law_ 1137 = .ok (.ifCond .eq 5, 3) := by decide +kernel
theorem dL_law__1140 : decode cL_law_ 1140 = .ok (.iconst 0, 1) := by decide +kernel
theorem dL_law__1141 : decode cL_law_ 1141 = .ok (.ireturn, 1) := by decide +kernel
theorem dL_law__1142 : decode cL_law_ 1142 = .ok (.goto 1497, 3) := by decide +kernel
theorem dL_law__1145 : decode cL_law_ 1145 = .ok (.aload_n 1, 1) := by decide +kernel
theorem dL_law__1146 : decode cL_law_ 1146 = .ok (.aload_n 0, 1) := by decide +kernel
theorem dL_law__1147 : decode cL_law_ 1147 = .ok (.iload 4, 2) := by decide +kernel
theorem dL_law__1149 : decode cL_law_ 1149 = .ok (.iconst 1, 1) := by decide +kernel
theorem dL_law__1150 : decode cL_law_ 1150 = .ok (.iadd, 1) := by decide +kernel
theorem dL_law__1151 : decode cL_law_ 1151 = .ok (.iaload, 1) := by decide +kernel
theorem dL_law__1152 : decode cL_law_ 1152 = .ok (.aload_n 0, 1) := by decide +kernel
theorem dL_law__1153 : decode cL_law_ 1153 = .ok (.iload 4, 2) := by decide +kernel
theorem dL_law__1155 : decode cL_law_ 1155 = .ok (.iconst 2, 1) := by decide +kernel
theorem dL_law__1156 : decode cL_law_ 1156 = .ok (.iadd, 1) := by decide +kernel
theorem dL_law__1157 : decode cL_law_ 1157 = .ok (.iaload, 1) := by decide +kernel
theorem dL_law__1158 : decode cL_law_ 1158 = .ok (.aload_n 0, 1) := by decide +kernel
theorem dL_law__1159 : decode cL_law_ 1159 = .ok (.iload 4, 2) := by decide +kernel
theorem dL_law__1161 : decode cL_law_ 1161 = .ok (.iconst 3, 1) := by decide +kernel
theorem dL_law__1162 : decode cL_law_ 1162 = .ok (.iadd, 1) := by decide +kernel
theorem dL_law__1163 : decode cL_law_ 1163 = .ok (.iaload, 1) := by decide +kernel
theorem dL_law__1164 : decode cL_law_ 1164 = .ok (.aload_n 0, 1) := by decide +kernel
theorem dL_law__1165 : decode cL_law_ 1165 = .ok (.iload 4, 2) := by decide +kernel
theorem dL_law__1167 : decode cL_law_ 1167 = .ok (.iconst 4, 1) := by decide +kernel
theorem dL_law__1168 : decode cL_law_ 1168 = .ok (.iadd, 1) := by decide +kernel
theorem dL_law__1169 : decode cL_law_ 1169 = .ok (.iaload, 1) := by decide +kernel
theorem dL_law__1170 : decode cL_law_ 1170 = .ok (.aload_n 0, 1) := by decide +kernel
theorem dL_law__1171 : decode cL_law_ 1171 = .ok (.iload 4, 2) := by decide +kernel
theorem dL_law__1173 : decode cL_law_ 1173 = .ok (.iconst 5, 1) := by decide +kernel
theorem dL_law__1174 : decode cL_law_ 1174 = .ok (.iadd, 1) := by decide +kernel
theorem dL_law__1175 : decode cL_law_ 1175 = .ok (.iaload, 1) := by decide +kernel
theorem dL_law__1176 : decode cL_law_ 1176 = .ok (.ifCond .eq 7, 3) := by decide +kernel
theorem dL_law__1179 : decode cL_law_ 1179 = .ok (.iconst 1, 1) := by decide +kernel
theorem dL_law__1180 : decode cL_law_ 1180 = .ok (.goto 4, 3) := by decide +kernel
theorem dL_law__1183 : decode cL_law_ 1183 = .ok (.iconst 0, 1) := by decide +kernel
theorem dL_law__1184 : decode cL_law_ 1184 = .ok (.aload_n 3, 1) := by decide +kernel
theorem dL_law__1185 : decode cL_law_ 1185 = .ok (.invokestatic 167, 3) := by decide +kernel
theorem dL_law__1188 : decode cL_law_ 1188 = .ok (.istore 5, 2) := by decide +kernel
theorem dL_law__1190 : decode cL_law_ 1190 = .ok (.aload_n 2, 1) := by decide +kernel
theorem dL_law__1191 : decode cL_law_ 1191 = .ok (.aload_n 0, 1) := by decide +kernel
theorem dL_law__1192 : decode cL_law_ 1192 = .ok (.iload 4, 2) := by decide +kernel
theorem dL_law__1194 : decode cL_law_ 1194 = .ok (.iconst 1, 1) := by decide +kernel
theorem dL_law__1195 : decode cL_law_ 1195 = .ok (.iadd, 1) := by decide +kernel
theorem dL_law__1196 : decode cL_law_ 1196 = .ok (.iaload, 1) := by decide +kernel
theorem dL_law__1197 : decode cL_law_ 1197 = .ok (.aload_n 0, 1) := by decide +kernel
theorem dL_law__1198 : decode cL_law_ 1198 = .ok (.iload 4, 2) := by decide +kernel
theorem dL_law__1200 : decode cL_law_ 1200 = .ok (.iconst 2, 1) := by decide +kernel
theorem dL_law__1201 : decode cL_law_ 1201 = .ok (.iadd, 1) := by decide +kernel
theorem dL_law__1202 : decode cL_law_ 1202 = .ok (.iaload, 1) := by decide +kernel
theorem dL_law__1203 : decode cL_law_ 1203 = .ok (.aload_n 0, 1) := by decide +kernel
theorem dL_law__1204 : decode cL_law_ 1204 = .ok (.iload 4, 2) := by decide +kernel
theorem dL_law__1206 : decode cL_law_ 1206 = .ok (.iconst 3, 1) := by decide +kernel
theorem dL_law__1207 : decode cL_law_ 1207 = .ok (.iadd, 1) := by decide +kernel
theorem dL_law__1208 : decode cL_law_ 1208 = .ok (.iaload, 1) := by decide +kernel
theorem dL_law__1209 : decode cL_law_ 1209 = .ok (.aload_n 0, 1) := by decide +kernel
theorem dL_law__1210 : decode cL_law_ 1210 = .ok (.iload 4, 2) := by decide +kernel
theorem dL_law__1212 : decode cL_law_ 1212 = .ok (.iconst 4, 1) := by decide +kernel
theorem dL_law__1213 : decode cL_law_ 1213 = .ok (.iadd, 1) := by decide +kernel
theorem dL_law__1214 : decode cL_law_ 1214 = .ok (.iaload, 1) := by decide +kernel
theorem dL_law__1215 : decode cL_law_ 1215 = .ok (.aload_n 0, 1) := by decide +kernel
theorem dL_law__1216 : decode cL_law_ 1216 = .ok (.iload 4, 2) := by decide +kernel
theorem dL_law__1218 : decode cL_law_ 1218 = .ok (.iconst 5, 1) := by decide +kernel
theorem dL_law__1219 : decode cL_law_ 1219 = .ok (.iadd, 1) := by decide +kernel
theorem dL_law__1220 : decode cL_law_ 1220 = .ok (.iaload, 1) := by decide +kernel
theorem dL_law__1221 : decode cL_law_ 1221 = .ok (.ifCond .eq 7, 3) := by decide +kernel
theorem dL_law__1224 : decode cL_law_ 1224 = .ok (.iconst 1, 1) := by decide +kernel
theorem dL_law__1225 : decode cL_law_ 1225 = .ok (.goto 4, 3) := by decide +kernel
theorem dL_law__1228 : decode cL_law_ 1228 = .ok (.iconst 0, 1) := by decide +kernel
theorem dL_law__1229 : decode cL_law_ 1229 = .ok (.invokevirtual 170, 3) := by decide +kernel
theorem dL_law__1232 : decode cL_law_ 1232 = .ok (.istore 6, 2) := by decide +kernel
theorem dL_law__1234 : decode cL_law_ 1234 = .ok (.aload_n 2, 1) := by decide +kernel
theorem dL_law__1235 : decode cL_law_ 1235 = .ok (.invokevirtual 124, 3) := by decide +kernel
theorem dL_law__1238 : decode cL_law_ 1238 = .ok (.iload 5, 2) := by decide +kernel
theorem dL_law__1240 : decode cL_law_ 1240 = .ok (.if_icmp .eq 5, 3) := by decide +kernel
theorem dL_law__1243 : decode cL_law_ 1243 = .ok (.iconst 0, 1) := by decide +kernel
theorem dL_law__1244 : decode cL_law_ 1244 = .ok (.ireturn, 1) := by decide +kernel
theorem dL_law__1245 : decode cL_law_ 1245 = .ok (.iload 5, 2) := by decide +kernel
theorem dL_law__1247 : decode cL_law_ 1247 = .ok (.ifCond .ne 15, 3) := by decide +kernel
theorem dL_law__1250 : decode cL_law_ 1250 = .ok (.aload_n 3, 1) := by decide +kernel
theorem dL_law__1251 : decode cL_law_ 1251 = .ok (.iconst 0, 1) := by decide +kernel
theorem dL_law__1252 : decode cL_law_ 1252 = .ok (.laload, 1) := by decide +kernel
theorem dL_law__1253 : decode cL_law_ 1253 = .ok (.iload 6, 2) := by decide +kernel
theorem dL_law__1255 : decode cL_law_ 1255 = .ok (.i2l, 1) := by decide +kernel
theorem dL_law__1256 : decode cL_law_ 1256 = .ok (.lcmp, 1) := by decide +kernel
theorem dL_law__1257 : decode cL_law_ 1257 = .ok (.ifCond .eq 5, 3) := by decide +kernel
theorem dL_law__1260 : decode cL_law_ 1260 = .ok (.iconst 0, 1) := by decide +kernel
theorem dL_law__1261 : decode cL_law_ 1261 = .ok (.ireturn, 1) := by decide +kernel
theorem dL_law__1262 : decode cL_law_ 1262 = .ok (.goto 1377, 3) := by decide +kernel
theorem dL_law__1265 : decode cL_law_ 1265 = .ok (.aload_n 1, 1) := by decide +kernel
theorem dL_law__1266 : decode cL_law_ 1266 = .ok (.aload_n 0, 1) := by decide +kernel
theorem dL_law__1267 : decode cL_law_ 1267 = .ok (.iload 4, 2) := by decide +kernel
theorem dL_law__1269 : decode cL_law_ 1269 = .ok (.iconst 1, 1) := by decide +kernel
theorem dL_law__1270 : decode cL_law_ 1270 = .ok (.iadd, 1) := by decide +kernel
theorem dL_law__1271 : decode cL_law_ 1271 = .ok (.iaload, 1) := by decide +kernel
theorem dL_law__1272 : decode cL_law_ 1272 = .ok (.aload_n 0, 1) := by decide +kernel
theorem dL_law__1273 : decode cL_law_ 1273 = .ok (.iload 4, 2) := by decide +kernel
theorem dL_law__1275 : decode cL_law_ 1275 = .ok (.iconst 2, 1) := by decide +kernel
theorem dL_law__1276 : decode cL_law_ 1276 = .ok (.iadd, 1) := by decide +kernel
theorem dL_law__1277 : decode cL_law_ 1277 = .ok (.iaload, 1) := by decide +kernel
theorem dL_law__1278 : decode cL_law_ 1278 = .ok (.aload_n 0, 1) := by decide +kernel
theorem dL_law__1279 : decode cL_law_ 1279 = .ok (.iload 4, 2) := by decide +kernel
theorem dL_law__1281 : decode cL_law_ 1281 = .ok (.iconst 3, 1) := by decide +kernel
theorem dL_law__1282 : decode cL_law_ 1282 = .ok (.iadd, 1) := by decide +kernel
theorem dL_law__1283 : decode cL_law_ 1283 = .ok (.iaload, 1) := by decide +kernel
theorem dL_law__1284 : decode cL_law_ 1284 = .ok (.aload_n 0, 1) := by decide +kernel
theorem dL_law__1285 : decode cL_law_ 1285 = .ok (.iload 4, 2) := by decide +kernel
theorem dL_law__1287 : decode cL_law_ 1287 = .ok (.iconst 4, 1) := by decide +kernel
theorem dL_law__1288 : decode cL_law_ 1288 = .ok (.iadd, 1) := by decide +kernel
theorem dL_law__1289 : decode cL_law_ 1289 = .ok (.iaload, 1) := by decide +kernel
theorem dL_law__1290 : decode cL_law_ 1290 = .ok (.aload_n 0, 1) := by decide +kernel
theorem dL_law__1291 : decode cL_law_ 1291 = .ok (.iload 4, 2) := by decide +kernel
theorem dL_law__1293 : decode cL_law_ 1293 = .ok (.iconst 5, 1) := by decide +kernel
theorem dL_law__1294 : decode cL_law_ 1294 = .ok (.iadd, 1) := by decide +kernel
theorem dL_law__1295 : decode cL_law_ 1295 = .ok (.iaload, 1) := by decide +kernel
theorem dL_law__1296 : decode cL_law_ 1296 = .ok (.ifCond .eq 7, 3) := by decide +kernel
theorem dL_law__1299 : decode cL_law_ 1299 = .ok (.iconst 1, 1) := by decide +kernel
theorem dL_law__1300 : decode cL_law_ 1300 = .ok (.goto 4, 3) := by decide +kernel
theorem dL_law__1303 : decode cL_law_ 1303 = .ok (.iconst 0, 1) := by decide +kernel
theorem dL_law__1304 : decode cL_law_ 1304 = .ok (.aload_n 3, 1) := by decide +kernel
theorem dL_law__1305 : decode cL_law_ 1305 = .ok (.invokestatic 171, 3) := by decide +kernel
theorem dL_law__1308 : decode cL_law_ 1308 = .ok (.istore 5, 2) := by decide +kernel
theorem dL_law__1310 : decode cL_law_ 1310 = .ok (.aload_n 2, 1) := by decide +kernel
theorem dL_law__1311 : decode cL_law_ 1311 = .ok (.aload_n 0, 1) := by decide +kernel
theorem dL_law__1312 : decode cL_law_ 1312 = .ok (.iload 4, 2) := by decide +kernel
theorem dL_law__1314 : decode cL_law_ 1314 = .ok (.iconst 1, 1) := by decide +kernel
theorem dL_law__1315 : decode cL_law_ 1315 = .ok (.iadd, 1) := by decide +kernel
theorem dL_law__1316 : decode cL_law_ 1316 = .ok (.iaload, 1) := by decide +kernel
theorem dL_law__1317 : decode cL_law_ 1317 = .ok (.aload_n 0, 1) := by decide +kernel
theorem dL_law__1318 : decode cL_law_ 1318 = .ok (.iload 4, 2) := by decide +kernel
theorem dL_law__1320 : decode cL_law_ 1320 = .ok (.iconst 2, 1) := by decide +kernel
theorem dL_law__1321 : decode cL_law_ 1321 = .ok (.iadd, 1) := by decide +kernel
theorem dL_law__1322 : decode cL_law_ 1322 = .ok (.iaload, 1) := by decide +kernel
theorem dL_law__1323 : decode cL_law_ 1323 = .ok (.aload_n 0, 1) := by decide +kernel
theorem dL_law__1324 : decode cL_law_ 1324 = .ok (.iload 4, 2) := by decide +kernel
theorem dL_law__1326 : decode cL_law_ 1326 = .ok (.iconst 3, 1) := by decide +kernel
theorem dL_law__1327 : decode cL_law_ 1327 = .ok (.iadd, 1) := by decide +kernel
theorem dL_law__1328 : decode cL_law_ 1328 = .ok (.iaload, 1) := by decide +kernel
theorem dL_law__1329 : decode cL_law_ 1329 = .ok (.aload_n 0, 1) := by decide +kernel
theorem dL_law__1330 : decode cL_law_ 1330 = .ok (.iload 4, 2) := by decide +kernel
theorem dL_law__1332 : decode cL_law_ 1332 = .ok (.iconst 4, 1) := by decide +kernel
theorem dL_law__1333 : decode cL_law_ 1333 = .ok (.iadd, 1) := by decide +kernel
theorem dL_law__1334 : decode cL_law_ 1334 = .ok (.iaload, 1) := by decide +kernel
theorem dL_law__1335 : decode cL_law_ 1335 = .ok (.aload_n 0, 1) := by decide +kernel
theorem dL_law__1336 : decode cL_law_ 1336 = .ok (.iload 4, 2) := by decide +kernel
theorem dL_law__1338 : decode cL_law_ 1338 = .ok (.iconst 5, 1) := by decide +kernel
theorem dL_law__1339 : decode cL_law_ 1339 = .ok (.iadd, 1) := by decide +kernel
theorem dL_law__1340 : decode cL_law_ 1340 = .ok (.iaload, 1) := by decide +kernel
theorem dL_law__1341 : decode cL_law_ 1341 = .ok (.ifCond .eq 7, 3) := by decide +kernel
theorem dL_law__1344 : decode cL_law_ 1344 = .ok (.iconst 1, 1) := by decide +kernel
theorem dL_law__1345 : decode cL_law_ 1345 = .ok (.goto 4, 3) := by decide +kernel
theorem dL_law__1348 : decode cL_law_ 1348 = .ok (.iconst 0, 1) := by decide +kernel
theorem dL_law__1349 : decode cL_law_ 1349 = .ok (.invokevirtual 173, 3) := by decide +kernel
theorem dL_law__1352 : decode cL_law_ 1352 = .ok (.istore 6, 2) := by decide +kernel
theorem dL_law__1354 : decode cL_law_ 1354 = .ok (.aload_n 2, 1) := by decide +kernel
theorem dL_law__1355 : decode cL_law_ 1355 = .ok (.invokevirtual 124, 3) := by decide +kernel
theorem dL_law__1358 : decode cL_law_ 1358 = .ok (.iload 5, 2) := by decide +kernel
theorem dL_law__1360 : decode cL_law_ 1360 = .ok (.if_icmp .eq 5, 3) := by decide +kernel
theorem dL_law__1363 : decode cL_law_ 1363 = .ok (.iconst 0, 1) := by decide +kernel
theorem dL_law__1364 : decode cL_law_ 1364 = .ok (.ireturn, 1) := by decide +kernel
theorem dL_law__1365 : decode cL_law_ 1365 = .ok (.iload 5, 2) := by decide +kernel
theorem dL_law__1367 : decode cL_law_ 1367 = .ok (.ifCond .ne 15, 3) := by decide +kernel
theorem dL_law__1370 : decode cL_law_ 1370 = .ok (.aload_n 3, 1) := by decide +kernel
theorem dL_law__1371 : decode cL_law_ 1371 = .ok (.iconst 0, 1) := by decide +kernel
theorem dL_law__1372 : decode cL_law_ 1372 = .ok (.laload, 1) := by decide +kernel
theorem dL_law__1373 : decode cL_law_ 1373 = .ok (.iload 6, 2) := by decide +kernel
theorem dL_law__1375 : decode cL_law_ 1375 = .ok (.i2l, 1) := by decide +kernel
theorem dL_law__1376 : decode cL_law_ 1376 = .ok (.lcmp, 1) := by decide +kernel
theorem dL_law__1377 : decode cL_law_ 1377 = .ok (.ifCond .eq 5, 3) := by decide +kernel
theorem dL_law__1380 : decode cL_law_ 1380 = .ok (.iconst 0, 1) := by decide +kernel
theorem dL_law__1381 : decode cL_law_ 1381 = .ok (.ireturn, 1) := by decide +kernel
theorem dL_law__1382 : decode cL_law_ 1382 = .ok (.goto 1257, 3) := by decide +kernel
theorem dL_law__1385 : decode cL_law_ 1385 = .ok (.aload_n 1, 1) := by decide +kernel
theorem dL_law__1386 : decode cL_law_ 1386 = .ok (.aload_n 0, 1) := by decide +kernel
theorem dL_law__1387 : decode cL_law_ 1387 = .ok (.iload 4, 2) := by decide +kernel
theorem dL_law__1389 : decode cL_law_ 1389 = .ok (.iconst 1, 1) := by decide +kernel
theorem dL_law__1390 : decode cL_law_ 1390 = .ok (.iadd, 1) := by decide +kernel
theorem dL_law__1391 : decode cL_law_ 1391 = .ok (.iaload, 1) := by decide +kernel
theorem dL_law__1392 : decode cL_law_ 1392 = .ok (.aload_n 0, 1) := by decide +kernel
theorem dL_law__1393 : decode cL_law_ 1393 = .ok (.iload 4, 2) := by decide +kernel
theorem dL_law__1395 : decode cL_law_ 1395 = .ok (.iconst 2, 1) := by decide +kernel
theorem dL_law__1396 : decode cL_law_ 1396 = .ok (.iadd, 1) := by decide +kernel
theorem dL_law__1397 : decode cL_law_ 1397 = .ok (.iaload, 1) := by decide +kernel
theorem dL_law__1398 : decode cL_law_ 1398 = .ok (.aload_n 0, 1) := by decide +kernel
theorem dL_law__1399 : decode cL_law_ 1399 = .ok (.iload 4, 2) := by decide +kernel
theorem dL_law__1401 : decode cL_law_ 1401 = .ok (.iconst 3, 1) := by decide +kernel
theorem dL_law__1402 : decode cL_law_ 1402 = .ok (.iadd, 1) := by decide +kernel
theorem dL_law__1403 : decode cL_law_ 1403 = .ok (.iaload, 1) := by decide +kernel
theorem dL_law__1404 : decode cL_law_ 1404 = .ok (.aload_n 3, 1) := by decide +kernel
theorem dL_law__1405 : decode cL_law_ 1405 = .ok (.invokestatic 174, 3) := by decide +kernel
theorem dL_law__1408 : decode cL_law_ 1408 = .ok (.istore 5, 2) := by decide +kernel
theorem dL_law__1410 : decode cL_law_ 1410 = .ok (.aload_n 2, 1) := by decide +kernel
theorem dL_law__1411 : decode cL_law_ 1411 = .ok (.aload_n 0, 1) := by decide +kernel
theorem dL_law__1412 : decode cL_law_ 1412 = .ok (.iload 4, 2) := by decide +kernel
theorem dL_law__1414 : decode cL_law_ 1414 = .ok (.iconst 1, 1) := by decide +kernel
theorem dL_law__1415 : decode cL_law_ 1415 = .ok (.iadd, 1) := by decide +kernel
theorem dL_law__1416 : decode cL_law_ 1416 = .ok (.iaload, 1) := by decide +kernel
theorem dL_law__1417 : decode cL_law_ 1417 = .ok (.aload_n 0, 1) := by decide +kernel
theorem dL_law__1418 : decode cL_law_ 1418 = .ok (.iload 4, 2) := by decide +kernel
theorem dL_law__1420 : decode cL_law_ 1420 = .ok (.iconst 2, 1) := by decide +kernel
theorem dL_law__1421 : decode cL_law_ 1421 = .ok (.iadd, 1) := by decide +kernel
theorem dL_law__1422 : decode cL_law_ 1422 = .ok (.iaload, 1) := by decide +kernel
theorem dL_law__1423 : decode cL_law_ 1423 = .ok (.aload_n 0, 1) := by decide +kernel
theorem dL_law__1424 : decode cL_law_ 1424 = .ok (.iload 4, 2) := by decide +kernel
theorem dL_law__1426 : decode cL_law_ 1426 = .ok (.iconst 3, 1) := by decide +kernel
theorem dL_law__1427 : decode cL_law_ 1427 = .ok (.iadd, 1) := by decide +kernel
theorem dL_law__1428 : decode cL_law_ 1428 = .ok (.iaload, 1) := by decide +kernel
theorem dL_law__1429 : decode cL_law_ 1429 = .ok (.invokevirtual 176, 3) := by decide +kernel
theorem dL_law__1432 : decode cL_law_ 1432 = .ok (.istore 6, 2) := by decide +kernel
theorem dL_law__1434 : decode cL_law_ 1434 = .ok (.aload_n 2, 1) := by decide +kernel
theorem dL_law__1435 : decode cL_law_ 1435 = .ok (.invokevirtual 124, 3) := by decide +kernel
theorem dL_law__1438 : decode cL_law_ 1438 = .ok (.iload 5, 2) := by decide +kernel
theorem dL_law__1440 : decode cL_law_ 1440 = .ok (.if_icmp .eq 5, 3) := by decide +kernel
theorem dL_law__1443 : decode cL_law_ 1443 = .ok (.iconst 0, 1) := by decide +kernel
theorem dL_law__1444 : decode cL_law_ 1444 = .ok (.ireturn, 1) := by decide +kernel
theorem dL_law__1445 : decode cL_law_ 1445 = .ok (.iload 5, 2) := by decide +kernel
theorem dL_law__1447 : decode cL_law_ 1447 = .ok (.ifCond .ne 15, 3) := by decide +kernel
theorem dL_law__1450 : decode cL_law_ 1450 = .ok (.aload_n 3, 1) := by decide +kernel
theorem dL_law__1451 : decode cL_law_ 1451 = .ok (.iconst 0, 1) := by decide +kernel
theorem dL_law__1452 : decode cL_law_ 1452 = .ok (.laload, 1) := by decide +kernel
theorem dL_law__1453 : decode cL_law_ 1453 = .ok (.iload 6, 2) := by decide +kernel
theorem dL_law__1455 : decode cL_law_ 1455 = .ok (.i2l, 1) := by decide +kernel
theorem dL_law__1456 : decode cL_law_ 1456 = .ok (.lcmp, 1) := by decide +kernel
theorem dL_law__1457 : decode cL_law_ 1457 = .ok (.ifCond .eq 5, 3) := by decide +kernel
theorem dL_law__1460 : decode cL_law_ 1460 = .ok (.iconst 0, 1) := by decide +kernel
theorem dL_law__1461 : decode cL_law_ 1461 = .ok (.ireturn, 1) := by decide +kernel
theorem dL_law__1462 : decode cL_law_ 1462 = .ok (.goto 1177, 3) := by decide +kernel
theorem dL_law__1465 : decode cL_law_ 1465 = .ok (.aload_n 1, 1) := by decide +kernel
theorem dL_law__1466 : decode cL_law_ 1466 = .ok (.aload_n 0, 1) := by decide +kernel
theorem dL_law__1467 : decode cL_law_ 1467 = .ok (.iload 4, 2) := by decide +kernel
theorem dL_law__1469 : decode cL_law_ 1469 = .ok (.iconst 1, 1) := by decide +kernel
theorem dL_law__1470 : decode cL_law_ 1470 = .ok (.iadd, 1) := by decide +kernel
theorem dL_law__1471 : decode cL_law_ 1471 = .ok (.iaload, 1) := by decide +kernel
theorem dL_law__1472 : decode cL_law_ 1472 = .ok (.aload_n 0, 1) := by decide +kernel
theorem dL_law__1473 : decode cL_law_ 1473 = .ok (.iload 4, 2) := by decide +kernel
theorem dL_law__1475 : decode cL_law_ 1475 = .ok (.iconst 2, 1) := by decide +kernel
theorem dL_law__1476 : decode cL_law_ 1476 = .ok (.iadd, 1) := by decide +kernel
theorem dL_law__1477 : decode cL_law_ 1477 = .ok (.iaload, 1) := by decide +kernel
theorem dL_law__1478 : decode cL_law_ 1478 = .ok (.aload_n 0, 1) := by decide +kernel
theorem dL_law__1479 : decode cL_law_ 1479 = .ok (.iload 4, 2) := by decide +kernel
theorem dL_law__1481 : decode cL_law_ 1481 = .ok (.iconst 3, 1) := by decide +kernel
theorem dL_law__1482 : decode cL_law_ 1482 = .ok (.iadd, 1) := by decide +kernel
theorem dL_law__1483 : decode cL_law_ 1483 = .ok (.iaload, 1) := by decide +kernel
theorem dL_law__1484 : decode cL_law_ 1484 = .ok (.aload_n 0, 1) := by decide +kernel
theorem dL_law__1485 : decode cL_law_ 1485 = .ok (.iload 4, 2) := by decide +kernel
theorem dL_law__1487 : decode cL_law_ 1487 = .ok (.iconst 4, 1) := by decide +kernel
theorem dL_law__1488 : decode cL_law_ 1488 = .ok (.iadd, 1) := by decide +kernel
theorem dL_law__1489 : decode cL_law_ 1489 = .ok (.iaload, 1) := by decide +kernel
theorem dL_law__1490 : decode cL_law_ 1490 = .ok (.aload_n 3, 1) := by decide +kernel
theorem dL_law__1491 : decode cL_law_ 1491 = .ok (.invokestatic 177, 3) := by decide +kernel
theorem dL_law__1494 : decode cL_law_ 1494 = .ok (.istore 5, 2) := by decide +kernel
theorem dL_law__1496 : decode cL_law_ 1496 = .ok (.aload_n 2, 1) := by decide +kernel
theorem dL_law__1497 : decode cL_law_ 1497 = .ok (.aload_n 0, 1) := by decide +kernel
theorem dL_law__1498 : decode cL_law_ 1498 = .ok (.iload 4, 2) := by decide +kernel
theorem dL_law__1500 : decode cL_law_ 1500 = .ok (.iconst 1, 1) := by decide +kernel
theorem dL_law__1501 : decode cL_law_ 1501 = .ok (.iadd, 1) := by decide +kernel
theorem dL_law__1502 : decode cL_law_ 1502 = .ok (.iaload, 1) := by decide +kernel
theorem dL_law__1503 : decode cL_law_ 1503 = .ok (.aload_n 0, 1) := by decide +kernel
theorem dL_law__1504 : decode cL_law_ 1504 = .ok (.iload 4, 2) := by decide +kernel
theorem dL_law__1506 : decode cL_law_ 1506 = .ok (.iconst 2, 1) := by decide +kernel
theorem dL_law__1507 : decode cL_law_ 1507 = .ok (.iadd, 1) := by decide +kernel
theorem dL_law__1508 : decode cL_law_ 1508 = .ok (.iaload, 1) := by decide +kernel
theorem dL_law__1509 : decode cL_law_ 1509 = .ok (.aload_n 0, 1) := by decide +kernel
theorem dL_law__1510 : decode cL_law_ 1510 = .ok (.iload 4, 2) := by decide +kernel
theorem dL_law__1512 : decode cL_law_ 1512 = .ok (.iconst 3, 1) := by decide +kernel
theorem dL_law__1513 : decode cL_law_ 1513 = .ok (.iadd, 1) := by decide +kernel
theorem dL_law__1514 : decode cL_law_ 1514 = .ok (.iaload, 1) := by decide +kernel
theorem dL_law__1515 : decode cL_law_ 1515 = .ok (.aload_n 0, 1) := by decide +kernel
theorem dL_law__1516 : decode cL_law_ 1516 = .ok (.iload 4, 2) := by decide +kernel
theorem dL_law__1518 : decode cL_law_ 1518 = .ok (.iconst 4, 1) := by decide +kernel
theorem dL_law__1519 : decode cL_law_ 1519 = .ok (.iadd, 1) := by decide +kernel
theorem dL_law__1520 : decode cL_law_ 1520 = .ok (.iaload, 1) := by decide +kernel
theorem dL_law__1521 : decode cL_law_ 1521 = .ok (.invokevirtual 179, 3) := by decide +kernel
theorem dL_law__1524 : decode cL_law_ 1524 = .ok (.istore 6, 2) := by decide +kernel
theorem dL_law__1526 : decode cL_law_ 1526 = .ok (.aload_n 2, 1) := by decide +kernel
theorem dL_law__1527 : decode cL_law_ 1527 = .ok (.invokevirtual 124, 3) := by decide +kernel
theorem dL_law__1530 : decode cL_law_ 1530 = .ok (.iload 5, 2) := by decide +kernel
theorem dL_law__1532 : decode cL_law_ 1532 = .ok (.if_icmp .eq 5, 3) := by decide +kernel
theorem dL_law__1535 : decode cL_law_ 1535 = .ok (.iconst 0, 1) := by decide +kernel
theorem dL_law__1536 : decode cL_law_ 1536 = .ok (.ireturn, 1) := by decide +kernel
theorem dL_law__1537 : decode cL_law_ 1537 = .ok (.iload 5, 2) := by decide +kernel
theorem dL_law__1539 : decode cL_law_ 1539 = .ok (.ifCond .ne 15, 3) := by decide +kernel
theorem dL_law__1542 : decode cL_law_ 1542 = .ok (.aload_n 3, 1) := by decide +kernel
theorem dL_law__1543 : decode cL_law_ 1543 = .ok (.iconst 0, 1) := by decide +kernel
theorem dL_law__1544 : decode cL_law_ 1544 = .ok (.laload, 1) := by decide +kernel
theorem dL_law__1545 : decode cL_law_ 1545 = .ok (.iload 6, 2) := by decide +kernel
theorem dL_law__1547 : decode cL_law_ 1547 = .ok (.i2l, 1) := by decide +kernel
theorem dL_law__1548 : decode cL_law_ 1548 = .ok (.lcmp, 1) := by decide +kernel
theorem dL_law__1549 : decode cL_law_ 1549 = .ok (.ifCond .eq 5, 3) := by decide +kernel
theorem dL_law__1552 : decode cL_law_ 1552 = .ok (.iconst 0, 1) := by decide +kernel
theorem dL_law__1553 : decode cL_law_ 1553 = .ok (.ireturn, 1) := by decide +kernel
theorem dL_law__1554 : decode cL_law_ 1554 = .ok (.goto 1085, 3) := by decide +kernel
theorem dL_law__1557 : decode cL_law_ 1557 = .ok (.aload_n 1, 1) := by decide +kernel
theorem dL_law__1558 : decode cL_law_ 1558 = .ok (.aload_n 0, 1) := by decide +kernel
theorem dL_law__1559 : decode cL_law_ 1559 = .ok (.iload 4, 2) := by decide +kernel
theorem dL_law__1561 : decode cL_law_ 1561 = .ok (.iconst 1, 1) := by decide +kernel
theorem dL_law__1562 : decode cL_law_ 1562 = .ok (.iadd, 1) := by decide +kernel
theorem dL_law__1563 : decode cL_law_ 1563 = .ok (.iaload, 1) := by decide +kernel
theorem dL_law__1564 : decode cL_law_ 1564 = .ok (.aload_n 0, 1) := by decide +kernel
theorem dL_law__1565 : decode cL_law_ 1565 = .ok (.iload 4, 2) := by decide +kernel
theorem dL_law__1567 : decode cL_law_ 1567 = .ok (.iconst 2, 1) := by decide +kernel
theorem dL_law__1568 : decode cL_law_ 1568 = .ok (.iadd, 1) := by decide +kernel
theorem dL_law__1569 : decode cL_law_ 1569 = .ok (.iaload, 1) := by decide +kernel
theorem dL_law__1570 : decode cL_law_ 1570 = .ok (.aload_n 0, 1) := by decide +kernel
theorem dL_law__1571 : decode cL_law_ 1571 = .ok (.iload 4, 2) := by decide +kernel
theorem dL_law__1573 : decode cL_law_ 1573 = .ok (.iconst 3, 1) := by decide +kernel
theorem dL_law__1574 : decode cL_law_ 1574 = .ok (.iadd, 1) := by decide +kernel
theorem dL_law__1575 : decode cL_law_ 1575 = .ok (.iaload, 1) := by decide +kernel
theorem dL_law__1576 : decode cL_law_ 1576 = .ok (.aload_n 0, 1) := by decide +kernel
theorem dL_law__1577 : decode cL_law_ 1577 = .ok (.iload 4, 2) := by decide +kernel
theorem dL_law__1579 : decode cL_law_ 1579 = .ok (.iconst 4, 1) := by decide +kernel
theorem dL_law__1580 : decode cL_law_ 1580 = .ok (.iadd, 1) := by decide +kernel
theorem dL_law__1581 : decode cL_law_ 1581 = .ok (.iaload, 1) := by decide +kernel
theorem dL_law__1582 : decode cL_law_ 1582 = .ok (.aload_n 0, 1) := by decide +kernel
theorem dL_law__1583 : decode cL_law_ 1583 = .ok (.iload 4, 2) := by decide +kernel
theorem dL_law__1585 : decode cL_law_ 1585 = .ok (.iconst 5, 1) := by decide +kernel
theorem dL_law__1586 : decode cL_law_ 1586 = .ok (.iadd, 1) := by decide +kernel
theorem dL_law__1587 : decode cL_law_ 1587 = .ok (.iaload, 1) := by decide +kernel
theorem dL_law__1588 : decode cL_law_ 1588 = .ok (.aload_n 0, 1) := by decide +kernel
theorem dL_law__1589 : decode cL_law_ 1589 = .ok (.iload 4, 2) := by decide +kernel
theorem dL_law__1591 : decode cL_law_ 1591 = .ok (.bipush 6, 2) := by decide +kernel
theorem dL_law__1593 : decode cL_law_ 1593 = .ok (.iadd, 1) := by decide +kernel
theorem dL_law__1594 : decode cL_law_ 1594 = .ok (.iaload, 1) := by decide +kernel
theorem dL_law__1595 : decode cL_law_ 1595 = .ok (.aload_n 3, 1) := by decide +kernel
theorem dL_law__1596 : decode cL_law_ 1596 = .ok (.invokestatic 180, 3) := by decide +kernel
theorem dL_law__1599 : decode cL_law_ 1599 = .ok (.istore 5, 2) := by decide +kernel
theorem dL_law__1601 : decode cL_law_ 1601 = .ok (.aload_n 2, 1) := by decide +kernel
theorem dL_law__1602 : decode cL_law_ 1602 = .ok (.aload_n 0, 1) := by decide +kernel
theorem dL_law__1603 : decode cL_law_ 1603 = .ok (.iload 4, 2) := by decide +kernel
theorem dL_law__1605 : decode cL_law_ 1605 = .ok (.iconst 1, 1) := by decide +kernel
theorem dL_law__1606 : decode cL_law_ 1606 = .ok (.iadd, 1) := by decide +kernel
theorem dL_law__1607 : decode cL_law_ 1607 = .ok (.iaload, 1) := by decide +kernel
theorem dL_law__1608 : decode cL_law_ 1608 = .ok (.aload_n 0, 1) := by decide +kernel
theorem dL_law__1609 : decode cL_law_ 1609 = .ok (.iload 4, 2) := by decide +kernel
theorem dL_law__1611 : decode cL_law_ 1611 = .ok (.iconst 2, 1) := by decide +kernel
theorem dL_law__1612 : decode cL_law_ 1612 = .ok (.iadd, 1) := by decide +kernel
theorem dL_law__1613 : decode cL_law_ 1613 = .ok (.iaload, 1) := by decide +kernel
theorem dL_law__1614 : decode cL_law_ 1614 = .ok (.aload_n 0, 1) := by decide +kernel
theorem dL_law__1615 : decode cL_law_ 1615 = .ok (.iload 4, 2) := by decide +kernel
theorem dL_law__1617 : decode cL_law_ 1617 = .ok (.iconst 3, 1) := by decide +kernel
theorem dL_law__1618 : decode cL_law_ 1618 = .ok (.iadd, 1) := by decide +kernel
theorem dL_law__1619 : decode cL_law_ 1619 = .ok (.iaload, 1) := by decide +kernel
theorem dL_law__1620 : decode cL_law_ 1620 = .ok (.aload_n 0, 1) := by decide +kernel
theorem dL_law__1621 : decode cL_law_ 1621 = .ok (.iload 4, 2) := by decide +kernel
theorem dL_law__1623 : decode cL_law_ 1623 = .ok (.iconst 4, 1) := by decide +kernel
theorem dL_law__1624 : decode cL_law_ 1624 = .ok (.iadd, 1) := by decide +kernel
theorem dL_law__1625 : decode cL_law_ 1625 = .ok (.iaload, 1) := by decide +kernel
theorem dL_law__1626 : decode cL_law_ 1626 = .ok (.aload_n 0, 1) := by decide +kernel
theorem dL_law__1627 : decode cL_law_ 1627 = .ok (.iload 4, 2) := by decide +kernel
theorem dL_law__1629 : decode cL_law_ 1629 = .ok (.iconst 5, 1) := by decide +kernel
theorem dL_law__1630 : decode cL_law_ 1630 = .ok (.iadd, 1) := by decide +kernel
theorem dL_law__1631 : decode cL_law_ 1631 = .ok (.iaload, 1) := by decide +kernel
theorem dL_law__1632 : decode cL_law_ 1632 = .ok (.aload_n 0, 1) := by decide +kernel
theorem dL_law__1633 : decode cL_law_ 1633 = .ok (.iload 4, 2) := by decide +kernel
theorem dL_law__1635 : decode cL_law_ 1635 = .ok (.bipush 6, 2) := by decide +kernel

theorem dX11_shapes_13 : decode cX11_shapes 13 = .ok (.istore 5, 2) := by decide +kernel
theorem dX11_shapes_15 : decode cX11_shapes 15 = .ok (.iload 5, 2) := by decide +kernel
theorem dX11_shapes_17 : decode cX11_shapes 17 = .ok (.iconst 4, 1) := by decide +kernel
theorem dX11_shapes_18 : decode cX11_shapes 18 = .ok (.if_icmp .ge 20, 3) := by decide +kernel
theorem dX11_shapes_21 : decode cX11_shapes 21 = .ok (.aload_n 0, 1) := by decide +kernel
theorem dX11_shapes_22 : decode cX11_shapes 22 = .ok (.getfield 43, 3) := by decide +kernel
theorem dX11_shapes_25 : decode cX11_shapes 25 = .ok (.iload 5, 2) := by decide +kernel
theorem dX11_shapes_27 : decode cX11_shapes 27 = .ok (.aaload, 1) := by decide +kernel
theorem dX11_shapes_28 : decode cX11_shapes 28 = .ok (.iload 4, 2) := by decide +kernel
theorem dX11_shapes_30 : decode cX11_shapes 30 = .ok (.iconst 0, 1) := by decide +kernel
theorem dX11_shapes_31 : decode cX11_shapes 31 = .ok (.iastore, 1) := by decide +kernel
theorem dX11_shapes_32 : decode cX11_shapes 32 = .ok (.iinc 5 1, 3) := by decide +kernel
theorem dX11_shapes_35 : decode cX11_shapes 35 = .ok (.goto (-20), 3) := by decide +kernel
theorem dX11_shapes_38 : decode cX11_shapes 38 = .ok (.aload_n 0, 1) := by decide +kernel
theorem dX11_shapes_39 : decode cX11_shapes 39 = .ok (.getfield 43, 3) := by decide +kernel
theorem dX11_shapes_42 : decode cX11_shapes 42 = .ok (.iload_n 1, 1) := by decide +kernel
theorem dX11_shapes_43 : decode cX11_shapes 43 = .ok (.aaload, 1) := by decide +kernel
theorem dX11_shapes_44 : decode cX11_shapes 44 = .ok (.iload 4, 2) := by decide +kernel
theorem dX11_shapes_46 : decode cX11_shapes 46 = .ok (.iload 4, 2) := by decide +kernel
theorem dX11_shapes_48 : decode cX11_shapes 48 = .ok (.iload_n 2, 1) := by decide +kernel
theorem dX11_shapes_49 : decode cX11_shapes 49 = .ok (.imul, 1) := by decide +kernel
theorem dX11_shapes_50 : decode cX11_shapes 50 = .ok (.aload_n 0, 1) := by decide +kernel
theorem dX11_shapes_51 : decode cX11_shapes 51 = .ok (.getfield 37, 3) := by decide +kernel
theorem dX11_shapes_54 : decode cX11_shapes 54 = .ok (.idiv, 1) := by decide +kernel
theorem dX11_shapes_55 : decode cX11_shapes 55 = .ok (.iconst 2, 1) := by decide +kernel
theorem dX11_shapes_56 : decode cX11_shapes 56 = .ok (.irem, 1) := by decide +kernel
theorem dX11_shapes_57 : decode cX11_shapes 57 = .ok (.ifCond .ne 7, 3) := by decide +kernel
theorem dX11_shapes_60 : decode cX11_shapes 60 = .ok (.iload_n 3, 1) := by decide +kernel
theorem dX11_shapes_61 : decode cX11_shapes 61 = .ok (.goto 5, 3) := by decide +kernel
theorem dX11_shapes_64 : decode cX11_shapes 64 = .ok (.iload_n 3, 1) := by decide +kernel
theorem dX11_shapes_65 : decode cX11_shapes 65 = .ok (.ineg, 1) := by decide +kernel
theorem dX11_shapes_66 : decode cX11_shapes 66 = .ok (.iastore, 1) := by decide +kernel
theorem dX11_shapes_67 : decode cX11_shapes 67 = .ok (.iinc 4 1, 3) := by decide +kernel
theorem dX11_shapes_70 : decode cX11_shapes 70 = .ok (.goto (-67), 3) := by decide +kernel
theorem dX11_shapes_73 : decode cX11_shapes 73 = .ok (.return_, 1) := by decide +kernel
set_option maxRecDepth 20000 in
theorem ggX11_shape_X11_isShape : GoodIn wsX11_shape wsX11_isShape := goodIn_r _ [5, 6, 7, 4, 8] (by decide +kernel) (by decide +kernel)
set_option maxRecDepth 20000 in
theorem gX11_shape_X11_isShape : GoodIn wsX11_shape (va_wsS RX11 213 yX11_isShape wsX11_isShape) := goodIn_app (goodIn_of _ (by decide +kernel)) ggX11_shape_X11_isShape
set_option maxRecDepth 20000 in
theorem ggX11_shape_X11_in : GoodIn wsX11_shape wsX11_in := goodIn_r _ [8] (by decide +kernel) (by decide +kernel)
set_option maxRecDepth 20000 in
theorem gX11_shape_X11_in : GoodIn wsX11_shape (va_wsS RX11 172 yX11_in wsX11_in) := goodIn_app (goodIn_of _ (by decide +kernel)) ggX11_shape_X11_in
set_option maxRecDepth 20000 in
theorem ggX11_shape_X11_bad : GoodIn wsX11_shape wsX11_bad := goodIn_r _ [12, 1, 26, 27, 28, 29, 30, 31, 32, 33, 34, 35, 36, 37, 38, 39, 40, 41, 42, 43, 44, 45, 46, 47, 48, 49, 50, 51, 52, 53, 54, 55, 56, 57, 58, 59, 60, 61, 62, 63, 64, 65, 66, 67] (by decide +kernel) (by decide +kernel)
set_option maxRecDepth 20000 in
theorem gX11_shape_X11_bad : GoodIn wsX11_shape (wsV RX11 176 RX11 yX11_bad wsX11_bad) := goodIn_app (goodIn_of _ (by decide +kernel)) ggX11_shape_X11_bad
set_option maxRecDepth 20000 in
theorem ggX11_shape_X11_shapes : GoodIn wsX11_shape wsX11_shapes := goodIn_r _ [16, 17, 18, 26, 27, 28, 29, 30, 31, 32, 33, 34, 35, 36, 37, 38, 39, 40, 41, 42, 43, 44, 45, 46, 47, 48, 49, 50, 51, 52, 53, 54, 55, 56, 57, 58, 59, 60, 61, 62, 63, 64, 65, 66, 67] (by decide +kernel) (by decide +kernel)
set_option maxRecDepth 20000 in
theorem gX11_shape_X11_shapes : GoodIn wsX11_shape (wsV RX11 217 RX11 yX11_shapes wsX11_shapes) := goodIn_app (goodIn_of _ (by decide +kernel)) ggX11_shape_X11_shapes
set_option maxRecDepth 20000 in
theorem ggX11_shape_X11_sizeOf : GoodIn wsX11_shape wsX11_sizeOf := goodIn_r _ [22, 17, 18, 23, 24, 4, 25, 26, 27, 28, 29, 30, 31, 32, 33, 34, 35, 36, 37, 38, 39, 40, 41, 42, 43, 44, 45, 46, 47, 48, 49, 50, 51, 52, 53, 54, 55, 56, 57, 58, 59, 60, 61, 62, 63, 64, 65, 66, 67] (by decide +kernel) (by decide +kernel)
set_option maxRecDepth 20000 in
theorem gX11_shape_X11_sizeOf : GoodIn wsX11_shape (wsV RX11 221 RX11 yX11_sizeOf wsX11_sizeOf) := goodIn_app (goodIn_of _ (by decide +kernel)) ggX11_shape_X11_sizeOf
theorem dX11_shape_0 : decode cX11_shape 0 = .ok (.aload_n 0, 1) := by decide +kernel
theorem dX11_shape_1 : decode cX11_shape 1 = .ok (.iconst 0, 1) := by decide +kernel
theorem dX11_shape_2 : decode cX11_shape 2 = .ok (.putfield 83, 3) := by decide +kernel
theorem dX11_shape_5 : decode cX11_shape 5 = .ok (.aload_n 0, 1) := by decide +kernel
theorem dX11_shape_6 : decode cX11_shape 6 = .ok (.iload_n 1, 1) := by decide +kernel
theorem dX11_shape_7 : decode cX11_shape 7 = .ok (.iload_n 2, 1) := by decide +kernel
theorem dX11_shape_8 : decode cX11_shape 8 = .ok (.invokestatic 213, 3) := by decide +kernel
theorem dX11_shape_11 : decode cX11_shape 11 = .ok (.ifCond .eq 14, 3) := by decide +kernel
theorem dX11_shape_14 : decode cX11_shape 14 = .ok (.iload_n 3, 1) := by decide +kernel
theorem dX11_shape_15 : decode cX11_shape 15 = .ok (.iconst 1, 1) := by decide +kernel
theorem dX11_shape_16 : decode cX11_shape 16 = .ok (.sipush 9999, 3) := by decide +kernel
theorem dX11_shape_19 : decode cX11_shape 19 = .ok (.invokestatic 172, 3) := by decide +kernel
theorem dX11_shape_22 : decode cX11_shape 22 = .ok (.ifCond .ne 7, 3) := by decide +kernel
theorem dX11_shape_25 : decode cX11_shape 25 = .ok (.iconst 1, 1) := by decide +kernel
theorem dX11_shape_26 : decode cX11_shape 26 = .ok (.goto 4, 3) := by decide +kernel
theorem dX11_shape_29 : decode cX11_shape 29 = .ok (.iconst 0, 1) := by decide +kernel
theorem dX11_shape_30 : decode cX11_shape 30 = .ok (.iconst 1, 1) := by decide +kernel
theorem dX11_shape_31 : decode cX11_shape 31 = .ok (.invokevirtual 176, 3) := by decide +kernel
theorem dX11_shape_34 : decode cX11_shape 34 = .ok (.ifCond .eq 5, 3) := by decide +kernel
theorem dX11_shape_37 : decode cX11_shape 37 = .ok (.iconst 0, 1) := by decide +kernel
theorem dX11_shape_38 : decode cX11_shape 38 = .ok (.ireturn, 1) := by decide +kernel
theorem dX11_shape_39 : decode cX11_shape 39 = .ok (.aload_n 0, 1) := by decide +kernel
theorem dX11_shape_40 : decode cX11_shape 40 = .ok (.iload_n 1, 1) := by decide +kernel
theorem dX11_shape_41 : decode cX11_shape 41 = .ok (.iload_n 2, 1) := by decide +kernel
theorem dX11_shape_42 : decode cX11_shape 42 = .ok (.iload_n 3, 1) := by decide +kernel
theorem dX11_shape_43 : decode cX11_shape 43 = .ok (.invokevirtual 217, 3) := by decide +kernel
theorem dX11_shape_46 : decode cX11_shape 46 = .ok (.aload_n 0, 1) := by decide +kernel
theorem dX11_shape_47 : decode cX11_shape 47 = .ok (.iload_n 1, 1) := by decide +kernel
theorem dX11_shape_48 : decode cX11_shape 48 = .ok (.invokevirtual 221, 3) := by decide +kernel
theorem dX11_shape_51 : decode cX11_shape 51 = .ok (.ireturn, 1) := by decide +kernel
set_option maxRecDepth 20000 in
theorem ggX11_sizeOf_X11_amount : GoodIn wsX11_sizeOf wsX11_amount := goodIn_r _ [6] (by decide +kernel) (by decide +kernel)
set_option maxRecDepth 20000 in
theorem gX11_sizeOf_X11_amount : GoodIn wsX11_sizeOf (va_wsS RX11 224 yX11_amount wsX11_amount) := goodIn_app (goodIn_of _ (by decide +kernel)) ggX11_sizeOf_X11_amount
theorem dX11_sizeOf_0 : decode cX11_sizeOf 0 = .ok (.iconst 0, 1) := by decide +kernel
theorem dX11_sizeOf_1 : decode cX11_sizeOf 1 = .ok (.istore_n 2, 1) := by decide +kernel
theorem dX11_sizeOf_2 : decode cX11_sizeOf 2 = .ok (.iconst 0, 1) := by decide +kernel
theorem dX11_sizeOf_3 : decode cX11_sizeOf 3 = .ok (.istore_n 3, 1) := by decide +kernel
theorem dX11_sizeOf_4 : decode cX11_sizeOf 4 = .ok (.iload_n 3, 1) := by decide +kernel
theorem dX11_sizeOf_5 : decode cX11_sizeOf 5 = .ok (.aload_n 0, 1) := by decide +kernel
theorem dX11_sizeOf_6 : decode cX11_sizeOf 6 = .ok (.getfield 37, 3) := by decide +kernel
theorem dX11_sizeOf_9 : decode cX11_sizeOf 9 = .ok (.if_icmp .ge 40, 3) := by decide +kernel
theorem dX11_sizeOf_12 : decode cX11_sizeOf 12 = .ok (.aload_n 0, 1) := by decide +kernel
theorem dX11_sizeOf_13 : decode cX11_sizeOf 13 = .ok (.getfield 43, 3) := by decide +kernel
theorem dX11_sizeOf_16 : decode cX11_sizeOf 16 = .ok (.iload_n 1, 1) := by decide +kernel
theorem dX11_sizeOf_17 : decode cX11_sizeOf 17 = .ok (.aaload, 1) := by decide +kernel
theorem dX11_sizeOf_18 : decode cX11_sizeOf 18 = .ok (.iload_n 3, 1) := by decide +kernel
theorem dX11_sizeOf_19 : decode cX11_sizeOf 19 = .ok (.iaload, 1) := by decide +kernel
theorem dX11_sizeOf_20 : decode cX11_sizeOf 20 = .ok (.invokestatic 224, 3) := by decide +kernel
theorem dX11_sizeOf_23 : decode cX11_sizeOf 23 = .ok (.iload_n 2, 1) := by decide +kernel
theorem dX11_sizeOf_24 : decode cX11_sizeOf 24 = .ok (.if_icmp .le 17, 3) := by decide +kernel
theorem dX11_sizeOf_27 : decode cX11_sizeOf 27 = .ok (.aload_n 0, 1) := by decide +kernel
theorem dX11_sizeOf_28 : decode cX11_sizeOf 28 = .ok (.getfield 43, 3) := by decide +kernel
theorem dX11_sizeOf_31 : decode cX11_sizeOf 31 = .ok (.iload_n 1, 1) := by decide +kernel
theorem dX11_sizeOf_32 : decode cX11_sizeOf 32 = .ok (.aaload, 1) := by decide +kernel
theorem dX11_sizeOf_33 : decode cX11_sizeOf 33 = .ok (.iload_n 3, 1) := by decide +kernel
theorem dX11_sizeOf_34 : decode cX11_sizeOf 34 = .ok (.iaload, 1) := by decide +kernel
theorem dX11_sizeOf_35 : decode cX11_sizeOf 35 = .ok (.invokestatic 224, 3) := by decide +kernel
theorem dX11_sizeOf_38 : decode cX11_sizeOf 38 = .ok (.goto 4, 3) := by decide +kernel
theorem dX11_sizeOf_41 : decode cX11_sizeOf 41 = .ok (.iload_n 2, 1) := by decide +kernel
theorem dX11_sizeOf_42 : decode cX11_sizeOf 42 = .ok (.istore_n 2, 1) := by decide +kernel
theorem dX11_sizeOf_43 : decode cX11_sizeOf 43 = .ok (.iinc 3 1, 3) := by decide +kernel
theorem dX11_sizeOf_46 : decode cX11_sizeOf 46 = .ok (.goto (-42), 3) := by decide +kernel
theorem dX11_sizeOf_49 : decode cX11_sizeOf 49 = .ok (.iload_n 2, 1) := by decide +kernel
theorem dX11_sizeOf_50 : decode cX11_sizeOf 50 = .ok (.ireturn, 1) := by decide +kernel
theorem dX11_tellsNames_0 : decode cX11_tellsNames 0 = .ok (.aload_n 0, 1) := by decide +kernel
theorem dX11_tellsNames_1 : decode cX11_tellsNames 1 = .ok (.getfield 31, 3) := by decide +kernel
theorem dX11_tellsNames_4 : decode cX11_tellsNames 4 = .ok (.iconst 0, 1) := by decide +kernel
theorem dX11_tellsNames_5 : decode cX11_tellsNames 5 = .ok (.iload_n 1, 1) := by decide +kernel
theorem dX11_tellsNames_6 : decode cX11_tellsNames 6 = .ok (.iastore, 1) := by decide +kernel
theorem dX11_tellsNames_7 : decode cX11_tellsNames 7 = .ok (.aload_n 0, 1) := by decide +kernel
theorem dX11_tellsNames_8 : decode cX11_tellsNames 8 = .ok (.getfield 31, 3) := by decide +kernel
theorem dX11_tellsNames_11 : decode cX11_tellsNames 11 = .ok (.iconst 1, 1) := by decide +kernel
theorem dX11_tellsNames_12 : decode cX11_tellsNames 12 = .ok (.aload_n 0, 1) := by decide +kernel
theorem dX11_tellsNames_13 : decode cX11_tellsNames 13 = .ok (.getfield 200, 3) := by decide +kernel
theorem dX11_tellsNames_16 : decode cX11_tellsNames 16 = .ok (.iastore, 1) := by decide +kernel
theorem dX11_tellsNames_17 : decode cX11_tellsNames 17 = .ok (.iconst 0, 1) := by decide +kernel
theorem dX11_tellsNames_18 : decode cX11_tellsNames 18 = .ok (.istore_n 3, 1) := by decide +kernel
theorem dX11_tellsNames_19 : decode cX11_tellsNames 19 = .ok (.iload_n 3, 1) := by decide +kernel
theorem dX11_tellsNames_20 : decode cX11_tellsNames 20 = .ok (.iconst 4, 1) := by decide +kernel
theorem dX11_tellsNames_21 : decode cX11_tellsNames 21 = .ok (.if_icmp .ge 25, 3) := by decide +kernel
theorem dX11_tellsNames_24 : decode cX11_tellsNames 24 = .ok (.aload_n 0, 1) := by decide +kernel
theorem dX11_tellsNames_25 : decode cX11_tellsNames 25 = .ok (.getfield 31, 3) := by decide +kernel
theorem dX11_tellsNames_28 : decode cX11_tellsNames 28 = .ok (.iconst 2, 1) := by decide +kernel
theorem dX11_tellsNames_29 : decode cX11_tellsNames 29 = .ok (.iload_n 3, 1) := by decide +kernel
theorem dX11_tellsNames_30 : decode cX11_tellsNames 30 = .ok (.iadd, 1) := by decide +kernel
theorem dX11_tellsNames_31 : decode cX11_tellsNames 31 = .ok (.aload_n 0, 1) := by decide +kernel
theorem dX11_tellsNames_32 : decode cX11_tellsNames 32 = .ok (.getfield 43, 3) := by decide +kernel
theorem dX11_tellsNames_35 : decode cX11_tellsNames 35 = .ok (.iload_n 3, 1) := by decide +kernel
theorem dX11_tellsNames_36 : decode cX11_tellsNames 36 = .ok (.aaload, 1) := by decide +kernel
theorem dX11_tellsNames_37 : decode cX11_tellsNames 37 = .ok (.iload_n 2, 1) := by decide +kernel
theorem dX11_tellsNames_38 : decode cX11_tellsNames 38 = .ok (.iaload, 1) := by decide +kernel
theorem dX11_tellsNames_39 : decode cX11_tellsNames 39 = .ok (.iastore, 1) := by decide +kernel
theorem dX11_tellsNames_40 : decode cX11_tellsNames 40 = .ok (.iinc 3 1, 3) := by decide +kernel
theorem dX11_tellsNames_43 : decode cX11_tellsNames 43 = .ok (.goto (-24), 3) := by decide +kernel
theorem dX11_tellsNames_46 : decode cX11_tellsNames 46 = .ok (.aload_n 0, 1) := by decide +kernel
theorem dX11_tellsNames_47 : decode cX11_tellsNames 47 = .ok (.getfield 31, 3) := by decide +kernel
theorem dX11_tellsNames_50 : decode cX11_tellsNames 50 = .ok (.bipush 6, 2) := by decide +kernel
theorem dX11_tellsNames_52 : decode cX11_tellsNames 52 = .ok (.aload_n 0, 1) := by decide +kernel
theorem dX11_tellsNames_53 : decode cX11_tellsNames 53 = .ok (.getfield 40, 3) := by decide +kernel
theorem dX11_tellsNames_56 : decode cX11_tellsNames 56 = .ok (.iconst 5, 1) := by decide +kernel
theorem dX11_tellsNames_57 : decode cX11_tellsNames 57 = .ok (.iaload, 1) := by decide +kernel
theorem dX11_tellsNames_58 : decode cX11_tellsNames 58 = .ok (.iastore, 1) := by decide +kernel
theorem dX11_tellsNames_59 : decode cX11_tellsNames 59 = .ok (.aload_n 0, 1) := by decide +kernel
theorem dX11_tellsNames_60 : decode cX11_tellsNames 60 = .ok (.getfield 31, 3) := by decide +kernel
theorem dX11_tellsNames_63 : decode cX11_tellsNames 63 = .ok (.bipush 7, 2) := by decide +kernel
theorem dX11_tellsNames_65 : decode cX11_tellsNames 65 = .ok (.aload_n 0, 1) := by decide +kernel
theorem dX11_tellsNames_66 : decode cX11_tellsNames 66 = .ok (.getfield 40, 3) := by decide +kernel
theorem dX11_tellsNames_69 : decode cX11_tellsNames 69 = .ok (.bipush 6, 2) := by decide +kernel
theorem dX11_tellsNames_71 : decode cX11_tellsNames 71 = .ok (.iaload, 1) := by decide +kernel
theorem dX11_tellsNames_72 : decode cX11_tellsNames 72 = .ok (.iastore, 1) := by decide +kernel
theorem dX11_tellsNames_73 : decode cX11_tellsNames 73 = .ok (.aload_n 0, 1) := by decide +kernel
theorem dX11_tellsNames_74 : decode cX11_tellsNames 74 = .ok (.getfield 31, 3) := by decide +kernel
theorem dX11_tellsNames_77 : decode cX11_tellsNames 77 = .ok (.bipush 8, 2) := by decide +kernel
theorem dX11_tellsNames_79 : decode cX11_tellsNames 79 = .ok (.iload_n 2, 1) := by decide +kernel
theorem dX11_tellsNames_80 : decode cX11_tellsNames 80 = .ok (.iastore, 1) := by decide +kernel
theorem dX11_tellsNames_81 : decode cX11_tellsNames 81 = .ok (.return_, 1) := by decide +kernel
theorem dX11_beside_0 : decode cX11_beside 0 = .ok (.iload_n 3, 1) := by decide +kernel
theorem dX11_beside_1 : decode cX11_beside 1 = .ok (.ifCond .lt 11, 3) := by decide +kernel
theorem dX11_beside_4 : decode cX11_beside 4 = .ok (.iload_n 3, 1) := by decide +kernel
theorem dX11_beside_5 : decode cX11_beside 5 = .ok (.aload_n 0, 1) := by decide +kernel
theorem dX11_beside_6 : decode cX11_beside 6 = .ok (.getfield 37, 3) := by decide +kernel
theorem dX11_beside_9 : decode cX11_beside 9 = .ok (.if_icmp .lt 5, 3) := by decide +kernel
theorem dX11_beside_12 : decode cX11_beside 12 = .ok (.iconst 0, 1) := by decide +kernel
theorem dX11_beside_13 : decode cX11_beside 13 = .ok (.ireturn, 1) := by decide +kernel
theorem dX11_beside_14 : decode cX11_beside 14 = .ok (.aload_n 0, 1) := by decide +kernel
theorem dX11_beside_15 : decode cX11_beside 15 = .ok (.getfield 52, 3) := by decide +kernel
theorem dX11_beside_18 : decode cX11_beside 18 = .ok (.iload_n 2, 1) := by decide +kernel
theorem dX11_beside_19 : decode cX11_beside 19 = .ok (.iload_n 3, 1) := by decide +kernel
theorem dX11_beside_20 : decode cX11_beside 20 = .ok (.if_icmp .ge 7, 3) := by decide +kernel
theorem dX11_beside_23 : decode cX11_beside 23 = .ok (.iload_n 2, 1) := by decide +kernel
theorem dX11_beside_24 : decode cX11_beside 24 = .ok (.goto 4, 3) := by decide +kernel
theorem dX11_beside_27 : decode cX11_beside 27 = .ok (.iload_n 3, 1) := by decide +kernel
theorem dX11_beside_28 : decode cX11_beside 28 = .ok (.baload, 1) := by decide +kernel
theorem dX11_beside_29 : decode cX11_beside 29 = .ok (.ifCond .eq 14, 3) := by decide +kernel
theorem dX11_beside_32 : decode cX11_beside 32 = .ok (.aload_n 0, 1) := by decide +kernel
theorem dX11_beside_33 : decode cX11_beside 33 = .ok (.getfield 43, 3) := by decide +kernel
theorem dX11_beside_36 : decode cX11_beside 36 = .ok (.iload_n 1, 1) := by decide +kernel
theorem dX11_beside_37 : decode cX11_beside 37 = .ok (.aaload, 1) := by decide +kernel
theorem dX11_beside_38 : decode cX11_beside 38 = .ok (.iload_n 2, 1) := by decide +kernel
theorem dX11_beside_39 : decode cX11_beside 39 = .ok (.iaload, 1) := by decide +kernel
theorem dX11_beside_40 : decode cX11_beside 40 = .ok (.goto 11, 3) := by decide +kernel
theorem dX11_beside_43 : decode cX11_beside 43 = .ok (.aload_n 0, 1) := by decide +kernel
theorem dX11_beside_44 : decode cX11_beside 44 = .ok (.getfield 43, 3) := by decide +kernel
theorem dX11_beside_47 : decode cX11_beside 47 = .ok (.iload_n 1, 1) := by decide +kernel
theorem dX11_beside_48 : decode cX11_beside 48 = .ok (.aaload, 1) := by decide +kernel
theorem dX11_beside_49 : decode cX11_beside 49 = .ok (.iload_n 3, 1) := by decide +kernel
theorem dX11_beside_50 : decode cX11_beside 50 = .ok (.iaload, 1) := by decide +kernel
theorem dX11_beside_51 : decode cX11_beside 51 = .ok (.ireturn, 1) := by decide +kernel
set_option maxRecDepth 20000 in
theorem ggX11_pulls_X11_beside : GoodIn wsX11_pulls wsX11_beside := goodIn_r _ [8, 9, 10, 1, 11, 12, 13, 14, 15, 16, 17, 18, 19, 20, 21, 22, 23, 24, 25, 26, 27, 28, 29, 30, 31, 32, 33, 34, 35, 36, 37, 38, 39, 40, 41, 42, 43, 44, 45, 46, 47, 48, 49, 50, 51, 52] (by decide +kernel) (by decide +kernel)
set_option maxRecDepth 20000 in
theorem gX11_pulls_X11_beside : GoodIn wsX11_pulls (wsV RX11 227 RX11 yX11_beside wsX11_beside) := goodIn_app (goodIn_of _ (by decide +kernel)) ggX11_pulls_X11_beside
theorem dX11_pulls_0 : decode cX11_pulls 0 = .ok (.aload_n 0, 1) := by decide +kernel
theorem dX11_pulls_1 : decode cX11_pulls 1 = .ok (.getfield 43, 3) := by decide +kernel
theorem dX11_pulls_4 : decode cX11_pulls 4 = .ok (.iload_n 1, 1) := by decide +kernel
theorem dX11_pulls_5 : decode cX11_pulls 5 = .ok (.aaload, 1) := by decide +kernel
theorem dX11_pulls_6 : decode cX11_pulls 6 = .ok (.iload_n 2, 1) := by decide +kernel
theorem dX11_pulls_7 : decode cX11_pulls 7 = .ok (.iaload, 1) := by decide +kernel
theorem dX11_pulls_8 : decode cX11_pulls 8 = .ok (.istore_n 3, 1) := by decide +kernel
theorem dX11_pulls_9 : decode cX11_pulls 9 = .ok (.aload_n 0, 1) := by decide +kernel
theorem dX11_pulls_10 : decode cX11_pulls 10 = .ok (.getfield 40, 3) := by decide +kernel
theorem dX11_pulls_13 : decode cX11_pulls 13 = .ok (.iconst 1, 1) := by decide +kernel
theorem dX11_pulls_14 : decode cX11_pulls 14 = .ok (.iload_n 1, 1) := by decide +kernel
theorem dX11_pulls_15 : decode cX11_pulls 15 = .ok (.iadd, 1) := by decide +kernel
theorem dX11_pulls_16 : decode cX11_pulls 16 = .ok (.iaload, 1) := by decide +kernel
theorem dX11_pulls_17 : decode cX11_pulls 17 = .ok (.aload_n 0, 1) := by decide +kernel
theorem dX11_pulls_18 : decode cX11_pulls 18 = .ok (.iload_n 1, 1) := by decide +kernel
theorem dX11_pulls_19 : decode cX11_pulls 19 = .ok (.iload_n 2, 1) := by decide +kernel
theorem dX11_pulls_20 : decode cX11_pulls 20 = .ok (.iload_n 2, 1) := by decide +kernel
theorem dX11_pulls_21 : decode cX11_pulls 21 = .ok (.iconst 1, 1) := by decide +kernel
theorem dX11_pulls_22 : decode cX11_pulls 22 = .ok (.isub, 1) := by decide +kernel
theorem dX11_pulls_23 : decode cX11_pulls 23 = .ok (.invokevirtual 227, 3) := by decide +kernel
theorem dX11_pulls_26 : decode cX11_pulls 26 = .ok (.aload_n 0, 1) := by decide +kernel
theorem dX11_pulls_27 : decode cX11_pulls 27 = .ok (.iload_n 1, 1) := by decide +kernel
theorem dX11_pulls_28 : decode cX11_pulls 28 = .ok (.iload_n 2, 1) := by decide +kernel
theorem dX11_pulls_29 : decode cX11_pulls 29 = .ok (.iload_n 2, 1) := by decide +kernel
theorem dX11_pulls_30 : decode cX11_pulls 30 = .ok (.iconst 1, 1) := by decide +kernel
theorem dX11_pulls_31 : decode cX11_pulls 31 = .ok (.iadd, 1) := by decide +kernel
theorem dX11_pulls_32 : decode cX11_pulls 32 = .ok (.invokevirtual 227, 3) := by decide +kernel
theorem dX11_pulls_35 : decode cX11_pulls 35 = .ok (.iadd, 1) := by decide +kernel
theorem dX11_pulls_36 : decode cX11_pulls 36 = .ok (.iconst 2, 1) := by decide +kernel
theorem dX11_pulls_37 : decode cX11_pulls 37 = .ok (.iload_n 3, 1) := by decide +kernel
theorem dX11_pulls_38 : decode cX11_pulls 38 = .ok (.imul, 1) := by decide +kernel
theorem dX11_pulls_39 : decode cX11_pulls 39 = .ok (.isub, 1) := by decide +kernel
theorem dX11_pulls_40 : decode cX11_pulls 40 = .ok (.imul, 1) := by decide +kernel
theorem dX11_pulls_41 : decode cX11_pulls 41 = .ok (.istore 4, 2) := by decide +kernel
theorem dX11_pulls_43 : decode cX11_pulls 43 = .ok (.iload_n 1, 1) := by decide +kernel
theorem dX11_pulls_44 : decode cX11_pulls 44 = .ok (.ifCond .ne 17, 3) := by decide +kernel
theorem dX11_pulls_47 : decode cX11_pulls 47 = .ok (.iload 4, 2) := by decide +kernel
theorem dX11_pulls_49 : decode cX11_pulls 49 = .ok (.aload_n 0, 1) := by decide +kernel
theorem dX11_pulls_50 : decode cX11_pulls 50 = .ok (.getfield 40, 3) := by decide +kernel
theorem dX11_pulls_53 : decode cX11_pulls 53 = .ok (.iconst 3, 1) := by decide +kernel
theorem dX11_pulls_54 : decode cX11_pulls 54 = .ok (.iaload, 1) := by decide +kernel
theorem dX11_pulls_55 : decode cX11_pulls 55 = .ok (.iload_n 3, 1) := by decide +kernel
theorem dX11_pulls_56 : decode cX11_pulls 56 = .ok (.imul, 1) := by decide +kernel
theorem dX11_pulls_57 : decode cX11_pulls 57 = .ok (.isub, 1) := by decide +kernel
theorem dX11_pulls_58 : decode cX11_pulls 58 = .ok (.goto 30, 3) := by decide +kernel
theorem dX11_pulls_61 : decode cX11_pulls 61 = .ok (.aload_n 0, 1) := by decide +kernel
theorem dX11_pulls_62 : decode cX11_pulls 62 = .ok (.getfield 49, 3) := by decide +kernel
theorem dX11_pulls_65 : decode cX11_pulls 65 = .ok (.iload_n 2, 1) := by decide +kernel
theorem dX11_pulls_66 : decode cX11_pulls 66 = .ok (.iaload, 1) := by decide +kernel
theorem dX11_pulls_67 : decode cX11_pulls 67 = .ok (.iconst 2, 1) := by decide +kernel
theorem dX11_pulls_68 : decode cX11_pulls 68 = .ok (.if_icmp .ne 18, 3) := by decide +kernel
theorem dX11_pulls_71 : decode cX11_pulls 71 = .ok (.iload 4, 2) := by decide +kernel
theorem dX11_pulls_73 : decode cX11_pulls 73 = .ok (.aload_n 0, 1) := by decide +kernel
theorem dX11_pulls_74 : decode cX11_pulls 74 = .ok (.getfield 40, 3) := by decide +kernel
theorem dX11_pulls_77 : decode cX11_pulls 77 = .ok (.bipush 8, 2) := by decide +kernel
theorem dX11_pulls_79 : decode cX11_pulls 79 = .ok (.iaload, 1) := by decide +kernel
theorem dX11_pulls_80 : decode cX11_pulls 80 = .ok (.iload_n 3, 1) := by decide +kernel
theorem dX11_pulls_81 : decode cX11_pulls 81 = .ok (.imul, 1) := by decide +kernel
theorem dX11_pulls_82 : decode cX11_pulls 82 = .ok (.isub, 1) := by decide +kernel
theorem dX11_pulls_83 : decode cX11_pulls 83 = .ok (.goto 5, 3) := by decide +kernel
theorem dX11_pulls_86 : decode cX11_pulls 86 = .ok (.iload 4, 2) := by decide +kernel
theorem dX11_pulls_88 : decode cX11_pulls 88 = .ok (.ireturn, 1) := by decide +kernel
set_option maxRecDepth 20000 in
theorem ggX11_tick_X11_tellsNames : GoodIn wsX11_tick wsX11_tellsNames := goodIn_r _ [16, 17, 11, 2, 6, 45, 46, 47, 48, 49, 50, 51, 52, 53, 54, 55, 56, 57, 58, 59, 60, 61, 62, 63, 64, 65, 66, 67, 68, 69, 70, 71, 72, 73, 74, 75, 76, 77, 78, 79, 80, 81, 82, 83, 84, 85, 86] (by decide +kernel) (by decide +kernel)
set_option maxRecDepth 20000 in
theorem gX11_tick_X11_tellsNames : GoodIn wsX11_tick (wsV RX11 230 RX11 yX11_tellsNames wsX11_tellsNames) := goodIn_app (goodIn_of _ (by decide +kernel)) ggX11_tick_X11_tellsNames
set_option maxRecDepth 20000 in
theorem ggX11_tick_X11_asks : GoodIn wsX11_tick wsX11_asks := goodIn_r _ [21, 22, 23, 24, 17, 25, 26, 27, 3, 4, 28, 29, 15, 30, 31, 32, 33, 45, 46, 47, 48, 49, 50, 51, 52, 53, 54, 55, 56, 57, 58, 59, 60, 61, 62, 63, 64, 65, 66, 67, 68, 69, 70, 71, 72, 73, 74, 75, 76, 77, 78, 79, 80, 81, 82, 83, 84, 85, 86] (by decide +kernel) (by decide +kernel)
set_option maxRecDepth 20000 in
theorem gX11_tick_X11_asks : GoodIn wsX11_tick (wsV RX11 233 RX11 yX11_asks wsX11_asks) := goodIn_app (goodIn_of _ (by decide +kernel)) ggX11_tick_X11_asks
set_option maxRecDepth 20000 in
theorem ggX11_tick_X11_pulls : GoodIn wsX11_tick wsX11_pulls := goodIn_r _ [37, 2, 6, 9, 38, 39, 40, 15, 41, 1, 10, 45, 46, 47, 48, 49, 50, 51, 52, 53, 54, 55, 56, 57, 58, 59, 60, 61, 62, 63, 64, 65, 66, 67, 68, 69, 70, 71, 72, 73, 74, 75, 76, 77, 78, 79, 80, 81, 82, 83, 84, 85, 86] (by decide +kernel) (by decide +kernel)
set_option maxRecDepth 20000 in
theorem gX11_tick_X11_pulls : GoodIn wsX11_tick (wsV RX11 236 RX11 yX11_pulls wsX11_pulls) := goodIn_app (goodIn_of _ (by decide +kernel)) ggX11_tick_X11_pulls
set_option maxRecDepth 20000 in
theorem ggX11_tick_X11_within : GoodIn wsX11_tick wsX11_within := goodIn_r _ [33] (by decide +kernel) (by decide +kernel)
set_option maxRecDepth 20000 in
theorem gX11_tick_X11_within : GoodIn wsX11_tick (va_wsS RX11 191 yX11_within wsX11_within) := goodIn_app (goodIn_of _ (by decide +kernel)) ggX11_tick_X11_within
set_option maxRecDepth 20000 in
theorem ggX11_tick_X11_amount : GoodIn wsX11_tick wsX11_amount := goodIn_r _ [44] (by decide +kernel) (by decide +kernel)
set_option maxRecDepth 20000 in
theorem gX11_tick_X11_amount : GoodIn wsX11_tick (va_wsS RX11 224 yX11_amount wsX11_amount) := goodIn_app (goodIn_of _ (by decide +kernel)) ggX11_tick_X11_amount
theorem dX11_tick_0 : decode cX11_tick 0 = .ok (.iconst 0, 1) := by decide +kernel
theorem dX11_tick_1 : decode cX11_tick 1 = .ok (.istore_n 3, 1) := by decide +kernel
theorem dX11_tick_2 : decode cX11_tick 2 = .ok (.iload_n 3, 1) := by decide +kernel
theorem dX11_tick_3 : decode cX11_tick 3 = .ok (.aload_n 0, 1) := by decide +kernel
theorem dX11_tick_4 : decode cX11_tick 4 = .ok (.getfield 37, 3) := by decide +kernel
theorem dX11_tick_7 : decode cX11_tick 7 = .ok (.if_icmp .ge 157, 3) := by decide +kernel
theorem dX11_tick_10 : decode cX11_tick 10 = .ok (.aload_n 0, 1) := by decide +kernel
theorem dX11_tick_11 : decode cX11_tick 11 = .ok (.iload_n 2, 1) := by decide +kernel
theorem dX11_tick_12 : decode cX11_tick 12 = .ok (.iload_n 3, 1) := by decide +kernel
theorem dX11_tick_13 : decode cX11_tick 13 = .ok (.invokevirtual 230, 3) := by decide +kernel
theorem dX11_tick_16 : decode cX11_tick 16 = .ok (.aload_n 0, 1) := by decide +kernel
theorem dX11_tick_17 : decode cX11_tick 17 = .ok (.iload_n 1, 1) := by decide +kernel
theorem dX11_tick_18 : decode cX11_tick 18 = .ok (.invokevirtual 233, 3) := by decide +kernel
theorem dX11_tick_21 : decode cX11_tick 21 = .ok (.iconst 0, 1) := by decide +kernel
theorem dX11_tick_22 : decode cX11_tick 22 = .ok (.istore 4, 2) := by decide +kernel
theorem dX11_tick_24 : decode cX11_tick 24 = .ok (.iload 4, 2) := by decide +kernel
theorem dX11_tick_26 : decode cX11_tick 26 = .ok (.iconst 2, 1) := by decide +kernel
theorem dX11_tick_27 : decode cX11_tick 27 = .ok (.if_icmp .ge 131, 3) := by decide +kernel
theorem dX11_tick_30 : decode cX11_tick 30 = .ok (.aload_n 0, 1) := by decide +kernel
theorem dX11_tick_31 : decode cX11_tick 31 = .ok (.getfield 43, 3) := by decide +kernel
theorem dX11_tick_34 : decode cX11_tick 34 = .ok (.iconst 2, 1) := by decide +kernel
theorem dX11_tick_35 : decode cX11_tick 35 = .ok (.iload 4, 2) := by decide +kernel
theorem dX11_tick_37 : decode cX11_tick 37 = .ok (.iadd, 1) := by decide +kernel
theorem dX11_tick_38 : decode cX11_tick 38 = .ok (.aaload, 1) := by decide +kernel
theorem dX11_tick_39 : decode cX11_tick 39 = .ok (.iload_n 3, 1) := by decide +kernel
theorem dX11_tick_40 : decode cX11_tick 40 = .ok (.iaload, 1) := by decide +kernel
theorem dX11_tick_41 : decode cX11_tick 41 = .ok (.istore 5, 2) := by decide +kernel
theorem dX11_tick_43 : decode cX11_tick 43 = .ok (.iload 4, 2) := by decide +kernel
theorem dX11_tick_45 : decode cX11_tick 45 = .ok (.ifCond .ne 10, 3) := by decide +kernel
theorem dX11_tick_48 : decode cX11_tick 48 = .ok (.aload_n 0, 1) := by decide +kernel
theorem dX11_tick_49 : decode cX11_tick 49 = .ok (.getfield 194, 3) := by decide +kernel
theorem dX11_tick_52 : decode cX11_tick 52 = .ok (.goto 7, 3) := by decide +kernel
theorem dX11_tick_55 : decode cX11_tick 55 = .ok (.aload_n 0, 1) := by decide +kernel
theorem dX11_tick_56 : decode cX11_tick 56 = .ok (.getfield 197, 3) := by decide +kernel
theorem dX11_tick_59 : decode cX11_tick 59 = .ok (.istore 6, 2) := by decide +kernel
theorem dX11_tick_61 : decode cX11_tick 61 = .ok (.aload_n 0, 1) := by decide +kernel
theorem dX11_tick_62 : decode cX11_tick 62 = .ok (.getfield 46, 3) := by decide +kernel
theorem dX11_tick_65 : decode cX11_tick 65 = .ok (.iconst 2, 1) := by decide +kernel
theorem dX11_tick_66 : decode cX11_tick 66 = .ok (.iload 4, 2) := by decide +kernel
theorem dX11_tick_68 : decode cX11_tick 68 = .ok (.iadd, 1) := by decide +kernel
theorem dX11_tick_69 : decode cX11_tick 69 = .ok (.aaload, 1) := by decide +kernel
theorem dX11_tick_70 : decode cX11_tick 70 = .ok (.iload_n 3, 1) := by decide +kernel
theorem dX11_tick_71 : decode cX11_tick 71 = .ok (.iload 5, 2) := by decide +kernel
theorem dX11_tick_73 : decode cX11_tick 73 = .ok (.aload_n 0, 1) := by decide +kernel
theorem dX11_tick_74 : decode cX11_tick 74 = .ok (.iload 4, 2) := by decide +kernel
theorem dX11_tick_76 : decode cX11_tick 76 = .ok (.iload_n 3, 1) := by decide +kernel
theorem dX11_tick_77 : decode cX11_tick 77 = .ok (.invokevirtual 236, 3) := by decide +kernel
theorem dX11_tick_80 : decode cX11_tick 80 = .ok (.bipush 10, 2) := by decide +kernel
theorem dX11_tick_82 : decode cX11_tick 82 = .ok (.idiv, 1) := by decide +kernel
theorem dX11_tick_83 : decode cX11_tick 83 = .ok (.iload 6, 2) := by decide +kernel
theorem dX11_tick_85 : decode cX11_tick 85 = .ok (.iadd, 1) := by decide +kernel
theorem dX11_tick_86 : decode cX11_tick 86 = .ok (.aload_n 0, 1) := by decide +kernel
theorem dX11_tick_87 : decode cX11_tick 87 = .ok (.getfield 40, 3) := by decide +kernel
theorem dX11_tick_90 : decode cX11_tick 90 = .ok (.iconst 0, 1) := by decide +kernel
theorem dX11_tick_91 : decode cX11_tick 91 = .ok (.iaload, 1) := by decide +kernel
theorem dX11_tick_92 : decode cX11_tick 92 = .ok (.idiv, 1) := by decide +kernel
theorem dX11_tick_93 : decode cX11_tick 93 = .ok (.iadd, 1) := by decide +kernel
theorem dX11_tick_94 : decode cX11_tick 94 = .ok (.aload_n 0, 1) := by decide +kernel
theorem dX11_tick_95 : decode cX11_tick 95 = .ok (.getfield 40, 3) := by decide +kernel
theorem dX11_tick_98 : decode cX11_tick 98 = .ok (.iconst 4, 1) := by decide +kernel
theorem dX11_tick_99 : decode cX11_tick 99 = .ok (.iaload, 1) := by decide +kernel
theorem dX11_tick_100 : decode cX11_tick 100 = .ok (.iload 5, 2) := by decide +kernel
theorem dX11_tick_102 : decode cX11_tick 102 = .ok (.imul, 1) := by decide +kernel
theorem dX11_tick_103 : decode cX11_tick 103 = .ok (.bipush 100, 2) := by decide +kernel
theorem dX11_tick_105 : decode cX11_tick 105 = .ok (.idiv, 1) := by decide +kernel
theorem dX11_tick_106 : decode cX11_tick 106 = .ok (.isub, 1) := by decide +kernel
theorem dX11_tick_107 : decode cX11_tick 107 = .ok (.ldc 240, 2) := by decide +kernel
theorem dX11_tick_109 : decode cX11_tick 109 = .ok (.ldc 241, 2) := by decide +kernel
theorem dX11_tick_111 : decode cX11_tick 111 = .ok (.invokestatic 191, 3) := by decide +kernel
theorem dX11_tick_114 : decode cX11_tick 114 = .ok (.iastore, 1) := by decide +kernel
theorem dX11_tick_115 : decode cX11_tick 115 = .ok (.aload_n 0, 1) := by decide +kernel
theorem dX11_tick_116 : decode cX11_tick 116 = .ok (.getfield 46, 3) := by decide +kernel
theorem dX11_tick_119 : decode cX11_tick 119 = .ok (.iload 4, 2) := by decide +kernel
theorem dX11_tick_121 : decode cX11_tick 121 = .ok (.aaload, 1) := by decide +kernel
theorem dX11_tick_122 : decode cX11_tick 122 = .ok (.iload_n 3, 1) := by decide +kernel
theorem dX11_tick_123 : decode cX11_tick 123 = .ok (.aload_n 0, 1) := by decide +kernel
theorem dX11_tick_124 : decode cX11_tick 124 = .ok (.getfield 43, 3) := by decide +kernel
theorem dX11_tick_127 : decode cX11_tick 127 = .ok (.iload 4, 2) := by decide +kernel
theorem dX11_tick_129 : decode cX11_tick 129 = .ok (.aaload, 1) := by decide +kernel
theorem dX11_tick_130 : decode cX11_tick 130 = .ok (.iload_n 3, 1) := by decide +kernel
theorem dX11_tick_131 : decode cX11_tick 131 = .ok (.iaload, 1) := by decide +kernel
theorem dX11_tick_132 : decode cX11_tick 132 = .ok (.aload_n 0, 1) := by decide +kernel
theorem dX11_tick_133 : decode cX11_tick 133 = .ok (.getfield 46, 3) := by decide +kernel
theorem dX11_tick_136 : decode cX11_tick 136 = .ok (.iconst 2, 1) := by decide +kernel
theorem dX11_tick_137 : decode cX11_tick 137 = .ok (.iload 4, 2) := by decide +kernel
theorem dX11_tick_139 : decode cX11_tick 139 = .ok (.iadd, 1) := by decide +kernel
theorem dX11_tick_140 : decode cX11_tick 140 = .ok (.aaload, 1) := by decide +kernel
theorem dX11_tick_141 : decode cX11_tick 141 = .ok (.iload_n 3, 1) := by decide +kernel
theorem dX11_tick_142 : decode cX11_tick 142 = .ok (.iaload, 1) := by decide +kernel
theorem dX11_tick_143 : decode cX11_tick 143 = .ok (.iadd, 1) := by decide +kernel
theorem dX11_tick_144 : decode cX11_tick 144 = .ok (.ldc 240, 2) := by decide +kernel
theorem dX11_tick_146 : decode cX11_tick 146 = .ok (.ldc 241, 2) := by decide +kernel
theorem dX11_tick_148 : decode cX11_tick 148 = .ok (.invokestatic 191, 3) := by decide +kernel
theorem dX11_tick_151 : decode cX11_tick 151 = .ok (.iastore, 1) := by decide +kernel
theorem dX11_tick_152 : decode cX11_tick 152 = .ok (.iinc 4 1, 3) := by decide +kernel
theorem dX11_tick_155 : decode cX11_tick 155 = .ok (.goto (-131), 3) := by decide +kernel
theorem dX11_tick_158 : decode cX11_tick 158 = .ok (.iinc 3 1, 3) := by decide +kernel
theorem dX11_tick_161 : decode cX11_tick 161 = .ok (.goto (-159), 3) := by decide +kernel
theorem dX11_tick_164 : decode cX11_tick 164 = .ok (.iconst 0, 1) := by decide +kernel
theorem dX11_tick_165 : decode cX11_tick 165 = .ok (.istore_n 3, 1) := by decide +kernel
theorem dX11_tick_166 : decode cX11_tick 166 = .ok (.iload_n 3, 1) := by decide +kernel
theorem dX11_tick_167 : decode cX11_tick 167 = .ok (.aload_n 0, 1) := by decide +kernel
theorem dX11_tick_168 : decode cX11_tick 168 = .ok (.getfield 37, 3) := by decide +kernel
theorem dX11_tick_171 : decode cX11_tick 171 = .ok (.if_icmp .ge 80, 3) := by decide +kernel
theorem dX11_tick_174 : decode cX11_tick 174 = .ok (.iconst 0, 1) := by decide +kernel
theorem dX11_tick_175 : decode cX11_tick 175 = .ok (.istore 4, 2) := by decide +kernel
theorem dX11_tick_177 : decode cX11_tick 177 = .ok (.iload 4, 2) := by decide +kernel
theorem dX11_tick_179 : decode cX11_tick 179 = .ok (.iconst 4, 1) := by decide +kernel
theorem dX11_tick_180 : decode cX11_tick 180 = .ok (.if_icmp .ge 27, 3) := by decide +kernel
theorem dX11_tick_183 : decode cX11_tick 183 = .ok (.aload_n 0, 1) := by decide +kernel
theorem dX11_tick_184 : decode cX11_tick 184 = .ok (.getfield 43, 3) := by decide +kernel
theorem dX11_tick_187 : decode cX11_tick 187 = .ok (.iload 4, 2) := by decide +kernel
theorem dX11_tick_189 : decode cX11_tick 189 = .ok (.aaload, 1) := by decide +kernel
theorem dX11_tick_190 : decode cX11_tick 190 = .ok (.iload_n 3, 1) := by decide +kernel
theorem dX11_tick_191 : decode cX11_tick 191 = .ok (.aload_n 0, 1) := by decide +kernel
theorem dX11_tick_192 : decode cX11_tick 192 = .ok (.getfield 46, 3) := by decide +kernel
theorem dX11_tick_195 : decode cX11_tick 195 = .ok (.iload 4, 2) := by decide +kernel
theorem dX11_tick_197 : decode cX11_tick 197 = .ok (.aaload, 1) := by decide +kernel
theorem dX11_tick_198 : decode cX11_tick 198 = .ok (.iload_n 3, 1) := by decide +kernel
theorem dX11_tick_199 : decode cX11_tick 199 = .ok (.iaload, 1) := by decide +kernel
theorem dX11_tick_200 : decode cX11_tick 200 = .ok (.iastore, 1) := by decide +kernel
theorem dX11_tick_201 : decode cX11_tick 201 = .ok (.iinc 4 1, 3) := by decide +kernel
theorem dX11_tick_204 : decode cX11_tick 204 = .ok (.goto (-27), 3) := by decide +kernel
theorem dX11_tick_207 : decode cX11_tick 207 = .ok (.aload_n 0, 1) := by decide +kernel
theorem dX11_tick_208 : decode cX11_tick 208 = .ok (.getfield 49, 3) := by decide +kernel
theorem dX11_tick_211 : decode cX11_tick 211 = .ok (.iload_n 3, 1) := by decide +kernel
theorem dX11_tick_212 : decode cX11_tick 212 = .ok (.iaload, 1) := by decide +kernel
theorem dX11_tick_213 : decode cX11_tick 213 = .ok (.iconst 2, 1) := by decide +kernel
theorem dX11_tick_214 : decode cX11_tick 214 = .ok (.if_icmp .ne 31, 3) := by decide +kernel
theorem dX11_tick_217 : decode cX11_tick 217 = .ok (.aload_n 0, 1) := by decide +kernel
theorem dX11_tick_218 : decode cX11_tick 218 = .ok (.getfield 43, 3) := by decide +kernel
theorem dX11_tick_221 : decode cX11_tick 221 = .ok (.iconst 1, 1) := by decide +kernel
theorem dX11_tick_222 : decode cX11_tick 222 = .ok (.aaload, 1) := by decide +kernel
theorem dX11_tick_223 : decode cX11_tick 223 = .ok (.iload_n 3, 1) := by decide +kernel
theorem dX11_tick_224 : decode cX11_tick 224 = .ok (.iaload, 1) := by decide +kernel
theorem dX11_tick_225 : decode cX11_tick 225 = .ok (.invokestatic 224, 3) := by decide +kernel
theorem dX11_tick_228 : decode cX11_tick 228 = .ok (.aload_n 0, 1) := by decide +kernel
theorem dX11_tick_229 : decode cX11_tick 229 = .ok (.getfield 40, 3) := by decide +kernel
theorem dX11_tick_232 : decode cX11_tick 232 = .ok (.bipush 7, 2) := by decide +kernel
theorem dX11_tick_234 : decode cX11_tick 234 = .ok (.iaload, 1) := by decide +kernel
theorem dX11_tick_235 : decode cX11_tick 235 = .ok (.if_icmp .le 10, 3) := by decide +kernel
theorem dX11_tick_238 : decode cX11_tick 238 = .ok (.aload_n 0, 1) := by decide +kernel
theorem dX11_tick_239 : decode cX11_tick 239 = .ok (.getfield 49, 3) := by decide +kernel
theorem dX11_tick_242 : decode cX11_tick 242 = .ok (.iload_n 3, 1) := by decide +kernel
theorem dX11_tick_243 : decode cX11_tick 243 = .ok (.iconst 1, 1) := by decide +kernel
theorem dX11_tick_244 : decode cX11_tick 244 = .ok (.iastore, 1) := by decide +kernel
theorem dX11_tick_245 : decode cX11_tick 245 = .ok (.iinc 3 1, 3) := by decide +kernel
theorem dX11_tick_248 : decode cX11_tick 248 = .ok (.goto (-82), 3) := by decide +kernel
theorem dX11_tick_251 : decode cX11_tick 251 = .ok (.iconst 0, 1) := by decide +kernel
theorem dX11_tick_252 : decode cX11_tick 252 = .ok (.istore_n 3, 1) := by decide +kernel
theorem dX11_tick_253 : decode cX11_tick 253 = .ok (.iload_n 3, 1) := by decide +kernel
theorem dX11_tick_254 : decode cX11_tick 254 = .ok (.iconst 1, 1) := by decide +kernel
theorem dX11_tick_255 : decode cX11_tick 255 = .ok (.iadd, 1) := by decide +kernel
theorem dX11_tick_256 : decode cX11_tick 256 = .ok (.aload_n 0, 1) := by decide +kernel
theorem dX11_tick_257 : decode cX11_tick 257 = .ok (.getfield 37, 3) := by decide +kernel
theorem dX11_tick_260 : decode cX11_tick 260 = .ok (.if_icmp .ge 58, 3) := by decide +kernel
theorem dX11_tick_263 : decode cX11_tick 263 = .ok (.aload_n 0, 1) := by decide +kernel
theorem dX11_tick_264 : decode cX11_tick 264 = .ok (.getfield 40, 3) := by decide +kernel
theorem dX11_tick_267 : decode cX11_tick 267 = .ok (.bipush 9, 2) := by decide +kernel
theorem dX11_tick_269 : decode cX11_tick 269 = .ok (.iaload, 1) := by decide +kernel
theorem dX11_tick_270 : decode cX11_tick 270 = .ok (.ifCond .le 42, 3) := by decide +kernel
theorem dX11_tick_273 : decode cX11_tick 273 = .ok (.aload_n 0, 1) := by decide +kernel
theorem dX11_tick_274 : decode cX11_tick 274 = .ok (.getfield 43, 3) := by decide +kernel
theorem dX11_tick_277 : decode cX11_tick 277 = .ok (.iconst 1, 1) := by decide +kernel
theorem dX11_tick_278 : decode cX11_tick 278 = .ok (.aaload, 1) := by decide +kernel
theorem dX11_tick_279 : decode cX11_tick 279 = .ok (.iload_n 3, 1) := by decide +kernel
theorem dX11_tick_280 : decode cX11_tick 280 = .ok (.iaload, 1) := by decide +kernel
theorem dX11_tick_281 : decode cX11_tick 281 = .ok (.aload_n 0, 1) := by decide +kernel
theorem dX11_tick_282 : decode cX11_tick 282 = .ok (.getfield 43, 3) := by decide +kernel
theorem dX11_tick_285 : decode cX11_tick 285 = .ok (.iconst 1, 1) := by decide +kernel
theorem dX11_tick_286 : decode cX11_tick 286 = .ok (.aaload, 1) := by decide +kernel
theorem dX11_tick_287 : decode cX11_tick 287 = .ok (.iload_n 3, 1) := by decide +kernel
theorem dX11_tick_288 : decode cX11_tick 288 = .ok (.iconst 1, 1) := by decide +kernel
theorem dX11_tick_289 : decode cX11_tick 289 = .ok (.iadd, 1) := by decide +kernel
theorem dX11_tick_290 : decode cX11_tick 290 = .ok (.iaload, 1) := by decide +kernel
theorem dX11_tick_291 : decode cX11_tick 291 = .ok (.isub, 1) := by decide +kernel
theorem dX11_tick_292 : decode cX11_tick 292 = .ok (.invokestatic 224, 3) := by decide +kernel
theorem dX11_tick_295 : decode cX11_tick 295 = .ok (.aload_n 0, 1) := by decide +kernel
theorem dX11_tick_296 : decode cX11_tick 296 = .ok (.getfield 40, 3) := by decide +kernel
theorem dX11_tick_299 : decode cX11_tick 299 = .ok (.bipush 9, 2) := by decide +kernel
theorem dX11_tick_301 : decode cX11_tick 301 = .ok (.iaload, 1) := by decide +kernel
theorem dX11_tick_302 : decode cX11_tick 302 = .ok (.if_icmp .le 10, 3) := by decide +kernel
theorem dX11_tick_305 : decode cX11_tick 305 = .ok (.aload_n 0, 1) := by decide +kernel
theorem dX11_tick_306 : decode cX11_tick 306 = .ok (.getfield 52, 3) := by decide +kernel
theorem dX11_tick_309 : decode cX11_tick 309 = .ok (.iload_n 3, 1) := by decide +kernel
theorem dX11_tick_310 : decode cX11_tick 310 = .ok (.iconst 1, 1) := by decide +kernel
theorem dX11_tick_311 : decode cX11_tick 311 = .ok (.bastore, 1) := by decide +kernel
theorem dX11_tick_312 : decode cX11_tick 312 = .ok (.iinc 3 1, 3) := by decide +kernel
theorem dX11_tick_315 : decode cX11_tick 315 = .ok (.goto (-62), 3) := by decide +kernel
theorem dX11_tick_318 : decode cX11_tick 318 = .ok (.aload_n 0, 1) := by decide +kernel
theorem dX11_tick_319 : decode cX11_tick 319 = .ok (.dup, 1) := by decide +kernel
theorem dX11_tick_320 : decode cX11_tick 320 = .ok (.getfield 200, 3) := by decide +kernel
theorem dX11_tick_323 : decode cX11_tick 323 = .ok (.iconst 1, 1) := by decide +kernel
theorem dX11_tick_324 : decode cX11_tick 324 = .ok (.iadd, 1) := by decide +kernel
theorem dX11_tick_325 : decode cX11_tick 325 = .ok (.putfield 200, 3) := by decide +kernel
theorem dX11_tick_328 : decode cX11_tick 328 = .ok (.return_, 1) := by decide +kernel
set_option maxRecDepth 20000 in
theorem ggX11_isLaw_X11_in : GoodIn wsX11_isLaw wsX11_in := goodIn_r _ [5] (by decide +kernel) (by decide +kernel)
set_option maxRecDepth 20000 in
theorem gX11_isLaw_X11_in : GoodIn wsX11_isLaw (va_wsS RX11 172 yX11_in wsX11_in) := goodIn_app (goodIn_of _ (by decide +kernel)) ggX11_isLaw_X11_in
theorem dX11_isLaw_0 : decode cX11_isLaw 0 = .ok (.iload_n 1, 1) := by decide +kernel
theorem dX11_isLaw_1 : decode cX11_isLaw 1 = .ok (.iconst 0, 1) := by decide +kernel
theorem dX11_isLaw_2 : decode cX11_isLaw 2 = .ok (.aload_n 0, 1) := by decide +kernel
theorem dX11_isLaw_3 : decode cX11_isLaw 3 = .ok (.getfield 180, 3) := by decide +kernel
theorem dX11_isLaw_6 : decode cX11_isLaw 6 = .ok (.iconst 1, 1) := by decide +kernel
theorem dX11_isLaw_7 : decode cX11_isLaw 7 = .ok (.isub, 1) := by decide +kernel
theorem dX11_isLaw_8 : decode cX11_isLaw 8 = .ok (.invokestatic 172, 3) := by decide +kernel
theorem dX11_isLaw_11 : decode cX11_isLaw 11 = .ok (.ireturn, 1) := by decide +kernel
set_option maxRecDepth 20000 in
theorem ggX11_go_X11_isLaw : GoodIn wsX11_go wsX11_isLaw := goodIn_r _ [6, 7, 8, 9, 5, 10, 66, 67, 68, 69, 70, 71, 72, 73, 74, 75, 76, 77, 78, 79, 80, 81, 82, 83, 84, 85, 86, 87, 88, 89, 90, 91, 92, 93, 94, 95, 96, 97, 98, 99, 100, 101, 102, 103, 104, 105, 106, 107] (by decide +kernel) (by decide +kernel)
set_option maxRecDepth 20000 in
theorem gX11_go_X11_isLaw : GoodIn wsX11_go (wsV RX11 242 RX11 yX11_isLaw wsX11_isLaw) := goodIn_app (goodIn_of _ (by decide +kernel)) ggX11_go_X11_isLaw
set_option maxRecDepth 20000 in
theorem ggX11_go_X11_bad : GoodIn wsX11_go wsX11_bad := goodIn_r _ [14, 1, 66, 67, 68, 69, 70, 71, 72, 73, 74, 75, 76, 77, 78, 79, 80, 81, 82, 83, 84, 85, 86, 87, 88, 89, 90, 91, 92, 93, 94, 95, 96, 97, 98, 99, 100, 101, 102, 103, 104, 105, 106, 107] (by decide +kernel) (by decide +kernel)
set_option maxRecDepth 20000 in
theorem gX11_go_X11_bad : GoodIn wsX11_go (wsV RX11 176 RX11 yX11_bad wsX11_bad) := goodIn_app (goodIn_of _ (by decide +kernel)) ggX11_go_X11_bad
set_option maxRecDepth 20000 in
theorem ggX11_go_X11_in : GoodIn wsX11_go wsX11_in := goodIn_r _ [10] (by decide +kernel) (by decide +kernel)
set_option maxRecDepth 20000 in
theorem gX11_go_X11_in : GoodIn wsX11_go (va_wsS RX11 172 yX11_in wsX11_in) := goodIn_app (goodIn_of _ (by decide +kernel)) ggX11_go_X11_in
set_option maxRecDepth 20000 in
theorem ggX11_go_X11_tick : GoodIn wsX11_go wsX11_tick := goodIn_r _ [18, 19, 20, 21, 22, 23, 24, 25, 26, 27, 28, 29, 30, 31, 32, 5, 33, 34, 35, 36, 37, 38, 39, 40, 41, 42, 43, 44, 45, 46, 47, 48, 49, 50, 51, 52, 53, 54, 55, 56, 57, 58, 59, 60, 61, 66, 67, 68, 69, 70, 71, 72, 73, 74, 75, 76, 77, 78, 79, 80, 81, 82, 83, 84, 85, 86, 87, 88, 89, 90, 91, 92, 93, 94, 95, 96, 97, 98, 99, 100, 101, 102, 103, 104, 105, 106, 107] (by decide +kernel) (by decide +kernel)
set_option maxRecDepth 20000 in
theorem gX11_go_X11_tick : GoodIn wsX11_go (wsV RX11 245 RX11 yX11_tick wsX11_tick) := goodIn_app (goodIn_of _ (by decide +kernel)) ggX11_go_X11_tick
set_option maxRecDepth 20000 in
theorem ggX11_go_X11_sizeOf : GoodIn wsX11_go wsX11_sizeOf := goodIn_r _ [65, 19, 20, 59, 60, 5, 61, 66, 67, 68, 69, 70, 71, 72, 73, 74, 75, 76, 77, 78, 79, 80, 81, 82, 83, 84, 85, 86, 87, 88, 89, 90, 91, 92, 93, 94, 95, 96, 97, 98, 99, 100, 101, 102, 103, 104, 105, 106, 107] (by decide +kernel) (by decide +kernel)
set_option maxRecDepth 20000 in
theorem gX11_go_X11_sizeOf : GoodIn wsX11_go (wsV RX11 221 RX11 yX11_sizeOf wsX11_sizeOf) := goodIn_app (goodIn_of _ (by decide +kernel)) ggX11_go_X11_sizeOf
theorem dX11_go_0 : decode cX11_go 0 = .ok (.aload_n 0, 1) := by decide +kernel
theorem dX11_go_1 : decode cX11_go 1 = .ok (.iconst 0, 1) := by decide +kernel
theorem dX11_go_2 : decode cX11_go 2 = .ok (.putfield 83, 3) := by decide +kernel
theorem dX11_go_5 : decode cX11_go 5 = .ok (.aload_n 0, 1) := by decide +kernel
theorem dX11_go_6 : decode cX11_go 6 = .ok (.aload_n 0, 1) := by decide +kernel
theorem dX11_go_7 : decode cX11_go 7 = .ok (.iload_n 1, 1) := by decide +kernel
theorem dX11_go_8 : decode cX11_go 8 = .ok (.invokevirtual 242, 3) := by decide +kernel
theorem dX11_go_11 : decode cX11_go 11 = .ok (.ifCond .ne 7, 3) := by decide +kernel
theorem dX11_go_14 : decode cX11_go 14 = .ok (.iconst 1, 1) := by decide +kernel
theorem dX11_go_15 : decode cX11_go 15 = .ok (.goto 4, 3) := by decide +kernel
theorem dX11_go_18 : decode cX11_go 18 = .ok (.iconst 0, 1) := by decide +kernel
theorem dX11_go_19 : decode cX11_go 19 = .ok (.iconst 1, 1) := by decide +kernel
theorem dX11_go_20 : decode cX11_go 20 = .ok (.invokevirtual 176, 3) := by decide +kernel
theorem dX11_go_23 : decode cX11_go 23 = .ok (.ifCond .ne 36, 3) := by decide +kernel
theorem dX11_go_26 : decode cX11_go 26 = .ok (.aload_n 0, 1) := by decide +kernel
theorem dX11_go_27 : decode cX11_go 27 = .ok (.iload_n 3, 1) := by decide +kernel
theorem dX11_go_28 : decode cX11_go 28 = .ok (.iconst 0, 1) := by decide +kernel
theorem dX11_go_29 : decode cX11_go 29 = .ok (.bipush 100, 2) := by decide +kernel
theorem dX11_go_31 : decode cX11_go 31 = .ok (.invokestatic 172, 3) := by decide +kernel
theorem dX11_go_34 : decode cX11_go 34 = .ok (.ifCond .eq 13, 3) := by decide +kernel
theorem dX11_go_37 : decode cX11_go 37 = .ok (.iload_n 2, 1) := by decide +kernel
theorem dX11_go_38 : decode cX11_go 38 = .ok (.iconst 0, 1) := by decide +kernel
theorem dX11_go_39 : decode cX11_go 39 = .ok (.bipush 99, 2) := by decide +kernel
theorem dX11_go_41 : decode cX11_go 41 = .ok (.invokestatic 172, 3) := by decide +kernel
theorem dX11_go_44 : decode cX11_go 44 = .ok (.ifCond .ne 7, 3) := by decide +kernel
theorem dX11_go_47 : decode cX11_go 47 = .ok (.iconst 1, 1) := by decide +kernel
theorem dX11_go_48 : decode cX11_go 48 = .ok (.goto 4, 3) := by decide +kernel
theorem dX11_go_51 : decode cX11_go 51 = .ok (.iconst 0, 1) := by decide +kernel
theorem dX11_go_52 : decode cX11_go 52 = .ok (.iconst 2, 1) := by decide +kernel
theorem dX11_go_53 : decode cX11_go 53 = .ok (.invokevirtual 176, 3) := by decide +kernel
theorem dX11_go_56 : decode cX11_go 56 = .ok (.ifCond .eq 5, 3) := by decide +kernel
theorem dX11_go_59 : decode cX11_go 59 = .ok (.iconst 0, 1) := by decide +kernel
theorem dX11_go_60 : decode cX11_go 60 = .ok (.ireturn, 1) := by decide +kernel
theorem dX11_go_61 : decode cX11_go 61 = .ok (.iconst 0, 1) := by decide +kernel
theorem dX11_go_62 : decode cX11_go 62 = .ok (.istore 4, 2) := by decide +kernel
theorem dX11_go_64 : decode cX11_go 64 = .ok (.iload 4, 2) := by decide +kernel
theorem dX11_go_66 : decode cX11_go 66 = .ok (.iload_n 3, 1) := by decide +kernel
theorem dX11_go_67 : decode cX11_go 67 = .ok (.if_icmp .ge 15, 3) := by decide +kernel
theorem dX11_go_70 : decode cX11_go 70 = .ok (.aload_n 0, 1) := by decide +kernel
theorem dX11_go_71 : decode cX11_go 71 = .ok (.iload_n 1, 1) := by decide +kernel
theorem dX11_go_72 : decode cX11_go 72 = .ok (.iload_n 2, 1) := by decide +kernel
theorem dX11_go_73 : decode cX11_go 73 = .ok (.invokevirtual 245, 3) := by decide +kernel
theorem dX11_go_76 : decode cX11_go 76 = .ok (.iinc 4 1, 3) := by decide +kernel
theorem dX11_go_79 : decode cX11_go 79 = .ok (.goto (-15), 3) := by decide +kernel
theorem dX11_go_82 : decode cX11_go 82 = .ok (.aload_n 0, 1) := by decide +kernel
theorem dX11_go_83 : decode cX11_go 83 = .ok (.iconst 1, 1) := by decide +kernel
theorem dX11_go_84 : decode cX11_go 84 = .ok (.invokevirtual 221, 3) := by decide +kernel
theorem dX11_go_87 : decode cX11_go 87 = .ok (.ireturn, 1) := by decide +kernel
set_option maxRecDepth 20000 in
theorem ggX11_piece_X11_isPiece : GoodIn wsX11_piece wsX11_isPiece := goodIn_r _ [10, 4, 11, 12, 9, 13, 18, 19, 20, 21, 22, 23, 24, 25, 26, 27, 28, 29, 30, 31, 32, 33, 34, 35, 36, 37, 38, 39, 40, 41, 42, 43, 44, 45, 46, 47, 48, 49, 50, 51, 52, 53, 54, 55, 56, 57, 58, 59] (by decide +kernel) (by decide +kernel)
set_option maxRecDepth 20000 in
theorem gX11_piece_X11_isPiece : GoodIn wsX11_piece (wsV RX11 210 RX11 yX11_isPiece wsX11_isPiece) := goodIn_app (goodIn_of _ (by decide +kernel)) ggX11_piece_X11_isPiece
set_option maxRecDepth 20000 in
theorem ggX11_piece_X11_bad : GoodIn wsX11_piece wsX11_bad := goodIn_r _ [17, 1, 18, 19, 20, 21, 22, 23, 24, 25, 26, 27, 28, 29, 30, 31, 32, 33, 34, 35, 36, 37, 38, 39, 40, 41, 42, 43, 44, 45, 46, 47, 48, 49, 50, 51, 52, 53, 54, 55, 56, 57, 58, 59] (by decide +kernel) (by decide +kernel)
set_option maxRecDepth 20000 in
theorem gX11_piece_X11_bad : GoodIn wsX11_piece (wsV RX11 176 RX11 yX11_bad wsX11_bad) := goodIn_app (goodIn_of _ (by decide +kernel)) ggX11_piece_X11_bad
set_option maxRecDepth 20000 in
theorem ggX11_piece_X11_in : GoodIn wsX11_piece wsX11_in := goodIn_r _ [13] (by decide +kernel) (by decide +kernel)
set_option maxRecDepth 20000 in
theorem gX11_piece_X11_in : GoodIn wsX11_piece (va_wsS RX11 172 yX11_in wsX11_in) := goodIn_app (goodIn_of _ (by decide +kernel)) ggX11_piece_X11_in
theorem dX11_piece_0 : decode cX11_piece 0 = .ok (.aload_n 0, 1) := by decide +kernel
theorem dX11_piece_1 : decode cX11_piece 1 = .ok (.iconst 0, 1) := by decide +kernel
theorem dX11_piece_2 : decode cX11_piece 2 = .ok (.putfield 83, 3) := by decide +kernel
theorem dX11_piece_5 : decode cX11_piece 5 = .ok (.aload_n 0, 1) := by decide +kernel
theorem dX11_piece_6 : decode cX11_piece 6 = .ok (.aload_n 0, 1) := by decide +kernel
theorem dX11_piece_7 : decode cX11_piece 7 = .ok (.iload_n 1, 1) := by decide +kernel
theorem dX11_piece_8 : decode cX11_piece 8 = .ok (.invokevirtual 210, 3) := by decide +kernel
theorem dX11_piece_11 : decode cX11_piece 11 = .ok (.ifCond .ne 7, 3) := by decide +kernel
theorem dX11_piece_14 : decode cX11_piece 14 = .ok (.iconst 1, 1) := by decide +kernel
theorem dX11_piece_15 : decode cX11_piece 15 = .ok (.goto 4, 3) := by decide +kernel
theorem dX11_piece_18 : decode cX11_piece 18 = .ok (.iconst 0, 1) := by decide +kernel
theorem dX11_piece_19 : decode cX11_piece 19 = .ok (.iconst 1, 1) := by decide +kernel
theorem dX11_piece_20 : decode cX11_piece 20 = .ok (.invokevirtual 176, 3) := by decide +kernel
theorem dX11_piece_23 : decode cX11_piece 23 = .ok (.ifCond .ne 25, 3) := by decide +kernel
theorem dX11_piece_26 : decode cX11_piece 26 = .ok (.aload_n 0, 1) := by decide +kernel
theorem dX11_piece_27 : decode cX11_piece 27 = .ok (.iload_n 2, 1) := by decide +kernel
theorem dX11_piece_28 : decode cX11_piece 28 = .ok (.iconst 0, 1) := by decide +kernel
theorem dX11_piece_29 : decode cX11_piece 29 = .ok (.iconst 5, 1) := by decide +kernel
theorem dX11_piece_30 : decode cX11_piece 30 = .ok (.invokestatic 172, 3) := by decide +kernel
theorem dX11_piece_33 : decode cX11_piece 33 = .ok (.ifCond .ne 7, 3) := by decide +kernel
theorem dX11_piece_36 : decode cX11_piece 36 = .ok (.iconst 1, 1) := by decide +kernel
theorem dX11_piece_37 : decode cX11_piece 37 = .ok (.goto 4, 3) := by decide +kernel
theorem dX11_piece_40 : decode cX11_piece 40 = .ok (.iconst 0, 1) := by decide +kernel
theorem dX11_piece_41 : decode cX11_piece 41 = .ok (.iconst 2, 1) := by decide +kernel
theorem dX11_piece_42 : decode cX11_piece 42 = .ok (.invokevirtual 176, 3) := by decide +kernel
theorem dX11_piece_45 : decode cX11_piece 45 = .ok (.ifCond .eq 5, 3) := by decide +kernel
theorem dX11_piece_48 : decode cX11_piece 48 = .ok (.iconst 0, 1) := by decide +kernel
theorem dX11_piece_49 : decode cX11_piece 49 = .ok (.ireturn, 1) := by decide +kernel
theorem dX11_piece_50 : decode cX11_piece 50 = .ok (.iload_n 2, 1) := by decide +kernel
theorem dX11_piece_51 : decode cX11_piece 51 = .ok (.iconst 4, 1) := by decide +kernel
theorem dX11_piece_52 : decode cX11_piece 52 = .ok (.if_icmp .ge 14, 3) := by decide +kernel
theorem dX11_piece_55 : decode cX11_piece 55 = .ok (.aload_n 0, 1) := by decide +kernel
theorem dX11_piece_56 : decode cX11_piece 56 = .ok (.getfield 43, 3) := by decide +kernel
theorem dX11_piece_59 : decode cX11_piece 59 = .ok (.iload_n 2, 1) := by decide +kernel
theorem dX11_piece_60 : decode cX11_piece 60 = .ok (.aaload, 1) := by decide +kernel
theorem dX11_piece_61 : decode cX11_piece 61 = .ok (.iload_n 1, 1) := by decide +kernel
theorem dX11_piece_62 : decode cX11_piece 62 = .ok (.iaload, 1) := by decide +kernel
theorem dX11_piece_63 : decode cX11_piece 63 = .ok (.goto 41, 3) := by decide +kernel
theorem dX11_piece_66 : decode cX11_piece 66 = .ok (.iload_n 2, 1) := by decide +kernel
theorem dX11_piece_67 : decode cX11_piece 67 = .ok (.iconst 4, 1) := by decide +kernel
theorem dX11_piece_68 : decode cX11_piece 68 = .ok (.if_icmp .ne 12, 3) := by decide +kernel
theorem dX11_piece_71 : decode cX11_piece 71 = .ok (.aload_n 0, 1) := by decide +kernel
theorem dX11_piece_72 : decode cX11_piece 72 = .ok (.getfield 49, 3) := by decide +kernel
theorem dX11_piece_75 : decode cX11_piece 75 = .ok (.iload_n 1, 1) := by decide +kernel
theorem dX11_piece_76 : decode cX11_piece 76 = .ok (.iaload, 1) := by decide +kernel
theorem dX11_piece_77 : decode cX11_piece 77 = .ok (.goto 27, 3) := by decide +kernel
theorem dX11_piece_80 : decode cX11_piece 80 = .ok (.iload_n 1, 1) := by decide +kernel
theorem dX11_piece_81 : decode cX11_piece 81 = .ok (.iconst 1, 1) := by decide +kernel
theorem dX11_piece_82 : decode cX11_piece 82 = .ok (.iadd, 1) := by decide +kernel
theorem dX11_piece_83 : decode cX11_piece 83 = .ok (.aload_n 0, 1) := by decide +kernel
theorem dX11_piece_84 : decode cX11_piece 84 = .ok (.getfield 37, 3) := by decide +kernel
theorem dX11_piece_87 : decode cX11_piece 87 = .ok (.if_icmp .ge 16, 3) := by decide +kernel
theorem dX11_piece_90 : decode cX11_piece 90 = .ok (.aload_n 0, 1) := by decide +kernel
theorem dX11_piece_91 : decode cX11_piece 91 = .ok (.getfield 52, 3) := by decide +kernel
theorem dX11_piece_94 : decode cX11_piece 94 = .ok (.iload_n 1, 1) := by decide +kernel
theorem dX11_piece_95 : decode cX11_piece 95 = .ok (.baload, 1) := by decide +kernel
theorem dX11_piece_96 : decode cX11_piece 96 = .ok (.ifCond .eq 7, 3) := by decide +kernel
theorem dX11_piece_99 : decode cX11_piece 99 = .ok (.iconst 1, 1) := by decide +kernel
theorem dX11_piece_100 : decode cX11_piece 100 = .ok (.goto 4, 3) := by decide +kernel
theorem dX11_piece_103 : decode cX11_piece 103 = .ok (.iconst 0, 1) := by decide +kernel
theorem dX11_piece_104 : decode cX11_piece 104 = .ok (.ireturn, 1) := by decide +kernel
set_option maxRecDepth 20000 in
theorem ggX11_push_X11_isLaw : GoodIn wsX11_push wsX11_isLaw := goodIn_r _ [8, 9, 10, 11, 7, 12, 46, 47, 48, 49, 50, 51, 52, 53, 54, 55, 56, 57, 58, 59, 60, 61, 62, 63, 64, 65, 66, 67, 68, 69, 70, 71, 72, 73, 74, 75, 76, 77, 78, 79, 80, 81, 82, 83, 84, 85, 86, 87] (by decide +kernel) (by decide +kernel)
set_option maxRecDepth 20000 in
theorem gX11_push_X11_isLaw : GoodIn wsX11_push (wsV RX11 242 RX11 yX11_isLaw wsX11_isLaw) := goodIn_app (goodIn_of _ (by decide +kernel)) ggX11_push_X11_isLaw
set_option maxRecDepth 20000 in
theorem ggX11_push_X11_bad : GoodIn wsX11_push wsX11_bad := goodIn_r _ [16, 1, 46, 47, 48, 49, 50, 51, 52, 53, 54, 55, 56, 57, 58, 59, 60, 61, 62, 63, 64, 65, 66, 67, 68, 69, 70, 71, 72, 73, 74, 75, 76, 77, 78, 79, 80, 81, 82, 83, 84, 85, 86, 87] (by decide +kernel) (by decide +kernel)
set_option maxRecDepth 20000 in
theorem gX11_push_X11_bad : GoodIn wsX11_push (wsV RX11 176 RX11 yX11_bad wsX11_bad) := goodIn_app (goodIn_of _ (by decide +kernel)) ggX11_push_X11_bad
set_option maxRecDepth 20000 in
theorem ggX11_push_X11_isPiece : GoodIn wsX11_push wsX11_isPiece := goodIn_r _ [20, 21, 10, 11, 7, 12, 46, 47, 48, 49, 50, 51, 52, 53, 54, 55, 56, 57, 58, 59, 60, 61, 62, 63, 64, 65, 66, 67, 68, 69, 70, 71, 72, 73, 74, 75, 76, 77, 78, 79, 80, 81, 82, 83, 84, 85, 86, 87] (by decide +kernel) (by decide +kernel)
set_option maxRecDepth 20000 in
theorem gX11_push_X11_isPiece : GoodIn wsX11_push (wsV RX11 210 RX11 yX11_isPiece wsX11_isPiece) := goodIn_app (goodIn_of _ (by decide +kernel)) ggX11_push_X11_isPiece

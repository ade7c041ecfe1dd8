theorem dX6_init_0 : decode cX6_init 0 = .ok (.aload_n 0, 1) := by decide +kernel
theorem dX6_init_1 : decode cX6_init 1 = .ok (.invokespecial 1, 3) := by decide +kernel
theorem dX6_init_4 : decode cX6_init 4 = .ok (.aload_n 0, 1) := by decide +kernel
theorem dX6_init_5 : decode cX6_init 5 = .ok (.bipush 16, 2) := by decide +kernel
theorem dX6_init_7 : decode cX6_init 7 = .ok (.newarray .int, 2) := by decide +kernel
theorem dX6_init_9 : decode cX6_init 9 = .ok (.putfield 7, 3) := by decide +kernel
theorem dX6_init_12 : decode cX6_init 12 = .ok (.aload_n 0, 1) := by decide +kernel
theorem dX6_init_13 : decode cX6_init 13 = .ok (.bipush 16, 2) := by decide +kernel
theorem dX6_init_15 : decode cX6_init 15 = .ok (.newarray .int, 2) := by decide +kernel
theorem dX6_init_17 : decode cX6_init 17 = .ok (.putfield 13, 3) := by decide +kernel
theorem dX6_init_20 : decode cX6_init 20 = .ok (.aload_n 0, 1) := by decide +kernel
theorem dX6_init_21 : decode cX6_init 21 = .ok (.bipush 48, 2) := by decide +kernel
theorem dX6_init_23 : decode cX6_init 23 = .ok (.newarray .int, 2) := by decide +kernel
theorem dX6_init_25 : decode cX6_init 25 = .ok (.putfield 16, 3) := by decide +kernel
theorem dX6_init_28 : decode cX6_init 28 = .ok (.aload_n 0, 1) := by decide +kernel
theorem dX6_init_29 : decode cX6_init 29 = .ok (.iconst 3, 1) := by decide +kernel
theorem dX6_init_30 : decode cX6_init 30 = .ok (.newarray .boolean, 2) := by decide +kernel
theorem dX6_init_32 : decode cX6_init 32 = .ok (.putfield 19, 3) := by decide +kernel
theorem dX6_init_35 : decode cX6_init 35 = .ok (.aload_n 0, 1) := by decide +kernel
theorem dX6_init_36 : decode cX6_init 36 = .ok (.bipush 9, 2) := by decide +kernel
theorem dX6_init_38 : decode cX6_init 38 = .ok (.newarray .int, 2) := by decide +kernel
theorem dX6_init_40 : decode cX6_init 40 = .ok (.putfield 23, 3) := by decide +kernel
theorem dX6_init_43 : decode cX6_init 43 = .ok (.aload_n 0, 1) := by decide +kernel
theorem dX6_init_44 : decode cX6_init 44 = .ok (.iconst 3, 1) := by decide +kernel
theorem dX6_init_45 : decode cX6_init 45 = .ok (.newarray .int, 2) := by decide +kernel
theorem dX6_init_47 : decode cX6_init 47 = .ok (.putfield 26, 3) := by decide +kernel
theorem dX6_init_50 : decode cX6_init 50 = .ok (.aload_n 0, 1) := by decide +kernel
theorem dX6_init_51 : decode cX6_init 51 = .ok (.iconst 3, 1) := by decide +kernel
theorem dX6_init_52 : decode cX6_init 52 = .ok (.newarray .int, 2) := by decide +kernel
theorem dX6_init_54 : decode cX6_init 54 = .ok (.putfield 29, 3) := by decide +kernel
theorem dX6_init_57 : decode cX6_init 57 = .ok (.aload_n 0, 1) := by decide +kernel
theorem dX6_init_58 : decode cX6_init 58 = .ok (.iconst 1, 1) := by decide +kernel
theorem dX6_init_59 : decode cX6_init 59 = .ok (.putfield 32, 3) := by decide +kernel
theorem dX6_init_62 : decode cX6_init 62 = .ok (.aload_n 0, 1) := by decide +kernel
theorem dX6_init_63 : decode cX6_init 63 = .ok (.bipush 16, 2) := by decide +kernel
theorem dX6_init_65 : decode cX6_init 65 = .ok (.newarray .int, 2) := by decide +kernel
theorem dX6_init_67 : decode cX6_init 67 = .ok (.putfield 36, 3) := by decide +kernel
theorem dX6_init_70 : decode cX6_init 70 = .ok (.return_, 1) := by decide +kernel
theorem dX6_within_0 : decode cX6_within 0 = .ok (.iload_n 0, 1) := by decide +kernel
theorem dX6_within_1 : decode cX6_within 1 = .ok (.iload_n 1, 1) := by decide +kernel
theorem dX6_within_2 : decode cX6_within 2 = .ok (.if_icmp .lt 12, 3) := by decide +kernel
theorem dX6_within_5 : decode cX6_within 5 = .ok (.iload_n 0, 1) := by decide +kernel
theorem dX6_within_6 : decode cX6_within 6 = .ok (.iload_n 2, 1) := by decide +kernel
theorem dX6_within_7 : decode cX6_within 7 = .ok (.if_icmp .gt 7, 3) := by decide +kernel
theorem dX6_within_10 : decode cX6_within 10 = .ok (.iconst 1, 1) := by decide +kernel
theorem dX6_within_11 : decode cX6_within 11 = .ok (.goto 4, 3) := by decide +kernel
theorem dX6_within_14 : decode cX6_within 14 = .ok (.iconst 0, 1) := by decide +kernel
theorem dX6_within_15 : decode cX6_within 15 = .ok (.ireturn, 1) := by decide +kernel
theorem dX6_side_0 : decode cX6_side 0 = .ok (.aload_n 0, 1) := by decide +kernel
theorem dX6_side_1 : decode cX6_side 1 = .ok (.getfield 7, 3) := by decide +kernel
theorem dX6_side_4 : decode cX6_side 4 = .ok (.iload_n 2, 1) := by decide +kernel
theorem dX6_side_5 : decode cX6_side 5 = .ok (.iaload, 1) := by decide +kernel
theorem dX6_side_6 : decode cX6_side 6 = .ok (.aload_n 0, 1) := by decide +kernel
theorem dX6_side_7 : decode cX6_side 7 = .ok (.getfield 7, 3) := by decide +kernel
theorem dX6_side_10 : decode cX6_side 10 = .ok (.iload_n 1, 1) := by decide +kernel
theorem dX6_side_11 : decode cX6_side 11 = .ok (.iaload, 1) := by decide +kernel
theorem dX6_side_12 : decode cX6_side 12 = .ok (.isub, 1) := by decide +kernel
theorem dX6_side_13 : decode cX6_side 13 = .ok (.i2l, 1) := by decide +kernel
theorem dX6_side_14 : decode cX6_side 14 = .ok (.iload 4, 2) := by decide +kernel
theorem dX6_side_16 : decode cX6_side 16 = .ok (.aload_n 0, 1) := by decide +kernel
theorem dX6_side_17 : decode cX6_side 17 = .ok (.getfield 13, 3) := by decide +kernel
theorem dX6_side_20 : decode cX6_side 20 = .ok (.iload_n 1, 1) := by decide +kernel
theorem dX6_side_21 : decode cX6_side 21 = .ok (.iaload, 1) := by decide +kernel
theorem dX6_side_22 : decode cX6_side 22 = .ok (.isub, 1) := by decide +kernel
theorem dX6_side_23 : decode cX6_side 23 = .ok (.i2l, 1) := by decide +kernel
theorem dX6_side_24 : decode cX6_side 24 = .ok (.lmul, 1) := by decide +kernel
theorem dX6_side_25 : decode cX6_side 25 = .ok (.lstore 5, 2) := by decide +kernel
theorem dX6_side_27 : decode cX6_side 27 = .ok (.aload_n 0, 1) := by decide +kernel
theorem dX6_side_28 : decode cX6_side 28 = .ok (.getfield 13, 3) := by decide +kernel
theorem dX6_side_31 : decode cX6_side 31 = .ok (.iload_n 2, 1) := by decide +kernel
theorem dX6_side_32 : decode cX6_side 32 = .ok (.iaload, 1) := by decide +kernel
theorem dX6_side_33 : decode cX6_side 33 = .ok (.aload_n 0, 1) := by decide +kernel
theorem dX6_side_34 : decode cX6_side 34 = .ok (.getfield 13, 3) := by decide +kernel
theorem dX6_side_37 : decode cX6_side 37 = .ok (.iload_n 1, 1) := by decide +kernel
theorem dX6_side_38 : decode cX6_side 38 = .ok (.iaload, 1) := by decide +kernel
theorem dX6_side_39 : decode cX6_side 39 = .ok (.isub, 1) := by decide +kernel
theorem dX6_side_40 : decode cX6_side 40 = .ok (.i2l, 1) := by decide +kernel
theorem dX6_side_41 : decode cX6_side 41 = .ok (.iload_n 3, 1) := by decide +kernel
theorem dX6_side_42 : decode cX6_side 42 = .ok (.aload_n 0, 1) := by decide +kernel
theorem dX6_side_43 : decode cX6_side 43 = .ok (.getfield 7, 3) := by decide +kernel
theorem dX6_side_46 : decode cX6_side 46 = .ok (.iload_n 1, 1) := by decide +kernel
theorem dX6_side_47 : decode cX6_side 47 = .ok (.iaload, 1) := by decide +kernel
theorem dX6_side_48 : decode cX6_side 48 = .ok (.isub, 1) := by decide +kernel
theorem dX6_side_49 : decode cX6_side 49 = .ok (.i2l, 1) := by decide +kernel
theorem dX6_side_50 : decode cX6_side 50 = .ok (.lmul, 1) := by decide +kernel
theorem dX6_side_51 : decode cX6_side 51 = .ok (.lstore 7, 2) := by decide +kernel
theorem dX6_side_53 : decode cX6_side 53 = .ok (.lload 5, 2) := by decide +kernel
theorem dX6_side_55 : decode cX6_side 55 = .ok (.lload 7, 2) := by decide +kernel
theorem dX6_side_57 : decode cX6_side 57 = .ok (.lsub, 1) := by decide +kernel
theorem dX6_side_58 : decode cX6_side 58 = .ok (.lreturn, 1) := by decide +kernel
set_option maxRecDepth 20000 in
theorem ggX6_clearOf_X6_side : GoodIn wsX6_clearOf wsX6_side := goodIn_r _ [7, 1, 2, 8, 9, 10, 11, 12, 13, 14, 15, 16, 17, 18, 19, 20, 21, 22, 23, 24, 25, 26, 27, 28, 29, 30] (by decide +kernel) (by decide +kernel)
set_option maxRecDepth 20000 in
theorem gX6_clearOf_X6_side : GoodIn wsX6_clearOf (wsV RX6 39 RX6 yX6_side wsX6_side) := goodIn_app (goodIn_of _ (by decide +kernel)) ggX6_clearOf_X6_side
theorem dX6_clearOf_0 : decode cX6_clearOf 0 = .ok (.aload_n 0, 1) := by decide +kernel
theorem dX6_clearOf_1 : decode cX6_clearOf 1 = .ok (.iload_n 1, 1) := by decide +kernel
theorem dX6_clearOf_2 : decode cX6_clearOf 2 = .ok (.iload_n 2, 1) := by decide +kernel
theorem dX6_clearOf_3 : decode cX6_clearOf 3 = .ok (.iload_n 3, 1) := by decide +kernel
theorem dX6_clearOf_4 : decode cX6_clearOf 4 = .ok (.iload 4, 2) := by decide +kernel
theorem dX6_clearOf_6 : decode cX6_clearOf 6 = .ok (.invokevirtual 39, 3) := by decide +kernel
theorem dX6_clearOf_9 : decode cX6_clearOf 9 = .ok (.lstore 7, 2) := by decide +kernel
theorem dX6_clearOf_11 : decode cX6_clearOf 11 = .ok (.aload_n 0, 1) := by decide +kernel
theorem dX6_clearOf_12 : decode cX6_clearOf 12 = .ok (.getfield 7, 3) := by decide +kernel
theorem dX6_clearOf_15 : decode cX6_clearOf 15 = .ok (.iload_n 2, 1) := by decide +kernel
theorem dX6_clearOf_16 : decode cX6_clearOf 16 = .ok (.iaload, 1) := by decide +kernel
theorem dX6_clearOf_17 : decode cX6_clearOf 17 = .ok (.aload_n 0, 1) := by decide +kernel
theorem dX6_clearOf_18 : decode cX6_clearOf 18 = .ok (.getfield 7, 3) := by decide +kernel
theorem dX6_clearOf_21 : decode cX6_clearOf 21 = .ok (.iload_n 1, 1) := by decide +kernel
theorem dX6_clearOf_22 : decode cX6_clearOf 22 = .ok (.iaload, 1) := by decide +kernel
theorem dX6_clearOf_23 : decode cX6_clearOf 23 = .ok (.isub, 1) := by decide +kernel
theorem dX6_clearOf_24 : decode cX6_clearOf 24 = .ok (.i2l, 1) := by decide +kernel
theorem dX6_clearOf_25 : decode cX6_clearOf 25 = .ok (.lstore 9, 2) := by decide +kernel
theorem dX6_clearOf_27 : decode cX6_clearOf 27 = .ok (.aload_n 0, 1) := by decide +kernel
theorem dX6_clearOf_28 : decode cX6_clearOf 28 = .ok (.getfield 13, 3) := by decide +kernel
theorem dX6_clearOf_31 : decode cX6_clearOf 31 = .ok (.iload_n 2, 1) := by decide +kernel
theorem dX6_clearOf_32 : decode cX6_clearOf 32 = .ok (.iaload, 1) := by decide +kernel
theorem dX6_clearOf_33 : decode cX6_clearOf 33 = .ok (.aload_n 0, 1) := by decide +kernel
theorem dX6_clearOf_34 : decode cX6_clearOf 34 = .ok (.getfield 13, 3) := by decide +kernel
theorem dX6_clearOf_37 : decode cX6_clearOf 37 = .ok (.iload_n 1, 1) := by decide +kernel
theorem dX6_clearOf_38 : decode cX6_clearOf 38 = .ok (.iaload, 1) := by decide +kernel
theorem dX6_clearOf_39 : decode cX6_clearOf 39 = .ok (.isub, 1) := by decide +kernel
theorem dX6_clearOf_40 : decode cX6_clearOf 40 = .ok (.i2l, 1) := by decide +kernel
theorem dX6_clearOf_41 : decode cX6_clearOf 41 = .ok (.lstore 11, 2) := by decide +kernel
theorem dX6_clearOf_43 : decode cX6_clearOf 43 = .ok (.lload 7, 2) := by decide +kernel
theorem dX6_clearOf_45 : decode cX6_clearOf 45 = .ok (.lconst 0, 1) := by decide +kernel
theorem dX6_clearOf_46 : decode cX6_clearOf 46 = .ok (.lcmp, 1) := by decide +kernel
theorem dX6_clearOf_47 : decode cX6_clearOf 47 = .ok (.ifCond .lt 33, 3) := by decide +kernel
theorem dX6_clearOf_50 : decode cX6_clearOf 50 = .ok (.lload 7, 2) := by decide +kernel
theorem dX6_clearOf_52 : decode cX6_clearOf 52 = .ok (.lload 7, 2) := by decide +kernel
theorem dX6_clearOf_54 : decode cX6_clearOf 54 = .ok (.lmul, 1) := by decide +kernel
theorem dX6_clearOf_55 : decode cX6_clearOf 55 = .ok (.lload 5, 2) := by decide +kernel
theorem dX6_clearOf_57 : decode cX6_clearOf 57 = .ok (.lload 5, 2) := by decide +kernel
theorem dX6_clearOf_59 : decode cX6_clearOf 59 = .ok (.lmul, 1) := by decide +kernel
theorem dX6_clearOf_60 : decode cX6_clearOf 60 = .ok (.lload 9, 2) := by decide +kernel
theorem dX6_clearOf_62 : decode cX6_clearOf 62 = .ok (.lload 9, 2) := by decide +kernel
theorem dX6_clearOf_64 : decode cX6_clearOf 64 = .ok (.lmul, 1) := by decide +kernel
theorem dX6_clearOf_65 : decode cX6_clearOf 65 = .ok (.lload 11, 2) := by decide +kernel
theorem dX6_clearOf_67 : decode cX6_clearOf 67 = .ok (.lload 11, 2) := by decide +kernel
theorem dX6_clearOf_69 : decode cX6_clearOf 69 = .ok (.lmul, 1) := by decide +kernel
theorem dX6_clearOf_70 : decode cX6_clearOf 70 = .ok (.ladd, 1) := by decide +kernel
theorem dX6_clearOf_71 : decode cX6_clearOf 71 = .ok (.lmul, 1) := by decide +kernel
theorem dX6_clearOf_72 : decode cX6_clearOf 72 = .ok (.lcmp, 1) := by decide +kernel
theorem dX6_clearOf_73 : decode cX6_clearOf 73 = .ok (.ifCond .lt 7, 3) := by decide +kernel
theorem dX6_clearOf_76 : decode cX6_clearOf 76 = .ok (.iconst 1, 1) := by decide +kernel
theorem dX6_clearOf_77 : decode cX6_clearOf 77 = .ok (.goto 4, 3) := by decide +kernel
theorem dX6_clearOf_80 : decode cX6_clearOf 80 = .ok (.iconst 0, 1) := by decide +kernel
theorem dX6_clearOf_81 : decode cX6_clearOf 81 = .ok (.ireturn, 1) := by decide +kernel
set_option maxRecDepth 20000 in
theorem ggX6_clearOfAll_X6_clearOf : GoodIn wsX6_clearOfAll wsX6_clearOf := goodIn_r _ [5, 6, 7, 8, 9, 10, 4, 11, 12, 13, 14, 15, 16, 17, 18, 19, 20, 21, 22, 23, 24, 25, 26, 27, 28, 29, 30, 31, 32, 33, 34] (by decide +kernel) (by decide +kernel)
set_option maxRecDepth 20000 in
theorem gX6_clearOfAll_X6_clearOf : GoodIn wsX6_clearOfAll (wsV RX6 43 RX6 yX6_clearOf wsX6_clearOf) := goodIn_app (goodIn_of _ (by decide +kernel)) ggX6_clearOfAll_X6_clearOf
theorem dX6_clearOfAll_0 : decode cX6_clearOfAll 0 = .ok (.iconst 0, 1) := by decide +kernel
theorem dX6_clearOfAll_1 : decode cX6_clearOfAll 1 = .ok (.istore 7, 2) := by decide +kernel
theorem dX6_clearOfAll_3 : decode cX6_clearOfAll 3 = .ok (.iload 7, 2) := by decide +kernel
theorem dX6_clearOfAll_5 : decode cX6_clearOfAll 5 = .ok (.iload_n 2, 1) := by decide +kernel
theorem dX6_clearOfAll_6 : decode cX6_clearOfAll 6 = .ok (.if_icmp .ge 35, 3) := by decide +kernel
theorem dX6_clearOfAll_9 : decode cX6_clearOfAll 9 = .ok (.aload_n 0, 1) := by decide +kernel
theorem dX6_clearOfAll_10 : decode cX6_clearOfAll 10 = .ok (.iload_n 1, 1) := by decide +kernel
theorem dX6_clearOfAll_11 : decode cX6_clearOfAll 11 = .ok (.iload 7, 2) := by decide +kernel
theorem dX6_clearOfAll_13 : decode cX6_clearOfAll 13 = .ok (.iadd, 1) := by decide +kernel
theorem dX6_clearOfAll_14 : decode cX6_clearOfAll 14 = .ok (.iload_n 1, 1) := by decide +kernel
theorem dX6_clearOfAll_15 : decode cX6_clearOfAll 15 = .ok (.iload 7, 2) := by decide +kernel
theorem dX6_clearOfAll_17 : decode cX6_clearOfAll 17 = .ok (.iconst 1, 1) := by decide +kernel
theorem dX6_clearOfAll_18 : decode cX6_clearOfAll 18 = .ok (.iadd, 1) := by decide +kernel
theorem dX6_clearOfAll_19 : decode cX6_clearOfAll 19 = .ok (.iload_n 2, 1) := by decide +kernel
theorem dX6_clearOfAll_20 : decode cX6_clearOfAll 20 = .ok (.irem, 1) := by decide +kernel
theorem dX6_clearOfAll_21 : decode cX6_clearOfAll 21 = .ok (.iadd, 1) := by decide +kernel
theorem dX6_clearOfAll_22 : decode cX6_clearOfAll 22 = .ok (.iload_n 3, 1) := by decide +kernel
theorem dX6_clearOfAll_23 : decode cX6_clearOfAll 23 = .ok (.iload 4, 2) := by decide +kernel
theorem dX6_clearOfAll_25 : decode cX6_clearOfAll 25 = .ok (.lload 5, 2) := by decide +kernel
theorem dX6_clearOfAll_27 : decode cX6_clearOfAll 27 = .ok (.invokevirtual 43, 3) := by decide +kernel
theorem dX6_clearOfAll_30 : decode cX6_clearOfAll 30 = .ok (.ifCond .ne 5, 3) := by decide +kernel
theorem dX6_clearOfAll_33 : decode cX6_clearOfAll 33 = .ok (.iconst 0, 1) := by decide +kernel
theorem dX6_clearOfAll_34 : decode cX6_clearOfAll 34 = .ok (.ireturn, 1) := by decide +kernel
theorem dX6_clearOfAll_35 : decode cX6_clearOfAll 35 = .ok (.iinc 7 1, 3) := by decide +kernel
theorem dX6_clearOfAll_38 : decode cX6_clearOfAll 38 = .ok (.goto (-35), 3) := by decide +kernel
theorem dX6_clearOfAll_41 : decode cX6_clearOfAll 41 = .ok (.iconst 1, 1) := by decide +kernel
theorem dX6_clearOfAll_42 : decode cX6_clearOfAll 42 = .ok (.ireturn, 1) := by decide +kernel
set_option maxRecDepth 20000 in
theorem ggX6_convex_X6_side : GoodIn wsX6_convex wsX6_side := goodIn_r _ [8, 2, 3, 9, 10, 11, 12, 13, 14, 15, 16, 17, 18, 19, 20, 21, 22, 23, 24, 25, 26, 27, 28, 29, 30, 31] (by decide +kernel) (by decide +kernel)
set_option maxRecDepth 20000 in
theorem gX6_convex_X6_side : GoodIn wsX6_convex (wsV RX6 39 RX6 yX6_side wsX6_side) := goodIn_app (goodIn_of _ (by decide +kernel)) ggX6_convex_X6_side
theorem dX6_convex_0 : decode cX6_convex 0 = .ok (.iconst 0, 1) := by decide +kernel
theorem dX6_convex_1 : decode cX6_convex 1 = .ok (.istore_n 1, 1) := by decide +kernel
theorem dX6_convex_2 : decode cX6_convex 2 = .ok (.iload_n 1, 1) := by decide +kernel
theorem dX6_convex_3 : decode cX6_convex 3 = .ok (.aload_n 0, 1) := by decide +kernel
theorem dX6_convex_4 : decode cX6_convex 4 = .ok (.getfield 47, 3) := by decide +kernel
theorem dX6_convex_7 : decode cX6_convex 7 = .ok (.if_icmp .ge 101, 3) := by decide +kernel
theorem dX6_convex_10 : decode cX6_convex 10 = .ok (.iload_n 1, 1) := by decide +kernel
theorem dX6_convex_11 : decode cX6_convex 11 = .ok (.iconst 1, 1) := by decide +kernel
theorem dX6_convex_12 : decode cX6_convex 12 = .ok (.iadd, 1) := by decide +kernel
theorem dX6_convex_13 : decode cX6_convex 13 = .ok (.aload_n 0, 1) := by decide +kernel
theorem dX6_convex_14 : decode cX6_convex 14 = .ok (.getfield 47, 3) := by decide +kernel
theorem dX6_convex_17 : decode cX6_convex 17 = .ok (.irem, 1) := by decide +kernel
theorem dX6_convex_18 : decode cX6_convex 18 = .ok (.istore_n 2, 1) := by decide +kernel
theorem dX6_convex_19 : decode cX6_convex 19 = .ok (.aload_n 0, 1) := by decide +kernel
theorem dX6_convex_20 : decode cX6_convex 20 = .ok (.getfield 7, 3) := by decide +kernel
theorem dX6_convex_23 : decode cX6_convex 23 = .ok (.iload_n 1, 1) := by decide +kernel
theorem dX6_convex_24 : decode cX6_convex 24 = .ok (.iaload, 1) := by decide +kernel
theorem dX6_convex_25 : decode cX6_convex 25 = .ok (.aload_n 0, 1) := by decide +kernel
theorem dX6_convex_26 : decode cX6_convex 26 = .ok (.getfield 7, 3) := by decide +kernel
theorem dX6_convex_29 : decode cX6_convex 29 = .ok (.iload_n 2, 1) := by decide +kernel
theorem dX6_convex_30 : decode cX6_convex 30 = .ok (.iaload, 1) := by decide +kernel
theorem dX6_convex_31 : decode cX6_convex 31 = .ok (.if_icmp .ne 20, 3) := by decide +kernel
theorem dX6_convex_34 : decode cX6_convex 34 = .ok (.aload_n 0, 1) := by decide +kernel
theorem dX6_convex_35 : decode cX6_convex 35 = .ok (.getfield 13, 3) := by decide +kernel
theorem dX6_convex_38 : decode cX6_convex 38 = .ok (.iload_n 1, 1) := by decide +kernel
theorem dX6_convex_39 : decode cX6_convex 39 = .ok (.iaload, 1) := by decide +kernel
theorem dX6_convex_40 : decode cX6_convex 40 = .ok (.aload_n 0, 1) := by decide +kernel
theorem dX6_convex_41 : decode cX6_convex 41 = .ok (.getfield 13, 3) := by decide +kernel
theorem dX6_convex_44 : decode cX6_convex 44 = .ok (.iload_n 2, 1) := by decide +kernel
theorem dX6_convex_45 : decode cX6_convex 45 = .ok (.iaload, 1) := by decide +kernel
theorem dX6_convex_46 : decode cX6_convex 46 = .ok (.if_icmp .ne 5, 3) := by decide +kernel
theorem dX6_convex_49 : decode cX6_convex 49 = .ok (.iconst 0, 1) := by decide +kernel
theorem dX6_convex_50 : decode cX6_convex 50 = .ok (.ireturn, 1) := by decide +kernel
theorem dX6_convex_51 : decode cX6_convex 51 = .ok (.iconst 0, 1) := by decide +kernel
theorem dX6_convex_52 : decode cX6_convex 52 = .ok (.istore_n 3, 1) := by decide +kernel
theorem dX6_convex_53 : decode cX6_convex 53 = .ok (.iload_n 3, 1) := by decide +kernel
theorem dX6_convex_54 : decode cX6_convex 54 = .ok (.aload_n 0, 1) := by decide +kernel
theorem dX6_convex_55 : decode cX6_convex 55 = .ok (.getfield 47, 3) := by decide +kernel
theorem dX6_convex_58 : decode cX6_convex 58 = .ok (.if_icmp .ge 44, 3) := by decide +kernel
theorem dX6_convex_61 : decode cX6_convex 61 = .ok (.iload_n 3, 1) := by decide +kernel
theorem dX6_convex_62 : decode cX6_convex 62 = .ok (.iload_n 1, 1) := by decide +kernel
theorem dX6_convex_63 : decode cX6_convex 63 = .ok (.if_icmp .eq 33, 3) := by decide +kernel
theorem dX6_convex_66 : decode cX6_convex 66 = .ok (.iload_n 3, 1) := by decide +kernel
theorem dX6_convex_67 : decode cX6_convex 67 = .ok (.iload_n 2, 1) := by decide +kernel
theorem dX6_convex_68 : decode cX6_convex 68 = .ok (.if_icmp .eq 28, 3) := by decide +kernel
theorem dX6_convex_71 : decode cX6_convex 71 = .ok (.aload_n 0, 1) := by decide +kernel
theorem dX6_convex_72 : decode cX6_convex 72 = .ok (.iload_n 1, 1) := by decide +kernel
theorem dX6_convex_73 : decode cX6_convex 73 = .ok (.iload_n 2, 1) := by decide +kernel
theorem dX6_convex_74 : decode cX6_convex 74 = .ok (.aload_n 0, 1) := by decide +kernel
theorem dX6_convex_75 : decode cX6_convex 75 = .ok (.getfield 7, 3) := by decide +kernel
theorem dX6_convex_78 : decode cX6_convex 78 = .ok (.iload_n 3, 1) := by decide +kernel
theorem dX6_convex_79 : decode cX6_convex 79 = .ok (.iaload, 1) := by decide +kernel
theorem dX6_convex_80 : decode cX6_convex 80 = .ok (.aload_n 0, 1) := by decide +kernel
theorem dX6_convex_81 : decode cX6_convex 81 = .ok (.getfield 13, 3) := by decide +kernel
theorem dX6_convex_84 : decode cX6_convex 84 = .ok (.iload_n 3, 1) := by decide +kernel
theorem dX6_convex_85 : decode cX6_convex 85 = .ok (.iaload, 1) := by decide +kernel
theorem dX6_convex_86 : decode cX6_convex 86 = .ok (.invokevirtual 39, 3) := by decide +kernel
theorem dX6_convex_89 : decode cX6_convex 89 = .ok (.lconst 0, 1) := by decide +kernel
theorem dX6_convex_90 : decode cX6_convex 90 = .ok (.lcmp, 1) := by decide +kernel
theorem dX6_convex_91 : decode cX6_convex 91 = .ok (.ifCond .gt 5, 3) := by decide +kernel
theorem dX6_convex_94 : decode cX6_convex 94 = .ok (.iconst 0, 1) := by decide +kernel
theorem dX6_convex_95 : decode cX6_convex 95 = .ok (.ireturn, 1) := by decide +kernel
theorem dX6_convex_96 : decode cX6_convex 96 = .ok (.iinc 3 1, 3) := by decide +kernel
theorem dX6_convex_99 : decode cX6_convex 99 = .ok (.goto (-46), 3) := by decide +kernel
theorem dX6_convex_102 : decode cX6_convex 102 = .ok (.iinc 1 1, 3) := by decide +kernel
theorem dX6_convex_105 : decode cX6_convex 105 = .ok (.goto (-103), 3) := by decide +kernel
theorem dX6_convex_108 : decode cX6_convex 108 = .ok (.iconst 1, 1) := by decide +kernel
theorem dX6_convex_109 : decode cX6_convex 109 = .ok (.ireturn, 1) := by decide +kernel
set_option maxRecDepth 20000 in
theorem ggX6_safeAt_X6_clearOfAll : GoodIn wsX6_safeAt wsX6_clearOfAll := goodIn_r _ [7, 8, 9, 10, 6, 11, 12, 13, 14, 15, 16, 17, 18, 19, 20, 21, 22, 23, 24, 25, 26, 27, 28, 29, 30, 31, 32, 33, 34, 35, 36, 37, 38, 39, 40] (by decide +kernel) (by decide +kernel)
set_option maxRecDepth 20000 in
theorem gX6_safeAt_X6_clearOfAll : GoodIn wsX6_safeAt (wsV RX6 55 RX6 yX6_clearOfAll wsX6_clearOfAll) := goodIn_app (goodIn_of _ (by decide +kernel)) ggX6_safeAt_X6_clearOfAll
theorem dX6_safeAt_0 : decode cX6_safeAt 0 = .ok (.aload_n 0, 1) := by decide +kernel
theorem dX6_safeAt_1 : decode cX6_safeAt 1 = .ok (.bipush 8, 2) := by decide +kernel
theorem dX6_safeAt_3 : decode cX6_safeAt 3 = .ok (.aload_n 0, 1) := by decide +kernel
theorem dX6_safeAt_4 : decode cX6_safeAt 4 = .ok (.getfield 50, 3) := by decide +kernel
theorem dX6_safeAt_7 : decode cX6_safeAt 7 = .ok (.iload_n 1, 1) := by decide +kernel
theorem dX6_safeAt_8 : decode cX6_safeAt 8 = .ok (.iload_n 2, 1) := by decide +kernel
theorem dX6_safeAt_9 : decode cX6_safeAt 9 = .ok (.ldc2_w 53, 3) := by decide +kernel
theorem dX6_safeAt_12 : decode cX6_safeAt 12 = .ok (.invokevirtual 55, 3) := by decide +kernel
theorem dX6_safeAt_15 : decode cX6_safeAt 15 = .ok (.ireturn, 1) := by decide +kernel
set_option maxRecDepth 20000 in
theorem ggX6_corner_X6_within : GoodIn wsX6_corner wsX6_within := goodIn_r _ [7] (by decide +kernel) (by decide +kernel)
set_option maxRecDepth 20000 in
theorem gX6_corner_X6_within : GoodIn wsX6_corner (va_wsS RX6 58 yX6_within wsX6_within) := goodIn_app (goodIn_of _ (by decide +kernel)) ggX6_corner_X6_within
theorem dX6_corner_0 : decode cX6_corner 0 = .ok (.aload_n 0, 1) := by decide +kernel
theorem dX6_corner_1 : decode cX6_corner 1 = .ok (.getfield 47, 3) := by decide +kernel
theorem dX6_corner_4 : decode cX6_corner 4 = .ok (.bipush 8, 2) := by decide +kernel
theorem dX6_corner_6 : decode cX6_corner 6 = .ok (.if_icmp .eq 29, 3) := by decide +kernel
theorem dX6_corner_9 : decode cX6_corner 9 = .ok (.iload_n 1, 1) := by decide +kernel
theorem dX6_corner_10 : decode cX6_corner 10 = .ok (.sipush (-10000), 3) := by decide +kernel
theorem dX6_corner_13 : decode cX6_corner 13 = .ok (.sipush 10000, 3) := by decide +kernel
theorem dX6_corner_16 : decode cX6_corner 16 = .ok (.invokestatic 58, 3) := by decide +kernel
theorem dX6_corner_19 : decode cX6_corner 19 = .ok (.ifCond .eq 16, 3) := by decide +kernel
theorem dX6_corner_22 : decode cX6_corner 22 = .ok (.iload_n 2, 1) := by decide +kernel
theorem dX6_corner_23 : decode cX6_corner 23 = .ok (.sipush (-10000), 3) := by decide +kernel
theorem dX6_corner_26 : decode cX6_corner 26 = .ok (.sipush 10000, 3) := by decide +kernel
theorem dX6_corner_29 : decode cX6_corner 29 = .ok (.invokestatic 58, 3) := by decide +kernel
theorem dX6_corner_32 : decode cX6_corner 32 = .ok (.ifCond .ne 5, 3) := by decide +kernel
theorem dX6_corner_35 : decode cX6_corner 35 = .ok (.iconst 0, 1) := by decide +kernel
theorem dX6_corner_36 : decode cX6_corner 36 = .ok (.ireturn, 1) := by decide +kernel
theorem dX6_corner_37 : decode cX6_corner 37 = .ok (.aload_n 0, 1) := by decide +kernel
theorem dX6_corner_38 : decode cX6_corner 38 = .ok (.getfield 7, 3) := by decide +kernel
theorem dX6_corner_41 : decode cX6_corner 41 = .ok (.aload_n 0, 1) := by decide +kernel
theorem dX6_corner_42 : decode cX6_corner 42 = .ok (.getfield 47, 3) := by decide +kernel
theorem dX6_corner_45 : decode cX6_corner 45 = .ok (.iload_n 1, 1) := by decide +kernel
theorem dX6_corner_46 : decode cX6_corner 46 = .ok (.iastore, 1) := by decide +kernel
theorem dX6_corner_47 : decode cX6_corner 47 = .ok (.aload_n 0, 1) := by decide +kernel
theorem dX6_corner_48 : decode cX6_corner 48 = .ok (.getfield 13, 3) := by decide +kernel
theorem dX6_corner_51 : decode cX6_corner 51 = .ok (.aload_n 0, 1) := by decide +kernel
theorem dX6_corner_52 : decode cX6_corner 52 = .ok (.getfield 47, 3) := by decide +kernel
theorem dX6_corner_55 : decode cX6_corner 55 = .ok (.iload_n 2, 1) := by decide +kernel
theorem dX6_corner_56 : decode cX6_corner 56 = .ok (.iastore, 1) := by decide +kernel
theorem dX6_corner_57 : decode cX6_corner 57 = .ok (.aload_n 0, 1) := by decide +kernel
theorem dX6_corner_58 : decode cX6_corner 58 = .ok (.dup, 1) := by decide +kernel
theorem dX6_corner_59 : decode cX6_corner 59 = .ok (.getfield 47, 3) := by decide +kernel
theorem dX6_corner_62 : decode cX6_corner 62 = .ok (.iconst 1, 1) := by decide +kernel
theorem dX6_corner_63 : decode cX6_corner 63 = .ok (.iadd, 1) := by decide +kernel
theorem dX6_corner_64 : decode cX6_corner 64 = .ok (.putfield 47, 3) := by decide +kernel
theorem dX6_corner_67 : decode cX6_corner 67 = .ok (.iconst 1, 1) := by decide +kernel
theorem dX6_corner_68 : decode cX6_corner 68 = .ok (.ireturn, 1) := by decide +kernel
theorem dX6_erase_0 : decode cX6_erase 0 = .ok (.aload_n 0, 1) := by decide +kernel
theorem dX6_erase_1 : decode cX6_erase 1 = .ok (.iconst 0, 1) := by decide +kernel
theorem dX6_erase_2 : decode cX6_erase 2 = .ok (.putfield 47, 3) := by decide +kernel
theorem dX6_erase_5 : decode cX6_erase 5 = .ok (.return_, 1) := by decide +kernel
set_option maxRecDepth 20000 in
theorem ggX6_fence_X6_convex : GoodIn wsX6_fence wsX6_convex := goodIn_r _ [12, 2, 4, 5, 13, 14, 15, 11, 16, 28, 29, 30, 31, 32, 33, 34, 35, 36, 37, 38, 39, 40, 41, 42, 43, 44, 45, 46, 47, 48, 49, 50] (by decide +kernel) (by decide +kernel)
set_option maxRecDepth 20000 in
theorem gX6_fence_X6_convex : GoodIn wsX6_fence (wsV RX6 65 RX6 yX6_convex wsX6_convex) := goodIn_app (goodIn_of _ (by decide +kernel)) ggX6_fence_X6_convex
set_option maxRecDepth 20000 in
theorem ggX6_fence_X6_clearOfAll : GoodIn wsX6_fence wsX6_clearOfAll := goodIn_r _ [20, 21, 22, 23, 11, 24, 4, 5, 13, 14, 15, 16, 28, 29, 30, 31, 32, 33, 34, 35, 36, 37, 38, 39, 40, 41, 42, 43, 44, 45, 46, 47, 48, 49, 50] (by decide +kernel) (by decide +kernel)
set_option maxRecDepth 20000 in
theorem gX6_fence_X6_clearOfAll : GoodIn wsX6_fence (wsV RX6 55 RX6 yX6_clearOfAll wsX6_clearOfAll) := goodIn_app (goodIn_of _ (by decide +kernel)) ggX6_fence_X6_clearOfAll
set_option maxRecDepth 20000 in
theorem ggX6_fence_X6_within : GoodIn wsX6_fence wsX6_within := goodIn_r _ [27] (by decide +kernel) (by decide +kernel)
set_option maxRecDepth 20000 in
theorem gX6_fence_X6_within : GoodIn wsX6_fence (va_wsS RX6 58 yX6_within wsX6_within) := goodIn_app (goodIn_of _ (by decide +kernel)) ggX6_fence_X6_within
theorem dX6_fence_0 : decode cX6_fence 0 = .ok (.aload_n 0, 1) := by decide +kernel
theorem dX6_fence_1 : decode cX6_fence 1 = .ok (.getfield 62, 3) := by decide +kernel
theorem dX6_fence_4 : decode cX6_fence 4 = .ok (.ifCond .eq 5, 3) := by decide +kernel
theorem dX6_fence_7 : decode cX6_fence 7 = .ok (.iconst (-1), 1) := by decide +kernel
theorem dX6_fence_8 : decode cX6_fence 8 = .ok (.ireturn, 1) := by decide +kernel
theorem dX6_fence_9 : decode cX6_fence 9 = .ok (.aload_n 0, 1) := by decide +kernel
theorem dX6_fence_10 : decode cX6_fence 10 = .ok (.getfield 47, 3) := by decide +kernel
theorem dX6_fence_13 : decode cX6_fence 13 = .ok (.iconst 3, 1) := by decide +kernel
theorem dX6_fence_14 : decode cX6_fence 14 = .ok (.if_icmp .ge 6, 3) := by decide +kernel
theorem dX6_fence_17 : decode cX6_fence 17 = .ok (.bipush (-2), 2) := by decide +kernel
theorem dX6_fence_19 : decode cX6_fence 19 = .ok (.ireturn, 1) := by decide +kernel
theorem dX6_fence_20 : decode cX6_fence 20 = .ok (.aload_n 0, 1) := by decide +kernel
theorem dX6_fence_21 : decode cX6_fence 21 = .ok (.invokevirtual 65, 3) := by decide +kernel
theorem dX6_fence_24 : decode cX6_fence 24 = .ok (.ifCond .ne 6, 3) := by decide +kernel
theorem dX6_fence_27 : decode cX6_fence 27 = .ok (.bipush (-3), 2) := by decide +kernel
theorem dX6_fence_29 : decode cX6_fence 29 = .ok (.ireturn, 1) := by decide +kernel
theorem dX6_fence_30 : decode cX6_fence 30 = .ok (.aload_n 0, 1) := by decide +kernel
theorem dX6_fence_31 : decode cX6_fence 31 = .ok (.iconst 0, 1) := by decide +kernel
theorem dX6_fence_32 : decode cX6_fence 32 = .ok (.aload_n 0, 1) := by decide +kernel
theorem dX6_fence_33 : decode cX6_fence 33 = .ok (.getfield 47, 3) := by decide +kernel
theorem dX6_fence_36 : decode cX6_fence 36 = .ok (.iconst 0, 1) := by decide +kernel
theorem dX6_fence_37 : decode cX6_fence 37 = .ok (.iconst 0, 1) := by decide +kernel
theorem dX6_fence_38 : decode cX6_fence 38 = .ok (.ldc2_w 69, 3) := by decide +kernel
theorem dX6_fence_41 : decode cX6_fence 41 = .ok (.invokevirtual 55, 3) := by decide +kernel
theorem dX6_fence_44 : decode cX6_fence 44 = .ok (.ifCond .ne 6, 3) := by decide +kernel
theorem dX6_fence_47 : decode cX6_fence 47 = .ok (.bipush (-4), 2) := by decide +kernel
theorem dX6_fence_49 : decode cX6_fence 49 = .ok (.ireturn, 1) := by decide +kernel
theorem dX6_fence_50 : decode cX6_fence 50 = .ok (.iload_n 1, 1) := by decide +kernel
theorem dX6_fence_51 : decode cX6_fence 51 = .ok (.sipush 1500, 3) := by decide +kernel
theorem dX6_fence_54 : decode cX6_fence 54 = .ok (.sipush 10000, 3) := by decide +kernel
theorem dX6_fence_57 : decode cX6_fence 57 = .ok (.invokestatic 58, 3) := by decide +kernel
theorem dX6_fence_60 : decode cX6_fence 60 = .ok (.ifCond .ne 6, 3) := by decide +kernel
theorem dX6_fence_63 : decode cX6_fence 63 = .ok (.bipush (-5), 2) := by decide +kernel
theorem dX6_fence_65 : decode cX6_fence 65 = .ok (.ireturn, 1) := by decide +kernel
theorem dX6_fence_66 : decode cX6_fence 66 = .ok (.iconst 0, 1) := by decide +kernel
theorem dX6_fence_67 : decode cX6_fence 67 = .ok (.istore_n 2, 1) := by decide +kernel
theorem dX6_fence_68 : decode cX6_fence 68 = .ok (.iload_n 2, 1) := by decide +kernel
theorem dX6_fence_69 : decode cX6_fence 69 = .ok (.aload_n 0, 1) := by decide +kernel
theorem dX6_fence_70 : decode cX6_fence 70 = .ok (.getfield 47, 3) := by decide +kernel
theorem dX6_fence_73 : decode cX6_fence 73 = .ok (.if_icmp .ge 39, 3) := by decide +kernel
theorem dX6_fence_76 : decode cX6_fence 76 = .ok (.aload_n 0, 1) := by decide +kernel
theorem dX6_fence_77 : decode cX6_fence 77 = .ok (.getfield 7, 3) := by decide +kernel
theorem dX6_fence_80 : decode cX6_fence 80 = .ok (.bipush 8, 2) := by decide +kernel
theorem dX6_fence_82 : decode cX6_fence 82 = .ok (.iload_n 2, 1) := by decide +kernel
theorem dX6_fence_83 : decode cX6_fence 83 = .ok (.iadd, 1) := by decide +kernel
theorem dX6_fence_84 : decode cX6_fence 84 = .ok (.aload_n 0, 1) := by decide +kernel
theorem dX6_fence_85 : decode cX6_fence 85 = .ok (.getfield 7, 3) := by decide +kernel
theorem dX6_fence_88 : decode cX6_fence 88 = .ok (.iload_n 2, 1) := by decide +kernel
theorem dX6_fence_89 : decode cX6_fence 89 = .ok (.iaload, 1) := by decide +kernel
theorem dX6_fence_90 : decode cX6_fence 90 = .ok (.iastore, 1) := by decide +kernel
theorem dX6_fence_91 : decode cX6_fence 91 = .ok (.aload_n 0, 1) := by decide +kernel
theorem dX6_fence_92 : decode cX6_fence 92 = .ok (.getfield 13, 3) := by decide +kernel
theorem dX6_fence_95 : decode cX6_fence 95 = .ok (.bipush 8, 2) := by decide +kernel
theorem dX6_fence_97 : decode cX6_fence 97 = .ok (.iload_n 2, 1) := by decide +kernel
theorem dX6_fence_98 : decode cX6_fence 98 = .ok (.iadd, 1) := by decide +kernel
theorem dX6_fence_99 : decode cX6_fence 99 = .ok (.aload_n 0, 1) := by decide +kernel
theorem dX6_fence_100 : decode cX6_fence 100 = .ok (.getfield 13, 3) := by decide +kernel
theorem dX6_fence_103 : decode cX6_fence 103 = .ok (.iload_n 2, 1) := by decide +kernel
theorem dX6_fence_104 : decode cX6_fence 104 = .ok (.iaload, 1) := by decide +kernel
theorem dX6_fence_105 : decode cX6_fence 105 = .ok (.iastore, 1) := by decide +kernel
theorem dX6_fence_106 : decode cX6_fence 106 = .ok (.iinc 2 1, 3) := by decide +kernel
theorem dX6_fence_109 : decode cX6_fence 109 = .ok (.goto (-41), 3) := by decide +kernel
theorem dX6_fence_112 : decode cX6_fence 112 = .ok (.aload_n 0, 1) := by decide +kernel
theorem dX6_fence_113 : decode cX6_fence 113 = .ok (.aload_n 0, 1) := by decide +kernel
theorem dX6_fence_114 : decode cX6_fence 114 = .ok (.getfield 47, 3) := by decide +kernel
theorem dX6_fence_117 : decode cX6_fence 117 = .ok (.putfield 50, 3) := by decide +kernel
theorem dX6_fence_120 : decode cX6_fence 120 = .ok (.aload_n 0, 1) := by decide +kernel
theorem dX6_fence_121 : decode cX6_fence 121 = .ok (.iconst 0, 1) := by decide +kernel
theorem dX6_fence_122 : decode cX6_fence 122 = .ok (.putfield 47, 3) := by decide +kernel
theorem dX6_fence_125 : decode cX6_fence 125 = .ok (.aload_n 0, 1) := by decide +kernel
theorem dX6_fence_126 : decode cX6_fence 126 = .ok (.iload_n 1, 1) := by decide +kernel
theorem dX6_fence_127 : decode cX6_fence 127 = .ok (.putfield 71, 3) := by decide +kernel
theorem dX6_fence_130 : decode cX6_fence 130 = .ok (.iconst 0, 1) := by decide +kernel
theorem dX6_fence_131 : decode cX6_fence 131 = .ok (.ireturn, 1) := by decide +kernel
set_option maxRecDepth 20000 in
theorem ggX6_safe_X6_within : GoodIn wsX6_safe wsX6_within := goodIn_r _ [5] (by decide +kernel) (by decide +kernel)
set_option maxRecDepth 20000 in
theorem gX6_safe_X6_within : GoodIn wsX6_safe (va_wsS RX6 58 yX6_within wsX6_within) := goodIn_app (goodIn_of _ (by decide +kernel)) ggX6_safe_X6_within
set_option maxRecDepth 20000 in
theorem ggX6_safe_X6_safeAt : GoodIn wsX6_safe wsX6_safeAt := goodIn_r _ [9, 1, 10, 11, 12, 13, 4, 14, 15, 16, 17, 18, 19, 20, 21, 22, 23, 24, 25, 26, 27, 28, 29, 30, 31, 32, 33, 34, 35, 36, 37, 38, 39, 40, 41, 42, 43, 44, 45, 46, 47] (by decide +kernel) (by decide +kernel)
set_option maxRecDepth 20000 in
theorem gX6_safe_X6_safeAt : GoodIn wsX6_safe (wsV RX6 74 RX6 yX6_safeAt wsX6_safeAt) := goodIn_app (goodIn_of _ (by decide +kernel)) ggX6_safe_X6_safeAt
theorem dX6_safe_0 : decode cX6_safe 0 = .ok (.aload_n 0, 1) := by decide +kernel
theorem dX6_safe_1 : decode cX6_safe 1 = .ok (.getfield 50, 3) := by decide +kernel
theorem dX6_safe_4 : decode cX6_safe 4 = .ok (.ifCond .le 42, 3) := by decide +kernel
theorem dX6_safe_7 : decode cX6_safe 7 = .ok (.iload_n 1, 1) := by decide +kernel
theorem dX6_safe_8 : decode cX6_safe 8 = .ok (.sipush (-20000), 3) := by decide +kernel
theorem dX6_safe_11 : decode cX6_safe 11 = .ok (.sipush 20000, 3) := by decide +kernel
theorem dX6_safe_14 : decode cX6_safe 14 = .ok (.invokestatic 58, 3) := by decide +kernel
theorem dX6_safe_17 : decode cX6_safe 17 = .ok (.ifCond .eq 29, 3) := by decide +kernel
theorem dX6_safe_20 : decode cX6_safe 20 = .ok (.iload_n 2, 1) := by decide +kernel
theorem dX6_safe_21 : decode cX6_safe 21 = .ok (.sipush (-20000), 3) := by decide +kernel
theorem dX6_safe_24 : decode cX6_safe 24 = .ok (.sipush 20000, 3) := by decide +kernel
theorem dX6_safe_27 : decode cX6_safe 27 = .ok (.invokestatic 58, 3) := by decide +kernel
theorem dX6_safe_30 : decode cX6_safe 30 = .ok (.ifCond .eq 16, 3) := by decide +kernel
theorem dX6_safe_33 : decode cX6_safe 33 = .ok (.aload_n 0, 1) := by decide +kernel
theorem dX6_safe_34 : decode cX6_safe 34 = .ok (.iload_n 1, 1) := by decide +kernel
theorem dX6_safe_35 : decode cX6_safe 35 = .ok (.iload_n 2, 1) := by decide +kernel
theorem dX6_safe_36 : decode cX6_safe 36 = .ok (.invokevirtual 74, 3) := by decide +kernel
theorem dX6_safe_39 : decode cX6_safe 39 = .ok (.ifCond .eq 7, 3) := by decide +kernel
theorem dX6_safe_42 : decode cX6_safe 42 = .ok (.iconst 1, 1) := by decide +kernel

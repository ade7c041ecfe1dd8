theorem dX4_isComplete_8 : decode cX4_isComplete 8 = .ok (.getfield 22, 3) := by decide +kernel
theorem dX4_isComplete_11 : decode cX4_isComplete 11 = .ok (.if_icmp .lt 7, 3) := by decide +kernel
theorem dX4_isComplete_14 : decode cX4_isComplete 14 = .ok (.iconst 1, 1) := by decide +kernel
theorem dX4_isComplete_15 : decode cX4_isComplete 15 = .ok (.goto 4, 3) := by decide +kernel
theorem dX4_isComplete_18 : decode cX4_isComplete 18 = .ok (.iconst 0, 1) := by decide +kernel
theorem dX4_isComplete_19 : decode cX4_isComplete 19 = .ok (.ireturn, 1) := by decide +kernel
set_option maxRecDepth 20000 in
theorem ggX4_keep_X1_add : GoodIn wsX4_keep wsX1_add := goodIn_r _ [8, 9, 10, 16, 17] (by decide +kernel) (by decide +kernel)
set_option maxRecDepth 20000 in
theorem gX4_keep_X1_add : GoodIn wsX4_keep (wsV RX4 38 RX1 yX1_add wsX1_add) := goodIn_app (goodIn_of _ (by decide +kernel)) ggX4_keep_X1_add
theorem dX4_keep_0 : decode cX4_keep 0 = .ok (.aload_n 0, 1) := by decide +kernel
theorem dX4_keep_1 : decode cX4_keep 1 = .ok (.getfield 12, 3) := by decide +kernel
theorem dX4_keep_4 : decode cX4_keep 4 = .ok (.iload_n 1, 1) := by decide +kernel
theorem dX4_keep_5 : decode cX4_keep 5 = .ok (.iload_n 2, 1) := by decide +kernel
theorem dX4_keep_6 : decode cX4_keep 6 = .ok (.iload_n 3, 1) := by decide +kernel
theorem dX4_keep_7 : decode cX4_keep 7 = .ok (.invokevirtual 38, 3) := by decide +kernel
theorem dX4_keep_10 : decode cX4_keep 10 = .ok (.aload_n 0, 1) := by decide +kernel
theorem dX4_keep_11 : decode cX4_keep 11 = .ok (.iconst 0, 1) := by decide +kernel
theorem dX4_keep_12 : decode cX4_keep 12 = .ok (.putfield 26, 3) := by decide +kernel
theorem dX4_keep_15 : decode cX4_keep 15 = .ok (.aload_n 0, 1) := by decide +kernel
theorem dX4_keep_16 : decode cX4_keep 16 = .ok (.iconst 0, 1) := by decide +kernel
theorem dX4_keep_17 : decode cX4_keep 17 = .ok (.putfield 29, 3) := by decide +kernel
theorem dX4_keep_20 : decode cX4_keep 20 = .ok (.return_, 1) := by decide +kernel
theorem dX4_growOlder_0 : decode cX4_growOlder 0 = .ok (.aload_n 0, 1) := by decide +kernel
theorem dX4_growOlder_1 : decode cX4_growOlder 1 = .ok (.getfield 18, 3) := by decide +kernel
theorem dX4_growOlder_4 : decode cX4_growOlder 4 = .ok (.ifCond .ne 4, 3) := by decide +kernel
theorem dX4_growOlder_7 : decode cX4_growOlder 7 = .ok (.return_, 1) := by decide +kernel
theorem dX4_growOlder_8 : decode cX4_growOlder 8 = .ok (.aload_n 0, 1) := by decide +kernel
theorem dX4_growOlder_9 : decode cX4_growOlder 9 = .ok (.dup, 1) := by decide +kernel
theorem dX4_growOlder_10 : decode cX4_growOlder 10 = .ok (.getfield 26, 3) := by decide +kernel
theorem dX4_growOlder_13 : decode cX4_growOlder 13 = .ok (.iconst 1, 1) := by decide +kernel
theorem dX4_growOlder_14 : decode cX4_growOlder 14 = .ok (.iadd, 1) := by decide +kernel
theorem dX4_growOlder_15 : decode cX4_growOlder 15 = .ok (.putfield 26, 3) := by decide +kernel
theorem dX4_growOlder_18 : decode cX4_growOlder 18 = .ok (.aload_n 0, 1) := by decide +kernel
theorem dX4_growOlder_19 : decode cX4_growOlder 19 = .ok (.getfield 26, 3) := by decide +kernel
theorem dX4_growOlder_22 : decode cX4_growOlder 22 = .ok (.bipush 10, 2) := by decide +kernel
theorem dX4_growOlder_24 : decode cX4_growOlder 24 = .ok (.if_icmp .lt 35, 3) := by decide +kernel
theorem dX4_growOlder_27 : decode cX4_growOlder 27 = .ok (.aload_n 0, 1) := by decide +kernel
theorem dX4_growOlder_28 : decode cX4_growOlder 28 = .ok (.iconst 0, 1) := by decide +kernel
theorem dX4_growOlder_29 : decode cX4_growOlder 29 = .ok (.putfield 26, 3) := by decide +kernel
theorem dX4_growOlder_32 : decode cX4_growOlder 32 = .ok (.aload_n 0, 1) := by decide +kernel
theorem dX4_growOlder_33 : decode cX4_growOlder 33 = .ok (.dup, 1) := by decide +kernel
theorem dX4_growOlder_34 : decode cX4_growOlder 34 = .ok (.getfield 29, 3) := by decide +kernel
theorem dX4_growOlder_37 : decode cX4_growOlder 37 = .ok (.iconst 1, 1) := by decide +kernel
theorem dX4_growOlder_38 : decode cX4_growOlder 38 = .ok (.iadd, 1) := by decide +kernel
theorem dX4_growOlder_39 : decode cX4_growOlder 39 = .ok (.putfield 29, 3) := by decide +kernel
theorem dX4_growOlder_42 : decode cX4_growOlder 42 = .ok (.aload_n 0, 1) := by decide +kernel
theorem dX4_growOlder_43 : decode cX4_growOlder 43 = .ok (.aload_n 0, 1) := by decide +kernel
theorem dX4_growOlder_44 : decode cX4_growOlder 44 = .ok (.getfield 29, 3) := by decide +kernel
theorem dX4_growOlder_47 : decode cX4_growOlder 47 = .ok (.iconst 3, 1) := by decide +kernel
theorem dX4_growOlder_48 : decode cX4_growOlder 48 = .ok (.if_icmp .ge 7, 3) := by decide +kernel
theorem dX4_growOlder_51 : decode cX4_growOlder 51 = .ok (.iconst 1, 1) := by decide +kernel
theorem dX4_growOlder_52 : decode cX4_growOlder 52 = .ok (.goto 4, 3) := by decide +kernel
theorem dX4_growOlder_55 : decode cX4_growOlder 55 = .ok (.iconst 0, 1) := by decide +kernel
theorem dX4_growOlder_56 : decode cX4_growOlder 56 = .ok (.putfield 18, 3) := by decide +kernel
theorem dX4_growOlder_59 : decode cX4_growOlder 59 = .ok (.return_, 1) := by decide +kernel
set_option maxRecDepth 20000 in
theorem ggX5_init_X0_init : GoodIn wsX5_init wsX0_init := goodIn_r _ [35, 36, 2, 3, 25, 37, 38, 39, 71, 72, 73] (by decide +kernel) (by decide +kernel)
set_option maxRecDepth 20000 in
theorem gX5_init_X0_init : GoodIn wsX5_init (wsX0_init) := ggX5_init_X0_init
set_option maxRecDepth 20000 in
theorem ggX5_init_X4_init : GoodIn wsX5_init wsX4_init := goodIn_r _ [42, 43, 2, 3, 44, 14, 15, 45, 46, 47, 48, 49, 50, 51, 52, 53, 25, 54, 55, 92, 93, 87, 88, 89, 90, 91] (by decide +kernel) (by decide +kernel)
set_option maxRecDepth 20000 in
theorem gX5_init_X4_init : GoodIn wsX5_init (wsX4_init) := ggX5_init_X4_init
set_option maxRecDepth 20000 in
theorem ggX5_init_X1_init : GoodIn wsX5_init wsX1_init := goodIn_r _ [52, 53, 2, 3, 25, 54, 55, 92, 93] (by decide +kernel) (by decide +kernel)
set_option maxRecDepth 20000 in
theorem gX5_init_X1_init : GoodIn wsX5_init (wsX1_init) := ggX5_init_X1_init
set_option maxRecDepth 20000 in
theorem ggX5_init_X3_init : GoodIn wsX5_init wsX3_init := goodIn_r _ [59, 60, 2, 3, 25, 61, 62, 63, 94, 95] (by decide +kernel) (by decide +kernel)
set_option maxRecDepth 20000 in
theorem gX5_init_X3_init : GoodIn wsX5_init (wsX3_init) := ggX5_init_X3_init
set_option maxRecDepth 20000 in
theorem ggX5_init_X2_init : GoodIn wsX5_init wsX2_init := goodIn_r _ [66, 67, 2, 3, 25, 68, 69, 70, 96, 97, 98] (by decide +kernel) (by decide +kernel)
set_option maxRecDepth 20000 in
theorem gX5_init_X2_init : GoodIn wsX5_init (wsX2_init) := ggX5_init_X2_init
theorem dX5_init_0 : decode cX5_init 0 = .ok (.aload_n 0, 1) := by decide +kernel
theorem dX5_init_1 : decode cX5_init 1 = .ok (.invokespecial 1, 3) := by decide +kernel
theorem dX5_init_4 : decode cX5_init 4 = .ok (.aload_n 0, 1) := by decide +kernel
theorem dX5_init_5 : decode cX5_init 5 = .ok (.new 7, 3) := by decide +kernel
theorem dX5_init_8 : decode cX5_init 8 = .ok (.dup, 1) := by decide +kernel
theorem dX5_init_9 : decode cX5_init 9 = .ok (.invokespecial 9, 3) := by decide +kernel
theorem dX5_init_12 : decode cX5_init 12 = .ok (.putfield 10, 3) := by decide +kernel
theorem dX5_init_15 : decode cX5_init 15 = .ok (.aload_n 0, 1) := by decide +kernel
theorem dX5_init_16 : decode cX5_init 16 = .ok (.new 7, 3) := by decide +kernel
theorem dX5_init_19 : decode cX5_init 19 = .ok (.dup, 1) := by decide +kernel
theorem dX5_init_20 : decode cX5_init 20 = .ok (.invokespecial 9, 3) := by decide +kernel
theorem dX5_init_23 : decode cX5_init 23 = .ok (.putfield 16, 3) := by decide +kernel
theorem dX5_init_26 : decode cX5_init 26 = .ok (.aload_n 0, 1) := by decide +kernel
theorem dX5_init_27 : decode cX5_init 27 = .ok (.new 19, 3) := by decide +kernel
theorem dX5_init_30 : decode cX5_init 30 = .ok (.dup, 1) := by decide +kernel
theorem dX5_init_31 : decode cX5_init 31 = .ok (.invokespecial 21, 3) := by decide +kernel
theorem dX5_init_34 : decode cX5_init 34 = .ok (.putfield 22, 3) := by decide +kernel
theorem dX5_init_37 : decode cX5_init 37 = .ok (.aload_n 0, 1) := by decide +kernel
theorem dX5_init_38 : decode cX5_init 38 = .ok (.new 26, 3) := by decide +kernel
theorem dX5_init_41 : decode cX5_init 41 = .ok (.dup, 1) := by decide +kernel
theorem dX5_init_42 : decode cX5_init 42 = .ok (.invokespecial 28, 3) := by decide +kernel
theorem dX5_init_45 : decode cX5_init 45 = .ok (.putfield 29, 3) := by decide +kernel
theorem dX5_init_48 : decode cX5_init 48 = .ok (.aload_n 0, 1) := by decide +kernel
theorem dX5_init_49 : decode cX5_init 49 = .ok (.new 33, 3) := by decide +kernel
theorem dX5_init_52 : decode cX5_init 52 = .ok (.dup, 1) := by decide +kernel
theorem dX5_init_53 : decode cX5_init 53 = .ok (.invokespecial 35, 3) := by decide +kernel
theorem dX5_init_56 : decode cX5_init 56 = .ok (.putfield 36, 3) := by decide +kernel
theorem dX5_init_59 : decode cX5_init 59 = .ok (.aload_n 0, 1) := by decide +kernel
theorem dX5_init_60 : decode cX5_init 60 = .ok (.new 40, 3) := by decide +kernel
theorem dX5_init_63 : decode cX5_init 63 = .ok (.dup, 1) := by decide +kernel
theorem dX5_init_64 : decode cX5_init 64 = .ok (.invokespecial 42, 3) := by decide +kernel
theorem dX5_init_67 : decode cX5_init 67 = .ok (.putfield 43, 3) := by decide +kernel
theorem dX5_init_70 : decode cX5_init 70 = .ok (.aload_n 0, 1) := by decide +kernel
theorem dX5_init_71 : decode cX5_init 71 = .ok (.iconst 3, 1) := by decide +kernel
theorem dX5_init_72 : decode cX5_init 72 = .ok (.newarray .int, 2) := by decide +kernel
theorem dX5_init_74 : decode cX5_init 74 = .ok (.putfield 47, 3) := by decide +kernel
theorem dX5_init_77 : decode cX5_init 77 = .ok (.aload_n 0, 1) := by decide +kernel
theorem dX5_init_78 : decode cX5_init 78 = .ok (.iconst 3, 1) := by decide +kernel
theorem dX5_init_79 : decode cX5_init 79 = .ok (.newarray .int, 2) := by decide +kernel
theorem dX5_init_81 : decode cX5_init 81 = .ok (.putfield 51, 3) := by decide +kernel
theorem dX5_init_84 : decode cX5_init 84 = .ok (.aload_n 0, 1) := by decide +kernel
theorem dX5_init_85 : decode cX5_init 85 = .ok (.iconst 0, 1) := by decide +kernel
theorem dX5_init_86 : decode cX5_init 86 = .ok (.putfield 54, 3) := by decide +kernel
theorem dX5_init_89 : decode cX5_init 89 = .ok (.aload_n 0, 1) := by decide +kernel
theorem dX5_init_90 : decode cX5_init 90 = .ok (.iconst 0, 1) := by decide +kernel
theorem dX5_init_91 : decode cX5_init 91 = .ok (.putfield 58, 3) := by decide +kernel
theorem dX5_init_94 : decode cX5_init 94 = .ok (.aload_n 0, 1) := by decide +kernel
theorem dX5_init_95 : decode cX5_init 95 = .ok (.iconst 1, 1) := by decide +kernel
theorem dX5_init_96 : decode cX5_init 96 = .ok (.putfield 61, 3) := by decide +kernel
theorem dX5_init_99 : decode cX5_init 99 = .ok (.aload_n 0, 1) := by decide +kernel
theorem dX5_init_100 : decode cX5_init 100 = .ok (.iconst 0, 1) := by decide +kernel
theorem dX5_init_101 : decode cX5_init 101 = .ok (.putfield 64, 3) := by decide +kernel
theorem dX5_init_104 : decode cX5_init 104 = .ok (.aload_n 0, 1) := by decide +kernel
theorem dX5_init_105 : decode cX5_init 105 = .ok (.iconst 0, 1) := by decide +kernel
theorem dX5_init_106 : decode cX5_init 106 = .ok (.putfield 67, 3) := by decide +kernel
theorem dX5_init_109 : decode cX5_init 109 = .ok (.return_, 1) := by decide +kernel
set_option maxRecDepth 20000 in
theorem ggX5_corner_X0_isFull : GoodIn wsX5_corner wsX0_isFull := goodIn_r _ [6, 7, 35, 36, 37] (by decide +kernel) (by decide +kernel)
set_option maxRecDepth 20000 in
theorem gX5_corner_X0_isFull : GoodIn wsX5_corner (wsV RX5 70 RX0 yX0_isFull wsX0_isFull) := goodIn_app (goodIn_of _ (by decide +kernel)) ggX5_corner_X0_isFull
set_option maxRecDepth 20000 in
theorem ggX5_corner_X5_isOnMap : GoodIn wsX5_corner wsX5_isOnMap := goodIn_r _ [11, 12, 13, 10, 14] (by decide +kernel) (by decide +kernel)
set_option maxRecDepth 20000 in
theorem gX5_corner_X5_isOnMap : GoodIn wsX5_corner (va_wsS RX5 74 yX5_isOnMap wsX5_isOnMap) := goodIn_app (goodIn_of _ (by decide +kernel)) ggX5_corner_X5_isOnMap
set_option maxRecDepth 20000 in
theorem ggX5_corner_X0_add : GoodIn wsX5_corner wsX0_add := goodIn_r _ [18, 19, 7, 20, 21, 3, 4, 5, 6, 35, 36, 37] (by decide +kernel) (by decide +kernel)
set_option maxRecDepth 20000 in
theorem gX5_corner_X0_add : GoodIn wsX5_corner (wsV RX5 78 RX0 yX0_add wsX0_add) := goodIn_app (goodIn_of _ (by decide +kernel)) ggX5_corner_X0_add
theorem dX5_corner_0 : decode cX5_corner 0 = .ok (.aload_n 0, 1) := by decide +kernel
theorem dX5_corner_1 : decode cX5_corner 1 = .ok (.getfield 10, 3) := by decide +kernel
theorem dX5_corner_4 : decode cX5_corner 4 = .ok (.invokevirtual 70, 3) := by decide +kernel
theorem dX5_corner_7 : decode cX5_corner 7 = .ok (.ifCond .ne 11, 3) := by decide +kernel
theorem dX5_corner_10 : decode cX5_corner 10 = .ok (.iload_n 1, 1) := by decide +kernel
theorem dX5_corner_11 : decode cX5_corner 11 = .ok (.iload_n 2, 1) := by decide +kernel
theorem dX5_corner_12 : decode cX5_corner 12 = .ok (.invokestatic 74, 3) := by decide +kernel
theorem dX5_corner_15 : decode cX5_corner 15 = .ok (.ifCond .ne 5, 3) := by decide +kernel
theorem dX5_corner_18 : decode cX5_corner 18 = .ok (.iconst 0, 1) := by decide +kernel
theorem dX5_corner_19 : decode cX5_corner 19 = .ok (.ireturn, 1) := by decide +kernel
theorem dX5_corner_20 : decode cX5_corner 20 = .ok (.aload_n 0, 1) := by decide +kernel
theorem dX5_corner_21 : decode cX5_corner 21 = .ok (.getfield 10, 3) := by decide +kernel
theorem dX5_corner_24 : decode cX5_corner 24 = .ok (.iload_n 1, 1) := by decide +kernel
theorem dX5_corner_25 : decode cX5_corner 25 = .ok (.iload_n 2, 1) := by decide +kernel
theorem dX5_corner_26 : decode cX5_corner 26 = .ok (.invokevirtual 78, 3) := by decide +kernel
theorem dX5_corner_29 : decode cX5_corner 29 = .ok (.iconst 1, 1) := by decide +kernel
theorem dX5_corner_30 : decode cX5_corner 30 = .ok (.ireturn, 1) := by decide +kernel
set_option maxRecDepth 20000 in
theorem ggX5_erase_X0_clear : GoodIn wsX5_erase wsX0_clear := goodIn_r _ [6, 7, 21, 22, 23] (by decide +kernel) (by decide +kernel)
set_option maxRecDepth 20000 in
theorem gX5_erase_X0_clear : GoodIn wsX5_erase (wsV RX5 82 RX0 yX0_clear wsX0_clear) := goodIn_app (goodIn_of _ (by decide +kernel)) ggX5_erase_X0_clear
theorem dX5_erase_0 : decode cX5_erase 0 = .ok (.aload_n 0, 1) := by decide +kernel
theorem dX5_erase_1 : decode cX5_erase 1 = .ok (.getfield 10, 3) := by decide +kernel
theorem dX5_erase_4 : decode cX5_erase 4 = .ok (.invokevirtual 82, 3) := by decide +kernel
theorem dX5_erase_7 : decode cX5_erase 7 = .ok (.return_, 1) := by decide +kernel
set_option maxRecDepth 20000 in
theorem ggX5_fence_X0_areEnough : GoodIn wsX5_fence wsX0_areEnough := goodIn_r _ [9, 10, 70, 71, 72] (by decide +kernel) (by decide +kernel)
set_option maxRecDepth 20000 in
theorem gX5_fence_X0_areEnough : GoodIn wsX5_fence (wsV RX5 88 RX0 yX0_areEnough wsX0_areEnough) := goodIn_app (goodIn_of _ (by decide +kernel)) ggX5_fence_X0_areEnough
set_option maxRecDepth 20000 in
theorem ggX5_fence_X0_areConvex : GoodIn wsX5_fence wsX0_areConvex := goodIn_r _ [14, 10, 15, 16, 17, 8, 18, 19, 20, 21, 22, 23, 24, 25, 26, 27, 28, 29, 30, 31, 32, 70, 71, 72] (by decide +kernel) (by decide +kernel)
set_option maxRecDepth 20000 in
theorem gX5_fence_X0_areConvex : GoodIn wsX5_fence (wsV RX5 91 RX0 yX0_areConvex wsX0_areConvex) := goodIn_app (goodIn_of _ (by decide +kernel)) ggX5_fence_X0_areConvex
set_option maxRecDepth 20000 in
theorem ggX5_fence_X0_leaveClear : GoodIn wsX5_fence wsX0_leaveClear := goodIn_r _ [36, 10, 37, 6, 7, 8, 9, 38, 39, 40, 41, 29, 30, 31, 32, 19, 20, 21, 22, 23, 24, 15, 16, 17, 18, 70, 71, 72] (by decide +kernel) (by decide +kernel)
set_option maxRecDepth 20000 in
theorem gX5_fence_X0_leaveClear : GoodIn wsX5_fence (wsV RX5 94 RX0 yX0_leaveClear wsX0_leaveClear) := goodIn_app (goodIn_of _ (by decide +kernel)) ggX5_fence_X0_leaveClear
set_option maxRecDepth 20000 in
theorem ggX5_fence_X5_isWithin : GoodIn wsX5_fence wsX5_isWithin := goodIn_r _ [45] (by decide +kernel) (by decide +kernel)
set_option maxRecDepth 20000 in
theorem gX5_fence_X5_isWithin : GoodIn wsX5_fence (va_wsS RX5 98 yX5_isWithin wsX5_isWithin) := goodIn_app (goodIn_of _ (by decide +kernel)) ggX5_fence_X5_isWithin
set_option maxRecDepth 20000 in
theorem ggX5_fence_X0_copyFrom : GoodIn wsX5_fence wsX0_copyFrom := goodIn_r _ [49, 10, 19, 20, 70, 71, 72] (by decide +kernel) (by decide +kernel)
set_option maxRecDepth 20000 in
theorem gX5_fence_X0_copyFrom : GoodIn wsX5_fence (wsV RX5 101 RX0 yX0_copyFrom wsX0_copyFrom) := goodIn_app (goodIn_of _ (by decide +kernel)) ggX5_fence_X0_copyFrom
set_option maxRecDepth 20000 in
theorem ggX5_fence_X0_clear : GoodIn wsX5_fence wsX0_clear := goodIn_r _ [53, 10, 70, 71, 72] (by decide +kernel) (by decide +kernel)
set_option maxRecDepth 20000 in
theorem gX5_fence_X0_clear : GoodIn wsX5_fence (wsV RX5 82 RX0 yX0_clear wsX0_clear) := goodIn_app (goodIn_of _ (by decide +kernel)) ggX5_fence_X0_clear
theorem dX5_fence_0 : decode cX5_fence 0 = .ok (.aload_n 0, 1) := by decide +kernel
theorem dX5_fence_1 : decode cX5_fence 1 = .ok (.getfield 43, 3) := by decide +kernel
theorem dX5_fence_4 : decode cX5_fence 4 = .ok (.getfield 85, 3) := by decide +kernel
theorem dX5_fence_7 : decode cX5_fence 7 = .ok (.ifCond .eq 5, 3) := by decide +kernel
theorem dX5_fence_10 : decode cX5_fence 10 = .ok (.iconst (-1), 1) := by decide +kernel
theorem dX5_fence_11 : decode cX5_fence 11 = .ok (.ireturn, 1) := by decide +kernel
theorem dX5_fence_12 : decode cX5_fence 12 = .ok (.aload_n 0, 1) := by decide +kernel
theorem dX5_fence_13 : decode cX5_fence 13 = .ok (.getfield 10, 3) := by decide +kernel
theorem dX5_fence_16 : decode cX5_fence 16 = .ok (.invokevirtual 88, 3) := by decide +kernel
theorem dX5_fence_19 : decode cX5_fence 19 = .ok (.ifCond .ne 6, 3) := by decide +kernel
theorem dX5_fence_22 : decode cX5_fence 22 = .ok (.bipush (-2), 2) := by decide +kernel
theorem dX5_fence_24 : decode cX5_fence 24 = .ok (.ireturn, 1) := by decide +kernel
theorem dX5_fence_25 : decode cX5_fence 25 = .ok (.aload_n 0, 1) := by decide +kernel
theorem dX5_fence_26 : decode cX5_fence 26 = .ok (.getfield 10, 3) := by decide +kernel
theorem dX5_fence_29 : decode cX5_fence 29 = .ok (.invokevirtual 91, 3) := by decide +kernel
theorem dX5_fence_32 : decode cX5_fence 32 = .ok (.ifCond .ne 6, 3) := by decide +kernel
theorem dX5_fence_35 : decode cX5_fence 35 = .ok (.bipush (-3), 2) := by decide +kernel
theorem dX5_fence_37 : decode cX5_fence 37 = .ok (.ireturn, 1) := by decide +kernel
theorem dX5_fence_38 : decode cX5_fence 38 = .ok (.aload_n 0, 1) := by decide +kernel
theorem dX5_fence_39 : decode cX5_fence 39 = .ok (.getfield 10, 3) := by decide +kernel
theorem dX5_fence_42 : decode cX5_fence 42 = .ok (.iconst 0, 1) := by decide +kernel
theorem dX5_fence_43 : decode cX5_fence 43 = .ok (.iconst 0, 1) := by decide +kernel
theorem dX5_fence_44 : decode cX5_fence 44 = .ok (.sipush 1000, 3) := by decide +kernel
theorem dX5_fence_47 : decode cX5_fence 47 = .ok (.invokevirtual 94, 3) := by decide +kernel
theorem dX5_fence_50 : decode cX5_fence 50 = .ok (.ifCond .ne 6, 3) := by decide +kernel
theorem dX5_fence_53 : decode cX5_fence 53 = .ok (.bipush (-4), 2) := by decide +kernel
theorem dX5_fence_55 : decode cX5_fence 55 = .ok (.ireturn, 1) := by decide +kernel
theorem dX5_fence_56 : decode cX5_fence 56 = .ok (.iload_n 1, 1) := by decide +kernel
theorem dX5_fence_57 : decode cX5_fence 57 = .ok (.sipush 1500, 3) := by decide +kernel
theorem dX5_fence_60 : decode cX5_fence 60 = .ok (.sipush 10000, 3) := by decide +kernel
theorem dX5_fence_63 : decode cX5_fence 63 = .ok (.invokestatic 98, 3) := by decide +kernel
theorem dX5_fence_66 : decode cX5_fence 66 = .ok (.ifCond .ne 6, 3) := by decide +kernel
theorem dX5_fence_69 : decode cX5_fence 69 = .ok (.bipush (-5), 2) := by decide +kernel
theorem dX5_fence_71 : decode cX5_fence 71 = .ok (.ireturn, 1) := by decide +kernel
theorem dX5_fence_72 : decode cX5_fence 72 = .ok (.aload_n 0, 1) := by decide +kernel
theorem dX5_fence_73 : decode cX5_fence 73 = .ok (.getfield 16, 3) := by decide +kernel
theorem dX5_fence_76 : decode cX5_fence 76 = .ok (.aload_n 0, 1) := by decide +kernel
theorem dX5_fence_77 : decode cX5_fence 77 = .ok (.getfield 10, 3) := by decide +kernel
theorem dX5_fence_80 : decode cX5_fence 80 = .ok (.invokevirtual 101, 3) := by decide +kernel
theorem dX5_fence_83 : decode cX5_fence 83 = .ok (.aload_n 0, 1) := by decide +kernel
theorem dX5_fence_84 : decode cX5_fence 84 = .ok (.iload_n 1, 1) := by decide +kernel
theorem dX5_fence_85 : decode cX5_fence 85 = .ok (.putfield 54, 3) := by decide +kernel
theorem dX5_fence_88 : decode cX5_fence 88 = .ok (.aload_n 0, 1) := by decide +kernel
theorem dX5_fence_89 : decode cX5_fence 89 = .ok (.getfield 10, 3) := by decide +kernel
theorem dX5_fence_92 : decode cX5_fence 92 = .ok (.invokevirtual 82, 3) := by decide +kernel
theorem dX5_fence_95 : decode cX5_fence 95 = .ok (.iconst 0, 1) := by decide +kernel
theorem dX5_fence_96 : decode cX5_fence 96 = .ok (.ireturn, 1) := by decide +kernel
set_option maxRecDepth 20000 in
theorem ggX5_upload_X5_isWithin : GoodIn wsX5_upload wsX5_isWithin := goodIn_r _ [5] (by decide +kernel) (by decide +kernel)
set_option maxRecDepth 20000 in
theorem gX5_upload_X5_isWithin : GoodIn wsX5_upload (va_wsS RX5 98 yX5_isWithin wsX5_isWithin) := goodIn_app (goodIn_of _ (by decide +kernel)) ggX5_upload_X5_isWithin
set_option maxRecDepth 20000 in
theorem ggX5_upload_X4_begin : GoodIn wsX5_upload wsX4_begin := goodIn_r _ [10, 11, 12, 13, 14, 15, 16, 17, 18, 19, 20, 21, 35, 36, 37, 38, 39, 40, 41] (by decide +kernel) (by decide +kernel)
set_option maxRecDepth 20000 in
theorem gX5_upload_X4_begin : GoodIn wsX5_upload (wsV RX5 105 RX4 yX4_begin wsX4_begin) := goodIn_app (goodIn_of _ (by decide +kernel)) ggX5_upload_X4_begin
theorem dX5_upload_0 : decode cX5_upload 0 = .ok (.iload_n 1, 1) := by decide +kernel
theorem dX5_upload_1 : decode cX5_upload 1 = .ok (.iconst 1, 1) := by decide +kernel
theorem dX5_upload_2 : decode cX5_upload 2 = .ok (.bipush 8, 2) := by decide +kernel
theorem dX5_upload_4 : decode cX5_upload 4 = .ok (.invokestatic 98, 3) := by decide +kernel
theorem dX5_upload_7 : decode cX5_upload 7 = .ok (.ifCond .ne 6, 3) := by decide +kernel
theorem dX5_upload_10 : decode cX5_upload 10 = .ok (.bipush (-5), 2) := by decide +kernel
theorem dX5_upload_12 : decode cX5_upload 12 = .ok (.ireturn, 1) := by decide +kernel
theorem dX5_upload_13 : decode cX5_upload 13 = .ok (.aload_n 0, 1) := by decide +kernel
theorem dX5_upload_14 : decode cX5_upload 14 = .ok (.getfield 22, 3) := by decide +kernel
theorem dX5_upload_17 : decode cX5_upload 17 = .ok (.iload_n 1, 1) := by decide +kernel
theorem dX5_upload_18 : decode cX5_upload 18 = .ok (.invokevirtual 105, 3) := by decide +kernel
theorem dX5_upload_21 : decode cX5_upload 21 = .ok (.iconst 0, 1) := by decide +kernel
theorem dX5_upload_22 : decode cX5_upload 22 = .ok (.ireturn, 1) := by decide +kernel
set_option maxRecDepth 20000 in
theorem ggX5_item_X5_isOnMap : GoodIn wsX5_item wsX5_isOnMap := goodIn_r _ [7, 8, 9, 6, 10] (by decide +kernel) (by decide +kernel)
set_option maxRecDepth 20000 in
theorem gX5_item_X5_isOnMap : GoodIn wsX5_item (va_wsS RX5 74 yX5_isOnMap wsX5_isOnMap) := goodIn_app (goodIn_of _ (by decide +kernel)) ggX5_item_X5_isOnMap
set_option maxRecDepth 20000 in
theorem ggX5_item_X5_isWithin : GoodIn wsX5_item wsX5_isWithin := goodIn_r _ [10] (by decide +kernel) (by decide +kernel)
set_option maxRecDepth 20000 in
theorem gX5_item_X5_isWithin : GoodIn wsX5_item (va_wsS RX5 98 yX5_isWithin wsX5_isWithin) := goodIn_app (goodIn_of _ (by decide +kernel)) ggX5_item_X5_isWithin
set_option maxRecDepth 20000 in
theorem ggX5_item_X4_next : GoodIn wsX5_item wsX4_next := goodIn_r _ [15, 16, 61, 62, 63, 64, 65, 66, 67] (by decide +kernel) (by decide +kernel)
set_option maxRecDepth 20000 in
theorem gX5_item_X4_next : GoodIn wsX5_item (wsV RX5 113 RX4 yX4_next wsX4_next) := goodIn_app (goodIn_of _ (by decide +kernel)) ggX5_item_X4_next
set_option maxRecDepth 20000 in
theorem ggX5_item_X4_keep : GoodIn wsX5_item wsX4_keep := goodIn_r _ [20, 16, 21, 22, 23, 24, 25, 26, 27, 28, 29, 61, 62, 63, 64, 65, 66, 67] (by decide +kernel) (by decide +kernel)
set_option maxRecDepth 20000 in
theorem gX5_item_X4_keep : GoodIn wsX5_item (wsV RX5 117 RX4 yX4_keep wsX4_keep) := goodIn_app (goodIn_of _ (by decide +kernel)) ggX5_item_X4_keep
set_option maxRecDepth 20000 in
theorem ggX5_item_X4_isComplete : GoodIn wsX5_item wsX4_isComplete := goodIn_r _ [33, 16, 34, 61, 62, 63, 64, 65, 66, 67] (by decide +kernel) (by decide +kernel)
set_option maxRecDepth 20000 in
theorem gX5_item_X4_isComplete : GoodIn wsX5_item (wsV RX5 121 RX4 yX4_isComplete wsX4_isComplete) := goodIn_app (goodIn_of _ (by decide +kernel)) ggX5_item_X4_isComplete
set_option maxRecDepth 20000 in
theorem ggX5_item_X4_end : GoodIn wsX5_item wsX4_end := goodIn_r _ [38, 39, 61, 62, 63, 64, 65] (by decide +kernel) (by decide +kernel)
set_option maxRecDepth 20000 in
theorem gX5_item_X4_end : GoodIn wsX5_item (wsV RX5 124 RX4 yX4_end wsX4_end) := goodIn_app (goodIn_of _ (by decide +kernel)) ggX5_item_X4_end
set_option maxRecDepth 20000 in
theorem ggX5_item_X1_copyFrom : GoodIn wsX5_item wsX1_copyFrom := goodIn_r _ [43, 29, 44, 45, 46, 47, 28, 66, 67] (by decide +kernel) (by decide +kernel)
set_option maxRecDepth 20000 in
theorem gX5_item_X1_copyFrom : GoodIn wsX5_item (wsV RX5 130 RX1 yX1_copyFrom wsX1_copyFrom) := goodIn_app (goodIn_of _ (by decide +kernel)) ggX5_item_X1_copyFrom
theorem dX5_item_0 : decode cX5_item 0 = .ok (.aload_n 0, 1) := by decide +kernel
theorem dX5_item_1 : decode cX5_item 1 = .ok (.getfield 22, 3) := by decide +kernel
theorem dX5_item_4 : decode cX5_item 4 = .ok (.getfield 109, 3) := by decide +kernel
theorem dX5_item_7 : decode cX5_item 7 = .ok (.ifCond .ne 6, 3) := by decide +kernel
theorem dX5_item_10 : decode cX5_item 10 = .ok (.bipush (-6), 2) := by decide +kernel
theorem dX5_item_12 : decode cX5_item 12 = .ok (.ireturn, 1) := by decide +kernel
theorem dX5_item_13 : decode cX5_item 13 = .ok (.iload_n 2, 1) := by decide +kernel
theorem dX5_item_14 : decode cX5_item 14 = .ok (.iload_n 3, 1) := by decide +kernel
theorem dX5_item_15 : decode cX5_item 15 = .ok (.invokestatic 74, 3) := by decide +kernel
theorem dX5_item_18 : decode cX5_item 18 = .ok (.ifCond .eq 17, 3) := by decide +kernel
theorem dX5_item_21 : decode cX5_item 21 = .ok (.iload 4, 2) := by decide +kernel
theorem dX5_item_23 : decode cX5_item 23 = .ok (.sipush 500, 3) := by decide +kernel
theorem dX5_item_26 : decode cX5_item 26 = .ok (.sipush 10000, 3) := by decide +kernel
theorem dX5_item_29 : decode cX5_item 29 = .ok (.invokestatic 98, 3) := by decide +kernel
theorem dX5_item_32 : decode cX5_item 32 = .ok (.ifCond .ne 6, 3) := by decide +kernel
theorem dX5_item_35 : decode cX5_item 35 = .ok (.bipush (-5), 2) := by decide +kernel
theorem dX5_item_37 : decode cX5_item 37 = .ok (.ireturn, 1) := by decide +kernel
theorem dX5_item_38 : decode cX5_item 38 = .ok (.iload_n 1, 1) := by decide +kernel
theorem dX5_item_39 : decode cX5_item 39 = .ok (.aload_n 0, 1) := by decide +kernel
theorem dX5_item_40 : decode cX5_item 40 = .ok (.getfield 22, 3) := by decide +kernel
theorem dX5_item_43 : decode cX5_item 43 = .ok (.invokevirtual 113, 3) := by decide +kernel
theorem dX5_item_46 : decode cX5_item 46 = .ok (.if_icmp .eq 11, 3) := by decide +kernel
theorem dX5_item_49 : decode cX5_item 49 = .ok (.aload_n 0, 1) := by decide +kernel
theorem dX5_item_50 : decode cX5_item 50 = .ok (.getfield 22, 3) := by decide +kernel
theorem dX5_item_53 : decode cX5_item 53 = .ok (.invokevirtual 113, 3) := by decide +kernel
theorem dX5_item_56 : decode cX5_item 56 = .ok (.ireturn, 1) := by decide +kernel
theorem dX5_item_57 : decode cX5_item 57 = .ok (.aload_n 0, 1) := by decide +kernel
theorem dX5_item_58 : decode cX5_item 58 = .ok (.getfield 22, 3) := by decide +kernel
theorem dX5_item_61 : decode cX5_item 61 = .ok (.iload_n 2, 1) := by decide +kernel
theorem dX5_item_62 : decode cX5_item 62 = .ok (.iload_n 3, 1) := by decide +kernel
theorem dX5_item_63 : decode cX5_item 63 = .ok (.iload 4, 2) := by decide +kernel
theorem dX5_item_65 : decode cX5_item 65 = .ok (.invokevirtual 117, 3) := by decide +kernel
theorem dX5_item_68 : decode cX5_item 68 = .ok (.aload_n 0, 1) := by decide +kernel
theorem dX5_item_69 : decode cX5_item 69 = .ok (.getfield 22, 3) := by decide +kernel
theorem dX5_item_72 : decode cX5_item 72 = .ok (.invokevirtual 121, 3) := by decide +kernel
theorem dX5_item_75 : decode cX5_item 75 = .ok (.ifCond .ne 11, 3) := by decide +kernel
theorem dX5_item_78 : decode cX5_item 78 = .ok (.aload_n 0, 1) := by decide +kernel
theorem dX5_item_79 : decode cX5_item 79 = .ok (.getfield 22, 3) := by decide +kernel
theorem dX5_item_82 : decode cX5_item 82 = .ok (.invokevirtual 113, 3) := by decide +kernel
theorem dX5_item_85 : decode cX5_item 85 = .ok (.ireturn, 1) := by decide +kernel
theorem dX5_item_86 : decode cX5_item 86 = .ok (.aload_n 0, 1) := by decide +kernel
theorem dX5_item_87 : decode cX5_item 87 = .ok (.getfield 22, 3) := by decide +kernel
theorem dX5_item_90 : decode cX5_item 90 = .ok (.invokevirtual 124, 3) := by decide +kernel
theorem dX5_item_93 : decode cX5_item 93 = .ok (.aload_n 0, 1) := by decide +kernel
theorem dX5_item_94 : decode cX5_item 94 = .ok (.getfield 29, 3) := by decide +kernel
theorem dX5_item_97 : decode cX5_item 97 = .ok (.aload_n 0, 1) := by decide +kernel
theorem dX5_item_98 : decode cX5_item 98 = .ok (.getfield 22, 3) := by decide +kernel
theorem dX5_item_101 : decode cX5_item 101 = .ok (.getfield 127, 3) := by decide +kernel
theorem dX5_item_104 : decode cX5_item 104 = .ok (.invokevirtual 130, 3) := by decide +kernel
theorem dX5_item_107 : decode cX5_item 107 = .ok (.aload_n 0, 1) := by decide +kernel
theorem dX5_item_108 : decode cX5_item 108 = .ok (.iconst 0, 1) := by decide +kernel
theorem dX5_item_109 : decode cX5_item 109 = .ok (.putfield 58, 3) := by decide +kernel
theorem dX5_item_112 : decode cX5_item 112 = .ok (.bipush 100, 2) := by decide +kernel
theorem dX5_item_114 : decode cX5_item 114 = .ok (.ireturn, 1) := by decide +kernel
set_option maxRecDepth 20000 in
theorem ggX5_wanted_X4_next : GoodIn wsX5_wanted wsX4_next := goodIn_r _ [6, 7, 21, 22, 23, 24, 25, 26, 27] (by decide +kernel) (by decide +kernel)
set_option maxRecDepth 20000 in
theorem gX5_wanted_X4_next : GoodIn wsX5_wanted (wsV RX5 113 RX4 yX4_next wsX4_next) := goodIn_app (goodIn_of _ (by decide +kernel)) ggX5_wanted_X4_next
theorem dX5_wanted_0 : decode cX5_wanted 0 = .ok (.aload_n 0, 1) := by decide +kernel
theorem dX5_wanted_1 : decode cX5_wanted 1 = .ok (.getfield 22, 3) := by decide +kernel
theorem dX5_wanted_4 : decode cX5_wanted 4 = .ok (.getfield 109, 3) := by decide +kernel
theorem dX5_wanted_7 : decode cX5_wanted 7 = .ok (.ifCond .eq 13, 3) := by decide +kernel
theorem dX5_wanted_10 : decode cX5_wanted 10 = .ok (.aload_n 0, 1) := by decide +kernel
theorem dX5_wanted_11 : decode cX5_wanted 11 = .ok (.getfield 22, 3) := by decide +kernel
theorem dX5_wanted_14 : decode cX5_wanted 14 = .ok (.invokevirtual 113, 3) := by decide +kernel
theorem dX5_wanted_17 : decode cX5_wanted 17 = .ok (.goto 5, 3) := by decide +kernel
theorem dX5_wanted_20 : decode cX5_wanted 20 = .ok (.bipush (-6), 2) := by decide +kernel
theorem dX5_wanted_22 : decode cX5_wanted 22 = .ok (.ireturn, 1) := by decide +kernel
set_option maxRecDepth 20000 in
theorem ggX5_sample_X5_isWithin : GoodIn wsX5_sample wsX5_isWithin := goodIn_r _ [5] (by decide +kernel) (by decide +kernel)
set_option maxRecDepth 20000 in
theorem gX5_sample_X5_isWithin : GoodIn wsX5_sample (va_wsS RX5 98 yX5_isWithin wsX5_isWithin) := goodIn_app (goodIn_of _ (by decide +kernel)) ggX5_sample_X5_isWithin
set_option maxRecDepth 20000 in
theorem ggX5_sample_X5_isInSensorReach : GoodIn wsX5_sample wsX5_isInSensorReach := goodIn_r _ [8, 2, 3, 4, 5] (by decide +kernel) (by decide +kernel)
set_option maxRecDepth 20000 in
theorem gX5_sample_X5_isInSensorReach : GoodIn wsX5_sample (va_wsS RX5 133 yX5_isInSensorReach wsX5_isInSensorReach) := goodIn_app (goodIn_of _ (by decide +kernel)) ggX5_sample_X5_isInSensorReach
set_option maxRecDepth 20000 in
theorem ggX5_sample_X3_take : GoodIn wsX5_sample wsX3_take := goodIn_r _ [13, 14, 15, 29, 30] (by decide +kernel) (by decide +kernel)
set_option maxRecDepth 20000 in
theorem gX5_sample_X3_take : GoodIn wsX5_sample (wsV RX5 136 RX3 yX3_take wsX3_take) := goodIn_app (goodIn_of _ (by decide +kernel)) ggX5_sample_X3_take
theorem dX5_sample_0 : decode cX5_sample 0 = .ok (.iload_n 1, 1) := by decide +kernel
theorem dX5_sample_1 : decode cX5_sample 1 = .ok (.iconst 0, 1) := by decide +kernel
theorem dX5_sample_2 : decode cX5_sample 2 = .ok (.iconst 2, 1) := by decide +kernel
theorem dX5_sample_3 : decode cX5_sample 3 = .ok (.invokestatic 98, 3) := by decide +kernel
theorem dX5_sample_6 : decode cX5_sample 6 = .ok (.ifCond .eq 25, 3) := by decide +kernel
theorem dX5_sample_9 : decode cX5_sample 9 = .ok (.iload_n 2, 1) := by decide +kernel
theorem dX5_sample_10 : decode cX5_sample 10 = .ok (.iload_n 3, 1) := by decide +kernel
theorem dX5_sample_11 : decode cX5_sample 11 = .ok (.invokestatic 133, 3) := by decide +kernel
theorem dX5_sample_14 : decode cX5_sample 14 = .ok (.ifCond .eq 17, 3) := by decide +kernel
theorem dX5_sample_17 : decode cX5_sample 17 = .ok (.iload 4, 2) := by decide +kernel
theorem dX5_sample_19 : decode cX5_sample 19 = .ok (.sipush (-2000), 3) := by decide +kernel
theorem dX5_sample_22 : decode cX5_sample 22 = .ok (.sipush 20000, 3) := by decide +kernel
theorem dX5_sample_25 : decode cX5_sample 25 = .ok (.invokestatic 98, 3) := by decide +kernel
theorem dX5_sample_28 : decode cX5_sample 28 = .ok (.ifCond .ne 5, 3) := by decide +kernel
theorem dX5_sample_31 : decode cX5_sample 31 = .ok (.iconst 0, 1) := by decide +kernel
theorem dX5_sample_32 : decode cX5_sample 32 = .ok (.ireturn, 1) := by decide +kernel
theorem dX5_sample_33 : decode cX5_sample 33 = .ok (.aload_n 0, 1) := by decide +kernel
theorem dX5_sample_34 : decode cX5_sample 34 = .ok (.getfield 36, 3) := by decide +kernel
theorem dX5_sample_37 : decode cX5_sample 37 = .ok (.iload_n 1, 1) := by decide +kernel
theorem dX5_sample_38 : decode cX5_sample 38 = .ok (.iload_n 2, 1) := by decide +kernel
theorem dX5_sample_39 : decode cX5_sample 39 = .ok (.iload_n 3, 1) := by decide +kernel
theorem dX5_sample_40 : decode cX5_sample 40 = .ok (.iload 4, 2) := by decide +kernel
theorem dX5_sample_42 : decode cX5_sample 42 = .ok (.invokevirtual 136, 3) := by decide +kernel
theorem dX5_sample_45 : decode cX5_sample 45 = .ok (.iconst 1, 1) := by decide +kernel
theorem dX5_sample_46 : decode cX5_sample 46 = .ok (.ireturn, 1) := by decide +kernel
theorem dX5_beat_0 : decode cX5_beat 0 = .ok (.aload_n 0, 1) := by decide +kernel
theorem dX5_beat_1 : decode cX5_beat 1 = .ok (.iconst 0, 1) := by decide +kernel
theorem dX5_beat_2 : decode cX5_beat 2 = .ok (.putfield 64, 3) := by decide +kernel
theorem dX5_beat_5 : decode cX5_beat 5 = .ok (.return_, 1) := by decide +kernel
set_option maxRecDepth 20000 in
theorem ggX5_arm_X0_areEnough : GoodIn wsX5_arm wsX0_areEnough := goodIn_r _ [10, 11, 59, 60, 61] (by decide +kernel) (by decide +kernel)
set_option maxRecDepth 20000 in
theorem gX5_arm_X0_areEnough : GoodIn wsX5_arm (wsV RX5 88 RX0 yX0_areEnough wsX0_areEnough) := goodIn_app (goodIn_of _ (by decide +kernel)) ggX5_arm_X0_areEnough
set_option maxRecDepth 20000 in
theorem ggX5_arm_X0_leaveClear : GoodIn wsX5_arm wsX0_leaveClear := goodIn_r _ [15, 11, 16, 7, 8, 9, 10, 17, 18, 19, 20, 21, 22, 23, 24, 25, 26, 27, 28, 29, 30, 31, 32, 33, 34, 59, 60, 61] (by decide +kernel) (by decide +kernel)
set_option maxRecDepth 20000 in
theorem gX5_arm_X0_leaveClear : GoodIn wsX5_arm (wsV RX5 94 RX0 yX0_leaveClear wsX0_leaveClear) := goodIn_app (goodIn_of _ (by decide +kernel)) ggX5_arm_X0_leaveClear
set_option maxRecDepth 20000 in
theorem ggX5_arm_X2_enter : GoodIn wsX5_arm wsX2_enter := goodIn_r _ [39, 40, 41, 42, 56, 57, 58] (by decide +kernel) (by decide +kernel)
set_option maxRecDepth 20000 in
theorem gX5_arm_X2_enter : GoodIn wsX5_arm (wsV RX5 140 RX2 yX2_enter wsX2_enter) := goodIn_app (goodIn_of _ (by decide +kernel)) ggX5_arm_X2_enter
theorem dX5_arm_0 : decode cX5_arm 0 = .ok (.aload_n 0, 1) := by decide +kernel
theorem dX5_arm_1 : decode cX5_arm 1 = .ok (.getfield 43, 3) := by decide +kernel
theorem dX5_arm_4 : decode cX5_arm 4 = .ok (.getfield 85, 3) := by decide +kernel
theorem dX5_arm_7 : decode cX5_arm 7 = .ok (.ifCond .eq 5, 3) := by decide +kernel
theorem dX5_arm_10 : decode cX5_arm 10 = .ok (.iconst (-1), 1) := by decide +kernel
theorem dX5_arm_11 : decode cX5_arm 11 = .ok (.ireturn, 1) := by decide +kernel
theorem dX5_arm_12 : decode cX5_arm 12 = .ok (.aload_n 0, 1) := by decide +kernel
theorem dX5_arm_13 : decode cX5_arm 13 = .ok (.getfield 16, 3) := by decide +kernel
theorem dX5_arm_16 : decode cX5_arm 16 = .ok (.invokevirtual 88, 3) := by decide +kernel
theorem dX5_arm_19 : decode cX5_arm 19 = .ok (.ifCond .ne 6, 3) := by decide +kernel

theorem dX5_moveOn_45 : decode cX5_moveOn 45 = .ok (.getfield 67, 3) := by decide +kernel
theorem dX5_moveOn_48 : decode cX5_moveOn 48 = .ok (.invokevirtual 140, 3) := by decide +kernel
theorem dX5_moveOn_51 : decode cX5_moveOn 51 = .ok (.goto 96, 3) := by decide +kernel
theorem dX5_moveOn_54 : decode cX5_moveOn 54 = .ok (.iload_n 1, 1) := by decide +kernel
theorem dX5_moveOn_55 : decode cX5_moveOn 55 = .ok (.iconst 2, 1) := by decide +kernel
theorem dX5_moveOn_56 : decode cX5_moveOn 56 = .ok (.if_icmp .ne 17, 3) := by decide +kernel
theorem dX5_moveOn_59 : decode cX5_moveOn 59 = .ok (.aload_n 0, 1) := by decide +kernel
theorem dX5_moveOn_60 : decode cX5_moveOn 60 = .ok (.invokevirtual 195, 3) := by decide +kernel
theorem dX5_moveOn_63 : decode cX5_moveOn 63 = .ok (.ifCond .eq 10, 3) := by decide +kernel
theorem dX5_moveOn_66 : decode cX5_moveOn 66 = .ok (.aload_n 0, 1) := by decide +kernel
theorem dX5_moveOn_67 : decode cX5_moveOn 67 = .ok (.invokevirtual 198, 3) := by decide +kernel
theorem dX5_moveOn_70 : decode cX5_moveOn 70 = .ok (.goto 77, 3) := by decide +kernel
theorem dX5_moveOn_73 : decode cX5_moveOn 73 = .ok (.iload_n 1, 1) := by decide +kernel
theorem dX5_moveOn_74 : decode cX5_moveOn 74 = .ok (.iconst 4, 1) := by decide +kernel
theorem dX5_moveOn_75 : decode cX5_moveOn 75 = .ok (.if_icmp .ne 44, 3) := by decide +kernel
theorem dX5_moveOn_78 : decode cX5_moveOn 78 = .ok (.aload_n 0, 1) := by decide +kernel
theorem dX5_moveOn_79 : decode cX5_moveOn 79 = .ok (.getfield 47, 3) := by decide +kernel
theorem dX5_moveOn_82 : decode cX5_moveOn 82 = .ok (.iconst 0, 1) := by decide +kernel
theorem dX5_moveOn_83 : decode cX5_moveOn 83 = .ok (.iaload, 1) := by decide +kernel
theorem dX5_moveOn_84 : decode cX5_moveOn 84 = .ok (.iconst 0, 1) := by decide +kernel
theorem dX5_moveOn_85 : decode cX5_moveOn 85 = .ok (.invokestatic 201, 3) := by decide +kernel
theorem dX5_moveOn_88 : decode cX5_moveOn 88 = .ok (.ifCond .eq 31, 3) := by decide +kernel
theorem dX5_moveOn_91 : decode cX5_moveOn 91 = .ok (.aload_n 0, 1) := by decide +kernel
theorem dX5_moveOn_92 : decode cX5_moveOn 92 = .ok (.getfield 47, 3) := by decide +kernel
theorem dX5_moveOn_95 : decode cX5_moveOn 95 = .ok (.iconst 1, 1) := by decide +kernel
theorem dX5_moveOn_96 : decode cX5_moveOn 96 = .ok (.iaload, 1) := by decide +kernel
theorem dX5_moveOn_97 : decode cX5_moveOn 97 = .ok (.iconst 0, 1) := by decide +kernel
theorem dX5_moveOn_98 : decode cX5_moveOn 98 = .ok (.invokestatic 201, 3) := by decide +kernel
theorem dX5_moveOn_101 : decode cX5_moveOn 101 = .ok (.ifCond .eq 18, 3) := by decide +kernel
theorem dX5_moveOn_104 : decode cX5_moveOn 104 = .ok (.aload_n 0, 1) := by decide +kernel
theorem dX5_moveOn_105 : decode cX5_moveOn 105 = .ok (.getfield 43, 3) := by decide +kernel
theorem dX5_moveOn_108 : decode cX5_moveOn 108 = .ok (.iconst 5, 1) := by decide +kernel
theorem dX5_moveOn_109 : decode cX5_moveOn 109 = .ok (.aload_n 0, 1) := by decide +kernel
theorem dX5_moveOn_110 : decode cX5_moveOn 110 = .ok (.getfield 67, 3) := by decide +kernel
theorem dX5_moveOn_113 : decode cX5_moveOn 113 = .ok (.invokevirtual 140, 3) := by decide +kernel
theorem dX5_moveOn_116 : decode cX5_moveOn 116 = .ok (.goto 31, 3) := by decide +kernel
theorem dX5_moveOn_119 : decode cX5_moveOn 119 = .ok (.iload_n 1, 1) := by decide +kernel
theorem dX5_moveOn_120 : decode cX5_moveOn 120 = .ok (.iconst 5, 1) := by decide +kernel
theorem dX5_moveOn_121 : decode cX5_moveOn 121 = .ok (.if_icmp .ne 26, 3) := by decide +kernel
theorem dX5_moveOn_124 : decode cX5_moveOn 124 = .ok (.aload_n 0, 1) := by decide +kernel
theorem dX5_moveOn_125 : decode cX5_moveOn 125 = .ok (.getfield 47, 3) := by decide +kernel
theorem dX5_moveOn_128 : decode cX5_moveOn 128 = .ok (.iconst 2, 1) := by decide +kernel
theorem dX5_moveOn_129 : decode cX5_moveOn 129 = .ok (.iaload, 1) := by decide +kernel
theorem dX5_moveOn_130 : decode cX5_moveOn 130 = .ok (.bipush 20, 2) := by decide +kernel
theorem dX5_moveOn_132 : decode cX5_moveOn 132 = .ok (.if_icmp .gt 15, 3) := by decide +kernel
theorem dX5_moveOn_135 : decode cX5_moveOn 135 = .ok (.aload_n 0, 1) := by decide +kernel
theorem dX5_moveOn_136 : decode cX5_moveOn 136 = .ok (.getfield 43, 3) := by decide +kernel
theorem dX5_moveOn_139 : decode cX5_moveOn 139 = .ok (.iconst 0, 1) := by decide +kernel
theorem dX5_moveOn_140 : decode cX5_moveOn 140 = .ok (.aload_n 0, 1) := by decide +kernel
theorem dX5_moveOn_141 : decode cX5_moveOn 141 = .ok (.getfield 67, 3) := by decide +kernel
theorem dX5_moveOn_144 : decode cX5_moveOn 144 = .ok (.invokevirtual 140, 3) := by decide +kernel
theorem dX5_moveOn_147 : decode cX5_moveOn 147 = .ok (.return_, 1) := by decide +kernel
set_option maxRecDepth 20000 in
theorem ggX5_hasReachedItem_X1_read : GoodIn wsX5_hasReachedItem wsX1_read := goodIn_r _ [8, 9, 10, 11, 12, 13, 31, 32] (by decide +kernel) (by decide +kernel)
set_option maxRecDepth 20000 in
theorem gX5_hasReachedItem_X1_read : GoodIn wsX5_hasReachedItem (wsV RX5 204 RX1 yX1_read wsX1_read) := goodIn_app (goodIn_of _ (by decide +kernel)) ggX5_hasReachedItem_X1_read
set_option maxRecDepth 20000 in
theorem ggX5_hasReachedItem_X5_isNear : GoodIn wsX5_hasReachedItem wsX5_isNear := goodIn_r _ [16, 17, 11, 12, 13] (by decide +kernel) (by decide +kernel)
set_option maxRecDepth 20000 in
theorem gX5_hasReachedItem_X5_isNear : GoodIn wsX5_hasReachedItem (va_wsS RX5 201 yX5_isNear wsX5_isNear) := goodIn_app (goodIn_of _ (by decide +kernel)) ggX5_hasReachedItem_X5_isNear
theorem dX5_hasReachedItem_0 : decode cX5_hasReachedItem 0 = .ok (.iconst 0, 1) := by decide +kernel
theorem dX5_hasReachedItem_1 : decode cX5_hasReachedItem 1 = .ok (.istore_n 1, 1) := by decide +kernel
theorem dX5_hasReachedItem_2 : decode cX5_hasReachedItem 2 = .ok (.iload_n 1, 1) := by decide +kernel
theorem dX5_hasReachedItem_3 : decode cX5_hasReachedItem 3 = .ok (.iconst 3, 1) := by decide +kernel
theorem dX5_hasReachedItem_4 : decode cX5_hasReachedItem 4 = .ok (.if_icmp .ge 35, 3) := by decide +kernel
theorem dX5_hasReachedItem_7 : decode cX5_hasReachedItem 7 = .ok (.aload_n 0, 1) := by decide +kernel
theorem dX5_hasReachedItem_8 : decode cX5_hasReachedItem 8 = .ok (.getfield 47, 3) := by decide +kernel
theorem dX5_hasReachedItem_11 : decode cX5_hasReachedItem 11 = .ok (.iload_n 1, 1) := by decide +kernel
theorem dX5_hasReachedItem_12 : decode cX5_hasReachedItem 12 = .ok (.iaload, 1) := by decide +kernel
theorem dX5_hasReachedItem_13 : decode cX5_hasReachedItem 13 = .ok (.aload_n 0, 1) := by decide +kernel
theorem dX5_hasReachedItem_14 : decode cX5_hasReachedItem 14 = .ok (.getfield 29, 3) := by decide +kernel
theorem dX5_hasReachedItem_17 : decode cX5_hasReachedItem 17 = .ok (.aload_n 0, 1) := by decide +kernel
theorem dX5_hasReachedItem_18 : decode cX5_hasReachedItem 18 = .ok (.getfield 58, 3) := by decide +kernel
theorem dX5_hasReachedItem_21 : decode cX5_hasReachedItem 21 = .ok (.iload_n 1, 1) := by decide +kernel
theorem dX5_hasReachedItem_22 : decode cX5_hasReachedItem 22 = .ok (.invokevirtual 204, 3) := by decide +kernel
theorem dX5_hasReachedItem_25 : decode cX5_hasReachedItem 25 = .ok (.invokestatic 201, 3) := by decide +kernel
theorem dX5_hasReachedItem_28 : decode cX5_hasReachedItem 28 = .ok (.ifCond .ne 5, 3) := by decide +kernel
theorem dX5_hasReachedItem_31 : decode cX5_hasReachedItem 31 = .ok (.iconst 0, 1) := by decide +kernel
theorem dX5_hasReachedItem_32 : decode cX5_hasReachedItem 32 = .ok (.ireturn, 1) := by decide +kernel
theorem dX5_hasReachedItem_33 : decode cX5_hasReachedItem 33 = .ok (.iinc 1 1, 3) := by decide +kernel
theorem dX5_hasReachedItem_36 : decode cX5_hasReachedItem 36 = .ok (.goto (-34), 3) := by decide +kernel
theorem dX5_hasReachedItem_39 : decode cX5_hasReachedItem 39 = .ok (.iconst 1, 1) := by decide +kernel
theorem dX5_hasReachedItem_40 : decode cX5_hasReachedItem 40 = .ok (.ireturn, 1) := by decide +kernel
set_option maxRecDepth 20000 in
theorem ggX5_passItem_X2_enter : GoodIn wsX5_passItem wsX2_enter := goodIn_r _ [9, 10, 11, 12, 28, 29, 30] (by decide +kernel) (by decide +kernel)
set_option maxRecDepth 20000 in
theorem gX5_passItem_X2_enter : GoodIn wsX5_passItem (wsV RX5 140 RX2 yX2_enter wsX2_enter) := goodIn_app (goodIn_of _ (by decide +kernel)) ggX5_passItem_X2_enter
theorem dX5_passItem_0 : decode cX5_passItem 0 = .ok (.aload_n 0, 1) := by decide +kernel
theorem dX5_passItem_1 : decode cX5_passItem 1 = .ok (.dup, 1) := by decide +kernel
theorem dX5_passItem_2 : decode cX5_passItem 2 = .ok (.getfield 58, 3) := by decide +kernel
theorem dX5_passItem_5 : decode cX5_passItem 5 = .ok (.iconst 1, 1) := by decide +kernel
theorem dX5_passItem_6 : decode cX5_passItem 6 = .ok (.iadd, 1) := by decide +kernel
theorem dX5_passItem_7 : decode cX5_passItem 7 = .ok (.putfield 58, 3) := by decide +kernel
theorem dX5_passItem_10 : decode cX5_passItem 10 = .ok (.aload_n 0, 1) := by decide +kernel
theorem dX5_passItem_11 : decode cX5_passItem 11 = .ok (.getfield 58, 3) := by decide +kernel
theorem dX5_passItem_14 : decode cX5_passItem 14 = .ok (.aload_n 0, 1) := by decide +kernel
theorem dX5_passItem_15 : decode cX5_passItem 15 = .ok (.getfield 29, 3) := by decide +kernel
theorem dX5_passItem_18 : decode cX5_passItem 18 = .ok (.getfield 208, 3) := by decide +kernel
theorem dX5_passItem_21 : decode cX5_passItem 21 = .ok (.if_icmp .lt 20, 3) := by decide +kernel
theorem dX5_passItem_24 : decode cX5_passItem 24 = .ok (.aload_n 0, 1) := by decide +kernel
theorem dX5_passItem_25 : decode cX5_passItem 25 = .ok (.iconst 0, 1) := by decide +kernel
theorem dX5_passItem_26 : decode cX5_passItem 26 = .ok (.putfield 58, 3) := by decide +kernel
theorem dX5_passItem_29 : decode cX5_passItem 29 = .ok (.aload_n 0, 1) := by decide +kernel
theorem dX5_passItem_30 : decode cX5_passItem 30 = .ok (.getfield 43, 3) := by decide +kernel
theorem dX5_passItem_33 : decode cX5_passItem 33 = .ok (.iconst 4, 1) := by decide +kernel
theorem dX5_passItem_34 : decode cX5_passItem 34 = .ok (.aload_n 0, 1) := by decide +kernel
theorem dX5_passItem_35 : decode cX5_passItem 35 = .ok (.getfield 67, 3) := by decide +kernel
theorem dX5_passItem_38 : decode cX5_passItem 38 = .ok (.invokevirtual 140, 3) := by decide +kernel
theorem dX5_passItem_41 : decode cX5_passItem 41 = .ok (.return_, 1) := by decide +kernel
set_option maxRecDepth 20000 in
theorem ggX5_guide_X5_setWish : GoodIn wsX5_guide wsX5_setWish := goodIn_r _ [7, 8, 34, 35, 36, 37, 38, 39, 40, 41, 42, 43, 44, 45, 46] (by decide +kernel) (by decide +kernel)
set_option maxRecDepth 20000 in
theorem gX5_guide_X5_setWish : GoodIn wsX5_guide (wsV RX5 155 RX5 yX5_setWish wsX5_setWish) := goodIn_app (goodIn_of _ (by decide +kernel)) ggX5_guide_X5_setWish
set_option maxRecDepth 20000 in
theorem ggX5_guide_X5_wishForItem : GoodIn wsX5_guide wsX5_wishForItem := goodIn_r _ [12, 8, 13, 14, 2, 15, 16, 17, 18, 19, 20, 21, 22, 6, 23, 24, 25, 26, 27, 28, 29, 30, 31, 32, 33, 34, 35, 36, 37, 38, 39, 40, 41, 42, 43, 44, 45, 46, 50, 51] (by decide +kernel) (by decide +kernel)
set_option maxRecDepth 20000 in
theorem gX5_guide_X5_wishForItem : GoodIn wsX5_guide (wsV RX5 211 RX5 yX5_wishForItem wsX5_wishForItem) := goodIn_app (goodIn_of _ (by decide +kernel)) ggX5_guide_X5_wishForItem
set_option maxRecDepth 20000 in
theorem ggX5_guide_X5_saturate : GoodIn wsX5_guide wsX5_saturate := goodIn_r _ [26, 27, 28, 29, 30, 31, 32, 33] (by decide +kernel) (by decide +kernel)
set_option maxRecDepth 20000 in
theorem gX5_guide_X5_saturate : GoodIn wsX5_guide (va_wsS RX5 214 yX5_saturate wsX5_saturate) := goodIn_app (goodIn_of _ (by decide +kernel)) ggX5_guide_X5_saturate
theorem dX5_guide_0 : decode cX5_guide 0 = .ok (.aload_n 0, 1) := by decide +kernel
theorem dX5_guide_1 : decode cX5_guide 1 = .ok (.getfield 43, 3) := by decide +kernel
theorem dX5_guide_4 : decode cX5_guide 4 = .ok (.getfield 85, 3) := by decide +kernel
theorem dX5_guide_7 : decode cX5_guide 7 = .ok (.iconst 1, 1) := by decide +kernel
theorem dX5_guide_8 : decode cX5_guide 8 = .ok (.if_icmp .ne 14, 3) := by decide +kernel
theorem dX5_guide_11 : decode cX5_guide 11 = .ok (.aload_n 0, 1) := by decide +kernel
theorem dX5_guide_12 : decode cX5_guide 12 = .ok (.iconst 0, 1) := by decide +kernel
theorem dX5_guide_13 : decode cX5_guide 13 = .ok (.iconst 0, 1) := by decide +kernel
theorem dX5_guide_14 : decode cX5_guide 14 = .ok (.bipush 100, 2) := by decide +kernel
theorem dX5_guide_16 : decode cX5_guide 16 = .ok (.invokevirtual 155, 3) := by decide +kernel
theorem dX5_guide_19 : decode cX5_guide 19 = .ok (.goto 89, 3) := by decide +kernel
theorem dX5_guide_22 : decode cX5_guide 22 = .ok (.aload_n 0, 1) := by decide +kernel
theorem dX5_guide_23 : decode cX5_guide 23 = .ok (.getfield 43, 3) := by decide +kernel
theorem dX5_guide_26 : decode cX5_guide 26 = .ok (.getfield 85, 3) := by decide +kernel
theorem dX5_guide_29 : decode cX5_guide 29 = .ok (.iconst 2, 1) := by decide +kernel
theorem dX5_guide_30 : decode cX5_guide 30 = .ok (.if_icmp .ne 10, 3) := by decide +kernel
theorem dX5_guide_33 : decode cX5_guide 33 = .ok (.aload_n 0, 1) := by decide +kernel
theorem dX5_guide_34 : decode cX5_guide 34 = .ok (.invokevirtual 211, 3) := by decide +kernel
theorem dX5_guide_37 : decode cX5_guide 37 = .ok (.goto 71, 3) := by decide +kernel
theorem dX5_guide_40 : decode cX5_guide 40 = .ok (.aload_n 0, 1) := by decide +kernel
theorem dX5_guide_41 : decode cX5_guide 41 = .ok (.getfield 43, 3) := by decide +kernel
theorem dX5_guide_44 : decode cX5_guide 44 = .ok (.getfield 85, 3) := by decide +kernel
theorem dX5_guide_47 : decode cX5_guide 47 = .ok (.iconst 4, 1) := by decide +kernel
theorem dX5_guide_48 : decode cX5_guide 48 = .ok (.if_icmp .ne 31, 3) := by decide +kernel
theorem dX5_guide_51 : decode cX5_guide 51 = .ok (.aload_n 0, 1) := by decide +kernel
theorem dX5_guide_52 : decode cX5_guide 52 = .ok (.aload_n 0, 1) := by decide +kernel
theorem dX5_guide_53 : decode cX5_guide 53 = .ok (.getfield 47, 3) := by decide +kernel
theorem dX5_guide_56 : decode cX5_guide 56 = .ok (.iconst 0, 1) := by decide +kernel
theorem dX5_guide_57 : decode cX5_guide 57 = .ok (.iaload, 1) := by decide +kernel
theorem dX5_guide_58 : decode cX5_guide 58 = .ok (.ineg, 1) := by decide +kernel
theorem dX5_guide_59 : decode cX5_guide 59 = .ok (.invokestatic 214, 3) := by decide +kernel
theorem dX5_guide_62 : decode cX5_guide 62 = .ok (.aload_n 0, 1) := by decide +kernel
theorem dX5_guide_63 : decode cX5_guide 63 = .ok (.getfield 47, 3) := by decide +kernel
theorem dX5_guide_66 : decode cX5_guide 66 = .ok (.iconst 1, 1) := by decide +kernel
theorem dX5_guide_67 : decode cX5_guide 67 = .ok (.iaload, 1) := by decide +kernel
theorem dX5_guide_68 : decode cX5_guide 68 = .ok (.ineg, 1) := by decide +kernel
theorem dX5_guide_69 : decode cX5_guide 69 = .ok (.invokestatic 214, 3) := by decide +kernel
theorem dX5_guide_72 : decode cX5_guide 72 = .ok (.iconst 0, 1) := by decide +kernel
theorem dX5_guide_73 : decode cX5_guide 73 = .ok (.invokevirtual 155, 3) := by decide +kernel
theorem dX5_guide_76 : decode cX5_guide 76 = .ok (.goto 32, 3) := by decide +kernel
theorem dX5_guide_79 : decode cX5_guide 79 = .ok (.aload_n 0, 1) := by decide +kernel
theorem dX5_guide_80 : decode cX5_guide 80 = .ok (.getfield 43, 3) := by decide +kernel
theorem dX5_guide_83 : decode cX5_guide 83 = .ok (.getfield 85, 3) := by decide +kernel
theorem dX5_guide_86 : decode cX5_guide 86 = .ok (.iconst 5, 1) := by decide +kernel
theorem dX5_guide_87 : decode cX5_guide 87 = .ok (.if_icmp .ne 14, 3) := by decide +kernel
theorem dX5_guide_90 : decode cX5_guide 90 = .ok (.aload_n 0, 1) := by decide +kernel
theorem dX5_guide_91 : decode cX5_guide 91 = .ok (.iconst 0, 1) := by decide +kernel
theorem dX5_guide_92 : decode cX5_guide 92 = .ok (.iconst 0, 1) := by decide +kernel
theorem dX5_guide_93 : decode cX5_guide 93 = .ok (.bipush (-50), 2) := by decide +kernel
theorem dX5_guide_95 : decode cX5_guide 95 = .ok (.invokevirtual 155, 3) := by decide +kernel
theorem dX5_guide_98 : decode cX5_guide 98 = .ok (.goto 10, 3) := by decide +kernel
theorem dX5_guide_101 : decode cX5_guide 101 = .ok (.aload_n 0, 1) := by decide +kernel
theorem dX5_guide_102 : decode cX5_guide 102 = .ok (.iconst 0, 1) := by decide +kernel
theorem dX5_guide_103 : decode cX5_guide 103 = .ok (.iconst 0, 1) := by decide +kernel
theorem dX5_guide_104 : decode cX5_guide 104 = .ok (.iconst 0, 1) := by decide +kernel
theorem dX5_guide_105 : decode cX5_guide 105 = .ok (.invokevirtual 155, 3) := by decide +kernel
theorem dX5_guide_108 : decode cX5_guide 108 = .ok (.return_, 1) := by decide +kernel
set_option maxRecDepth 20000 in
theorem ggX5_wishForItem_X1_read : GoodIn wsX5_wishForItem wsX1_read := goodIn_r _ [9, 10, 11, 12, 13, 14, 38, 39] (by decide +kernel) (by decide +kernel)
set_option maxRecDepth 20000 in
theorem gX5_wishForItem_X1_read : GoodIn wsX5_wishForItem (wsV RX5 204 RX1 yX1_read wsX1_read) := goodIn_app (goodIn_of _ (by decide +kernel)) ggX5_wishForItem_X1_read
set_option maxRecDepth 20000 in
theorem ggX5_wishForItem_X5_saturate : GoodIn wsX5_wishForItem wsX5_saturate := goodIn_r _ [17, 18, 19, 20, 21, 22, 23, 24] (by decide +kernel) (by decide +kernel)
set_option maxRecDepth 20000 in
theorem gX5_wishForItem_X5_saturate : GoodIn wsX5_wishForItem (va_wsS RX5 214 yX5_saturate wsX5_saturate) := goodIn_app (goodIn_of _ (by decide +kernel)) ggX5_wishForItem_X5_saturate
theorem dX5_wishForItem_0 : decode cX5_wishForItem 0 = .ok (.iconst 0, 1) := by decide +kernel
theorem dX5_wishForItem_1 : decode cX5_wishForItem 1 = .ok (.istore_n 1, 1) := by decide +kernel
theorem dX5_wishForItem_2 : decode cX5_wishForItem 2 = .ok (.iload_n 1, 1) := by decide +kernel
theorem dX5_wishForItem_3 : decode cX5_wishForItem 3 = .ok (.iconst 3, 1) := by decide +kernel
theorem dX5_wishForItem_4 : decode cX5_wishForItem 4 = .ok (.if_icmp .ge 37, 3) := by decide +kernel
theorem dX5_wishForItem_7 : decode cX5_wishForItem 7 = .ok (.aload_n 0, 1) := by decide +kernel
theorem dX5_wishForItem_8 : decode cX5_wishForItem 8 = .ok (.getfield 51, 3) := by decide +kernel
theorem dX5_wishForItem_11 : decode cX5_wishForItem 11 = .ok (.iload_n 1, 1) := by decide +kernel
theorem dX5_wishForItem_12 : decode cX5_wishForItem 12 = .ok (.aload_n 0, 1) := by decide +kernel
theorem dX5_wishForItem_13 : decode cX5_wishForItem 13 = .ok (.getfield 29, 3) := by decide +kernel
theorem dX5_wishForItem_16 : decode cX5_wishForItem 16 = .ok (.aload_n 0, 1) := by decide +kernel
theorem dX5_wishForItem_17 : decode cX5_wishForItem 17 = .ok (.getfield 58, 3) := by decide +kernel
theorem dX5_wishForItem_20 : decode cX5_wishForItem 20 = .ok (.iload_n 1, 1) := by decide +kernel
theorem dX5_wishForItem_21 : decode cX5_wishForItem 21 = .ok (.invokevirtual 204, 3) := by decide +kernel
theorem dX5_wishForItem_24 : decode cX5_wishForItem 24 = .ok (.aload_n 0, 1) := by decide +kernel
theorem dX5_wishForItem_25 : decode cX5_wishForItem 25 = .ok (.getfield 47, 3) := by decide +kernel
theorem dX5_wishForItem_28 : decode cX5_wishForItem 28 = .ok (.iload_n 1, 1) := by decide +kernel
theorem dX5_wishForItem_29 : decode cX5_wishForItem 29 = .ok (.iaload, 1) := by decide +kernel
theorem dX5_wishForItem_30 : decode cX5_wishForItem 30 = .ok (.isub, 1) := by decide +kernel
theorem dX5_wishForItem_31 : decode cX5_wishForItem 31 = .ok (.invokestatic 214, 3) := by decide +kernel
theorem dX5_wishForItem_34 : decode cX5_wishForItem 34 = .ok (.iastore, 1) := by decide +kernel
theorem dX5_wishForItem_35 : decode cX5_wishForItem 35 = .ok (.iinc 1 1, 3) := by decide +kernel
theorem dX5_wishForItem_38 : decode cX5_wishForItem 38 = .ok (.goto (-36), 3) := by decide +kernel
theorem dX5_wishForItem_41 : decode cX5_wishForItem 41 = .ok (.return_, 1) := by decide +kernel
set_option maxRecDepth 20000 in
theorem ggX5_flyBlind_X5_setWish : GoodIn wsX5_flyBlind wsX5_setWish := goodIn_r _ [7, 2, 8, 9, 10, 11, 12, 13, 14, 15, 16, 17, 18, 19, 20] (by decide +kernel) (by decide +kernel)
set_option maxRecDepth 20000 in
theorem gX5_flyBlind_X5_setWish : GoodIn wsX5_flyBlind (wsV RX5 155 RX5 yX5_setWish wsX5_setWish) := goodIn_app (goodIn_of _ (by decide +kernel)) ggX5_flyBlind_X5_setWish
theorem dX5_flyBlind_0 : decode cX5_flyBlind 0 = .ok (.aload_n 0, 1) := by decide +kernel
theorem dX5_flyBlind_1 : decode cX5_flyBlind 1 = .ok (.iconst 0, 1) := by decide +kernel
theorem dX5_flyBlind_2 : decode cX5_flyBlind 2 = .ok (.iconst 0, 1) := by decide +kernel
theorem dX5_flyBlind_3 : decode cX5_flyBlind 3 = .ok (.aload_n 0, 1) := by decide +kernel
theorem dX5_flyBlind_4 : decode cX5_flyBlind 4 = .ok (.getfield 43, 3) := by decide +kernel
theorem dX5_flyBlind_7 : decode cX5_flyBlind 7 = .ok (.getfield 85, 3) := by decide +kernel
theorem dX5_flyBlind_10 : decode cX5_flyBlind 10 = .ok (.iconst 5, 1) := by decide +kernel
theorem dX5_flyBlind_11 : decode cX5_flyBlind 11 = .ok (.if_icmp .ne 12, 3) := by decide +kernel
theorem dX5_flyBlind_14 : decode cX5_flyBlind 14 = .ok (.aload_n 0, 1) := by decide +kernel
theorem dX5_flyBlind_15 : decode cX5_flyBlind 15 = .ok (.getfield 51, 3) := by decide +kernel
theorem dX5_flyBlind_18 : decode cX5_flyBlind 18 = .ok (.iconst 2, 1) := by decide +kernel
theorem dX5_flyBlind_19 : decode cX5_flyBlind 19 = .ok (.iaload, 1) := by decide +kernel
theorem dX5_flyBlind_20 : decode cX5_flyBlind 20 = .ok (.goto 4, 3) := by decide +kernel
theorem dX5_flyBlind_23 : decode cX5_flyBlind 23 = .ok (.iconst 0, 1) := by decide +kernel
theorem dX5_flyBlind_24 : decode cX5_flyBlind 24 = .ok (.invokevirtual 155, 3) := by decide +kernel
theorem dX5_flyBlind_27 : decode cX5_flyBlind 27 = .ok (.return_, 1) := by decide +kernel
set_option maxRecDepth 20000 in
theorem ggX5_guardSides_X0_leaveClear : GoodIn wsX5_guardSides wsX0_leaveClear := goodIn_r _ [8, 9, 10, 11, 12, 7, 13, 14, 15, 16, 17, 18, 19, 20, 21, 22, 23, 24, 25, 26, 27, 28, 29, 30, 31, 60, 61, 62] (by decide +kernel) (by decide +kernel)
set_option maxRecDepth 20000 in
theorem gX5_guardSides_X0_leaveClear : GoodIn wsX5_guardSides (wsV RX5 94 RX0 yX0_leaveClear wsX0_leaveClear) := goodIn_app (goodIn_of _ (by decide +kernel)) ggX5_guardSides_X0_leaveClear
set_option maxRecDepth 20000 in
theorem ggX5_guardSides_X5_saturate : GoodIn wsX5_guardSides wsX5_saturate := goodIn_r _ [35, 36, 37, 38, 39, 40, 41, 42] (by decide +kernel) (by decide +kernel)
set_option maxRecDepth 20000 in
theorem gX5_guardSides_X5_saturate : GoodIn wsX5_guardSides (va_wsS RX5 214 yX5_saturate wsX5_saturate) := goodIn_app (goodIn_of _ (by decide +kernel)) ggX5_guardSides_X5_saturate
set_option maxRecDepth 20000 in
theorem ggX5_guardSides_X5_setWish : GoodIn wsX5_guardSides wsX5_setWish := goodIn_r _ [46, 3, 47, 48, 49, 50, 51, 52, 53, 54, 55, 56, 57, 58, 59] (by decide +kernel) (by decide +kernel)
set_option maxRecDepth 20000 in
theorem gX5_guardSides_X5_setWish : GoodIn wsX5_guardSides (wsV RX5 155 RX5 yX5_setWish wsX5_setWish) := goodIn_app (goodIn_of _ (by decide +kernel)) ggX5_guardSides_X5_setWish
theorem dX5_guardSides_0 : decode cX5_guardSides 0 = .ok (.aload_n 0, 1) := by decide +kernel
theorem dX5_guardSides_1 : decode cX5_guardSides 1 = .ok (.getfield 47, 3) := by decide +kernel
theorem dX5_guardSides_4 : decode cX5_guardSides 4 = .ok (.iconst 0, 1) := by decide +kernel
theorem dX5_guardSides_5 : decode cX5_guardSides 5 = .ok (.iaload, 1) := by decide +kernel
theorem dX5_guardSides_6 : decode cX5_guardSides 6 = .ok (.istore_n 1, 1) := by decide +kernel
theorem dX5_guardSides_7 : decode cX5_guardSides 7 = .ok (.aload_n 0, 1) := by decide +kernel
theorem dX5_guardSides_8 : decode cX5_guardSides 8 = .ok (.getfield 47, 3) := by decide +kernel
theorem dX5_guardSides_11 : decode cX5_guardSides 11 = .ok (.iconst 1, 1) := by decide +kernel
theorem dX5_guardSides_12 : decode cX5_guardSides 12 = .ok (.iaload, 1) := by decide +kernel
theorem dX5_guardSides_13 : decode cX5_guardSides 13 = .ok (.istore_n 2, 1) := by decide +kernel
theorem dX5_guardSides_14 : decode cX5_guardSides 14 = .ok (.aload_n 0, 1) := by decide +kernel
theorem dX5_guardSides_15 : decode cX5_guardSides 15 = .ok (.getfield 16, 3) := by decide +kernel
theorem dX5_guardSides_18 : decode cX5_guardSides 18 = .ok (.iload_n 1, 1) := by decide +kernel
theorem dX5_guardSides_19 : decode cX5_guardSides 19 = .ok (.iload_n 2, 1) := by decide +kernel
theorem dX5_guardSides_20 : decode cX5_guardSides 20 = .ok (.sipush 200, 3) := by decide +kernel
theorem dX5_guardSides_23 : decode cX5_guardSides 23 = .ok (.invokevirtual 94, 3) := by decide +kernel
theorem dX5_guardSides_26 : decode cX5_guardSides 26 = .ok (.ifCond .ne 24, 3) := by decide +kernel
theorem dX5_guardSides_29 : decode cX5_guardSides 29 = .ok (.aload_n 0, 1) := by decide +kernel
theorem dX5_guardSides_30 : decode cX5_guardSides 30 = .ok (.iload_n 1, 1) := by decide +kernel
theorem dX5_guardSides_31 : decode cX5_guardSides 31 = .ok (.ineg, 1) := by decide +kernel
theorem dX5_guardSides_32 : decode cX5_guardSides 32 = .ok (.invokestatic 214, 3) := by decide +kernel
theorem dX5_guardSides_35 : decode cX5_guardSides 35 = .ok (.iload_n 2, 1) := by decide +kernel
theorem dX5_guardSides_36 : decode cX5_guardSides 36 = .ok (.ineg, 1) := by decide +kernel
theorem dX5_guardSides_37 : decode cX5_guardSides 37 = .ok (.invokestatic 214, 3) := by decide +kernel
theorem dX5_guardSides_40 : decode cX5_guardSides 40 = .ok (.aload_n 0, 1) := by decide +kernel
theorem dX5_guardSides_41 : decode cX5_guardSides 41 = .ok (.getfield 51, 3) := by decide +kernel
theorem dX5_guardSides_44 : decode cX5_guardSides 44 = .ok (.iconst 2, 1) := by decide +kernel
theorem dX5_guardSides_45 : decode cX5_guardSides 45 = .ok (.iaload, 1) := by decide +kernel
theorem dX5_guardSides_46 : decode cX5_guardSides 46 = .ok (.invokevirtual 155, 3) := by decide +kernel
theorem dX5_guardSides_49 : decode cX5_guardSides 49 = .ok (.return_, 1) := by decide +kernel
theorem dX5_guardSides_50 : decode cX5_guardSides 50 = .ok (.iconst 4, 1) := by decide +kernel
theorem dX5_guardSides_51 : decode cX5_guardSides 51 = .ok (.istore_n 3, 1) := by decide +kernel
theorem dX5_guardSides_52 : decode cX5_guardSides 52 = .ok (.iload_n 3, 1) := by decide +kernel
theorem dX5_guardSides_53 : decode cX5_guardSides 53 = .ok (.ifCond .lt 69, 3) := by decide +kernel
theorem dX5_guardSides_56 : decode cX5_guardSides 56 = .ok (.aload_n 0, 1) := by decide +kernel
theorem dX5_guardSides_57 : decode cX5_guardSides 57 = .ok (.getfield 51, 3) := by decide +kernel
theorem dX5_guardSides_60 : decode cX5_guardSides 60 = .ok (.iconst 0, 1) := by decide +kernel
theorem dX5_guardSides_61 : decode cX5_guardSides 61 = .ok (.iaload, 1) := by decide +kernel
theorem dX5_guardSides_62 : decode cX5_guardSides 62 = .ok (.iload_n 3, 1) := by decide +kernel
theorem dX5_guardSides_63 : decode cX5_guardSides 63 = .ok (.imul, 1) := by decide +kernel
theorem dX5_guardSides_64 : decode cX5_guardSides 64 = .ok (.iconst 4, 1) := by decide +kernel
theorem dX5_guardSides_65 : decode cX5_guardSides 65 = .ok (.idiv, 1) := by decide +kernel
theorem dX5_guardSides_66 : decode cX5_guardSides 66 = .ok (.istore 4, 2) := by decide +kernel
theorem dX5_guardSides_68 : decode cX5_guardSides 68 = .ok (.aload_n 0, 1) := by decide +kernel
theorem dX5_guardSides_69 : decode cX5_guardSides 69 = .ok (.getfield 51, 3) := by decide +kernel
theorem dX5_guardSides_72 : decode cX5_guardSides 72 = .ok (.iconst 1, 1) := by decide +kernel
theorem dX5_guardSides_73 : decode cX5_guardSides 73 = .ok (.iaload, 1) := by decide +kernel
theorem dX5_guardSides_74 : decode cX5_guardSides 74 = .ok (.iload_n 3, 1) := by decide +kernel
theorem dX5_guardSides_75 : decode cX5_guardSides 75 = .ok (.imul, 1) := by decide +kernel
theorem dX5_guardSides_76 : decode cX5_guardSides 76 = .ok (.iconst 4, 1) := by decide +kernel
theorem dX5_guardSides_77 : decode cX5_guardSides 77 = .ok (.idiv, 1) := by decide +kernel
theorem dX5_guardSides_78 : decode cX5_guardSides 78 = .ok (.istore 5, 2) := by decide +kernel
theorem dX5_guardSides_80 : decode cX5_guardSides 80 = .ok (.aload_n 0, 1) := by decide +kernel
theorem dX5_guardSides_81 : decode cX5_guardSides 81 = .ok (.getfield 16, 3) := by decide +kernel
theorem dX5_guardSides_84 : decode cX5_guardSides 84 = .ok (.iload_n 1, 1) := by decide +kernel
theorem dX5_guardSides_85 : decode cX5_guardSides 85 = .ok (.iload 4, 2) := by decide +kernel
theorem dX5_guardSides_87 : decode cX5_guardSides 87 = .ok (.iadd, 1) := by decide +kernel
theorem dX5_guardSides_88 : decode cX5_guardSides 88 = .ok (.iload_n 2, 1) := by decide +kernel
theorem dX5_guardSides_89 : decode cX5_guardSides 89 = .ok (.iload 5, 2) := by decide +kernel
theorem dX5_guardSides_91 : decode cX5_guardSides 91 = .ok (.iadd, 1) := by decide +kernel
theorem dX5_guardSides_92 : decode cX5_guardSides 92 = .ok (.sipush 200, 3) := by decide +kernel
theorem dX5_guardSides_95 : decode cX5_guardSides 95 = .ok (.invokevirtual 94, 3) := by decide +kernel
theorem dX5_guardSides_98 : decode cX5_guardSides 98 = .ok (.ifCond .eq 18, 3) := by decide +kernel
theorem dX5_guardSides_101 : decode cX5_guardSides 101 = .ok (.aload_n 0, 1) := by decide +kernel
theorem dX5_guardSides_102 : decode cX5_guardSides 102 = .ok (.iload 4, 2) := by decide +kernel
theorem dX5_guardSides_104 : decode cX5_guardSides 104 = .ok (.iload 5, 2) := by decide +kernel
theorem dX5_guardSides_106 : decode cX5_guardSides 106 = .ok (.aload_n 0, 1) := by decide +kernel
theorem dX5_guardSides_107 : decode cX5_guardSides 107 = .ok (.getfield 51, 3) := by decide +kernel
theorem dX5_guardSides_110 : decode cX5_guardSides 110 = .ok (.iconst 2, 1) := by decide +kernel
theorem dX5_guardSides_111 : decode cX5_guardSides 111 = .ok (.iaload, 1) := by decide +kernel
theorem dX5_guardSides_112 : decode cX5_guardSides 112 = .ok (.invokevirtual 155, 3) := by decide +kernel
theorem dX5_guardSides_115 : decode cX5_guardSides 115 = .ok (.return_, 1) := by decide +kernel
theorem dX5_guardSides_116 : decode cX5_guardSides 116 = .ok (.iinc 3 (-1), 3) := by decide +kernel
theorem dX5_guardSides_119 : decode cX5_guardSides 119 = .ok (.goto (-67), 3) := by decide +kernel
theorem dX5_guardSides_122 : decode cX5_guardSides 122 = .ok (.return_, 1) := by decide +kernel
theorem dX5_guardTop_0 : decode cX5_guardTop 0 = .ok (.aload_n 0, 1) := by decide +kernel
theorem dX5_guardTop_1 : decode cX5_guardTop 1 = .ok (.getfield 54, 3) := by decide +kernel
theorem dX5_guardTop_4 : decode cX5_guardTop 4 = .ok (.sipush 200, 3) := by decide +kernel
theorem dX5_guardTop_7 : decode cX5_guardTop 7 = .ok (.isub, 1) := by decide +kernel
theorem dX5_guardTop_8 : decode cX5_guardTop 8 = .ok (.aload_n 0, 1) := by decide +kernel
theorem dX5_guardTop_9 : decode cX5_guardTop 9 = .ok (.getfield 47, 3) := by decide +kernel
theorem dX5_guardTop_12 : decode cX5_guardTop 12 = .ok (.iconst 2, 1) := by decide +kernel
theorem dX5_guardTop_13 : decode cX5_guardTop 13 = .ok (.iaload, 1) := by decide +kernel
theorem dX5_guardTop_14 : decode cX5_guardTop 14 = .ok (.isub, 1) := by decide +kernel
theorem dX5_guardTop_15 : decode cX5_guardTop 15 = .ok (.istore_n 1, 1) := by decide +kernel
theorem dX5_guardTop_16 : decode cX5_guardTop 16 = .ok (.aload_n 0, 1) := by decide +kernel
theorem dX5_guardTop_17 : decode cX5_guardTop 17 = .ok (.getfield 51, 3) := by decide +kernel
theorem dX5_guardTop_20 : decode cX5_guardTop 20 = .ok (.iconst 2, 1) := by decide +kernel
theorem dX5_guardTop_21 : decode cX5_guardTop 21 = .ok (.iaload, 1) := by decide +kernel
theorem dX5_guardTop_22 : decode cX5_guardTop 22 = .ok (.iload_n 1, 1) := by decide +kernel
theorem dX5_guardTop_23 : decode cX5_guardTop 23 = .ok (.if_icmp .le 16, 3) := by decide +kernel
theorem dX5_guardTop_26 : decode cX5_guardTop 26 = .ok (.aload_n 0, 1) := by decide +kernel
theorem dX5_guardTop_27 : decode cX5_guardTop 27 = .ok (.getfield 51, 3) := by decide +kernel
theorem dX5_guardTop_30 : decode cX5_guardTop 30 = .ok (.iconst 2, 1) := by decide +kernel
theorem dX5_guardTop_31 : decode cX5_guardTop 31 = .ok (.iload_n 1, 1) := by decide +kernel
theorem dX5_guardTop_32 : decode cX5_guardTop 32 = .ok (.sipush (-200), 3) := by decide +kernel
theorem dX5_guardTop_35 : decode cX5_guardTop 35 = .ok (.invokestatic 217, 3) := by decide +kernel
theorem dX5_guardTop_38 : decode cX5_guardTop 38 = .ok (.iastore, 1) := by decide +kernel
theorem dX5_guardTop_39 : decode cX5_guardTop 39 = .ok (.return_, 1) := by decide +kernel
theorem dX5_setWish_0 : decode cX5_setWish 0 = .ok (.aload_n 0, 1) := by decide +kernel
theorem dX5_setWish_1 : decode cX5_setWish 1 = .ok (.getfield 51, 3) := by decide +kernel
theorem dX5_setWish_4 : decode cX5_setWish 4 = .ok (.iconst 0, 1) := by decide +kernel
theorem dX5_setWish_5 : decode cX5_setWish 5 = .ok (.iload_n 1, 1) := by decide +kernel
theorem dX5_setWish_6 : decode cX5_setWish 6 = .ok (.iastore, 1) := by decide +kernel
theorem dX5_setWish_7 : decode cX5_setWish 7 = .ok (.aload_n 0, 1) := by decide +kernel
theorem dX5_setWish_8 : decode cX5_setWish 8 = .ok (.getfield 51, 3) := by decide +kernel
theorem dX5_setWish_11 : decode cX5_setWish 11 = .ok (.iconst 1, 1) := by decide +kernel
theorem dX5_setWish_12 : decode cX5_setWish 12 = .ok (.iload_n 2, 1) := by decide +kernel
theorem dX5_setWish_13 : decode cX5_setWish 13 = .ok (.iastore, 1) := by decide +kernel
theorem dX5_setWish_14 : decode cX5_setWish 14 = .ok (.aload_n 0, 1) := by decide +kernel
theorem dX5_setWish_15 : decode cX5_setWish 15 = .ok (.getfield 51, 3) := by decide +kernel
theorem dX5_setWish_18 : decode cX5_setWish 18 = .ok (.iconst 2, 1) := by decide +kernel
theorem dX5_setWish_19 : decode cX5_setWish 19 = .ok (.iload_n 3, 1) := by decide +kernel
theorem dX5_setWish_20 : decode cX5_setWish 20 = .ok (.iastore, 1) := by decide +kernel
theorem dX5_setWish_21 : decode cX5_setWish 21 = .ok (.return_, 1) := by decide +kernel
theorem dX5_isWithin_0 : decode cX5_isWithin 0 = .ok (.iload_n 0, 1) := by decide +kernel
theorem dX5_isWithin_1 : decode cX5_isWithin 1 = .ok (.iload_n 1, 1) := by decide +kernel
theorem dX5_isWithin_2 : decode cX5_isWithin 2 = .ok (.if_icmp .lt 12, 3) := by decide +kernel
theorem dX5_isWithin_5 : decode cX5_isWithin 5 = .ok (.iload_n 0, 1) := by decide +kernel
theorem dX5_isWithin_6 : decode cX5_isWithin 6 = .ok (.iload_n 2, 1) := by decide +kernel
theorem dX5_isWithin_7 : decode cX5_isWithin 7 = .ok (.if_icmp .gt 7, 3) := by decide +kernel
theorem dX5_isWithin_10 : decode cX5_isWithin 10 = .ok (.iconst 1, 1) := by decide +kernel
theorem dX5_isWithin_11 : decode cX5_isWithin 11 = .ok (.goto 4, 3) := by decide +kernel
theorem dX5_isWithin_14 : decode cX5_isWithin 14 = .ok (.iconst 0, 1) := by decide +kernel
theorem dX5_isWithin_15 : decode cX5_isWithin 15 = .ok (.ireturn, 1) := by decide +kernel
set_option maxRecDepth 20000 in
theorem ggX5_isOnMap_X5_isWithin : GoodIn wsX5_isOnMap wsX5_isWithin := goodIn_r _ [4] (by decide +kernel) (by decide +kernel)
set_option maxRecDepth 20000 in
theorem gX5_isOnMap_X5_isWithin : GoodIn wsX5_isOnMap (va_wsS RX5 98 yX5_isWithin wsX5_isWithin) := goodIn_app (goodIn_of _ (by decide +kernel)) ggX5_isOnMap_X5_isWithin
theorem dX5_isOnMap_0 : decode cX5_isOnMap 0 = .ok (.iload_n 0, 1) := by decide +kernel
theorem dX5_isOnMap_1 : decode cX5_isOnMap 1 = .ok (.sipush (-10000), 3) := by decide +kernel
theorem dX5_isOnMap_4 : decode cX5_isOnMap 4 = .ok (.sipush 10000, 3) := by decide +kernel
theorem dX5_isOnMap_7 : decode cX5_isOnMap 7 = .ok (.invokestatic 98, 3) := by decide +kernel
theorem dX5_isOnMap_10 : decode cX5_isOnMap 10 = .ok (.ifCond .eq 20, 3) := by decide +kernel
theorem dX5_isOnMap_13 : decode cX5_isOnMap 13 = .ok (.iload_n 1, 1) := by decide +kernel
theorem dX5_isOnMap_14 : decode cX5_isOnMap 14 = .ok (.sipush (-10000), 3) := by decide +kernel
theorem dX5_isOnMap_17 : decode cX5_isOnMap 17 = .ok (.sipush 10000, 3) := by decide +kernel
theorem dX5_isOnMap_20 : decode cX5_isOnMap 20 = .ok (.invokestatic 98, 3) := by decide +kernel
theorem dX5_isOnMap_23 : decode cX5_isOnMap 23 = .ok (.ifCond .eq 7, 3) := by decide +kernel
theorem dX5_isOnMap_26 : decode cX5_isOnMap 26 = .ok (.iconst 1, 1) := by decide +kernel
theorem dX5_isOnMap_27 : decode cX5_isOnMap 27 = .ok (.goto 4, 3) := by decide +kernel
theorem dX5_isOnMap_30 : decode cX5_isOnMap 30 = .ok (.iconst 0, 1) := by decide +kernel
theorem dX5_isOnMap_31 : decode cX5_isOnMap 31 = .ok (.ireturn, 1) := by decide +kernel
set_option maxRecDepth 20000 in
theorem ggX5_isInSensorReach_X5_isWithin : GoodIn wsX5_isInSensorReach wsX5_isWithin := goodIn_r _ [4] (by decide +kernel) (by decide +kernel)
set_option maxRecDepth 20000 in
theorem gX5_isInSensorReach_X5_isWithin : GoodIn wsX5_isInSensorReach (va_wsS RX5 98 yX5_isWithin wsX5_isWithin) := goodIn_app (goodIn_of _ (by decide +kernel)) ggX5_isInSensorReach_X5_isWithin
theorem dX5_isInSensorReach_0 : decode cX5_isInSensorReach 0 = .ok (.iload_n 0, 1) := by decide +kernel
theorem dX5_isInSensorReach_1 : decode cX5_isInSensorReach 1 = .ok (.sipush (-20000), 3) := by decide +kernel
theorem dX5_isInSensorReach_4 : decode cX5_isInSensorReach 4 = .ok (.sipush 20000, 3) := by decide +kernel
theorem dX5_isInSensorReach_7 : decode cX5_isInSensorReach 7 = .ok (.invokestatic 98, 3) := by decide +kernel
theorem dX5_isInSensorReach_10 : decode cX5_isInSensorReach 10 = .ok (.ifCond .eq 20, 3) := by decide +kernel
theorem dX5_isInSensorReach_13 : decode cX5_isInSensorReach 13 = .ok (.iload_n 1, 1) := by decide +kernel
theorem dX5_isInSensorReach_14 : decode cX5_isInSensorReach 14 = .ok (.sipush (-20000), 3) := by decide +kernel
theorem dX5_isInSensorReach_17 : decode cX5_isInSensorReach 17 = .ok (.sipush 20000, 3) := by decide +kernel
theorem dX5_isInSensorReach_20 : decode cX5_isInSensorReach 20 = .ok (.invokestatic 98, 3) := by decide +kernel
theorem dX5_isInSensorReach_23 : decode cX5_isInSensorReach 23 = .ok (.ifCond .eq 7, 3) := by decide +kernel
theorem dX5_isInSensorReach_26 : decode cX5_isInSensorReach 26 = .ok (.iconst 1, 1) := by decide +kernel
theorem dX5_isInSensorReach_27 : decode cX5_isInSensorReach 27 = .ok (.goto 4, 3) := by decide +kernel
theorem dX5_isInSensorReach_30 : decode cX5_isInSensorReach 30 = .ok (.iconst 0, 1) := by decide +kernel
theorem dX5_isInSensorReach_31 : decode cX5_isInSensorReach 31 = .ok (.ireturn, 1) := by decide +kernel
set_option maxRecDepth 20000 in
theorem ggX5_isNear_X5_isWithin : GoodIn wsX5_isNear wsX5_isWithin := goodIn_r _ [4] (by decide +kernel) (by decide +kernel)
set_option maxRecDepth 20000 in
theorem gX5_isNear_X5_isWithin : GoodIn wsX5_isNear (va_wsS RX5 98 yX5_isWithin wsX5_isWithin) := goodIn_app (goodIn_of _ (by decide +kernel)) ggX5_isNear_X5_isWithin
theorem dX5_isNear_0 : decode cX5_isNear 0 = .ok (.iload_n 0, 1) := by decide +kernel
theorem dX5_isNear_1 : decode cX5_isNear 1 = .ok (.iload_n 1, 1) := by decide +kernel
theorem dX5_isNear_2 : decode cX5_isNear 2 = .ok (.isub, 1) := by decide +kernel
theorem dX5_isNear_3 : decode cX5_isNear 3 = .ok (.bipush (-100), 2) := by decide +kernel
theorem dX5_isNear_5 : decode cX5_isNear 5 = .ok (.bipush 100, 2) := by decide +kernel
theorem dX5_isNear_7 : decode cX5_isNear 7 = .ok (.invokestatic 98, 3) := by decide +kernel
theorem dX5_isNear_10 : decode cX5_isNear 10 = .ok (.ireturn, 1) := by decide +kernel
theorem dX5_saturate_0 : decode cX5_saturate 0 = .ok (.sipush (-200), 3) := by decide +kernel
theorem dX5_saturate_3 : decode cX5_saturate 3 = .ok (.sipush 200, 3) := by decide +kernel
theorem dX5_saturate_6 : decode cX5_saturate 6 = .ok (.iload_n 0, 1) := by decide +kernel
theorem dX5_saturate_7 : decode cX5_saturate 7 = .ok (.invokestatic 222, 3) := by decide +kernel
theorem dX5_saturate_10 : decode cX5_saturate 10 = .ok (.invokestatic 217, 3) := by decide +kernel
theorem dX5_saturate_13 : decode cX5_saturate 13 = .ok (.ireturn, 1) := by decide +kernel

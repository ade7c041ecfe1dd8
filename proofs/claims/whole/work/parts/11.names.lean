theorem dX6_guard_17 : decode cX6_guard 17 = .ok (.invokevirtual 74, 3) := by decide +kernel
theorem dX6_guard_20 : decode cX6_guard 20 = .ok (.ifCond .ne 34, 3) := by decide +kernel
theorem dX6_guard_23 : decode cX6_guard 23 = .ok (.aload_n 0, 1) := by decide +kernel
theorem dX6_guard_24 : decode cX6_guard 24 = .ok (.getfield 29, 3) := by decide +kernel
theorem dX6_guard_27 : decode cX6_guard 27 = .ok (.iconst 0, 1) := by decide +kernel
theorem dX6_guard_28 : decode cX6_guard 28 = .ok (.iload_n 1, 1) := by decide +kernel
theorem dX6_guard_29 : decode cX6_guard 29 = .ok (.ineg, 1) := by decide +kernel
theorem dX6_guard_30 : decode cX6_guard 30 = .ok (.sipush 200, 3) := by decide +kernel
theorem dX6_guard_33 : decode cX6_guard 33 = .ok (.invokestatic 128, 3) := by decide +kernel
theorem dX6_guard_36 : decode cX6_guard 36 = .ok (.iastore, 1) := by decide +kernel
theorem dX6_guard_37 : decode cX6_guard 37 = .ok (.aload_n 0, 1) := by decide +kernel
theorem dX6_guard_38 : decode cX6_guard 38 = .ok (.getfield 29, 3) := by decide +kernel
theorem dX6_guard_41 : decode cX6_guard 41 = .ok (.iconst 1, 1) := by decide +kernel
theorem dX6_guard_42 : decode cX6_guard 42 = .ok (.iload_n 2, 1) := by decide +kernel
theorem dX6_guard_43 : decode cX6_guard 43 = .ok (.ineg, 1) := by decide +kernel
theorem dX6_guard_44 : decode cX6_guard 44 = .ok (.sipush 200, 3) := by decide +kernel
theorem dX6_guard_47 : decode cX6_guard 47 = .ok (.invokestatic 128, 3) := by decide +kernel
theorem dX6_guard_50 : decode cX6_guard 50 = .ok (.iastore, 1) := by decide +kernel
theorem dX6_guard_51 : decode cX6_guard 51 = .ok (.goto 78, 3) := by decide +kernel
theorem dX6_guard_54 : decode cX6_guard 54 = .ok (.iconst 4, 1) := by decide +kernel
theorem dX6_guard_55 : decode cX6_guard 55 = .ok (.istore_n 3, 1) := by decide +kernel
theorem dX6_guard_56 : decode cX6_guard 56 = .ok (.iload_n 3, 1) := by decide +kernel
theorem dX6_guard_57 : decode cX6_guard 57 = .ok (.ifCond .le 40, 3) := by decide +kernel
theorem dX6_guard_60 : decode cX6_guard 60 = .ok (.aload_n 0, 1) := by decide +kernel
theorem dX6_guard_61 : decode cX6_guard 61 = .ok (.iload_n 1, 1) := by decide +kernel
theorem dX6_guard_62 : decode cX6_guard 62 = .ok (.aload_n 0, 1) := by decide +kernel
theorem dX6_guard_63 : decode cX6_guard 63 = .ok (.getfield 29, 3) := by decide +kernel
theorem dX6_guard_66 : decode cX6_guard 66 = .ok (.iconst 0, 1) := by decide +kernel
theorem dX6_guard_67 : decode cX6_guard 67 = .ok (.iaload, 1) := by decide +kernel
theorem dX6_guard_68 : decode cX6_guard 68 = .ok (.iload_n 3, 1) := by decide +kernel
theorem dX6_guard_69 : decode cX6_guard 69 = .ok (.imul, 1) := by decide +kernel
theorem dX6_guard_70 : decode cX6_guard 70 = .ok (.iconst 4, 1) := by decide +kernel
theorem dX6_guard_71 : decode cX6_guard 71 = .ok (.idiv, 1) := by decide +kernel
theorem dX6_guard_72 : decode cX6_guard 72 = .ok (.iadd, 1) := by decide +kernel
theorem dX6_guard_73 : decode cX6_guard 73 = .ok (.iload_n 2, 1) := by decide +kernel
theorem dX6_guard_74 : decode cX6_guard 74 = .ok (.aload_n 0, 1) := by decide +kernel
theorem dX6_guard_75 : decode cX6_guard 75 = .ok (.getfield 29, 3) := by decide +kernel
theorem dX6_guard_78 : decode cX6_guard 78 = .ok (.iconst 1, 1) := by decide +kernel
theorem dX6_guard_79 : decode cX6_guard 79 = .ok (.iaload, 1) := by decide +kernel
theorem dX6_guard_80 : decode cX6_guard 80 = .ok (.iload_n 3, 1) := by decide +kernel
theorem dX6_guard_81 : decode cX6_guard 81 = .ok (.imul, 1) := by decide +kernel
theorem dX6_guard_82 : decode cX6_guard 82 = .ok (.iconst 4, 1) := by decide +kernel
theorem dX6_guard_83 : decode cX6_guard 83 = .ok (.idiv, 1) := by decide +kernel
theorem dX6_guard_84 : decode cX6_guard 84 = .ok (.iadd, 1) := by decide +kernel
theorem dX6_guard_85 : decode cX6_guard 85 = .ok (.invokevirtual 74, 3) := by decide +kernel
theorem dX6_guard_88 : decode cX6_guard 88 = .ok (.ifCond .ne 9, 3) := by decide +kernel
theorem dX6_guard_91 : decode cX6_guard 91 = .ok (.iinc 3 (-1), 3) := by decide +kernel
theorem dX6_guard_94 : decode cX6_guard 94 = .ok (.goto (-38), 3) := by decide +kernel
theorem dX6_guard_97 : decode cX6_guard 97 = .ok (.aload_n 0, 1) := by decide +kernel
theorem dX6_guard_98 : decode cX6_guard 98 = .ok (.getfield 29, 3) := by decide +kernel
theorem dX6_guard_101 : decode cX6_guard 101 = .ok (.iconst 0, 1) := by decide +kernel
theorem dX6_guard_102 : decode cX6_guard 102 = .ok (.aload_n 0, 1) := by decide +kernel
theorem dX6_guard_103 : decode cX6_guard 103 = .ok (.getfield 29, 3) := by decide +kernel
theorem dX6_guard_106 : decode cX6_guard 106 = .ok (.iconst 0, 1) := by decide +kernel
theorem dX6_guard_107 : decode cX6_guard 107 = .ok (.iaload, 1) := by decide +kernel
theorem dX6_guard_108 : decode cX6_guard 108 = .ok (.iload_n 3, 1) := by decide +kernel
theorem dX6_guard_109 : decode cX6_guard 109 = .ok (.imul, 1) := by decide +kernel
theorem dX6_guard_110 : decode cX6_guard 110 = .ok (.iconst 4, 1) := by decide +kernel
theorem dX6_guard_111 : decode cX6_guard 111 = .ok (.idiv, 1) := by decide +kernel
theorem dX6_guard_112 : decode cX6_guard 112 = .ok (.iastore, 1) := by decide +kernel
theorem dX6_guard_113 : decode cX6_guard 113 = .ok (.aload_n 0, 1) := by decide +kernel
theorem dX6_guard_114 : decode cX6_guard 114 = .ok (.getfield 29, 3) := by decide +kernel
theorem dX6_guard_117 : decode cX6_guard 117 = .ok (.iconst 1, 1) := by decide +kernel
theorem dX6_guard_118 : decode cX6_guard 118 = .ok (.aload_n 0, 1) := by decide +kernel
theorem dX6_guard_119 : decode cX6_guard 119 = .ok (.getfield 29, 3) := by decide +kernel
theorem dX6_guard_122 : decode cX6_guard 122 = .ok (.iconst 1, 1) := by decide +kernel
theorem dX6_guard_123 : decode cX6_guard 123 = .ok (.iaload, 1) := by decide +kernel
theorem dX6_guard_124 : decode cX6_guard 124 = .ok (.iload_n 3, 1) := by decide +kernel
theorem dX6_guard_125 : decode cX6_guard 125 = .ok (.imul, 1) := by decide +kernel
theorem dX6_guard_126 : decode cX6_guard 126 = .ok (.iconst 4, 1) := by decide +kernel
theorem dX6_guard_127 : decode cX6_guard 127 = .ok (.idiv, 1) := by decide +kernel
theorem dX6_guard_128 : decode cX6_guard 128 = .ok (.iastore, 1) := by decide +kernel
theorem dX6_guard_129 : decode cX6_guard 129 = .ok (.aload_n 0, 1) := by decide +kernel
theorem dX6_guard_130 : decode cX6_guard 130 = .ok (.getfield 71, 3) := by decide +kernel
theorem dX6_guard_133 : decode cX6_guard 133 = .ok (.sipush 200, 3) := by decide +kernel
theorem dX6_guard_136 : decode cX6_guard 136 = .ok (.isub, 1) := by decide +kernel
theorem dX6_guard_137 : decode cX6_guard 137 = .ok (.aload_n 0, 1) := by decide +kernel
theorem dX6_guard_138 : decode cX6_guard 138 = .ok (.getfield 26, 3) := by decide +kernel
theorem dX6_guard_141 : decode cX6_guard 141 = .ok (.iconst 2, 1) := by decide +kernel
theorem dX6_guard_142 : decode cX6_guard 142 = .ok (.iaload, 1) := by decide +kernel
theorem dX6_guard_143 : decode cX6_guard 143 = .ok (.isub, 1) := by decide +kernel
theorem dX6_guard_144 : decode cX6_guard 144 = .ok (.istore_n 3, 1) := by decide +kernel
theorem dX6_guard_145 : decode cX6_guard 145 = .ok (.aload_n 0, 1) := by decide +kernel
theorem dX6_guard_146 : decode cX6_guard 146 = .ok (.getfield 29, 3) := by decide +kernel
theorem dX6_guard_149 : decode cX6_guard 149 = .ok (.iconst 2, 1) := by decide +kernel
theorem dX6_guard_150 : decode cX6_guard 150 = .ok (.aload_n 0, 1) := by decide +kernel
theorem dX6_guard_151 : decode cX6_guard 151 = .ok (.getfield 29, 3) := by decide +kernel
theorem dX6_guard_154 : decode cX6_guard 154 = .ok (.iconst 2, 1) := by decide +kernel
theorem dX6_guard_155 : decode cX6_guard 155 = .ok (.iaload, 1) := by decide +kernel
theorem dX6_guard_156 : decode cX6_guard 156 = .ok (.iload_n 3, 1) := by decide +kernel
theorem dX6_guard_157 : decode cX6_guard 157 = .ok (.if_icmp .le 13, 3) := by decide +kernel
theorem dX6_guard_160 : decode cX6_guard 160 = .ok (.iload_n 3, 1) := by decide +kernel
theorem dX6_guard_161 : decode cX6_guard 161 = .ok (.sipush (-200), 3) := by decide +kernel
theorem dX6_guard_164 : decode cX6_guard 164 = .ok (.invokestatic 117, 3) := by decide +kernel
theorem dX6_guard_167 : decode cX6_guard 167 = .ok (.goto 9, 3) := by decide +kernel
theorem dX6_guard_170 : decode cX6_guard 170 = .ok (.aload_n 0, 1) := by decide +kernel
theorem dX6_guard_171 : decode cX6_guard 171 = .ok (.getfield 29, 3) := by decide +kernel
theorem dX6_guard_174 : decode cX6_guard 174 = .ok (.iconst 2, 1) := by decide +kernel
theorem dX6_guard_175 : decode cX6_guard 175 = .ok (.iaload, 1) := by decide +kernel
theorem dX6_guard_176 : decode cX6_guard 176 = .ok (.iastore, 1) := by decide +kernel
theorem dX6_guard_177 : decode cX6_guard 177 = .ok (.return_, 1) := by decide +kernel
set_option maxRecDepth 20000 in
theorem ggX6_tick_X6_within : GoodIn wsX6_tick wsX6_within := goodIn_r _ [8] (by decide +kernel) (by decide +kernel)
set_option maxRecDepth 20000 in
theorem gX6_tick_X6_within : GoodIn wsX6_tick (va_wsS RX6 58 yX6_within wsX6_within) := goodIn_app (goodIn_of _ (by decide +kernel)) ggX6_tick_X6_within
set_option maxRecDepth 20000 in
theorem ggX6_tick_X6_link : GoodIn wsX6_tick wsX6_link := goodIn_r _ [12, 13, 14, 15, 16, 89, 90, 91, 92, 93, 94, 95, 96, 97, 98, 99, 100, 101, 102, 103, 104, 105, 106, 107, 108, 109, 110, 111] (by decide +kernel) (by decide +kernel)
set_option maxRecDepth 20000 in
theorem gX6_tick_X6_link : GoodIn wsX6_tick (wsV RX6 131 RX6 yX6_link wsX6_link) := goodIn_app (goodIn_of _ (by decide +kernel)) ggX6_tick_X6_link
set_option maxRecDepth 20000 in
theorem ggX6_tick_X6_vote : GoodIn wsX6_tick wsX6_vote := goodIn_r _ [20, 21, 4, 22, 23, 24, 25, 7, 26, 27, 28, 29, 30, 31, 32, 33, 34, 89, 90, 91, 92, 93, 94, 95, 96, 97, 98, 99, 100, 101, 102, 103, 104, 105, 106, 107, 108, 109, 110, 111] (by decide +kernel) (by decide +kernel)
set_option maxRecDepth 20000 in
theorem gX6_tick_X6_vote : GoodIn wsX6_tick (wsV RX6 134 RX6 yX6_vote wsX6_vote) := goodIn_app (goodIn_of _ (by decide +kernel)) ggX6_tick_X6_vote
set_option maxRecDepth 20000 in
theorem ggX6_tick_X6_failsafe : GoodIn wsX6_tick wsX6_failsafe := goodIn_r _ [38, 4, 39, 1, 2, 40, 41, 42, 7, 43, 44, 13, 45, 89, 90, 91, 92, 93, 94, 95, 96, 97, 98, 99, 100, 101, 102, 103, 104, 105, 106, 107, 108, 109, 110, 111] (by decide +kernel) (by decide +kernel)
set_option maxRecDepth 20000 in
theorem gX6_tick_X6_failsafe : GoodIn wsX6_tick (wsV RX6 137 RX6 yX6_failsafe wsX6_failsafe) := goodIn_app (goodIn_of _ (by decide +kernel)) ggX6_tick_X6_failsafe
set_option maxRecDepth 20000 in
theorem ggX6_tick_X6_advance : GoodIn wsX6_tick wsX6_advance := goodIn_r _ [49, 50, 2, 22, 51, 52, 40, 41, 42, 7, 43, 44, 13, 45, 39, 53, 54, 55, 56, 5, 6, 8, 89, 90, 91, 92, 93, 94, 95, 96, 97, 98, 99, 100, 101, 102, 103, 104, 105, 106, 107, 108, 109, 110, 111] (by decide +kernel) (by decide +kernel)
set_option maxRecDepth 20000 in
theorem gX6_tick_X6_advance : GoodIn wsX6_tick (wsV RX6 140 RX6 yX6_advance wsX6_advance) := goodIn_app (goodIn_of _ (by decide +kernel)) ggX6_tick_X6_advance
set_option maxRecDepth 20000 in
theorem ggX6_tick_X6_steer : GoodIn wsX6_tick wsX6_steer := goodIn_r _ [60, 4, 2, 52, 50, 22, 3, 61, 62, 7, 63, 89, 90, 91, 92, 93, 94, 95, 96, 97, 98, 99, 100, 101, 102, 103, 104, 105, 106, 107, 108, 109, 110, 111] (by decide +kernel) (by decide +kernel)
set_option maxRecDepth 20000 in
theorem gX6_tick_X6_steer : GoodIn wsX6_tick (wsV RX6 143 RX6 yX6_steer wsX6_steer) := goodIn_app (goodIn_of _ (by decide +kernel)) ggX6_tick_X6_steer
set_option maxRecDepth 20000 in
theorem ggX6_tick_X6_guard : GoodIn wsX6_tick wsX6_guard := goodIn_r _ [67, 22, 3, 68, 69, 70, 71, 7, 72, 73, 74, 75, 76, 77, 78, 79, 80, 81, 82, 83, 84, 85, 86, 87, 88, 61, 62, 63, 32, 33, 34, 89, 90, 91, 92, 93, 94, 95, 96, 97, 98, 99, 100, 101, 102, 103, 104, 105, 106, 107, 108, 109, 110, 111] (by decide +kernel) (by decide +kernel)
set_option maxRecDepth 20000 in
theorem gX6_tick_X6_guard : GoodIn wsX6_tick (wsV RX6 146 RX6 yX6_guard wsX6_guard) := goodIn_app (goodIn_of _ (by decide +kernel)) ggX6_tick_X6_guard
theorem dX6_tick_0 : decode cX6_tick 0 = .ok (.iload_n 1, 1) := by decide +kernel
theorem dX6_tick_1 : decode cX6_tick 1 = .ok (.iconst 0, 1) := by decide +kernel
theorem dX6_tick_2 : decode cX6_tick 2 = .ok (.bipush 100, 2) := by decide +kernel
theorem dX6_tick_4 : decode cX6_tick 4 = .ok (.invokestatic 58, 3) := by decide +kernel
theorem dX6_tick_7 : decode cX6_tick 7 = .ok (.ifCond .ne 6, 3) := by decide +kernel
theorem dX6_tick_10 : decode cX6_tick 10 = .ok (.bipush (-5), 2) := by decide +kernel
theorem dX6_tick_12 : decode cX6_tick 12 = .ok (.ireturn, 1) := by decide +kernel
theorem dX6_tick_13 : decode cX6_tick 13 = .ok (.aload_n 0, 1) := by decide +kernel
theorem dX6_tick_14 : decode cX6_tick 14 = .ok (.invokevirtual 131, 3) := by decide +kernel
theorem dX6_tick_17 : decode cX6_tick 17 = .ok (.aload_n 0, 1) := by decide +kernel
theorem dX6_tick_18 : decode cX6_tick 18 = .ok (.invokevirtual 134, 3) := by decide +kernel
theorem dX6_tick_21 : decode cX6_tick 21 = .ok (.aload_n 0, 1) := by decide +kernel
theorem dX6_tick_22 : decode cX6_tick 22 = .ok (.dup, 1) := by decide +kernel
theorem dX6_tick_23 : decode cX6_tick 23 = .ok (.getfield 96, 3) := by decide +kernel
theorem dX6_tick_26 : decode cX6_tick 26 = .ok (.iconst 1, 1) := by decide +kernel
theorem dX6_tick_27 : decode cX6_tick 27 = .ok (.iadd, 1) := by decide +kernel
theorem dX6_tick_28 : decode cX6_tick 28 = .ok (.putfield 96, 3) := by decide +kernel
theorem dX6_tick_31 : decode cX6_tick 31 = .ok (.aload_n 0, 1) := by decide +kernel
theorem dX6_tick_32 : decode cX6_tick 32 = .ok (.getfield 62, 3) := by decide +kernel
theorem dX6_tick_35 : decode cX6_tick 35 = .ok (.ifCond .ne 26, 3) := by decide +kernel
theorem dX6_tick_38 : decode cX6_tick 38 = .ok (.aload_n 0, 1) := by decide +kernel
theorem dX6_tick_39 : decode cX6_tick 39 = .ok (.getfield 29, 3) := by decide +kernel
theorem dX6_tick_42 : decode cX6_tick 42 = .ok (.iconst 0, 1) := by decide +kernel
theorem dX6_tick_43 : decode cX6_tick 43 = .ok (.iconst 0, 1) := by decide +kernel
theorem dX6_tick_44 : decode cX6_tick 44 = .ok (.iastore, 1) := by decide +kernel
theorem dX6_tick_45 : decode cX6_tick 45 = .ok (.aload_n 0, 1) := by decide +kernel
theorem dX6_tick_46 : decode cX6_tick 46 = .ok (.getfield 29, 3) := by decide +kernel
theorem dX6_tick_49 : decode cX6_tick 49 = .ok (.iconst 1, 1) := by decide +kernel
theorem dX6_tick_50 : decode cX6_tick 50 = .ok (.iconst 0, 1) := by decide +kernel
theorem dX6_tick_51 : decode cX6_tick 51 = .ok (.iastore, 1) := by decide +kernel
theorem dX6_tick_52 : decode cX6_tick 52 = .ok (.aload_n 0, 1) := by decide +kernel
theorem dX6_tick_53 : decode cX6_tick 53 = .ok (.getfield 29, 3) := by decide +kernel
theorem dX6_tick_56 : decode cX6_tick 56 = .ok (.iconst 2, 1) := by decide +kernel
theorem dX6_tick_57 : decode cX6_tick 57 = .ok (.iconst 0, 1) := by decide +kernel
theorem dX6_tick_58 : decode cX6_tick 58 = .ok (.iastore, 1) := by decide +kernel
theorem dX6_tick_59 : decode cX6_tick 59 = .ok (.iconst 0, 1) := by decide +kernel
theorem dX6_tick_60 : decode cX6_tick 60 = .ok (.ireturn, 1) := by decide +kernel
theorem dX6_tick_61 : decode cX6_tick 61 = .ok (.aload_n 0, 1) := by decide +kernel
theorem dX6_tick_62 : decode cX6_tick 62 = .ok (.iload_n 1, 1) := by decide +kernel
theorem dX6_tick_63 : decode cX6_tick 63 = .ok (.invokevirtual 137, 3) := by decide +kernel
theorem dX6_tick_66 : decode cX6_tick 66 = .ok (.aload_n 0, 1) := by decide +kernel
theorem dX6_tick_67 : decode cX6_tick 67 = .ok (.getfield 32, 3) := by decide +kernel
theorem dX6_tick_70 : decode cX6_tick 70 = .ok (.ifCond .ne 7, 3) := by decide +kernel
theorem dX6_tick_73 : decode cX6_tick 73 = .ok (.aload_n 0, 1) := by decide +kernel
theorem dX6_tick_74 : decode cX6_tick 74 = .ok (.invokevirtual 140, 3) := by decide +kernel
theorem dX6_tick_77 : decode cX6_tick 77 = .ok (.aload_n 0, 1) := by decide +kernel
theorem dX6_tick_78 : decode cX6_tick 78 = .ok (.invokevirtual 143, 3) := by decide +kernel
theorem dX6_tick_81 : decode cX6_tick 81 = .ok (.aload_n 0, 1) := by decide +kernel
theorem dX6_tick_82 : decode cX6_tick 82 = .ok (.getfield 32, 3) := by decide +kernel
theorem dX6_tick_85 : decode cX6_tick 85 = .ok (.ifCond .ne 14, 3) := by decide +kernel
theorem dX6_tick_88 : decode cX6_tick 88 = .ok (.aload_n 0, 1) := by decide +kernel
theorem dX6_tick_89 : decode cX6_tick 89 = .ok (.getfield 62, 3) := by decide +kernel
theorem dX6_tick_92 : decode cX6_tick 92 = .ok (.ifCond .eq 7, 3) := by decide +kernel
theorem dX6_tick_95 : decode cX6_tick 95 = .ok (.aload_n 0, 1) := by decide +kernel
theorem dX6_tick_96 : decode cX6_tick 96 = .ok (.invokevirtual 146, 3) := by decide +kernel
theorem dX6_tick_99 : decode cX6_tick 99 = .ok (.aload_n 0, 1) := by decide +kernel
theorem dX6_tick_100 : decode cX6_tick 100 = .ok (.getfield 62, 3) := by decide +kernel
theorem dX6_tick_103 : decode cX6_tick 103 = .ok (.ireturn, 1) := by decide +kernel
theorem dX6_mode_0 : decode cX6_mode 0 = .ok (.aload_n 0, 1) := by decide +kernel
theorem dX6_mode_1 : decode cX6_mode 1 = .ok (.getfield 62, 3) := by decide +kernel
theorem dX6_mode_4 : decode cX6_mode 4 = .ok (.ireturn, 1) := by decide +kernel
set_option maxRecDepth 20000 in
theorem ggX6_demand_X6_within : GoodIn wsX6_demand wsX6_within := goodIn_r _ [5] (by decide +kernel) (by decide +kernel)
set_option maxRecDepth 20000 in
theorem gX6_demand_X6_within : GoodIn wsX6_demand (va_wsS RX6 58 yX6_within wsX6_within) := goodIn_app (goodIn_of _ (by decide +kernel)) ggX6_demand_X6_within
theorem dX6_demand_0 : decode cX6_demand 0 = .ok (.iload_n 1, 1) := by decide +kernel
theorem dX6_demand_1 : decode cX6_demand 1 = .ok (.iconst 0, 1) := by decide +kernel
theorem dX6_demand_2 : decode cX6_demand 2 = .ok (.iconst 2, 1) := by decide +kernel
theorem dX6_demand_3 : decode cX6_demand 3 = .ok (.invokestatic 58, 3) := by decide +kernel
theorem dX6_demand_6 : decode cX6_demand 6 = .ok (.ifCond .eq 12, 3) := by decide +kernel
theorem dX6_demand_9 : decode cX6_demand 9 = .ok (.aload_n 0, 1) := by decide +kernel
theorem dX6_demand_10 : decode cX6_demand 10 = .ok (.getfield 29, 3) := by decide +kernel
theorem dX6_demand_13 : decode cX6_demand 13 = .ok (.iload_n 1, 1) := by decide +kernel
theorem dX6_demand_14 : decode cX6_demand 14 = .ok (.iaload, 1) := by decide +kernel
theorem dX6_demand_15 : decode cX6_demand 15 = .ok (.goto 4, 3) := by decide +kernel
theorem dX6_demand_18 : decode cX6_demand 18 = .ok (.iconst 0, 1) := by decide +kernel
theorem dX6_demand_19 : decode cX6_demand 19 = .ok (.ireturn, 1) := by decide +kernel
set_option maxRecDepth 20000 in
theorem ggX6_position_X6_within : GoodIn wsX6_position wsX6_within := goodIn_r _ [5] (by decide +kernel) (by decide +kernel)
set_option maxRecDepth 20000 in
theorem gX6_position_X6_within : GoodIn wsX6_position (va_wsS RX6 58 yX6_within wsX6_within) := goodIn_app (goodIn_of _ (by decide +kernel)) ggX6_position_X6_within
theorem dX6_position_0 : decode cX6_position 0 = .ok (.iload_n 1, 1) := by decide +kernel
theorem dX6_position_1 : decode cX6_position 1 = .ok (.iconst 0, 1) := by decide +kernel
theorem dX6_position_2 : decode cX6_position 2 = .ok (.iconst 2, 1) := by decide +kernel
theorem dX6_position_3 : decode cX6_position 3 = .ok (.invokestatic 58, 3) := by decide +kernel
theorem dX6_position_6 : decode cX6_position 6 = .ok (.ifCond .eq 12, 3) := by decide +kernel
theorem dX6_position_9 : decode cX6_position 9 = .ok (.aload_n 0, 1) := by decide +kernel
theorem dX6_position_10 : decode cX6_position 10 = .ok (.getfield 26, 3) := by decide +kernel
theorem dX6_position_13 : decode cX6_position 13 = .ok (.iload_n 1, 1) := by decide +kernel
theorem dX6_position_14 : decode cX6_position 14 = .ok (.iaload, 1) := by decide +kernel
theorem dX6_position_15 : decode cX6_position 15 = .ok (.goto 4, 3) := by decide +kernel
theorem dX6_position_18 : decode cX6_position 18 = .ok (.iconst 0, 1) := by decide +kernel
theorem dX6_position_19 : decode cX6_position 19 = .ok (.ireturn, 1) := by decide +kernel
theorem dX6_lost_0 : decode cX6_lost 0 = .ok (.aload_n 0, 1) := by decide +kernel
theorem dX6_lost_1 : decode cX6_lost 1 = .ok (.getfield 32, 3) := by decide +kernel
theorem dX6_lost_4 : decode cX6_lost 4 = .ok (.ireturn, 1) := by decide +kernel
theorem dX6_waypoint_0 : decode cX6_waypoint 0 = .ok (.aload_n 0, 1) := by decide +kernel
theorem dX6_waypoint_1 : decode cX6_waypoint 1 = .ok (.getfield 90, 3) := by decide +kernel
theorem dX6_waypoint_4 : decode cX6_waypoint 4 = .ok (.ifCond .ne 8, 3) := by decide +kernel
theorem dX6_waypoint_7 : decode cX6_waypoint 7 = .ok (.bipush (-11), 2) := by decide +kernel
theorem dX6_waypoint_9 : decode cX6_waypoint 9 = .ok (.goto 7, 3) := by decide +kernel
theorem dX6_waypoint_12 : decode cX6_waypoint 12 = .ok (.aload_n 0, 1) := by decide +kernel
theorem dX6_waypoint_13 : decode cX6_waypoint 13 = .ok (.getfield 93, 3) := by decide +kernel
theorem dX6_waypoint_16 : decode cX6_waypoint 16 = .ok (.ireturn, 1) := by decide +kernel
set_option maxRecDepth 20000 in
theorem ggX6_change_X6_within : GoodIn wsX6_change wsX6_within := goodIn_r _ [6] (by decide +kernel) (by decide +kernel)
set_option maxRecDepth 20000 in
theorem gX6_change_X6_within : GoodIn wsX6_change (va_wsS RX6 58 yX6_within wsX6_within) := goodIn_app (goodIn_of _ (by decide +kernel)) ggX6_change_X6_within
theorem dX6_change_0 : decode cX6_change 0 = .ok (.iload_n 1, 1) := by decide +kernel
theorem dX6_change_1 : decode cX6_change 1 = .ok (.iconst 0, 1) := by decide +kernel
theorem dX6_change_2 : decode cX6_change 2 = .ok (.aload_n 0, 1) := by decide +kernel
theorem dX6_change_3 : decode cX6_change 3 = .ok (.getfield 102, 3) := by decide +kernel
theorem dX6_change_6 : decode cX6_change 6 = .ok (.iconst 1, 1) := by decide +kernel
theorem dX6_change_7 : decode cX6_change 7 = .ok (.isub, 1) := by decide +kernel
theorem dX6_change_8 : decode cX6_change 8 = .ok (.invokestatic 58, 3) := by decide +kernel
theorem dX6_change_11 : decode cX6_change 11 = .ok (.ifCond .eq 12, 3) := by decide +kernel
theorem dX6_change_14 : decode cX6_change 14 = .ok (.aload_n 0, 1) := by decide +kernel
theorem dX6_change_15 : decode cX6_change 15 = .ok (.getfield 36, 3) := by decide +kernel
theorem dX6_change_18 : decode cX6_change 18 = .ok (.iload_n 1, 1) := by decide +kernel
theorem dX6_change_19 : decode cX6_change 19 = .ok (.iaload, 1) := by decide +kernel
theorem dX6_change_20 : decode cX6_change 20 = .ok (.goto 4, 3) := by decide +kernel
theorem dX6_change_23 : decode cX6_change 23 = .ok (.iconst (-1), 1) := by decide +kernel
theorem dX6_change_24 : decode cX6_change 24 = .ok (.ireturn, 1) := by decide +kernel
theorem dJ9_floorDiv_7cf53_0 : decode cJ9_floorDiv_7cf53 0 = .ok (.iload_n 0, 1) := by decide +kernel
theorem dJ9_floorDiv_7cf53_1 : decode cJ9_floorDiv_7cf53 1 = .ok (.iload_n 1, 1) := by decide +kernel
theorem dJ9_floorDiv_7cf53_2 : decode cJ9_floorDiv_7cf53 2 = .ok (.idiv, 1) := by decide +kernel
theorem dJ9_floorDiv_7cf53_3 : decode cJ9_floorDiv_7cf53 3 = .ok (.istore_n 2, 1) := by decide +kernel
theorem dJ9_floorDiv_7cf53_4 : decode cJ9_floorDiv_7cf53 4 = .ok (.iload_n 0, 1) := by decide +kernel
theorem dJ9_floorDiv_7cf53_5 : decode cJ9_floorDiv_7cf53 5 = .ok (.iload_n 1, 1) := by decide +kernel
theorem dJ9_floorDiv_7cf53_6 : decode cJ9_floorDiv_7cf53 6 = .ok (.ixor, 1) := by decide +kernel
theorem dJ9_floorDiv_7cf53_7 : decode cJ9_floorDiv_7cf53 7 = .ok (.ifCond .ge 14, 3) := by decide +kernel
theorem dJ9_floorDiv_7cf53_10 : decode cJ9_floorDiv_7cf53 10 = .ok (.iload_n 2, 1) := by decide +kernel
theorem dJ9_floorDiv_7cf53_11 : decode cJ9_floorDiv_7cf53 11 = .ok (.iload_n 1, 1) := by decide +kernel
theorem dJ9_floorDiv_7cf53_12 : decode cJ9_floorDiv_7cf53 12 = .ok (.imul, 1) := by decide +kernel
theorem dJ9_floorDiv_7cf53_13 : decode cJ9_floorDiv_7cf53 13 = .ok (.iload_n 0, 1) := by decide +kernel
theorem dJ9_floorDiv_7cf53_14 : decode cJ9_floorDiv_7cf53 14 = .ok (.if_icmp .eq 7, 3) := by decide +kernel
theorem dJ9_floorDiv_7cf53_17 : decode cJ9_floorDiv_7cf53 17 = .ok (.iload_n 2, 1) := by decide +kernel
theorem dJ9_floorDiv_7cf53_18 : decode cJ9_floorDiv_7cf53 18 = .ok (.iconst 1, 1) := by decide +kernel
theorem dJ9_floorDiv_7cf53_19 : decode cJ9_floorDiv_7cf53 19 = .ok (.isub, 1) := by decide +kernel
theorem dJ9_floorDiv_7cf53_20 : decode cJ9_floorDiv_7cf53 20 = .ok (.ireturn, 1) := by decide +kernel
theorem dJ9_floorDiv_7cf53_21 : decode cJ9_floorDiv_7cf53 21 = .ok (.iload_n 2, 1) := by decide +kernel
theorem dJ9_floorDiv_7cf53_22 : decode cJ9_floorDiv_7cf53 22 = .ok (.ireturn, 1) := by decide +kernel
theorem dJ9_max_7cf53_0 : decode cJ9_max_7cf53 0 = .ok (.iload_n 0, 1) := by decide +kernel
theorem dJ9_max_7cf53_1 : decode cJ9_max_7cf53 1 = .ok (.iload_n 1, 1) := by decide +kernel
theorem dJ9_max_7cf53_2 : decode cJ9_max_7cf53 2 = .ok (.if_icmp .lt 7, 3) := by decide +kernel
theorem dJ9_max_7cf53_5 : decode cJ9_max_7cf53 5 = .ok (.iload_n 0, 1) := by decide +kernel
theorem dJ9_max_7cf53_6 : decode cJ9_max_7cf53 6 = .ok (.goto 4, 3) := by decide +kernel
theorem dJ9_max_7cf53_9 : decode cJ9_max_7cf53 9 = .ok (.iload_n 1, 1) := by decide +kernel
theorem dJ9_max_7cf53_10 : decode cJ9_max_7cf53 10 = .ok (.ireturn, 1) := by decide +kernel
theorem dJ9_min_7cf53_0 : decode cJ9_min_7cf53 0 = .ok (.iload_n 0, 1) := by decide +kernel
theorem dJ9_min_7cf53_1 : decode cJ9_min_7cf53 1 = .ok (.iload_n 1, 1) := by decide +kernel
theorem dJ9_min_7cf53_2 : decode cJ9_min_7cf53 2 = .ok (.if_icmp .gt 7, 3) := by decide +kernel
theorem dJ9_min_7cf53_5 : decode cJ9_min_7cf53 5 = .ok (.iload_n 0, 1) := by decide +kernel
theorem dJ9_min_7cf53_6 : decode cJ9_min_7cf53 6 = .ok (.goto 4, 3) := by decide +kernel
theorem dJ9_min_7cf53_9 : decode cJ9_min_7cf53 9 = .ok (.iload_n 1, 1) := by decide +kernel
theorem dJ9_min_7cf53_10 : decode cJ9_min_7cf53 10 = .ok (.ireturn, 1) := by decide +kernel
abbrev vwCl : List vw_C := [(RX0, TX0, 3), (RX1, TX1, 2), (RX2, TX2, 3), (RX3, TX3, 2), (RX4, TX4, 5), (RX5, TX5, 13), (RX6, TX6, 23)]

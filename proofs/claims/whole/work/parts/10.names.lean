theorem dX6_voted_60 : decode cX6_voted 60 = .ok (.iload 7, 2) := by decide +kernel
theorem dX6_voted_62 : decode cX6_voted 62 = .ok (.invokestatic 117, 3) := by decide +kernel
theorem dX6_voted_65 : decode cX6_voted 65 = .ok (.istore 4, 2) := by decide +kernel
theorem dX6_voted_67 : decode cX6_voted 67 = .ok (.iinc 5 1, 3) := by decide +kernel
theorem dX6_voted_70 : decode cX6_voted 70 = .ok (.iinc 6 1, 3) := by decide +kernel
theorem dX6_voted_73 : decode cX6_voted 73 = .ok (.goto (-56), 3) := by decide +kernel
theorem dX6_voted_76 : decode cX6_voted 76 = .ok (.iload 5, 2) := by decide +kernel
theorem dX6_voted_78 : decode cX6_voted 78 = .ok (.iconst 3, 1) := by decide +kernel
theorem dX6_voted_79 : decode cX6_voted 79 = .ok (.if_icmp .ne 12, 3) := by decide +kernel
theorem dX6_voted_82 : decode cX6_voted 82 = .ok (.iload_n 2, 1) := by decide +kernel
theorem dX6_voted_83 : decode cX6_voted 83 = .ok (.iload_n 3, 1) := by decide +kernel
theorem dX6_voted_84 : decode cX6_voted 84 = .ok (.isub, 1) := by decide +kernel
theorem dX6_voted_85 : decode cX6_voted 85 = .ok (.iload 4, 2) := by decide +kernel
theorem dX6_voted_87 : decode cX6_voted 87 = .ok (.isub, 1) := by decide +kernel
theorem dX6_voted_88 : decode cX6_voted 88 = .ok (.goto 13, 3) := by decide +kernel
theorem dX6_voted_91 : decode cX6_voted 91 = .ok (.iload_n 2, 1) := by decide +kernel
theorem dX6_voted_92 : decode cX6_voted 92 = .ok (.ldc 120, 2) := by decide +kernel
theorem dX6_voted_94 : decode cX6_voted 94 = .ok (.iadd, 1) := by decide +kernel
theorem dX6_voted_95 : decode cX6_voted 95 = .ok (.iconst 2, 1) := by decide +kernel
theorem dX6_voted_96 : decode cX6_voted 96 = .ok (.idiv, 1) := by decide +kernel
theorem dX6_voted_97 : decode cX6_voted 97 = .ok (.sipush 30000, 3) := by decide +kernel
theorem dX6_voted_100 : decode cX6_voted 100 = .ok (.isub, 1) := by decide +kernel
theorem dX6_voted_101 : decode cX6_voted 101 = .ok (.ireturn, 1) := by decide +kernel
theorem dX6_link_0 : decode cX6_link 0 = .ok (.aload_n 0, 1) := by decide +kernel
theorem dX6_link_1 : decode cX6_link 1 = .ok (.dup, 1) := by decide +kernel
theorem dX6_link_2 : decode cX6_link 2 = .ok (.getfield 99, 3) := by decide +kernel
theorem dX6_link_5 : decode cX6_link 5 = .ok (.iconst 1, 1) := by decide +kernel
theorem dX6_link_6 : decode cX6_link 6 = .ok (.iadd, 1) := by decide +kernel
theorem dX6_link_7 : decode cX6_link 7 = .ok (.putfield 99, 3) := by decide +kernel
theorem dX6_link_10 : decode cX6_link 10 = .ok (.aload_n 0, 1) := by decide +kernel
theorem dX6_link_11 : decode cX6_link 11 = .ok (.getfield 78, 3) := by decide +kernel
theorem dX6_link_14 : decode cX6_link 14 = .ok (.ifCond .le 57, 3) := by decide +kernel
theorem dX6_link_17 : decode cX6_link 17 = .ok (.aload_n 0, 1) := by decide +kernel
theorem dX6_link_18 : decode cX6_link 18 = .ok (.dup, 1) := by decide +kernel
theorem dX6_link_19 : decode cX6_link 19 = .ok (.getfield 84, 3) := by decide +kernel
theorem dX6_link_22 : decode cX6_link 22 = .ok (.iconst 1, 1) := by decide +kernel
theorem dX6_link_23 : decode cX6_link 23 = .ok (.iadd, 1) := by decide +kernel
theorem dX6_link_24 : decode cX6_link 24 = .ok (.putfield 84, 3) := by decide +kernel
theorem dX6_link_27 : decode cX6_link 27 = .ok (.aload_n 0, 1) := by decide +kernel
theorem dX6_link_28 : decode cX6_link 28 = .ok (.getfield 84, 3) := by decide +kernel
theorem dX6_link_31 : decode cX6_link 31 = .ok (.bipush 10, 2) := by decide +kernel
theorem dX6_link_33 : decode cX6_link 33 = .ok (.if_icmp .ne 38, 3) := by decide +kernel
theorem dX6_link_36 : decode cX6_link 36 = .ok (.aload_n 0, 1) := by decide +kernel
theorem dX6_link_37 : decode cX6_link 37 = .ok (.iconst 0, 1) := by decide +kernel
theorem dX6_link_38 : decode cX6_link 38 = .ok (.putfield 84, 3) := by decide +kernel
theorem dX6_link_41 : decode cX6_link 41 = .ok (.aload_n 0, 1) := by decide +kernel
theorem dX6_link_42 : decode cX6_link 42 = .ok (.dup, 1) := by decide +kernel
theorem dX6_link_43 : decode cX6_link 43 = .ok (.getfield 87, 3) := by decide +kernel
theorem dX6_link_46 : decode cX6_link 46 = .ok (.iconst 1, 1) := by decide +kernel
theorem dX6_link_47 : decode cX6_link 47 = .ok (.iadd, 1) := by decide +kernel
theorem dX6_link_48 : decode cX6_link 48 = .ok (.putfield 87, 3) := by decide +kernel
theorem dX6_link_51 : decode cX6_link 51 = .ok (.aload_n 0, 1) := by decide +kernel
theorem dX6_link_52 : decode cX6_link 52 = .ok (.aload_n 0, 1) := by decide +kernel
theorem dX6_link_53 : decode cX6_link 53 = .ok (.getfield 87, 3) := by decide +kernel
theorem dX6_link_56 : decode cX6_link 56 = .ok (.iconst 3, 1) := by decide +kernel
theorem dX6_link_57 : decode cX6_link 57 = .ok (.if_icmp .ne 7, 3) := by decide +kernel
theorem dX6_link_60 : decode cX6_link 60 = .ok (.iconst 0, 1) := by decide +kernel
theorem dX6_link_61 : decode cX6_link 61 = .ok (.goto 7, 3) := by decide +kernel
theorem dX6_link_64 : decode cX6_link 64 = .ok (.aload_n 0, 1) := by decide +kernel
theorem dX6_link_65 : decode cX6_link 65 = .ok (.getfield 78, 3) := by decide +kernel
theorem dX6_link_68 : decode cX6_link 68 = .ok (.putfield 78, 3) := by decide +kernel
theorem dX6_link_71 : decode cX6_link 71 = .ok (.return_, 1) := by decide +kernel
set_option maxRecDepth 20000 in
theorem ggX6_vote_X6_voted : GoodIn wsX6_vote wsX6_voted := goodIn_r _ [8, 1, 9, 10, 11, 12, 7, 13, 14, 15, 16, 17, 18, 19, 20, 21, 22, 23, 24, 25, 26, 27, 28, 29, 30, 31, 32, 33, 34, 35, 36, 37, 38, 39] (by decide +kernel) (by decide +kernel)
set_option maxRecDepth 20000 in
theorem gX6_vote_X6_voted : GoodIn wsX6_vote (wsV RX6 121 RX6 yX6_voted wsX6_voted) := goodIn_app (goodIn_of _ (by decide +kernel)) ggX6_vote_X6_voted
theorem dX6_vote_0 : decode cX6_vote 0 = .ok (.aload_n 0, 1) := by decide +kernel
theorem dX6_vote_1 : decode cX6_vote 1 = .ok (.getfield 19, 3) := by decide +kernel
theorem dX6_vote_4 : decode cX6_vote 4 = .ok (.iconst 0, 1) := by decide +kernel
theorem dX6_vote_5 : decode cX6_vote 5 = .ok (.baload, 1) := by decide +kernel
theorem dX6_vote_6 : decode cX6_vote 6 = .ok (.ifCond .eq 7, 3) := by decide +kernel
theorem dX6_vote_9 : decode cX6_vote 9 = .ok (.iconst 1, 1) := by decide +kernel
theorem dX6_vote_10 : decode cX6_vote 10 = .ok (.goto 4, 3) := by decide +kernel
theorem dX6_vote_13 : decode cX6_vote 13 = .ok (.iconst 0, 1) := by decide +kernel
theorem dX6_vote_14 : decode cX6_vote 14 = .ok (.aload_n 0, 1) := by decide +kernel
theorem dX6_vote_15 : decode cX6_vote 15 = .ok (.getfield 19, 3) := by decide +kernel
theorem dX6_vote_18 : decode cX6_vote 18 = .ok (.iconst 1, 1) := by decide +kernel
theorem dX6_vote_19 : decode cX6_vote 19 = .ok (.baload, 1) := by decide +kernel
theorem dX6_vote_20 : decode cX6_vote 20 = .ok (.ifCond .eq 7, 3) := by decide +kernel
theorem dX6_vote_23 : decode cX6_vote 23 = .ok (.iconst 1, 1) := by decide +kernel
theorem dX6_vote_24 : decode cX6_vote 24 = .ok (.goto 4, 3) := by decide +kernel
theorem dX6_vote_27 : decode cX6_vote 27 = .ok (.iconst 0, 1) := by decide +kernel
theorem dX6_vote_28 : decode cX6_vote 28 = .ok (.iadd, 1) := by decide +kernel
theorem dX6_vote_29 : decode cX6_vote 29 = .ok (.aload_n 0, 1) := by decide +kernel
theorem dX6_vote_30 : decode cX6_vote 30 = .ok (.getfield 19, 3) := by decide +kernel
theorem dX6_vote_33 : decode cX6_vote 33 = .ok (.iconst 2, 1) := by decide +kernel
theorem dX6_vote_34 : decode cX6_vote 34 = .ok (.baload, 1) := by decide +kernel
theorem dX6_vote_35 : decode cX6_vote 35 = .ok (.ifCond .eq 7, 3) := by decide +kernel
theorem dX6_vote_38 : decode cX6_vote 38 = .ok (.iconst 1, 1) := by decide +kernel
theorem dX6_vote_39 : decode cX6_vote 39 = .ok (.goto 4, 3) := by decide +kernel
theorem dX6_vote_42 : decode cX6_vote 42 = .ok (.iconst 0, 1) := by decide +kernel
theorem dX6_vote_43 : decode cX6_vote 43 = .ok (.iadd, 1) := by decide +kernel
theorem dX6_vote_44 : decode cX6_vote 44 = .ok (.istore_n 1, 1) := by decide +kernel
theorem dX6_vote_45 : decode cX6_vote 45 = .ok (.aload_n 0, 1) := by decide +kernel
theorem dX6_vote_46 : decode cX6_vote 46 = .ok (.iload_n 1, 1) := by decide +kernel
theorem dX6_vote_47 : decode cX6_vote 47 = .ok (.iconst 2, 1) := by decide +kernel
theorem dX6_vote_48 : decode cX6_vote 48 = .ok (.if_icmp .ge 12, 3) := by decide +kernel
theorem dX6_vote_51 : decode cX6_vote 51 = .ok (.aload_n 0, 1) := by decide +kernel
theorem dX6_vote_52 : decode cX6_vote 52 = .ok (.getfield 32, 3) := by decide +kernel
theorem dX6_vote_55 : decode cX6_vote 55 = .ok (.iconst 1, 1) := by decide +kernel
theorem dX6_vote_56 : decode cX6_vote 56 = .ok (.iadd, 1) := by decide +kernel
theorem dX6_vote_57 : decode cX6_vote 57 = .ok (.goto 4, 3) := by decide +kernel
theorem dX6_vote_60 : decode cX6_vote 60 = .ok (.iconst 0, 1) := by decide +kernel
theorem dX6_vote_61 : decode cX6_vote 61 = .ok (.putfield 32, 3) := by decide +kernel
theorem dX6_vote_64 : decode cX6_vote 64 = .ok (.iconst 0, 1) := by decide +kernel
theorem dX6_vote_65 : decode cX6_vote 65 = .ok (.istore_n 2, 1) := by decide +kernel
theorem dX6_vote_66 : decode cX6_vote 66 = .ok (.iload_n 2, 1) := by decide +kernel
theorem dX6_vote_67 : decode cX6_vote 67 = .ok (.iconst 3, 1) := by decide +kernel
theorem dX6_vote_68 : decode cX6_vote 68 = .ok (.if_icmp .ge 34, 3) := by decide +kernel
theorem dX6_vote_71 : decode cX6_vote 71 = .ok (.aload_n 0, 1) := by decide +kernel
theorem dX6_vote_72 : decode cX6_vote 72 = .ok (.getfield 26, 3) := by decide +kernel
theorem dX6_vote_75 : decode cX6_vote 75 = .ok (.iload_n 2, 1) := by decide +kernel
theorem dX6_vote_76 : decode cX6_vote 76 = .ok (.iload_n 1, 1) := by decide +kernel
theorem dX6_vote_77 : decode cX6_vote 77 = .ok (.iconst 2, 1) := by decide +kernel
theorem dX6_vote_78 : decode cX6_vote 78 = .ok (.if_icmp .ge 12, 3) := by decide +kernel
theorem dX6_vote_81 : decode cX6_vote 81 = .ok (.aload_n 0, 1) := by decide +kernel
theorem dX6_vote_82 : decode cX6_vote 82 = .ok (.getfield 26, 3) := by decide +kernel
theorem dX6_vote_85 : decode cX6_vote 85 = .ok (.iload_n 2, 1) := by decide +kernel
theorem dX6_vote_86 : decode cX6_vote 86 = .ok (.iaload, 1) := by decide +kernel
theorem dX6_vote_87 : decode cX6_vote 87 = .ok (.goto 8, 3) := by decide +kernel
theorem dX6_vote_90 : decode cX6_vote 90 = .ok (.aload_n 0, 1) := by decide +kernel
theorem dX6_vote_91 : decode cX6_vote 91 = .ok (.iload_n 2, 1) := by decide +kernel
theorem dX6_vote_92 : decode cX6_vote 92 = .ok (.invokevirtual 121, 3) := by decide +kernel
theorem dX6_vote_95 : decode cX6_vote 95 = .ok (.iastore, 1) := by decide +kernel
theorem dX6_vote_96 : decode cX6_vote 96 = .ok (.iinc 2 1, 3) := by decide +kernel
theorem dX6_vote_99 : decode cX6_vote 99 = .ok (.goto (-33), 3) := by decide +kernel
theorem dX6_vote_102 : decode cX6_vote 102 = .ok (.iconst 0, 1) := by decide +kernel
theorem dX6_vote_103 : decode cX6_vote 103 = .ok (.istore_n 2, 1) := by decide +kernel
theorem dX6_vote_104 : decode cX6_vote 104 = .ok (.iload_n 2, 1) := by decide +kernel
theorem dX6_vote_105 : decode cX6_vote 105 = .ok (.iconst 3, 1) := by decide +kernel
theorem dX6_vote_106 : decode cX6_vote 106 = .ok (.if_icmp .ge 16, 3) := by decide +kernel
theorem dX6_vote_109 : decode cX6_vote 109 = .ok (.aload_n 0, 1) := by decide +kernel
theorem dX6_vote_110 : decode cX6_vote 110 = .ok (.getfield 19, 3) := by decide +kernel
theorem dX6_vote_113 : decode cX6_vote 113 = .ok (.iload_n 2, 1) := by decide +kernel
theorem dX6_vote_114 : decode cX6_vote 114 = .ok (.iconst 0, 1) := by decide +kernel
theorem dX6_vote_115 : decode cX6_vote 115 = .ok (.bastore, 1) := by decide +kernel
theorem dX6_vote_116 : decode cX6_vote 116 = .ok (.iinc 2 1, 3) := by decide +kernel
theorem dX6_vote_119 : decode cX6_vote 119 = .ok (.goto (-15), 3) := by decide +kernel
theorem dX6_vote_122 : decode cX6_vote 122 = .ok (.return_, 1) := by decide +kernel
set_option maxRecDepth 20000 in
theorem ggX6_failsafe_X6_become : GoodIn wsX6_failsafe wsX6_become := goodIn_r _ [9, 4, 10, 11, 12, 2, 13, 14, 15, 16, 17, 18, 19, 20, 21, 22, 23, 24, 25, 26, 27, 28, 29, 30, 31, 32, 33, 34, 35] (by decide +kernel) (by decide +kernel)
set_option maxRecDepth 20000 in
theorem gX6_failsafe_X6_become : GoodIn wsX6_failsafe (wsV RX6 109 RX6 yX6_become wsX6_become) := goodIn_app (goodIn_of _ (by decide +kernel)) ggX6_failsafe_X6_become
theorem dX6_failsafe_0 : decode cX6_failsafe 0 = .ok (.iload_n 1, 1) := by decide +kernel
theorem dX6_failsafe_1 : decode cX6_failsafe 1 = .ok (.bipush 10, 2) := by decide +kernel
theorem dX6_failsafe_3 : decode cX6_failsafe 3 = .ok (.if_icmp .lt 11, 3) := by decide +kernel
theorem dX6_failsafe_6 : decode cX6_failsafe 6 = .ok (.aload_n 0, 1) := by decide +kernel
theorem dX6_failsafe_7 : decode cX6_failsafe 7 = .ok (.getfield 32, 3) := by decide +kernel
theorem dX6_failsafe_10 : decode cX6_failsafe 10 = .ok (.iconst 5, 1) := by decide +kernel
theorem dX6_failsafe_11 : decode cX6_failsafe 11 = .ok (.if_icmp .lt 16, 3) := by decide +kernel
theorem dX6_failsafe_14 : decode cX6_failsafe 14 = .ok (.aload_n 0, 1) := by decide +kernel
theorem dX6_failsafe_15 : decode cX6_failsafe 15 = .ok (.iconst 5, 1) := by decide +kernel
theorem dX6_failsafe_16 : decode cX6_failsafe 16 = .ok (.invokevirtual 109, 3) := by decide +kernel
theorem dX6_failsafe_19 : decode cX6_failsafe 19 = .ok (.aload_n 0, 1) := by decide +kernel
theorem dX6_failsafe_20 : decode cX6_failsafe 20 = .ok (.iconst 1, 1) := by decide +kernel
theorem dX6_failsafe_21 : decode cX6_failsafe 21 = .ok (.putfield 105, 3) := by decide +kernel
theorem dX6_failsafe_24 : decode cX6_failsafe 24 = .ok (.goto 39, 3) := by decide +kernel
theorem dX6_failsafe_27 : decode cX6_failsafe 27 = .ok (.iload_n 1, 1) := by decide +kernel
theorem dX6_failsafe_28 : decode cX6_failsafe 28 = .ok (.bipush 25, 2) := by decide +kernel
theorem dX6_failsafe_30 : decode cX6_failsafe 30 = .ok (.if_icmp .lt 12, 3) := by decide +kernel
theorem dX6_failsafe_33 : decode cX6_failsafe 33 = .ok (.aload_n 0, 1) := by decide +kernel
theorem dX6_failsafe_34 : decode cX6_failsafe 34 = .ok (.getfield 96, 3) := by decide +kernel
theorem dX6_failsafe_37 : decode cX6_failsafe 37 = .ok (.bipush 20, 2) := by decide +kernel
theorem dX6_failsafe_39 : decode cX6_failsafe 39 = .ok (.if_icmp .lt 24, 3) := by decide +kernel
theorem dX6_failsafe_42 : decode cX6_failsafe 42 = .ok (.aload_n 0, 1) := by decide +kernel
theorem dX6_failsafe_43 : decode cX6_failsafe 43 = .ok (.getfield 62, 3) := by decide +kernel
theorem dX6_failsafe_46 : decode cX6_failsafe 46 = .ok (.iconst 4, 1) := by decide +kernel
theorem dX6_failsafe_47 : decode cX6_failsafe 47 = .ok (.if_icmp .eq 16, 3) := by decide +kernel
theorem dX6_failsafe_50 : decode cX6_failsafe 50 = .ok (.aload_n 0, 1) := by decide +kernel
theorem dX6_failsafe_51 : decode cX6_failsafe 51 = .ok (.getfield 62, 3) := by decide +kernel
theorem dX6_failsafe_54 : decode cX6_failsafe 54 = .ok (.iconst 5, 1) := by decide +kernel
theorem dX6_failsafe_55 : decode cX6_failsafe 55 = .ok (.if_icmp .eq 8, 3) := by decide +kernel
theorem dX6_failsafe_58 : decode cX6_failsafe 58 = .ok (.aload_n 0, 1) := by decide +kernel
theorem dX6_failsafe_59 : decode cX6_failsafe 59 = .ok (.iconst 4, 1) := by decide +kernel
theorem dX6_failsafe_60 : decode cX6_failsafe 60 = .ok (.invokevirtual 109, 3) := by decide +kernel
theorem dX6_failsafe_63 : decode cX6_failsafe 63 = .ok (.return_, 1) := by decide +kernel
set_option maxRecDepth 20000 in
theorem ggX6_near_X6_within : GoodIn wsX6_near wsX6_within := goodIn_r _ [5] (by decide +kernel) (by decide +kernel)
set_option maxRecDepth 20000 in
theorem gX6_near_X6_within : GoodIn wsX6_near (va_wsS RX6 58 yX6_within wsX6_within) := goodIn_app (goodIn_of _ (by decide +kernel)) ggX6_near_X6_within
theorem dX6_near_0 : decode cX6_near 0 = .ok (.aload_n 0, 1) := by decide +kernel
theorem dX6_near_1 : decode cX6_near 1 = .ok (.getfield 26, 3) := by decide +kernel
theorem dX6_near_4 : decode cX6_near 4 = .ok (.iload_n 2, 1) := by decide +kernel
theorem dX6_near_5 : decode cX6_near 5 = .ok (.iaload, 1) := by decide +kernel
theorem dX6_near_6 : decode cX6_near 6 = .ok (.iload_n 1, 1) := by decide +kernel
theorem dX6_near_7 : decode cX6_near 7 = .ok (.isub, 1) := by decide +kernel
theorem dX6_near_8 : decode cX6_near 8 = .ok (.iload_n 3, 1) := by decide +kernel
theorem dX6_near_9 : decode cX6_near 9 = .ok (.ineg, 1) := by decide +kernel
theorem dX6_near_10 : decode cX6_near 10 = .ok (.iload_n 3, 1) := by decide +kernel
theorem dX6_near_11 : decode cX6_near 11 = .ok (.invokestatic 58, 3) := by decide +kernel
theorem dX6_near_14 : decode cX6_near 14 = .ok (.ireturn, 1) := by decide +kernel
set_option maxRecDepth 20000 in
theorem ggX6_advance_X6_become : GoodIn wsX6_advance wsX6_become := goodIn_r _ [10, 2, 11, 12, 13, 14, 22, 23, 24, 25, 26, 27, 28, 29, 30, 31, 32, 33, 34, 35, 36, 37, 38, 39, 40, 41, 42, 43, 44] (by decide +kernel) (by decide +kernel)
set_option maxRecDepth 20000 in
theorem gX6_advance_X6_become : GoodIn wsX6_advance (wsV RX6 109 RX6 yX6_become wsX6_become) := goodIn_app (goodIn_of _ (by decide +kernel)) ggX6_advance_X6_become
set_option maxRecDepth 20000 in
theorem ggX6_advance_X6_near : GoodIn wsX6_advance wsX6_near := goodIn_r _ [18, 3, 19, 20, 9, 21, 22, 23, 24, 25, 26, 27, 28, 29, 30, 31, 32, 33, 34, 35, 36, 37, 38, 39, 40, 41, 42, 43, 44] (by decide +kernel) (by decide +kernel)
set_option maxRecDepth 20000 in
theorem gX6_advance_X6_near : GoodIn wsX6_advance (wsV RX6 125 RX6 yX6_near wsX6_near) := goodIn_app (goodIn_of _ (by decide +kernel)) ggX6_advance_X6_near
theorem dX6_advance_0 : decode cX6_advance 0 = .ok (.iconst 3, 1) := by decide +kernel
theorem dX6_advance_1 : decode cX6_advance 1 = .ok (.aload_n 0, 1) := by decide +kernel
theorem dX6_advance_2 : decode cX6_advance 2 = .ok (.getfield 93, 3) := by decide +kernel
theorem dX6_advance_5 : decode cX6_advance 5 = .ok (.imul, 1) := by decide +kernel
theorem dX6_advance_6 : decode cX6_advance 6 = .ok (.istore_n 1, 1) := by decide +kernel
theorem dX6_advance_7 : decode cX6_advance 7 = .ok (.aload_n 0, 1) := by decide +kernel
theorem dX6_advance_8 : decode cX6_advance 8 = .ok (.getfield 62, 3) := by decide +kernel
theorem dX6_advance_11 : decode cX6_advance 11 = .ok (.iconst 1, 1) := by decide +kernel
theorem dX6_advance_12 : decode cX6_advance 12 = .ok (.if_icmp .ne 34, 3) := by decide +kernel
theorem dX6_advance_15 : decode cX6_advance 15 = .ok (.aload_n 0, 1) := by decide +kernel
theorem dX6_advance_16 : decode cX6_advance 16 = .ok (.getfield 26, 3) := by decide +kernel
theorem dX6_advance_19 : decode cX6_advance 19 = .ok (.iconst 2, 1) := by decide +kernel
theorem dX6_advance_20 : decode cX6_advance 20 = .ok (.iaload, 1) := by decide +kernel
theorem dX6_advance_21 : decode cX6_advance 21 = .ok (.sipush 1000, 3) := by decide +kernel
theorem dX6_advance_24 : decode cX6_advance 24 = .ok (.if_icmp .lt 22, 3) := by decide +kernel
theorem dX6_advance_27 : decode cX6_advance 27 = .ok (.aload_n 0, 1) := by decide +kernel
theorem dX6_advance_28 : decode cX6_advance 28 = .ok (.aload_n 0, 1) := by decide +kernel
theorem dX6_advance_29 : decode cX6_advance 29 = .ok (.getfield 90, 3) := by decide +kernel
theorem dX6_advance_32 : decode cX6_advance 32 = .ok (.ifCond .le 7, 3) := by decide +kernel
theorem dX6_advance_35 : decode cX6_advance 35 = .ok (.iconst 2, 1) := by decide +kernel
theorem dX6_advance_36 : decode cX6_advance 36 = .ok (.goto 4, 3) := by decide +kernel
theorem dX6_advance_39 : decode cX6_advance 39 = .ok (.iconst 3, 1) := by decide +kernel
theorem dX6_advance_40 : decode cX6_advance 40 = .ok (.invokevirtual 109, 3) := by decide +kernel
theorem dX6_advance_43 : decode cX6_advance 43 = .ok (.goto 159, 3) := by decide +kernel
theorem dX6_advance_46 : decode cX6_advance 46 = .ok (.aload_n 0, 1) := by decide +kernel
theorem dX6_advance_47 : decode cX6_advance 47 = .ok (.getfield 62, 3) := by decide +kernel
theorem dX6_advance_50 : decode cX6_advance 50 = .ok (.iconst 2, 1) := by decide +kernel
theorem dX6_advance_51 : decode cX6_advance 51 = .ok (.if_icmp .ne 89, 3) := by decide +kernel
theorem dX6_advance_54 : decode cX6_advance 54 = .ok (.aload_n 0, 1) := by decide +kernel
theorem dX6_advance_55 : decode cX6_advance 55 = .ok (.aload_n 0, 1) := by decide +kernel
theorem dX6_advance_56 : decode cX6_advance 56 = .ok (.getfield 16, 3) := by decide +kernel
theorem dX6_advance_59 : decode cX6_advance 59 = .ok (.iload_n 1, 1) := by decide +kernel
theorem dX6_advance_60 : decode cX6_advance 60 = .ok (.iaload, 1) := by decide +kernel
theorem dX6_advance_61 : decode cX6_advance 61 = .ok (.iconst 0, 1) := by decide +kernel
theorem dX6_advance_62 : decode cX6_advance 62 = .ok (.bipush 100, 2) := by decide +kernel
theorem dX6_advance_64 : decode cX6_advance 64 = .ok (.invokevirtual 125, 3) := by decide +kernel
theorem dX6_advance_67 : decode cX6_advance 67 = .ok (.ifCond .eq 73, 3) := by decide +kernel
theorem dX6_advance_70 : decode cX6_advance 70 = .ok (.aload_n 0, 1) := by decide +kernel
theorem dX6_advance_71 : decode cX6_advance 71 = .ok (.aload_n 0, 1) := by decide +kernel
theorem dX6_advance_72 : decode cX6_advance 72 = .ok (.getfield 16, 3) := by decide +kernel
theorem dX6_advance_75 : decode cX6_advance 75 = .ok (.iload_n 1, 1) := by decide +kernel
theorem dX6_advance_76 : decode cX6_advance 76 = .ok (.iconst 1, 1) := by decide +kernel
theorem dX6_advance_77 : decode cX6_advance 77 = .ok (.iadd, 1) := by decide +kernel
theorem dX6_advance_78 : decode cX6_advance 78 = .ok (.iaload, 1) := by decide +kernel
theorem dX6_advance_79 : decode cX6_advance 79 = .ok (.iconst 1, 1) := by decide +kernel
theorem dX6_advance_80 : decode cX6_advance 80 = .ok (.bipush 100, 2) := by decide +kernel
theorem dX6_advance_82 : decode cX6_advance 82 = .ok (.invokevirtual 125, 3) := by decide +kernel
theorem dX6_advance_85 : decode cX6_advance 85 = .ok (.ifCond .eq 55, 3) := by decide +kernel
theorem dX6_advance_88 : decode cX6_advance 88 = .ok (.aload_n 0, 1) := by decide +kernel
theorem dX6_advance_89 : decode cX6_advance 89 = .ok (.aload_n 0, 1) := by decide +kernel
theorem dX6_advance_90 : decode cX6_advance 90 = .ok (.getfield 16, 3) := by decide +kernel
theorem dX6_advance_93 : decode cX6_advance 93 = .ok (.iload_n 1, 1) := by decide +kernel
theorem dX6_advance_94 : decode cX6_advance 94 = .ok (.iconst 2, 1) := by decide +kernel
theorem dX6_advance_95 : decode cX6_advance 95 = .ok (.iadd, 1) := by decide +kernel
theorem dX6_advance_96 : decode cX6_advance 96 = .ok (.iaload, 1) := by decide +kernel
theorem dX6_advance_97 : decode cX6_advance 97 = .ok (.iconst 2, 1) := by decide +kernel
theorem dX6_advance_98 : decode cX6_advance 98 = .ok (.bipush 100, 2) := by decide +kernel
theorem dX6_advance_100 : decode cX6_advance 100 = .ok (.invokevirtual 125, 3) := by decide +kernel
theorem dX6_advance_103 : decode cX6_advance 103 = .ok (.ifCond .eq 37, 3) := by decide +kernel
theorem dX6_advance_106 : decode cX6_advance 106 = .ok (.aload_n 0, 1) := by decide +kernel
theorem dX6_advance_107 : decode cX6_advance 107 = .ok (.dup, 1) := by decide +kernel
theorem dX6_advance_108 : decode cX6_advance 108 = .ok (.getfield 93, 3) := by decide +kernel
theorem dX6_advance_111 : decode cX6_advance 111 = .ok (.iconst 1, 1) := by decide +kernel
theorem dX6_advance_112 : decode cX6_advance 112 = .ok (.iadd, 1) := by decide +kernel
theorem dX6_advance_113 : decode cX6_advance 113 = .ok (.putfield 93, 3) := by decide +kernel
theorem dX6_advance_116 : decode cX6_advance 116 = .ok (.aload_n 0, 1) := by decide +kernel
theorem dX6_advance_117 : decode cX6_advance 117 = .ok (.getfield 93, 3) := by decide +kernel
theorem dX6_advance_120 : decode cX6_advance 120 = .ok (.aload_n 0, 1) := by decide +kernel
theorem dX6_advance_121 : decode cX6_advance 121 = .ok (.getfield 90, 3) := by decide +kernel
theorem dX6_advance_124 : decode cX6_advance 124 = .ok (.if_icmp .ne 78, 3) := by decide +kernel
theorem dX6_advance_127 : decode cX6_advance 127 = .ok (.aload_n 0, 1) := by decide +kernel
theorem dX6_advance_128 : decode cX6_advance 128 = .ok (.iconst 0, 1) := by decide +kernel
theorem dX6_advance_129 : decode cX6_advance 129 = .ok (.putfield 93, 3) := by decide +kernel
theorem dX6_advance_132 : decode cX6_advance 132 = .ok (.aload_n 0, 1) := by decide +kernel
theorem dX6_advance_133 : decode cX6_advance 133 = .ok (.iconst 4, 1) := by decide +kernel
theorem dX6_advance_134 : decode cX6_advance 134 = .ok (.invokevirtual 109, 3) := by decide +kernel
theorem dX6_advance_137 : decode cX6_advance 137 = .ok (.goto 65, 3) := by decide +kernel
theorem dX6_advance_140 : decode cX6_advance 140 = .ok (.aload_n 0, 1) := by decide +kernel
theorem dX6_advance_141 : decode cX6_advance 141 = .ok (.getfield 62, 3) := by decide +kernel
theorem dX6_advance_144 : decode cX6_advance 144 = .ok (.iconst 4, 1) := by decide +kernel
theorem dX6_advance_145 : decode cX6_advance 145 = .ok (.if_icmp .ne 33, 3) := by decide +kernel
theorem dX6_advance_148 : decode cX6_advance 148 = .ok (.aload_n 0, 1) := by decide +kernel
theorem dX6_advance_149 : decode cX6_advance 149 = .ok (.iconst 0, 1) := by decide +kernel
theorem dX6_advance_150 : decode cX6_advance 150 = .ok (.iconst 0, 1) := by decide +kernel
theorem dX6_advance_151 : decode cX6_advance 151 = .ok (.bipush 100, 2) := by decide +kernel
theorem dX6_advance_153 : decode cX6_advance 153 = .ok (.invokevirtual 125, 3) := by decide +kernel
theorem dX6_advance_156 : decode cX6_advance 156 = .ok (.ifCond .eq 22, 3) := by decide +kernel
theorem dX6_advance_159 : decode cX6_advance 159 = .ok (.aload_n 0, 1) := by decide +kernel
theorem dX6_advance_160 : decode cX6_advance 160 = .ok (.iconst 0, 1) := by decide +kernel
theorem dX6_advance_161 : decode cX6_advance 161 = .ok (.iconst 1, 1) := by decide +kernel
theorem dX6_advance_162 : decode cX6_advance 162 = .ok (.bipush 100, 2) := by decide +kernel
theorem dX6_advance_164 : decode cX6_advance 164 = .ok (.invokevirtual 125, 3) := by decide +kernel
theorem dX6_advance_167 : decode cX6_advance 167 = .ok (.ifCond .eq 11, 3) := by decide +kernel
theorem dX6_advance_170 : decode cX6_advance 170 = .ok (.aload_n 0, 1) := by decide +kernel
theorem dX6_advance_171 : decode cX6_advance 171 = .ok (.iconst 5, 1) := by decide +kernel
theorem dX6_advance_172 : decode cX6_advance 172 = .ok (.invokevirtual 109, 3) := by decide +kernel
theorem dX6_advance_175 : decode cX6_advance 175 = .ok (.goto 27, 3) := by decide +kernel
theorem dX6_advance_178 : decode cX6_advance 178 = .ok (.aload_n 0, 1) := by decide +kernel
theorem dX6_advance_179 : decode cX6_advance 179 = .ok (.getfield 62, 3) := by decide +kernel
theorem dX6_advance_182 : decode cX6_advance 182 = .ok (.iconst 5, 1) := by decide +kernel
theorem dX6_advance_183 : decode cX6_advance 183 = .ok (.if_icmp .ne 19, 3) := by decide +kernel
theorem dX6_advance_186 : decode cX6_advance 186 = .ok (.aload_n 0, 1) := by decide +kernel
theorem dX6_advance_187 : decode cX6_advance 187 = .ok (.getfield 26, 3) := by decide +kernel
theorem dX6_advance_190 : decode cX6_advance 190 = .ok (.iconst 2, 1) := by decide +kernel
theorem dX6_advance_191 : decode cX6_advance 191 = .ok (.iaload, 1) := by decide +kernel
theorem dX6_advance_192 : decode cX6_advance 192 = .ok (.bipush 20, 2) := by decide +kernel
theorem dX6_advance_194 : decode cX6_advance 194 = .ok (.if_icmp .gt 8, 3) := by decide +kernel
theorem dX6_advance_197 : decode cX6_advance 197 = .ok (.aload_n 0, 1) := by decide +kernel
theorem dX6_advance_198 : decode cX6_advance 198 = .ok (.iconst 0, 1) := by decide +kernel
theorem dX6_advance_199 : decode cX6_advance 199 = .ok (.invokevirtual 109, 3) := by decide +kernel
theorem dX6_advance_202 : decode cX6_advance 202 = .ok (.return_, 1) := by decide +kernel
set_option maxRecDepth 20000 in
theorem ggX6_steer_X6_saturated : GoodIn wsX6_steer wsX6_saturated := goodIn_r _ [10] (by decide +kernel) (by decide +kernel)
set_option maxRecDepth 20000 in
theorem gX6_steer_X6_saturated : GoodIn wsX6_steer (va_wsS RX6 128 yX6_saturated wsX6_saturated) := goodIn_app (goodIn_of _ (by decide +kernel)) ggX6_steer_X6_saturated
theorem dX6_steer_0 : decode cX6_steer 0 = .ok (.aload_n 0, 1) := by decide +kernel
theorem dX6_steer_1 : decode cX6_steer 1 = .ok (.getfield 32, 3) := by decide +kernel
theorem dX6_steer_4 : decode cX6_steer 4 = .ok (.ifCond .le 7, 3) := by decide +kernel
theorem dX6_steer_7 : decode cX6_steer 7 = .ok (.iconst 0, 1) := by decide +kernel
theorem dX6_steer_8 : decode cX6_steer 8 = .ok (.goto 6, 3) := by decide +kernel
theorem dX6_steer_11 : decode cX6_steer 11 = .ok (.sipush 200, 3) := by decide +kernel
theorem dX6_steer_14 : decode cX6_steer 14 = .ok (.istore_n 1, 1) := by decide +kernel
theorem dX6_steer_15 : decode cX6_steer 15 = .ok (.iconst 0, 1) := by decide +kernel
theorem dX6_steer_16 : decode cX6_steer 16 = .ok (.istore_n 2, 1) := by decide +kernel
theorem dX6_steer_17 : decode cX6_steer 17 = .ok (.iload_n 2, 1) := by decide +kernel
theorem dX6_steer_18 : decode cX6_steer 18 = .ok (.iconst 3, 1) := by decide +kernel
theorem dX6_steer_19 : decode cX6_steer 19 = .ok (.if_icmp .ge 80, 3) := by decide +kernel
theorem dX6_steer_22 : decode cX6_steer 22 = .ok (.aload_n 0, 1) := by decide +kernel
theorem dX6_steer_23 : decode cX6_steer 23 = .ok (.getfield 62, 3) := by decide +kernel
theorem dX6_steer_26 : decode cX6_steer 26 = .ok (.iconst 2, 1) := by decide +kernel
theorem dX6_steer_27 : decode cX6_steer 27 = .ok (.if_icmp .ne 30, 3) := by decide +kernel
theorem dX6_steer_30 : decode cX6_steer 30 = .ok (.aload_n 0, 1) := by decide +kernel
theorem dX6_steer_31 : decode cX6_steer 31 = .ok (.getfield 16, 3) := by decide +kernel
theorem dX6_steer_34 : decode cX6_steer 34 = .ok (.iconst 3, 1) := by decide +kernel
theorem dX6_steer_35 : decode cX6_steer 35 = .ok (.aload_n 0, 1) := by decide +kernel
theorem dX6_steer_36 : decode cX6_steer 36 = .ok (.getfield 93, 3) := by decide +kernel
theorem dX6_steer_39 : decode cX6_steer 39 = .ok (.imul, 1) := by decide +kernel
theorem dX6_steer_40 : decode cX6_steer 40 = .ok (.iload_n 2, 1) := by decide +kernel
theorem dX6_steer_41 : decode cX6_steer 41 = .ok (.iadd, 1) := by decide +kernel
theorem dX6_steer_42 : decode cX6_steer 42 = .ok (.iaload, 1) := by decide +kernel
theorem dX6_steer_43 : decode cX6_steer 43 = .ok (.aload_n 0, 1) := by decide +kernel
theorem dX6_steer_44 : decode cX6_steer 44 = .ok (.getfield 26, 3) := by decide +kernel
theorem dX6_steer_47 : decode cX6_steer 47 = .ok (.iload_n 2, 1) := by decide +kernel
theorem dX6_steer_48 : decode cX6_steer 48 = .ok (.iaload, 1) := by decide +kernel
theorem dX6_steer_49 : decode cX6_steer 49 = .ok (.isub, 1) := by decide +kernel
theorem dX6_steer_50 : decode cX6_steer 50 = .ok (.iload_n 1, 1) := by decide +kernel
theorem dX6_steer_51 : decode cX6_steer 51 = .ok (.invokestatic 128, 3) := by decide +kernel
theorem dX6_steer_54 : decode cX6_steer 54 = .ok (.goto 31, 3) := by decide +kernel
theorem dX6_steer_57 : decode cX6_steer 57 = .ok (.aload_n 0, 1) := by decide +kernel
theorem dX6_steer_58 : decode cX6_steer 58 = .ok (.getfield 62, 3) := by decide +kernel
theorem dX6_steer_61 : decode cX6_steer 61 = .ok (.iconst 4, 1) := by decide +kernel
theorem dX6_steer_62 : decode cX6_steer 62 = .ok (.if_icmp .ne 22, 3) := by decide +kernel
theorem dX6_steer_65 : decode cX6_steer 65 = .ok (.iload_n 2, 1) := by decide +kernel
theorem dX6_steer_66 : decode cX6_steer 66 = .ok (.iconst 2, 1) := by decide +kernel
theorem dX6_steer_67 : decode cX6_steer 67 = .ok (.if_icmp .ge 17, 3) := by decide +kernel
theorem dX6_steer_70 : decode cX6_steer 70 = .ok (.aload_n 0, 1) := by decide +kernel
theorem dX6_steer_71 : decode cX6_steer 71 = .ok (.getfield 26, 3) := by decide +kernel
theorem dX6_steer_74 : decode cX6_steer 74 = .ok (.iload_n 2, 1) := by decide +kernel
theorem dX6_steer_75 : decode cX6_steer 75 = .ok (.iaload, 1) := by decide +kernel
theorem dX6_steer_76 : decode cX6_steer 76 = .ok (.ineg, 1) := by decide +kernel
theorem dX6_steer_77 : decode cX6_steer 77 = .ok (.iload_n 1, 1) := by decide +kernel
theorem dX6_steer_78 : decode cX6_steer 78 = .ok (.invokestatic 128, 3) := by decide +kernel
theorem dX6_steer_81 : decode cX6_steer 81 = .ok (.goto 4, 3) := by decide +kernel
theorem dX6_steer_84 : decode cX6_steer 84 = .ok (.iconst 0, 1) := by decide +kernel
theorem dX6_steer_85 : decode cX6_steer 85 = .ok (.istore_n 3, 1) := by decide +kernel
theorem dX6_steer_86 : decode cX6_steer 86 = .ok (.aload_n 0, 1) := by decide +kernel
theorem dX6_steer_87 : decode cX6_steer 87 = .ok (.getfield 29, 3) := by decide +kernel
theorem dX6_steer_90 : decode cX6_steer 90 = .ok (.iload_n 2, 1) := by decide +kernel
theorem dX6_steer_91 : decode cX6_steer 91 = .ok (.iload_n 3, 1) := by decide +kernel
theorem dX6_steer_92 : decode cX6_steer 92 = .ok (.iastore, 1) := by decide +kernel
theorem dX6_steer_93 : decode cX6_steer 93 = .ok (.iinc 2 1, 3) := by decide +kernel
theorem dX6_steer_96 : decode cX6_steer 96 = .ok (.goto (-79), 3) := by decide +kernel
theorem dX6_steer_99 : decode cX6_steer 99 = .ok (.aload_n 0, 1) := by decide +kernel
theorem dX6_steer_100 : decode cX6_steer 100 = .ok (.getfield 29, 3) := by decide +kernel
theorem dX6_steer_103 : decode cX6_steer 103 = .ok (.iconst 2, 1) := by decide +kernel
theorem dX6_steer_104 : decode cX6_steer 104 = .ok (.aload_n 0, 1) := by decide +kernel
theorem dX6_steer_105 : decode cX6_steer 105 = .ok (.getfield 62, 3) := by decide +kernel
theorem dX6_steer_108 : decode cX6_steer 108 = .ok (.iconst 5, 1) := by decide +kernel
theorem dX6_steer_109 : decode cX6_steer 109 = .ok (.if_icmp .ne 8, 3) := by decide +kernel
theorem dX6_steer_112 : decode cX6_steer 112 = .ok (.bipush (-50), 2) := by decide +kernel
theorem dX6_steer_114 : decode cX6_steer 114 = .ok (.goto 29, 3) := by decide +kernel
theorem dX6_steer_117 : decode cX6_steer 117 = .ok (.aload_n 0, 1) := by decide +kernel
theorem dX6_steer_118 : decode cX6_steer 118 = .ok (.getfield 62, 3) := by decide +kernel
theorem dX6_steer_121 : decode cX6_steer 121 = .ok (.iconst 1, 1) := by decide +kernel
theorem dX6_steer_122 : decode cX6_steer 122 = .ok (.if_icmp .ne 15, 3) := by decide +kernel
theorem dX6_steer_125 : decode cX6_steer 125 = .ok (.aload_n 0, 1) := by decide +kernel
theorem dX6_steer_126 : decode cX6_steer 126 = .ok (.getfield 32, 3) := by decide +kernel
theorem dX6_steer_129 : decode cX6_steer 129 = .ok (.ifCond .ne 8, 3) := by decide +kernel
theorem dX6_steer_132 : decode cX6_steer 132 = .ok (.bipush 100, 2) := by decide +kernel
theorem dX6_steer_134 : decode cX6_steer 134 = .ok (.goto 9, 3) := by decide +kernel
theorem dX6_steer_137 : decode cX6_steer 137 = .ok (.aload_n 0, 1) := by decide +kernel
theorem dX6_steer_138 : decode cX6_steer 138 = .ok (.getfield 29, 3) := by decide +kernel
theorem dX6_steer_141 : decode cX6_steer 141 = .ok (.iconst 2, 1) := by decide +kernel
theorem dX6_steer_142 : decode cX6_steer 142 = .ok (.iaload, 1) := by decide +kernel
theorem dX6_steer_143 : decode cX6_steer 143 = .ok (.iastore, 1) := by decide +kernel
theorem dX6_steer_144 : decode cX6_steer 144 = .ok (.return_, 1) := by decide +kernel
set_option maxRecDepth 20000 in
theorem ggX6_guard_X6_safeAt : GoodIn wsX6_guard wsX6_safeAt := goodIn_r _ [8, 9, 10, 11, 12, 13, 7, 14, 15, 16, 17, 18, 19, 20, 21, 22, 23, 24, 31, 32, 33, 34, 35, 36, 37, 38, 39, 40, 41, 42, 43, 44, 45, 46, 47, 48, 49, 50, 51, 52, 53] (by decide +kernel) (by decide +kernel)
set_option maxRecDepth 20000 in
theorem gX6_guard_X6_safeAt : GoodIn wsX6_guard (wsV RX6 74 RX6 yX6_safeAt wsX6_safeAt) := goodIn_app (goodIn_of _ (by decide +kernel)) ggX6_guard_X6_safeAt
set_option maxRecDepth 20000 in
theorem ggX6_guard_X6_saturated : GoodIn wsX6_guard wsX6_saturated := goodIn_r _ [27] (by decide +kernel) (by decide +kernel)
set_option maxRecDepth 20000 in
theorem gX6_guard_X6_saturated : GoodIn wsX6_guard (va_wsS RX6 128 yX6_saturated wsX6_saturated) := goodIn_app (goodIn_of _ (by decide +kernel)) ggX6_guard_X6_saturated
set_option maxRecDepth 20000 in
theorem ggX6_guard_X6_greater : GoodIn wsX6_guard wsX6_greater := goodIn_r _ [30] (by decide +kernel) (by decide +kernel)
set_option maxRecDepth 20000 in
theorem gX6_guard_X6_greater : GoodIn wsX6_guard (va_wsS RX6 117 yX6_greater wsX6_greater) := goodIn_app (goodIn_of _ (by decide +kernel)) ggX6_guard_X6_greater
theorem dX6_guard_0 : decode cX6_guard 0 = .ok (.aload_n 0, 1) := by decide +kernel
theorem dX6_guard_1 : decode cX6_guard 1 = .ok (.getfield 26, 3) := by decide +kernel
theorem dX6_guard_4 : decode cX6_guard 4 = .ok (.iconst 0, 1) := by decide +kernel
theorem dX6_guard_5 : decode cX6_guard 5 = .ok (.iaload, 1) := by decide +kernel
theorem dX6_guard_6 : decode cX6_guard 6 = .ok (.istore_n 1, 1) := by decide +kernel
theorem dX6_guard_7 : decode cX6_guard 7 = .ok (.aload_n 0, 1) := by decide +kernel
theorem dX6_guard_8 : decode cX6_guard 8 = .ok (.getfield 26, 3) := by decide +kernel
theorem dX6_guard_11 : decode cX6_guard 11 = .ok (.iconst 1, 1) := by decide +kernel
theorem dX6_guard_12 : decode cX6_guard 12 = .ok (.iaload, 1) := by decide +kernel
theorem dX6_guard_13 : decode cX6_guard 13 = .ok (.istore_n 2, 1) := by decide +kernel
theorem dX6_guard_14 : decode cX6_guard 14 = .ok (.aload_n 0, 1) := by decide +kernel
theorem dX6_guard_15 : decode cX6_guard 15 = .ok (.iload_n 1, 1) := by decide +kernel
theorem dX6_guard_16 : decode cX6_guard 16 = .ok (.iload_n 2, 1) := by decide +kernel

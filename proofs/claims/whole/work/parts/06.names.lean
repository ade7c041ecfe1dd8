theorem dX5_arm_22 : decode cX5_arm 22 = .ok (.bipush (-7), 2) := by decide +kernel
theorem dX5_arm_24 : decode cX5_arm 24 = .ok (.ireturn, 1) := by decide +kernel
theorem dX5_arm_25 : decode cX5_arm 25 = .ok (.aload_n 0, 1) := by decide +kernel
theorem dX5_arm_26 : decode cX5_arm 26 = .ok (.getfield 61, 3) := by decide +kernel
theorem dX5_arm_29 : decode cX5_arm 29 = .ok (.ifCond .gt 28, 3) := by decide +kernel
theorem dX5_arm_32 : decode cX5_arm 32 = .ok (.aload_n 0, 1) := by decide +kernel
theorem dX5_arm_33 : decode cX5_arm 33 = .ok (.getfield 16, 3) := by decide +kernel
theorem dX5_arm_36 : decode cX5_arm 36 = .ok (.aload_n 0, 1) := by decide +kernel
theorem dX5_arm_37 : decode cX5_arm 37 = .ok (.getfield 47, 3) := by decide +kernel
theorem dX5_arm_40 : decode cX5_arm 40 = .ok (.iconst 0, 1) := by decide +kernel
theorem dX5_arm_41 : decode cX5_arm 41 = .ok (.iaload, 1) := by decide +kernel
theorem dX5_arm_42 : decode cX5_arm 42 = .ok (.aload_n 0, 1) := by decide +kernel
theorem dX5_arm_43 : decode cX5_arm 43 = .ok (.getfield 47, 3) := by decide +kernel
theorem dX5_arm_46 : decode cX5_arm 46 = .ok (.iconst 1, 1) := by decide +kernel
theorem dX5_arm_47 : decode cX5_arm 47 = .ok (.iaload, 1) := by decide +kernel
theorem dX5_arm_48 : decode cX5_arm 48 = .ok (.sipush 200, 3) := by decide +kernel
theorem dX5_arm_51 : decode cX5_arm 51 = .ok (.invokevirtual 94, 3) := by decide +kernel
theorem dX5_arm_54 : decode cX5_arm 54 = .ok (.ifCond .ne 6, 3) := by decide +kernel
theorem dX5_arm_57 : decode cX5_arm 57 = .ok (.bipush (-8), 2) := by decide +kernel
theorem dX5_arm_59 : decode cX5_arm 59 = .ok (.ireturn, 1) := by decide +kernel
theorem dX5_arm_60 : decode cX5_arm 60 = .ok (.aload_n 0, 1) := by decide +kernel
theorem dX5_arm_61 : decode cX5_arm 61 = .ok (.getfield 43, 3) := by decide +kernel
theorem dX5_arm_64 : decode cX5_arm 64 = .ok (.iconst 1, 1) := by decide +kernel
theorem dX5_arm_65 : decode cX5_arm 65 = .ok (.aload_n 0, 1) := by decide +kernel
theorem dX5_arm_66 : decode cX5_arm 66 = .ok (.getfield 67, 3) := by decide +kernel
theorem dX5_arm_69 : decode cX5_arm 69 = .ok (.invokevirtual 140, 3) := by decide +kernel
theorem dX5_arm_72 : decode cX5_arm 72 = .ok (.iconst 0, 1) := by decide +kernel
theorem dX5_arm_73 : decode cX5_arm 73 = .ok (.ireturn, 1) := by decide +kernel
set_option maxRecDepth 20000 in
theorem ggX5_command_X5_isWithin : GoodIn wsX5_command wsX5_isWithin := goodIn_r _ [7] (by decide +kernel) (by decide +kernel)
set_option maxRecDepth 20000 in
theorem gX5_command_X5_isWithin : GoodIn wsX5_command (va_wsS RX5 98 yX5_isWithin wsX5_isWithin) := goodIn_app (goodIn_of _ (by decide +kernel)) ggX5_command_X5_isWithin
set_option maxRecDepth 20000 in
theorem ggX5_command_X1_isEmpty : GoodIn wsX5_command wsX1_isEmpty := goodIn_r _ [12, 13, 38, 39] (by decide +kernel) (by decide +kernel)
set_option maxRecDepth 20000 in
theorem gX5_command_X1_isEmpty : GoodIn wsX5_command (wsV RX5 146 RX1 yX1_isEmpty wsX1_isEmpty) := goodIn_app (goodIn_of _ (by decide +kernel)) ggX5_command_X1_isEmpty
set_option maxRecDepth 20000 in
theorem ggX5_command_X2_enter : GoodIn wsX5_command wsX2_enter := goodIn_r _ [18, 19, 20, 21, 35, 36, 37] (by decide +kernel) (by decide +kernel)
set_option maxRecDepth 20000 in
theorem gX5_command_X2_enter : GoodIn wsX5_command (wsV RX5 140 RX2 yX2_enter wsX2_enter) := goodIn_app (goodIn_of _ (by decide +kernel)) ggX5_command_X2_enter
theorem dX5_command_0 : decode cX5_command 0 = .ok (.iload_n 1, 1) := by decide +kernel
theorem dX5_command_1 : decode cX5_command 1 = .ok (.iconst 2, 1) := by decide +kernel
theorem dX5_command_2 : decode cX5_command 2 = .ok (.iconst 5, 1) := by decide +kernel
theorem dX5_command_3 : decode cX5_command 3 = .ok (.invokestatic 98, 3) := by decide +kernel
theorem dX5_command_6 : decode cX5_command 6 = .ok (.ifCond .ne 6, 3) := by decide +kernel
theorem dX5_command_9 : decode cX5_command 9 = .ok (.bipush (-5), 2) := by decide +kernel
theorem dX5_command_11 : decode cX5_command 11 = .ok (.ireturn, 1) := by decide +kernel
theorem dX5_command_12 : decode cX5_command 12 = .ok (.aload_n 0, 1) := by decide +kernel
theorem dX5_command_13 : decode cX5_command 13 = .ok (.getfield 43, 3) := by decide +kernel
theorem dX5_command_16 : decode cX5_command 16 = .ok (.getfield 85, 3) := by decide +kernel
theorem dX5_command_19 : decode cX5_command 19 = .ok (.ifCond .ne 6, 3) := by decide +kernel
theorem dX5_command_22 : decode cX5_command 22 = .ok (.bipush (-9), 2) := by decide +kernel
theorem dX5_command_24 : decode cX5_command 24 = .ok (.ireturn, 1) := by decide +kernel
theorem dX5_command_25 : decode cX5_command 25 = .ok (.aload_n 0, 1) := by decide +kernel
theorem dX5_command_26 : decode cX5_command 26 = .ok (.getfield 43, 3) := by decide +kernel
theorem dX5_command_29 : decode cX5_command 29 = .ok (.getfield 143, 3) := by decide +kernel
theorem dX5_command_32 : decode cX5_command 32 = .ok (.ifCond .ne 19, 3) := by decide +kernel
theorem dX5_command_35 : decode cX5_command 35 = .ok (.aload_n 0, 1) := by decide +kernel
theorem dX5_command_36 : decode cX5_command 36 = .ok (.getfield 43, 3) := by decide +kernel
theorem dX5_command_39 : decode cX5_command 39 = .ok (.getfield 85, 3) := by decide +kernel
theorem dX5_command_42 : decode cX5_command 42 = .ok (.iconst 1, 1) := by decide +kernel
theorem dX5_command_43 : decode cX5_command 43 = .ok (.if_icmp .ne 11, 3) := by decide +kernel
theorem dX5_command_46 : decode cX5_command 46 = .ok (.iload_n 1, 1) := by decide +kernel
theorem dX5_command_47 : decode cX5_command 47 = .ok (.iconst 2, 1) := by decide +kernel
theorem dX5_command_48 : decode cX5_command 48 = .ok (.if_icmp .ne 6, 3) := by decide +kernel
theorem dX5_command_51 : decode cX5_command 51 = .ok (.bipush (-10), 2) := by decide +kernel
theorem dX5_command_53 : decode cX5_command 53 = .ok (.ireturn, 1) := by decide +kernel
theorem dX5_command_54 : decode cX5_command 54 = .ok (.iload_n 1, 1) := by decide +kernel
theorem dX5_command_55 : decode cX5_command 55 = .ok (.iconst 2, 1) := by decide +kernel
theorem dX5_command_56 : decode cX5_command 56 = .ok (.if_icmp .ne 16, 3) := by decide +kernel
theorem dX5_command_59 : decode cX5_command 59 = .ok (.aload_n 0, 1) := by decide +kernel
theorem dX5_command_60 : decode cX5_command 60 = .ok (.getfield 29, 3) := by decide +kernel
theorem dX5_command_63 : decode cX5_command 63 = .ok (.invokevirtual 146, 3) := by decide +kernel
theorem dX5_command_66 : decode cX5_command 66 = .ok (.ifCond .eq 6, 3) := by decide +kernel
theorem dX5_command_69 : decode cX5_command 69 = .ok (.bipush (-11), 2) := by decide +kernel
theorem dX5_command_71 : decode cX5_command 71 = .ok (.ireturn, 1) := by decide +kernel
theorem dX5_command_72 : decode cX5_command 72 = .ok (.aload_n 0, 1) := by decide +kernel
theorem dX5_command_73 : decode cX5_command 73 = .ok (.getfield 43, 3) := by decide +kernel
theorem dX5_command_76 : decode cX5_command 76 = .ok (.iload_n 1, 1) := by decide +kernel
theorem dX5_command_77 : decode cX5_command 77 = .ok (.aload_n 0, 1) := by decide +kernel
theorem dX5_command_78 : decode cX5_command 78 = .ok (.getfield 67, 3) := by decide +kernel
theorem dX5_command_81 : decode cX5_command 81 = .ok (.invokevirtual 140, 3) := by decide +kernel
theorem dX5_command_84 : decode cX5_command 84 = .ok (.iconst 0, 1) := by decide +kernel
theorem dX5_command_85 : decode cX5_command 85 = .ok (.ireturn, 1) := by decide +kernel
set_option maxRecDepth 20000 in
theorem ggX5_tick_X5_isWithin : GoodIn wsX5_tick wsX5_isWithin := goodIn_r _ [8] (by decide +kernel) (by decide +kernel)
set_option maxRecDepth 20000 in
theorem gX5_tick_X5_isWithin : GoodIn wsX5_tick (va_wsS RX5 98 yX5_isWithin wsX5_isWithin) := goodIn_app (goodIn_of _ (by decide +kernel)) ggX5_tick_X5_isWithin
set_option maxRecDepth 20000 in
theorem ggX5_tick_X4_growOlder : GoodIn wsX5_tick wsX4_growOlder := goodIn_r _ [13, 14, 15, 16, 179, 180, 181, 182, 183] (by decide +kernel) (by decide +kernel)
set_option maxRecDepth 20000 in
theorem gX5_tick_X4_growOlder : GoodIn wsX5_tick (wsV RX5 149 RX4 yX4_growOlder wsX4_growOlder) := goodIn_app (goodIn_of _ (by decide +kernel)) ggX5_tick_X4_growOlder
set_option maxRecDepth 20000 in
theorem ggX5_tick_X5_locate : GoodIn wsX5_tick wsX5_locate := goodIn_r _ [20, 21, 22, 23, 24, 25, 26, 27, 28, 29, 30, 31, 32, 33, 34, 35, 36, 37, 38, 39, 40, 41, 42, 43, 44, 45, 46, 47, 48, 49, 50, 51, 52, 53, 163, 164, 165, 166, 167, 168, 169, 170, 171, 172, 173, 174, 175, 184, 185] (by decide +kernel) (by decide +kernel)
set_option maxRecDepth 20000 in
theorem gX5_tick_X5_locate : GoodIn wsX5_tick (wsV RX5 152 RX5 yX5_locate wsX5_locate) := goodIn_app (goodIn_of _ (by decide +kernel)) ggX5_tick_X5_locate
set_option maxRecDepth 20000 in
theorem ggX5_tick_X5_setWish : GoodIn wsX5_tick wsX5_setWish := goodIn_r _ [57, 58, 163, 164, 165, 166, 167, 168, 169, 170, 171, 172, 173, 174, 175] (by decide +kernel) (by decide +kernel)
set_option maxRecDepth 20000 in
theorem gX5_tick_X5_setWish : GoodIn wsX5_tick (wsV RX5 155 RX5 yX5_setWish wsX5_setWish) := goodIn_app (goodIn_of _ (by decide +kernel)) ggX5_tick_X5_setWish
set_option maxRecDepth 20000 in
theorem ggX5_tick_X5_fly : GoodIn wsX5_tick wsX5_fly := goodIn_r _ [62, 22, 4, 63, 64, 65, 7, 66, 1, 3, 67, 68, 69, 70, 71, 72, 73, 74, 75, 76, 77, 78, 79, 80, 81, 82, 83, 23, 84, 85, 86, 87, 88, 89, 90, 91, 92, 93, 94, 95, 96, 97, 98, 99, 100, 6, 8, 101, 102, 103, 5, 104, 105, 106, 107, 108, 109, 110, 111, 54, 55, 56, 57, 58, 112, 113, 114, 115, 116, 117, 118, 119, 40, 41, 42, 120, 44, 45, 121, 122, 123, 124, 125, 126, 127, 128, 129, 130, 131, 132, 133, 134, 135, 136, 137, 138, 139, 140, 141, 142, 143, 144, 145, 146, 147, 148, 149, 150, 151, 152, 153, 154, 155, 156, 157, 158, 159, 160, 161, 162, 163, 164, 165, 166, 167, 168, 169, 170, 171, 172, 173, 174, 175, 176, 177, 178, 186, 187, 188, 189, 190] (by decide +kernel) (by decide +kernel)
set_option maxRecDepth 20000 in
theorem gX5_tick_X5_fly : GoodIn wsX5_tick (wsV RX5 158 RX5 yX5_fly wsX5_fly) := goodIn_app (goodIn_of _ (by decide +kernel)) ggX5_tick_X5_fly
theorem dX5_tick_0 : decode cX5_tick 0 = .ok (.iload_n 1, 1) := by decide +kernel
theorem dX5_tick_1 : decode cX5_tick 1 = .ok (.iconst 0, 1) := by decide +kernel
theorem dX5_tick_2 : decode cX5_tick 2 = .ok (.bipush 100, 2) := by decide +kernel
theorem dX5_tick_4 : decode cX5_tick 4 = .ok (.invokestatic 98, 3) := by decide +kernel
theorem dX5_tick_7 : decode cX5_tick 7 = .ok (.ifCond .ne 6, 3) := by decide +kernel
theorem dX5_tick_10 : decode cX5_tick 10 = .ok (.bipush (-5), 2) := by decide +kernel
theorem dX5_tick_12 : decode cX5_tick 12 = .ok (.ireturn, 1) := by decide +kernel
theorem dX5_tick_13 : decode cX5_tick 13 = .ok (.aload_n 0, 1) := by decide +kernel
theorem dX5_tick_14 : decode cX5_tick 14 = .ok (.dup, 1) := by decide +kernel
theorem dX5_tick_15 : decode cX5_tick 15 = .ok (.getfield 67, 3) := by decide +kernel
theorem dX5_tick_18 : decode cX5_tick 18 = .ok (.iconst 1, 1) := by decide +kernel
theorem dX5_tick_19 : decode cX5_tick 19 = .ok (.iadd, 1) := by decide +kernel
theorem dX5_tick_20 : decode cX5_tick 20 = .ok (.putfield 67, 3) := by decide +kernel
theorem dX5_tick_23 : decode cX5_tick 23 = .ok (.aload_n 0, 1) := by decide +kernel
theorem dX5_tick_24 : decode cX5_tick 24 = .ok (.getfield 22, 3) := by decide +kernel
theorem dX5_tick_27 : decode cX5_tick 27 = .ok (.invokevirtual 149, 3) := by decide +kernel
theorem dX5_tick_30 : decode cX5_tick 30 = .ok (.aload_n 0, 1) := by decide +kernel
theorem dX5_tick_31 : decode cX5_tick 31 = .ok (.invokevirtual 152, 3) := by decide +kernel
theorem dX5_tick_34 : decode cX5_tick 34 = .ok (.aload_n 0, 1) := by decide +kernel
theorem dX5_tick_35 : decode cX5_tick 35 = .ok (.dup, 1) := by decide +kernel
theorem dX5_tick_36 : decode cX5_tick 36 = .ok (.getfield 64, 3) := by decide +kernel
theorem dX5_tick_39 : decode cX5_tick 39 = .ok (.iconst 1, 1) := by decide +kernel
theorem dX5_tick_40 : decode cX5_tick 40 = .ok (.iadd, 1) := by decide +kernel
theorem dX5_tick_41 : decode cX5_tick 41 = .ok (.putfield 64, 3) := by decide +kernel
theorem dX5_tick_44 : decode cX5_tick 44 = .ok (.aload_n 0, 1) := by decide +kernel
theorem dX5_tick_45 : decode cX5_tick 45 = .ok (.getfield 43, 3) := by decide +kernel
theorem dX5_tick_48 : decode cX5_tick 48 = .ok (.getfield 85, 3) := by decide +kernel
theorem dX5_tick_51 : decode cX5_tick 51 = .ok (.ifCond .ne 13, 3) := by decide +kernel
theorem dX5_tick_54 : decode cX5_tick 54 = .ok (.aload_n 0, 1) := by decide +kernel
theorem dX5_tick_55 : decode cX5_tick 55 = .ok (.iconst 0, 1) := by decide +kernel
theorem dX5_tick_56 : decode cX5_tick 56 = .ok (.iconst 0, 1) := by decide +kernel
theorem dX5_tick_57 : decode cX5_tick 57 = .ok (.iconst 0, 1) := by decide +kernel
theorem dX5_tick_58 : decode cX5_tick 58 = .ok (.invokevirtual 155, 3) := by decide +kernel
theorem dX5_tick_61 : decode cX5_tick 61 = .ok (.goto 8, 3) := by decide +kernel
theorem dX5_tick_64 : decode cX5_tick 64 = .ok (.aload_n 0, 1) := by decide +kernel
theorem dX5_tick_65 : decode cX5_tick 65 = .ok (.iload_n 1, 1) := by decide +kernel
theorem dX5_tick_66 : decode cX5_tick 66 = .ok (.invokevirtual 158, 3) := by decide +kernel
theorem dX5_tick_69 : decode cX5_tick 69 = .ok (.aload_n 0, 1) := by decide +kernel
theorem dX5_tick_70 : decode cX5_tick 70 = .ok (.getfield 43, 3) := by decide +kernel
theorem dX5_tick_73 : decode cX5_tick 73 = .ok (.getfield 85, 3) := by decide +kernel
theorem dX5_tick_76 : decode cX5_tick 76 = .ok (.ireturn, 1) := by decide +kernel
theorem dX5_mode_0 : decode cX5_mode 0 = .ok (.aload_n 0, 1) := by decide +kernel
theorem dX5_mode_1 : decode cX5_mode 1 = .ok (.getfield 43, 3) := by decide +kernel
theorem dX5_mode_4 : decode cX5_mode 4 = .ok (.getfield 85, 3) := by decide +kernel
theorem dX5_mode_7 : decode cX5_mode 7 = .ok (.ireturn, 1) := by decide +kernel
set_option maxRecDepth 20000 in
theorem ggX5_demand_X5_isWithin : GoodIn wsX5_demand wsX5_isWithin := goodIn_r _ [5] (by decide +kernel) (by decide +kernel)
set_option maxRecDepth 20000 in
theorem gX5_demand_X5_isWithin : GoodIn wsX5_demand (va_wsS RX5 98 yX5_isWithin wsX5_isWithin) := goodIn_app (goodIn_of _ (by decide +kernel)) ggX5_demand_X5_isWithin
theorem dX5_demand_0 : decode cX5_demand 0 = .ok (.iload_n 1, 1) := by decide +kernel
theorem dX5_demand_1 : decode cX5_demand 1 = .ok (.iconst 0, 1) := by decide +kernel
theorem dX5_demand_2 : decode cX5_demand 2 = .ok (.iconst 2, 1) := by decide +kernel
theorem dX5_demand_3 : decode cX5_demand 3 = .ok (.invokestatic 98, 3) := by decide +kernel
theorem dX5_demand_6 : decode cX5_demand 6 = .ok (.ifCond .eq 12, 3) := by decide +kernel
theorem dX5_demand_9 : decode cX5_demand 9 = .ok (.aload_n 0, 1) := by decide +kernel
theorem dX5_demand_10 : decode cX5_demand 10 = .ok (.getfield 51, 3) := by decide +kernel
theorem dX5_demand_13 : decode cX5_demand 13 = .ok (.iload_n 1, 1) := by decide +kernel
theorem dX5_demand_14 : decode cX5_demand 14 = .ok (.iaload, 1) := by decide +kernel
theorem dX5_demand_15 : decode cX5_demand 15 = .ok (.goto 4, 3) := by decide +kernel
theorem dX5_demand_18 : decode cX5_demand 18 = .ok (.iconst 0, 1) := by decide +kernel
theorem dX5_demand_19 : decode cX5_demand 19 = .ok (.ireturn, 1) := by decide +kernel
set_option maxRecDepth 20000 in
theorem ggX5_position_X5_isWithin : GoodIn wsX5_position wsX5_isWithin := goodIn_r _ [5] (by decide +kernel) (by decide +kernel)
set_option maxRecDepth 20000 in
theorem gX5_position_X5_isWithin : GoodIn wsX5_position (va_wsS RX5 98 yX5_isWithin wsX5_isWithin) := goodIn_app (goodIn_of _ (by decide +kernel)) ggX5_position_X5_isWithin
theorem dX5_position_0 : decode cX5_position 0 = .ok (.iload_n 1, 1) := by decide +kernel
theorem dX5_position_1 : decode cX5_position 1 = .ok (.iconst 0, 1) := by decide +kernel
theorem dX5_position_2 : decode cX5_position 2 = .ok (.iconst 2, 1) := by decide +kernel
theorem dX5_position_3 : decode cX5_position 3 = .ok (.invokestatic 98, 3) := by decide +kernel
theorem dX5_position_6 : decode cX5_position 6 = .ok (.ifCond .eq 12, 3) := by decide +kernel
theorem dX5_position_9 : decode cX5_position 9 = .ok (.aload_n 0, 1) := by decide +kernel
theorem dX5_position_10 : decode cX5_position 10 = .ok (.getfield 47, 3) := by decide +kernel
theorem dX5_position_13 : decode cX5_position 13 = .ok (.iload_n 1, 1) := by decide +kernel
theorem dX5_position_14 : decode cX5_position 14 = .ok (.iaload, 1) := by decide +kernel
theorem dX5_position_15 : decode cX5_position 15 = .ok (.goto 4, 3) := by decide +kernel
theorem dX5_position_18 : decode cX5_position 18 = .ok (.iconst 0, 1) := by decide +kernel
theorem dX5_position_19 : decode cX5_position 19 = .ok (.ireturn, 1) := by decide +kernel
theorem dX5_lost_0 : decode cX5_lost 0 = .ok (.aload_n 0, 1) := by decide +kernel
theorem dX5_lost_1 : decode cX5_lost 1 = .ok (.getfield 61, 3) := by decide +kernel
theorem dX5_lost_4 : decode cX5_lost 4 = .ok (.ireturn, 1) := by decide +kernel
set_option maxRecDepth 20000 in
theorem ggX5_waypoint_X1_isEmpty : GoodIn wsX5_waypoint wsX1_isEmpty := goodIn_r _ [7, 8, 22, 23] (by decide +kernel) (by decide +kernel)
set_option maxRecDepth 20000 in
theorem gX5_waypoint_X1_isEmpty : GoodIn wsX5_waypoint (wsV RX5 146 RX1 yX1_isEmpty wsX1_isEmpty) := goodIn_app (goodIn_of _ (by decide +kernel)) ggX5_waypoint_X1_isEmpty
theorem dX5_waypoint_0 : decode cX5_waypoint 0 = .ok (.aload_n 0, 1) := by decide +kernel
theorem dX5_waypoint_1 : decode cX5_waypoint 1 = .ok (.getfield 29, 3) := by decide +kernel
theorem dX5_waypoint_4 : decode cX5_waypoint 4 = .ok (.invokevirtual 146, 3) := by decide +kernel
theorem dX5_waypoint_7 : decode cX5_waypoint 7 = .ok (.ifCond .eq 8, 3) := by decide +kernel
theorem dX5_waypoint_10 : decode cX5_waypoint 10 = .ok (.bipush (-11), 2) := by decide +kernel
theorem dX5_waypoint_12 : decode cX5_waypoint 12 = .ok (.goto 7, 3) := by decide +kernel
theorem dX5_waypoint_15 : decode cX5_waypoint 15 = .ok (.aload_n 0, 1) := by decide +kernel
theorem dX5_waypoint_16 : decode cX5_waypoint 16 = .ok (.getfield 58, 3) := by decide +kernel
theorem dX5_waypoint_19 : decode cX5_waypoint 19 = .ok (.ireturn, 1) := by decide +kernel
set_option maxRecDepth 20000 in
theorem ggX5_safe_X5_isInSensorReach : GoodIn wsX5_safe wsX5_isInSensorReach := goodIn_r _ [5, 6, 7, 4, 8] (by decide +kernel) (by decide +kernel)
set_option maxRecDepth 20000 in
theorem gX5_safe_X5_isInSensorReach : GoodIn wsX5_safe (va_wsS RX5 133 yX5_isInSensorReach wsX5_isInSensorReach) := goodIn_app (goodIn_of _ (by decide +kernel)) ggX5_safe_X5_isInSensorReach
set_option maxRecDepth 20000 in
theorem ggX5_safe_X0_leaveClear : GoodIn wsX5_safe wsX0_leaveClear := goodIn_r _ [13, 14, 15, 16, 17, 12, 18, 19, 20, 21, 22, 23, 24, 25, 26, 27, 28, 29, 30, 31, 32, 33, 34, 35, 36, 50, 51, 52] (by decide +kernel) (by decide +kernel)
set_option maxRecDepth 20000 in
theorem gX5_safe_X0_leaveClear : GoodIn wsX5_safe (wsV RX5 94 RX0 yX0_leaveClear wsX0_leaveClear) := goodIn_app (goodIn_of _ (by decide +kernel)) ggX5_safe_X0_leaveClear
theorem dX5_safe_0 : decode cX5_safe 0 = .ok (.iload_n 1, 1) := by decide +kernel
theorem dX5_safe_1 : decode cX5_safe 1 = .ok (.iload_n 2, 1) := by decide +kernel
theorem dX5_safe_2 : decode cX5_safe 2 = .ok (.invokestatic 133, 3) := by decide +kernel
theorem dX5_safe_5 : decode cX5_safe 5 = .ok (.ifCond .eq 22, 3) := by decide +kernel
theorem dX5_safe_8 : decode cX5_safe 8 = .ok (.aload_n 0, 1) := by decide +kernel
theorem dX5_safe_9 : decode cX5_safe 9 = .ok (.getfield 16, 3) := by decide +kernel
theorem dX5_safe_12 : decode cX5_safe 12 = .ok (.iload_n 1, 1) := by decide +kernel
theorem dX5_safe_13 : decode cX5_safe 13 = .ok (.iload_n 2, 1) := by decide +kernel
theorem dX5_safe_14 : decode cX5_safe 14 = .ok (.sipush 200, 3) := by decide +kernel
theorem dX5_safe_17 : decode cX5_safe 17 = .ok (.invokevirtual 94, 3) := by decide +kernel
theorem dX5_safe_20 : decode cX5_safe 20 = .ok (.ifCond .eq 7, 3) := by decide +kernel
theorem dX5_safe_23 : decode cX5_safe 23 = .ok (.iconst 1, 1) := by decide +kernel
theorem dX5_safe_24 : decode cX5_safe 24 = .ok (.goto 4, 3) := by decide +kernel
theorem dX5_safe_27 : decode cX5_safe 27 = .ok (.iconst 0, 1) := by decide +kernel
theorem dX5_safe_28 : decode cX5_safe 28 = .ok (.ireturn, 1) := by decide +kernel
set_option maxRecDepth 20000 in
theorem ggX5_change_X5_isWithin : GoodIn wsX5_change wsX5_isWithin := goodIn_r _ [5] (by decide +kernel) (by decide +kernel)
set_option maxRecDepth 20000 in
theorem gX5_change_X5_isWithin : GoodIn wsX5_change (va_wsS RX5 98 yX5_isWithin wsX5_isWithin) := goodIn_app (goodIn_of _ (by decide +kernel)) ggX5_change_X5_isWithin
theorem dX5_change_0 : decode cX5_change 0 = .ok (.iload_n 1, 1) := by decide +kernel
theorem dX5_change_1 : decode cX5_change 1 = .ok (.iconst 0, 1) := by decide +kernel
theorem dX5_change_2 : decode cX5_change 2 = .ok (.bipush 15, 2) := by decide +kernel
theorem dX5_change_4 : decode cX5_change 4 = .ok (.invokestatic 98, 3) := by decide +kernel
theorem dX5_change_7 : decode cX5_change 7 = .ok (.ifCond .eq 15, 3) := by decide +kernel
theorem dX5_change_10 : decode cX5_change 10 = .ok (.aload_n 0, 1) := by decide +kernel
theorem dX5_change_11 : decode cX5_change 11 = .ok (.getfield 43, 3) := by decide +kernel
theorem dX5_change_14 : decode cX5_change 14 = .ok (.getfield 161, 3) := by decide +kernel
theorem dX5_change_17 : decode cX5_change 17 = .ok (.iload_n 1, 1) := by decide +kernel
theorem dX5_change_18 : decode cX5_change 18 = .ok (.iaload, 1) := by decide +kernel
theorem dX5_change_19 : decode cX5_change 19 = .ok (.goto 4, 3) := by decide +kernel
theorem dX5_change_22 : decode cX5_change 22 = .ok (.iconst (-1), 1) := by decide +kernel
theorem dX5_change_23 : decode cX5_change 23 = .ok (.ireturn, 1) := by decide +kernel
set_option maxRecDepth 20000 in
theorem ggX5_locate_X3_countFresh : GoodIn wsX5_locate wsX3_countFresh := goodIn_r _ [8, 9, 47, 48] (by decide +kernel) (by decide +kernel)
set_option maxRecDepth 20000 in
theorem gX5_locate_X3_countFresh : GoodIn wsX5_locate (wsV RX5 164 RX3 yX3_countFresh wsX3_countFresh) := goodIn_app (goodIn_of _ (by decide +kernel)) ggX5_locate_X3_countFresh
set_option maxRecDepth 20000 in
theorem ggX5_locate_X3_vote : GoodIn wsX5_locate wsX3_vote := goodIn_r _ [13, 14, 9, 15, 5, 6, 7, 8, 16, 17, 18, 19, 20, 21, 22, 23, 24, 25, 26, 27, 28, 29, 47, 48] (by decide +kernel) (by decide +kernel)
set_option maxRecDepth 20000 in
theorem gX5_locate_X3_vote : GoodIn wsX5_locate (wsV RX5 167 RX3 yX3_vote wsX3_vote) := goodIn_app (goodIn_of _ (by decide +kernel)) ggX5_locate_X3_vote
set_option maxRecDepth 20000 in
theorem ggX5_locate_X3_forget : GoodIn wsX5_locate wsX3_forget := goodIn_r _ [33, 9, 47, 48] (by decide +kernel) (by decide +kernel)
set_option maxRecDepth 20000 in
theorem gX5_locate_X3_forget : GoodIn wsX5_locate (wsV RX5 171 RX3 yX3_forget wsX3_forget) := goodIn_app (goodIn_of _ (by decide +kernel)) ggX5_locate_X3_forget
theorem dX5_locate_0 : decode cX5_locate 0 = .ok (.aload_n 0, 1) := by decide +kernel
theorem dX5_locate_1 : decode cX5_locate 1 = .ok (.getfield 36, 3) := by decide +kernel
theorem dX5_locate_4 : decode cX5_locate 4 = .ok (.invokevirtual 164, 3) := by decide +kernel
theorem dX5_locate_7 : decode cX5_locate 7 = .ok (.iconst 2, 1) := by decide +kernel
theorem dX5_locate_8 : decode cX5_locate 8 = .ok (.if_icmp .ge 16, 3) := by decide +kernel
theorem dX5_locate_11 : decode cX5_locate 11 = .ok (.aload_n 0, 1) := by decide +kernel
theorem dX5_locate_12 : decode cX5_locate 12 = .ok (.dup, 1) := by decide +kernel
theorem dX5_locate_13 : decode cX5_locate 13 = .ok (.getfield 61, 3) := by decide +kernel
theorem dX5_locate_16 : decode cX5_locate 16 = .ok (.iconst 1, 1) := by decide +kernel
theorem dX5_locate_17 : decode cX5_locate 17 = .ok (.iadd, 1) := by decide +kernel
theorem dX5_locate_18 : decode cX5_locate 18 = .ok (.putfield 61, 3) := by decide +kernel
theorem dX5_locate_21 : decode cX5_locate 21 = .ok (.goto 35, 3) := by decide +kernel
theorem dX5_locate_24 : decode cX5_locate 24 = .ok (.iconst 0, 1) := by decide +kernel
theorem dX5_locate_25 : decode cX5_locate 25 = .ok (.istore_n 1, 1) := by decide +kernel
theorem dX5_locate_26 : decode cX5_locate 26 = .ok (.iload_n 1, 1) := by decide +kernel
theorem dX5_locate_27 : decode cX5_locate 27 = .ok (.iconst 3, 1) := by decide +kernel
theorem dX5_locate_28 : decode cX5_locate 28 = .ok (.if_icmp .ge 23, 3) := by decide +kernel
theorem dX5_locate_31 : decode cX5_locate 31 = .ok (.aload_n 0, 1) := by decide +kernel
theorem dX5_locate_32 : decode cX5_locate 32 = .ok (.getfield 47, 3) := by decide +kernel
theorem dX5_locate_35 : decode cX5_locate 35 = .ok (.iload_n 1, 1) := by decide +kernel
theorem dX5_locate_36 : decode cX5_locate 36 = .ok (.aload_n 0, 1) := by decide +kernel
theorem dX5_locate_37 : decode cX5_locate 37 = .ok (.getfield 36, 3) := by decide +kernel
theorem dX5_locate_40 : decode cX5_locate 40 = .ok (.iload_n 1, 1) := by decide +kernel
theorem dX5_locate_41 : decode cX5_locate 41 = .ok (.invokevirtual 167, 3) := by decide +kernel
theorem dX5_locate_44 : decode cX5_locate 44 = .ok (.iastore, 1) := by decide +kernel
theorem dX5_locate_45 : decode cX5_locate 45 = .ok (.iinc 1 1, 3) := by decide +kernel
theorem dX5_locate_48 : decode cX5_locate 48 = .ok (.goto (-22), 3) := by decide +kernel
theorem dX5_locate_51 : decode cX5_locate 51 = .ok (.aload_n 0, 1) := by decide +kernel
theorem dX5_locate_52 : decode cX5_locate 52 = .ok (.iconst 0, 1) := by decide +kernel
theorem dX5_locate_53 : decode cX5_locate 53 = .ok (.putfield 61, 3) := by decide +kernel
theorem dX5_locate_56 : decode cX5_locate 56 = .ok (.aload_n 0, 1) := by decide +kernel
theorem dX5_locate_57 : decode cX5_locate 57 = .ok (.getfield 36, 3) := by decide +kernel
theorem dX5_locate_60 : decode cX5_locate 60 = .ok (.invokevirtual 171, 3) := by decide +kernel
theorem dX5_locate_63 : decode cX5_locate 63 = .ok (.return_, 1) := by decide +kernel
set_option maxRecDepth 20000 in
theorem ggX5_fly_X5_applyFailsafes : GoodIn wsX5_fly wsX5_applyFailsafes := goodIn_r _ [7, 1, 2, 8, 9, 10, 11, 12, 13, 14, 15, 16, 17, 18, 19, 20, 21, 22, 120, 121, 122, 123, 124, 125, 126, 127, 128, 129, 130, 131, 132, 133, 134, 135] (by decide +kernel) (by decide +kernel)
set_option maxRecDepth 20000 in
theorem gX5_fly_X5_applyFailsafes : GoodIn wsX5_fly (wsV RX5 174 RX5 yX5_applyFailsafes wsX5_applyFailsafes) := goodIn_app (goodIn_of _ (by decide +kernel)) ggX5_fly_X5_applyFailsafes
set_option maxRecDepth 20000 in
theorem ggX5_fly_X5_moveOn : GoodIn wsX5_fly wsX5_moveOn := goodIn_r _ [26, 2, 27, 28, 8, 29, 30, 31, 32, 33, 34, 22, 17, 18, 13, 19, 20, 15, 21, 35, 36, 37, 6, 38, 39, 40, 41, 42, 43, 44, 45, 46, 47, 48, 49, 50, 51, 52, 53, 54, 120, 121, 122, 123, 124, 125, 126, 127, 128, 129, 130, 131, 132, 133, 134, 135, 136, 137] (by decide +kernel) (by decide +kernel)
set_option maxRecDepth 20000 in
theorem gX5_fly_X5_moveOn : GoodIn wsX5_fly (wsV RX5 177 RX5 yX5_moveOn wsX5_moveOn) := goodIn_app (goodIn_of _ (by decide +kernel)) ggX5_fly_X5_moveOn
set_option maxRecDepth 20000 in
theorem ggX5_fly_X5_guide : GoodIn wsX5_fly wsX5_guide := goodIn_r _ [58, 2, 27, 59, 60, 61, 6, 62, 63, 64, 65, 66, 67, 28, 39, 40, 41, 42, 32, 43, 34, 44, 45, 46, 68, 69, 70, 71, 72, 73, 74, 75, 76, 77, 120, 121, 122, 123, 124, 125, 126, 127, 128, 129, 130, 131, 132, 133, 134, 135, 136, 137] (by decide +kernel) (by decide +kernel)
set_option maxRecDepth 20000 in
theorem gX5_fly_X5_guide : GoodIn wsX5_fly (wsV RX5 180 RX5 yX5_guide wsX5_guide) := goodIn_app (goodIn_of _ (by decide +kernel)) ggX5_fly_X5_guide
set_option maxRecDepth 20000 in
theorem ggX5_fly_X5_flyBlind : GoodIn wsX5_fly wsX5_flyBlind := goodIn_r _ [81, 2, 63, 59, 60, 61, 6, 62, 120, 121, 122, 123, 124, 125, 126, 127, 128, 129, 130, 131, 132, 133, 134, 135] (by decide +kernel) (by decide +kernel)
set_option maxRecDepth 20000 in
theorem gX5_fly_X5_flyBlind : GoodIn wsX5_fly (wsV RX5 183 RX5 yX5_flyBlind wsX5_flyBlind) := goodIn_app (goodIn_of _ (by decide +kernel)) ggX5_fly_X5_flyBlind
set_option maxRecDepth 20000 in
theorem ggX5_fly_X5_guardSides : GoodIn wsX5_fly wsX5_guardSides := goodIn_r _ [85, 27, 86, 63, 87, 88, 89, 90, 91, 92, 93, 94, 95, 96, 97, 98, 99, 100, 101, 102, 103, 104, 105, 106, 107, 108, 109, 110, 111, 112, 113, 114, 68, 69, 6, 70, 71, 72, 73, 74, 75, 76, 77, 59, 60, 61, 62, 120, 121, 122, 123, 124, 125, 126, 127, 128, 129, 130, 131, 132, 138, 139, 140] (by decide +kernel) (by decide +kernel)
set_option maxRecDepth 20000 in
theorem gX5_fly_X5_guardSides : GoodIn wsX5_fly (wsV RX5 186 RX5 yX5_guardSides wsX5_guardSides) := goodIn_app (goodIn_of _ (by decide +kernel)) ggX5_fly_X5_guardSides
set_option maxRecDepth 20000 in
theorem ggX5_fly_X5_guardTop : GoodIn wsX5_fly wsX5_guardTop := goodIn_r _ [118, 119, 27, 63, 75, 76, 73, 77, 120, 121, 122, 123, 124, 125, 126, 127, 128, 129, 130, 131, 132] (by decide +kernel) (by decide +kernel)
set_option maxRecDepth 20000 in
theorem gX5_fly_X5_guardTop : GoodIn wsX5_fly (wsV RX5 189 RX5 yX5_guardTop wsX5_guardTop) := goodIn_app (goodIn_of _ (by decide +kernel)) ggX5_fly_X5_guardTop
theorem dX5_fly_0 : decode cX5_fly 0 = .ok (.aload_n 0, 1) := by decide +kernel
theorem dX5_fly_1 : decode cX5_fly 1 = .ok (.iload_n 1, 1) := by decide +kernel
theorem dX5_fly_2 : decode cX5_fly 2 = .ok (.invokevirtual 174, 3) := by decide +kernel
theorem dX5_fly_5 : decode cX5_fly 5 = .ok (.aload_n 0, 1) := by decide +kernel
theorem dX5_fly_6 : decode cX5_fly 6 = .ok (.getfield 61, 3) := by decide +kernel
theorem dX5_fly_9 : decode cX5_fly 9 = .ok (.ifCond .ne 7, 3) := by decide +kernel
theorem dX5_fly_12 : decode cX5_fly 12 = .ok (.aload_n 0, 1) := by decide +kernel
theorem dX5_fly_13 : decode cX5_fly 13 = .ok (.invokevirtual 177, 3) := by decide +kernel
theorem dX5_fly_16 : decode cX5_fly 16 = .ok (.aload_n 0, 1) := by decide +kernel
theorem dX5_fly_17 : decode cX5_fly 17 = .ok (.invokevirtual 180, 3) := by decide +kernel
theorem dX5_fly_20 : decode cX5_fly 20 = .ok (.aload_n 0, 1) := by decide +kernel
theorem dX5_fly_21 : decode cX5_fly 21 = .ok (.getfield 61, 3) := by decide +kernel
theorem dX5_fly_24 : decode cX5_fly 24 = .ok (.ifCond .le 10, 3) := by decide +kernel
theorem dX5_fly_27 : decode cX5_fly 27 = .ok (.aload_n 0, 1) := by decide +kernel
theorem dX5_fly_28 : decode cX5_fly 28 = .ok (.invokevirtual 183, 3) := by decide +kernel
theorem dX5_fly_31 : decode cX5_fly 31 = .ok (.goto 21, 3) := by decide +kernel
theorem dX5_fly_34 : decode cX5_fly 34 = .ok (.aload_n 0, 1) := by decide +kernel
theorem dX5_fly_35 : decode cX5_fly 35 = .ok (.getfield 43, 3) := by decide +kernel
theorem dX5_fly_38 : decode cX5_fly 38 = .ok (.getfield 85, 3) := by decide +kernel
theorem dX5_fly_41 : decode cX5_fly 41 = .ok (.ifCond .eq 11, 3) := by decide +kernel
theorem dX5_fly_44 : decode cX5_fly 44 = .ok (.aload_n 0, 1) := by decide +kernel
theorem dX5_fly_45 : decode cX5_fly 45 = .ok (.invokevirtual 186, 3) := by decide +kernel
theorem dX5_fly_48 : decode cX5_fly 48 = .ok (.aload_n 0, 1) := by decide +kernel
theorem dX5_fly_49 : decode cX5_fly 49 = .ok (.invokevirtual 189, 3) := by decide +kernel
theorem dX5_fly_52 : decode cX5_fly 52 = .ok (.return_, 1) := by decide +kernel
set_option maxRecDepth 20000 in
theorem ggX5_applyFailsafes_X2_forceLand : GoodIn wsX5_applyFailsafes wsX2_forceLand := goodIn_r _ [9, 10, 11, 12, 13, 8, 14, 15, 16, 31, 32, 33] (by decide +kernel) (by decide +kernel)
set_option maxRecDepth 20000 in
theorem gX5_applyFailsafes_X2_forceLand : GoodIn wsX5_applyFailsafes (wsV RX5 192 RX2 yX2_forceLand wsX2_forceLand) := goodIn_app (goodIn_of _ (by decide +kernel)) ggX5_applyFailsafes_X2_forceLand
set_option maxRecDepth 20000 in
theorem ggX5_applyFailsafes_X2_enter : GoodIn wsX5_applyFailsafes wsX2_enter := goodIn_r _ [14, 15, 10, 16, 31, 32, 33] (by decide +kernel) (by decide +kernel)
set_option maxRecDepth 20000 in
theorem gX5_applyFailsafes_X2_enter : GoodIn wsX5_applyFailsafes (wsV RX5 140 RX2 yX2_enter wsX2_enter) := goodIn_app (goodIn_of _ (by decide +kernel)) ggX5_applyFailsafes_X2_enter
theorem dX5_applyFailsafes_0 : decode cX5_applyFailsafes 0 = .ok (.iload_n 1, 1) := by decide +kernel
theorem dX5_applyFailsafes_1 : decode cX5_applyFailsafes 1 = .ok (.bipush 10, 2) := by decide +kernel
theorem dX5_applyFailsafes_3 : decode cX5_applyFailsafes 3 = .ok (.if_icmp .lt 11, 3) := by decide +kernel
theorem dX5_applyFailsafes_6 : decode cX5_applyFailsafes 6 = .ok (.aload_n 0, 1) := by decide +kernel
theorem dX5_applyFailsafes_7 : decode cX5_applyFailsafes 7 = .ok (.getfield 61, 3) := by decide +kernel
theorem dX5_applyFailsafes_10 : decode cX5_applyFailsafes 10 = .ok (.iconst 5, 1) := by decide +kernel
theorem dX5_applyFailsafes_11 : decode cX5_applyFailsafes 11 = .ok (.if_icmp .lt 17, 3) := by decide +kernel
theorem dX5_applyFailsafes_14 : decode cX5_applyFailsafes 14 = .ok (.aload_n 0, 1) := by decide +kernel
theorem dX5_applyFailsafes_15 : decode cX5_applyFailsafes 15 = .ok (.getfield 43, 3) := by decide +kernel
theorem dX5_applyFailsafes_18 : decode cX5_applyFailsafes 18 = .ok (.aload_n 0, 1) := by decide +kernel
theorem dX5_applyFailsafes_19 : decode cX5_applyFailsafes 19 = .ok (.getfield 67, 3) := by decide +kernel
theorem dX5_applyFailsafes_22 : decode cX5_applyFailsafes 22 = .ok (.invokevirtual 192, 3) := by decide +kernel
theorem dX5_applyFailsafes_25 : decode cX5_applyFailsafes 25 = .ok (.goto 52, 3) := by decide +kernel
theorem dX5_applyFailsafes_28 : decode cX5_applyFailsafes 28 = .ok (.iload_n 1, 1) := by decide +kernel
theorem dX5_applyFailsafes_29 : decode cX5_applyFailsafes 29 = .ok (.bipush 25, 2) := by decide +kernel
theorem dX5_applyFailsafes_31 : decode cX5_applyFailsafes 31 = .ok (.if_icmp .lt 12, 3) := by decide +kernel
theorem dX5_applyFailsafes_34 : decode cX5_applyFailsafes 34 = .ok (.aload_n 0, 1) := by decide +kernel
theorem dX5_applyFailsafes_35 : decode cX5_applyFailsafes 35 = .ok (.getfield 64, 3) := by decide +kernel
theorem dX5_applyFailsafes_38 : decode cX5_applyFailsafes 38 = .ok (.bipush 20, 2) := by decide +kernel
theorem dX5_applyFailsafes_40 : decode cX5_applyFailsafes 40 = .ok (.if_icmp .lt 37, 3) := by decide +kernel
theorem dX5_applyFailsafes_43 : decode cX5_applyFailsafes 43 = .ok (.aload_n 0, 1) := by decide +kernel
theorem dX5_applyFailsafes_44 : decode cX5_applyFailsafes 44 = .ok (.getfield 43, 3) := by decide +kernel
theorem dX5_applyFailsafes_47 : decode cX5_applyFailsafes 47 = .ok (.getfield 85, 3) := by decide +kernel
theorem dX5_applyFailsafes_50 : decode cX5_applyFailsafes 50 = .ok (.iconst 4, 1) := by decide +kernel
theorem dX5_applyFailsafes_51 : decode cX5_applyFailsafes 51 = .ok (.if_icmp .eq 26, 3) := by decide +kernel
theorem dX5_applyFailsafes_54 : decode cX5_applyFailsafes 54 = .ok (.aload_n 0, 1) := by decide +kernel
theorem dX5_applyFailsafes_55 : decode cX5_applyFailsafes 55 = .ok (.getfield 43, 3) := by decide +kernel
theorem dX5_applyFailsafes_58 : decode cX5_applyFailsafes 58 = .ok (.getfield 85, 3) := by decide +kernel
theorem dX5_applyFailsafes_61 : decode cX5_applyFailsafes 61 = .ok (.iconst 5, 1) := by decide +kernel
theorem dX5_applyFailsafes_62 : decode cX5_applyFailsafes 62 = .ok (.if_icmp .eq 15, 3) := by decide +kernel
theorem dX5_applyFailsafes_65 : decode cX5_applyFailsafes 65 = .ok (.aload_n 0, 1) := by decide +kernel
theorem dX5_applyFailsafes_66 : decode cX5_applyFailsafes 66 = .ok (.getfield 43, 3) := by decide +kernel
theorem dX5_applyFailsafes_69 : decode cX5_applyFailsafes 69 = .ok (.iconst 4, 1) := by decide +kernel
theorem dX5_applyFailsafes_70 : decode cX5_applyFailsafes 70 = .ok (.aload_n 0, 1) := by decide +kernel
theorem dX5_applyFailsafes_71 : decode cX5_applyFailsafes 71 = .ok (.getfield 67, 3) := by decide +kernel
theorem dX5_applyFailsafes_74 : decode cX5_applyFailsafes 74 = .ok (.invokevirtual 140, 3) := by decide +kernel
theorem dX5_applyFailsafes_77 : decode cX5_applyFailsafes 77 = .ok (.return_, 1) := by decide +kernel
set_option maxRecDepth 20000 in
theorem ggX5_moveOn_X1_isEmpty : GoodIn wsX5_moveOn wsX1_isEmpty := goodIn_r _ [9, 10, 56, 57] (by decide +kernel) (by decide +kernel)
set_option maxRecDepth 20000 in
theorem gX5_moveOn_X1_isEmpty : GoodIn wsX5_moveOn (wsV RX5 146 RX1 yX1_isEmpty wsX1_isEmpty) := goodIn_app (goodIn_of _ (by decide +kernel)) ggX5_moveOn_X1_isEmpty
set_option maxRecDepth 20000 in
theorem ggX5_moveOn_X2_enter : GoodIn wsX5_moveOn wsX2_enter := goodIn_r _ [15, 16, 17, 18, 53, 54, 55] (by decide +kernel) (by decide +kernel)
set_option maxRecDepth 20000 in
theorem gX5_moveOn_X2_enter : GoodIn wsX5_moveOn (wsV RX5 140 RX2 yX2_enter wsX2_enter) := goodIn_app (goodIn_of _ (by decide +kernel)) ggX5_moveOn_X2_enter
set_option maxRecDepth 20000 in
theorem ggX5_moveOn_X5_hasReachedItem : GoodIn wsX5_moveOn wsX5_hasReachedItem := goodIn_r _ [23, 2, 3, 24, 25, 26, 27, 8, 28, 10, 29, 30, 22, 31, 32, 33, 34, 35, 40, 41, 42, 43, 44, 45, 46, 47, 48, 49, 50, 51, 52, 56, 57] (by decide +kernel) (by decide +kernel)
set_option maxRecDepth 20000 in
theorem gX5_moveOn_X5_hasReachedItem : GoodIn wsX5_moveOn (wsV RX5 195 RX5 yX5_hasReachedItem wsX5_hasReachedItem) := goodIn_app (goodIn_of _ (by decide +kernel)) ggX5_moveOn_X5_hasReachedItem
set_option maxRecDepth 20000 in
theorem ggX5_moveOn_X5_passItem : GoodIn wsX5_moveOn wsX5_passItem := goodIn_r _ [39, 24, 3, 1, 4, 11, 12, 13, 14, 15, 16, 17, 18, 40, 41, 42, 43, 44, 45, 46, 47, 48, 49, 50, 51, 52, 56, 57, 53, 54, 55] (by decide +kernel) (by decide +kernel)
set_option maxRecDepth 20000 in
theorem gX5_moveOn_X5_passItem : GoodIn wsX5_moveOn (wsV RX5 198 RX5 yX5_passItem wsX5_passItem) := goodIn_app (goodIn_of _ (by decide +kernel)) ggX5_moveOn_X5_passItem
set_option maxRecDepth 20000 in
theorem ggX5_moveOn_X5_isNear : GoodIn wsX5_moveOn wsX5_isNear := goodIn_r _ [34, 35, 30, 22, 31] (by decide +kernel) (by decide +kernel)
set_option maxRecDepth 20000 in
theorem gX5_moveOn_X5_isNear : GoodIn wsX5_moveOn (va_wsS RX5 201 yX5_isNear wsX5_isNear) := goodIn_app (goodIn_of _ (by decide +kernel)) ggX5_moveOn_X5_isNear
theorem dX5_moveOn_0 : decode cX5_moveOn 0 = .ok (.aload_n 0, 1) := by decide +kernel
theorem dX5_moveOn_1 : decode cX5_moveOn 1 = .ok (.getfield 43, 3) := by decide +kernel
theorem dX5_moveOn_4 : decode cX5_moveOn 4 = .ok (.getfield 85, 3) := by decide +kernel
theorem dX5_moveOn_7 : decode cX5_moveOn 7 = .ok (.istore_n 1, 1) := by decide +kernel
theorem dX5_moveOn_8 : decode cX5_moveOn 8 = .ok (.iload_n 1, 1) := by decide +kernel
theorem dX5_moveOn_9 : decode cX5_moveOn 9 = .ok (.iconst 1, 1) := by decide +kernel
theorem dX5_moveOn_10 : decode cX5_moveOn 10 = .ok (.if_icmp .ne 44, 3) := by decide +kernel
theorem dX5_moveOn_13 : decode cX5_moveOn 13 = .ok (.aload_n 0, 1) := by decide +kernel
theorem dX5_moveOn_14 : decode cX5_moveOn 14 = .ok (.getfield 47, 3) := by decide +kernel
theorem dX5_moveOn_17 : decode cX5_moveOn 17 = .ok (.iconst 2, 1) := by decide +kernel
theorem dX5_moveOn_18 : decode cX5_moveOn 18 = .ok (.iaload, 1) := by decide +kernel
theorem dX5_moveOn_19 : decode cX5_moveOn 19 = .ok (.sipush 1000, 3) := by decide +kernel
theorem dX5_moveOn_22 : decode cX5_moveOn 22 = .ok (.if_icmp .lt 32, 3) := by decide +kernel
theorem dX5_moveOn_25 : decode cX5_moveOn 25 = .ok (.aload_n 0, 1) := by decide +kernel
theorem dX5_moveOn_26 : decode cX5_moveOn 26 = .ok (.getfield 43, 3) := by decide +kernel
theorem dX5_moveOn_29 : decode cX5_moveOn 29 = .ok (.aload_n 0, 1) := by decide +kernel
theorem dX5_moveOn_30 : decode cX5_moveOn 30 = .ok (.getfield 29, 3) := by decide +kernel
theorem dX5_moveOn_33 : decode cX5_moveOn 33 = .ok (.invokevirtual 146, 3) := by decide +kernel
theorem dX5_moveOn_36 : decode cX5_moveOn 36 = .ok (.ifCond .eq 7, 3) := by decide +kernel
theorem dX5_moveOn_39 : decode cX5_moveOn 39 = .ok (.iconst 3, 1) := by decide +kernel
theorem dX5_moveOn_40 : decode cX5_moveOn 40 = .ok (.goto 4, 3) := by decide +kernel
theorem dX5_moveOn_43 : decode cX5_moveOn 43 = .ok (.iconst 2, 1) := by decide +kernel
theorem dX5_moveOn_44 : decode cX5_moveOn 44 = .ok (.aload_n 0, 1) := by decide +kernel

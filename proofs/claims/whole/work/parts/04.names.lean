theorem dX0_squaredLength_5 : decode cX0_squaredLength 5 = .ok (.istore_n 2, 1) := by decide +kernel
theorem dX0_squaredLength_6 : decode cX0_squaredLength 6 = .ok (.aload_n 0, 1) := by decide +kernel
theorem dX0_squaredLength_7 : decode cX0_squaredLength 7 = .ok (.getfield 9, 3) := by decide +kernel
theorem dX0_squaredLength_10 : decode cX0_squaredLength 10 = .ok (.iload_n 2, 1) := by decide +kernel
theorem dX0_squaredLength_11 : decode cX0_squaredLength 11 = .ok (.iaload, 1) := by decide +kernel
theorem dX0_squaredLength_12 : decode cX0_squaredLength 12 = .ok (.aload_n 0, 1) := by decide +kernel
theorem dX0_squaredLength_13 : decode cX0_squaredLength 13 = .ok (.getfield 9, 3) := by decide +kernel
theorem dX0_squaredLength_16 : decode cX0_squaredLength 16 = .ok (.iload_n 1, 1) := by decide +kernel
theorem dX0_squaredLength_17 : decode cX0_squaredLength 17 = .ok (.iaload, 1) := by decide +kernel
theorem dX0_squaredLength_18 : decode cX0_squaredLength 18 = .ok (.isub, 1) := by decide +kernel
theorem dX0_squaredLength_19 : decode cX0_squaredLength 19 = .ok (.i2l, 1) := by decide +kernel
theorem dX0_squaredLength_20 : decode cX0_squaredLength 20 = .ok (.lstore_n 3, 1) := by decide +kernel
theorem dX0_squaredLength_21 : decode cX0_squaredLength 21 = .ok (.aload_n 0, 1) := by decide +kernel
theorem dX0_squaredLength_22 : decode cX0_squaredLength 22 = .ok (.getfield 15, 3) := by decide +kernel
theorem dX0_squaredLength_25 : decode cX0_squaredLength 25 = .ok (.iload_n 2, 1) := by decide +kernel
theorem dX0_squaredLength_26 : decode cX0_squaredLength 26 = .ok (.iaload, 1) := by decide +kernel
theorem dX0_squaredLength_27 : decode cX0_squaredLength 27 = .ok (.aload_n 0, 1) := by decide +kernel
theorem dX0_squaredLength_28 : decode cX0_squaredLength 28 = .ok (.getfield 15, 3) := by decide +kernel
theorem dX0_squaredLength_31 : decode cX0_squaredLength 31 = .ok (.iload_n 1, 1) := by decide +kernel
theorem dX0_squaredLength_32 : decode cX0_squaredLength 32 = .ok (.iaload, 1) := by decide +kernel
theorem dX0_squaredLength_33 : decode cX0_squaredLength 33 = .ok (.isub, 1) := by decide +kernel
theorem dX0_squaredLength_34 : decode cX0_squaredLength 34 = .ok (.i2l, 1) := by decide +kernel
theorem dX0_squaredLength_35 : decode cX0_squaredLength 35 = .ok (.lstore 5, 2) := by decide +kernel
theorem dX0_squaredLength_37 : decode cX0_squaredLength 37 = .ok (.lload_n 3, 1) := by decide +kernel
theorem dX0_squaredLength_38 : decode cX0_squaredLength 38 = .ok (.lload_n 3, 1) := by decide +kernel
theorem dX0_squaredLength_39 : decode cX0_squaredLength 39 = .ok (.lmul, 1) := by decide +kernel
theorem dX0_squaredLength_40 : decode cX0_squaredLength 40 = .ok (.lload 5, 2) := by decide +kernel
theorem dX0_squaredLength_42 : decode cX0_squaredLength 42 = .ok (.lload 5, 2) := by decide +kernel
theorem dX0_squaredLength_44 : decode cX0_squaredLength 44 = .ok (.lmul, 1) := by decide +kernel
theorem dX0_squaredLength_45 : decode cX0_squaredLength 45 = .ok (.ladd, 1) := by decide +kernel
theorem dX0_squaredLength_46 : decode cX0_squaredLength 46 = .ok (.lreturn, 1) := by decide +kernel
theorem dX0_after_0 : decode cX0_after 0 = .ok (.iload_n 1, 1) := by decide +kernel
theorem dX0_after_1 : decode cX0_after 1 = .ok (.iconst 1, 1) := by decide +kernel
theorem dX0_after_2 : decode cX0_after 2 = .ok (.iadd, 1) := by decide +kernel
theorem dX0_after_3 : decode cX0_after 3 = .ok (.aload_n 0, 1) := by decide +kernel
theorem dX0_after_4 : decode cX0_after 4 = .ok (.getfield 18, 3) := by decide +kernel
theorem dX0_after_7 : decode cX0_after 7 = .ok (.if_icmp .ge 9, 3) := by decide +kernel
theorem dX0_after_10 : decode cX0_after 10 = .ok (.iload_n 1, 1) := by decide +kernel
theorem dX0_after_11 : decode cX0_after 11 = .ok (.iconst 1, 1) := by decide +kernel
theorem dX0_after_12 : decode cX0_after 12 = .ok (.iadd, 1) := by decide +kernel
theorem dX0_after_13 : decode cX0_after 13 = .ok (.goto 4, 3) := by decide +kernel
theorem dX0_after_16 : decode cX0_after 16 = .ok (.iconst 0, 1) := by decide +kernel
theorem dX0_after_17 : decode cX0_after 17 = .ok (.ireturn, 1) := by decide +kernel
theorem dX1_init_0 : decode cX1_init 0 = .ok (.aload_n 0, 1) := by decide +kernel
theorem dX1_init_1 : decode cX1_init 1 = .ok (.invokespecial 3, 3) := by decide +kernel
theorem dX1_init_4 : decode cX1_init 4 = .ok (.aload_n 0, 1) := by decide +kernel
theorem dX1_init_5 : decode cX1_init 5 = .ok (.bipush 24, 2) := by decide +kernel
theorem dX1_init_7 : decode cX1_init 7 = .ok (.newarray .int, 2) := by decide +kernel
theorem dX1_init_9 : decode cX1_init 9 = .ok (.putfield 9, 3) := by decide +kernel
theorem dX1_init_12 : decode cX1_init 12 = .ok (.aload_n 0, 1) := by decide +kernel
theorem dX1_init_13 : decode cX1_init 13 = .ok (.iconst 0, 1) := by decide +kernel
theorem dX1_init_14 : decode cX1_init 14 = .ok (.putfield 15, 3) := by decide +kernel
theorem dX1_init_17 : decode cX1_init 17 = .ok (.return_, 1) := by decide +kernel
theorem dX1_isEmpty_0 : decode cX1_isEmpty 0 = .ok (.aload_n 0, 1) := by decide +kernel
theorem dX1_isEmpty_1 : decode cX1_isEmpty 1 = .ok (.getfield 15, 3) := by decide +kernel
theorem dX1_isEmpty_4 : decode cX1_isEmpty 4 = .ok (.ifCond .ne 7, 3) := by decide +kernel
theorem dX1_isEmpty_7 : decode cX1_isEmpty 7 = .ok (.iconst 1, 1) := by decide +kernel
theorem dX1_isEmpty_8 : decode cX1_isEmpty 8 = .ok (.goto 4, 3) := by decide +kernel
theorem dX1_isEmpty_11 : decode cX1_isEmpty 11 = .ok (.iconst 0, 1) := by decide +kernel
theorem dX1_isEmpty_12 : decode cX1_isEmpty 12 = .ok (.ireturn, 1) := by decide +kernel
theorem dX1_clear_0 : decode cX1_clear 0 = .ok (.aload_n 0, 1) := by decide +kernel
theorem dX1_clear_1 : decode cX1_clear 1 = .ok (.iconst 0, 1) := by decide +kernel
theorem dX1_clear_2 : decode cX1_clear 2 = .ok (.putfield 15, 3) := by decide +kernel
theorem dX1_clear_5 : decode cX1_clear 5 = .ok (.return_, 1) := by decide +kernel
theorem dX1_add_0 : decode cX1_add 0 = .ok (.aload_n 0, 1) := by decide +kernel
theorem dX1_add_1 : decode cX1_add 1 = .ok (.getfield 15, 3) := by decide +kernel
theorem dX1_add_4 : decode cX1_add 4 = .ok (.bipush 8, 2) := by decide +kernel
theorem dX1_add_6 : decode cX1_add 6 = .ok (.if_icmp .ge 55, 3) := by decide +kernel
theorem dX1_add_9 : decode cX1_add 9 = .ok (.aload_n 0, 1) := by decide +kernel
theorem dX1_add_10 : decode cX1_add 10 = .ok (.getfield 9, 3) := by decide +kernel
theorem dX1_add_13 : decode cX1_add 13 = .ok (.aload_n 0, 1) := by decide +kernel
theorem dX1_add_14 : decode cX1_add 14 = .ok (.getfield 15, 3) := by decide +kernel
theorem dX1_add_17 : decode cX1_add 17 = .ok (.iconst 3, 1) := by decide +kernel
theorem dX1_add_18 : decode cX1_add 18 = .ok (.imul, 1) := by decide +kernel
theorem dX1_add_19 : decode cX1_add 19 = .ok (.iconst 0, 1) := by decide +kernel
theorem dX1_add_20 : decode cX1_add 20 = .ok (.iadd, 1) := by decide +kernel
theorem dX1_add_21 : decode cX1_add 21 = .ok (.iload_n 1, 1) := by decide +kernel
theorem dX1_add_22 : decode cX1_add 22 = .ok (.iastore, 1) := by decide +kernel
theorem dX1_add_23 : decode cX1_add 23 = .ok (.aload_n 0, 1) := by decide +kernel
theorem dX1_add_24 : decode cX1_add 24 = .ok (.getfield 9, 3) := by decide +kernel
theorem dX1_add_27 : decode cX1_add 27 = .ok (.aload_n 0, 1) := by decide +kernel
theorem dX1_add_28 : decode cX1_add 28 = .ok (.getfield 15, 3) := by decide +kernel
theorem dX1_add_31 : decode cX1_add 31 = .ok (.iconst 3, 1) := by decide +kernel
theorem dX1_add_32 : decode cX1_add 32 = .ok (.imul, 1) := by decide +kernel
theorem dX1_add_33 : decode cX1_add 33 = .ok (.iconst 1, 1) := by decide +kernel
theorem dX1_add_34 : decode cX1_add 34 = .ok (.iadd, 1) := by decide +kernel
theorem dX1_add_35 : decode cX1_add 35 = .ok (.iload_n 2, 1) := by decide +kernel
theorem dX1_add_36 : decode cX1_add 36 = .ok (.iastore, 1) := by decide +kernel
theorem dX1_add_37 : decode cX1_add 37 = .ok (.aload_n 0, 1) := by decide +kernel
theorem dX1_add_38 : decode cX1_add 38 = .ok (.getfield 9, 3) := by decide +kernel
theorem dX1_add_41 : decode cX1_add 41 = .ok (.aload_n 0, 1) := by decide +kernel
theorem dX1_add_42 : decode cX1_add 42 = .ok (.getfield 15, 3) := by decide +kernel
theorem dX1_add_45 : decode cX1_add 45 = .ok (.iconst 3, 1) := by decide +kernel
theorem dX1_add_46 : decode cX1_add 46 = .ok (.imul, 1) := by decide +kernel
theorem dX1_add_47 : decode cX1_add 47 = .ok (.iconst 2, 1) := by decide +kernel
theorem dX1_add_48 : decode cX1_add 48 = .ok (.iadd, 1) := by decide +kernel
theorem dX1_add_49 : decode cX1_add 49 = .ok (.iload_n 3, 1) := by decide +kernel
theorem dX1_add_50 : decode cX1_add 50 = .ok (.iastore, 1) := by decide +kernel
theorem dX1_add_51 : decode cX1_add 51 = .ok (.aload_n 0, 1) := by decide +kernel
theorem dX1_add_52 : decode cX1_add 52 = .ok (.dup, 1) := by decide +kernel
theorem dX1_add_53 : decode cX1_add 53 = .ok (.getfield 15, 3) := by decide +kernel
theorem dX1_add_56 : decode cX1_add 56 = .ok (.iconst 1, 1) := by decide +kernel
theorem dX1_add_57 : decode cX1_add 57 = .ok (.iadd, 1) := by decide +kernel
theorem dX1_add_58 : decode cX1_add 58 = .ok (.putfield 15, 3) := by decide +kernel
theorem dX1_add_61 : decode cX1_add 61 = .ok (.return_, 1) := by decide +kernel
set_option maxRecDepth 20000 in
theorem ggX1_read_X5_isWithin : GoodIn wsX1_read wsX5_isWithin := goodIn_r _ [5] (by decide +kernel) (by decide +kernel)
set_option maxRecDepth 20000 in
theorem gX1_read_X5_isWithin_n19 : GoodIn wsX1_read (wsX5_isWithin) := ggX1_read_X5_isWithin
theorem dX1_read_0 : decode cX1_read 0 = .ok (.iload_n 1, 1) := by decide +kernel
theorem dX1_read_1 : decode cX1_read 1 = .ok (.iconst 0, 1) := by decide +kernel
theorem dX1_read_2 : decode cX1_read 2 = .ok (.aload_n 0, 1) := by decide +kernel
theorem dX1_read_3 : decode cX1_read 3 = .ok (.getfield 15, 3) := by decide +kernel
theorem dX1_read_6 : decode cX1_read 6 = .ok (.iconst 1, 1) := by decide +kernel
theorem dX1_read_7 : decode cX1_read 7 = .ok (.isub, 1) := by decide +kernel
theorem dX1_read_8 : decode cX1_read 8 = .ok (.invokestatic 19, 3) := by decide +kernel
theorem dX1_read_11 : decode cX1_read 11 = .ok (.ifCond .eq 16, 3) := by decide +kernel
theorem dX1_read_14 : decode cX1_read 14 = .ok (.aload_n 0, 1) := by decide +kernel
theorem dX1_read_15 : decode cX1_read 15 = .ok (.getfield 9, 3) := by decide +kernel
theorem dX1_read_18 : decode cX1_read 18 = .ok (.iload_n 1, 1) := by decide +kernel
theorem dX1_read_19 : decode cX1_read 19 = .ok (.iconst 3, 1) := by decide +kernel
theorem dX1_read_20 : decode cX1_read 20 = .ok (.imul, 1) := by decide +kernel
theorem dX1_read_21 : decode cX1_read 21 = .ok (.iload_n 2, 1) := by decide +kernel
theorem dX1_read_22 : decode cX1_read 22 = .ok (.iadd, 1) := by decide +kernel
theorem dX1_read_23 : decode cX1_read 23 = .ok (.iaload, 1) := by decide +kernel
theorem dX1_read_24 : decode cX1_read 24 = .ok (.goto 4, 3) := by decide +kernel
theorem dX1_read_27 : decode cX1_read 27 = .ok (.iconst 0, 1) := by decide +kernel
theorem dX1_read_28 : decode cX1_read 28 = .ok (.ireturn, 1) := by decide +kernel
theorem dX1_copyFrom_0 : decode cX1_copyFrom 0 = .ok (.aload_n 1, 1) := by decide +kernel
theorem dX1_copyFrom_1 : decode cX1_copyFrom 1 = .ok (.getfield 9, 3) := by decide +kernel
theorem dX1_copyFrom_4 : decode cX1_copyFrom 4 = .ok (.iconst 0, 1) := by decide +kernel
theorem dX1_copyFrom_5 : decode cX1_copyFrom 5 = .ok (.aload_n 0, 1) := by decide +kernel
theorem dX1_copyFrom_6 : decode cX1_copyFrom 6 = .ok (.getfield 9, 3) := by decide +kernel
theorem dX1_copyFrom_9 : decode cX1_copyFrom 9 = .ok (.iconst 0, 1) := by decide +kernel
theorem dX1_copyFrom_10 : decode cX1_copyFrom 10 = .ok (.aload_n 0, 1) := by decide +kernel
theorem dX1_copyFrom_11 : decode cX1_copyFrom 11 = .ok (.getfield 9, 3) := by decide +kernel
theorem dX1_copyFrom_14 : decode cX1_copyFrom 14 = .ok (.arraylength, 1) := by decide +kernel
theorem dX1_copyFrom_15 : decode cX1_copyFrom 15 = .ok (.invokestatic 23, 3) := by decide +kernel
theorem dX1_copyFrom_18 : decode cX1_copyFrom 18 = .ok (.aload_n 0, 1) := by decide +kernel
theorem dX1_copyFrom_19 : decode cX1_copyFrom 19 = .ok (.aload_n 1, 1) := by decide +kernel
theorem dX1_copyFrom_20 : decode cX1_copyFrom 20 = .ok (.getfield 15, 3) := by decide +kernel
theorem dX1_copyFrom_23 : decode cX1_copyFrom 23 = .ok (.putfield 15, 3) := by decide +kernel
theorem dX1_copyFrom_26 : decode cX1_copyFrom 26 = .ok (.return_, 1) := by decide +kernel
theorem dX2_init_0 : decode cX2_init 0 = .ok (.aload_n 0, 1) := by decide +kernel
theorem dX2_init_1 : decode cX2_init 1 = .ok (.invokespecial 3, 3) := by decide +kernel
theorem dX2_init_4 : decode cX2_init 4 = .ok (.aload_n 0, 1) := by decide +kernel
theorem dX2_init_5 : decode cX2_init 5 = .ok (.bipush 16, 2) := by decide +kernel
theorem dX2_init_7 : decode cX2_init 7 = .ok (.newarray .int, 2) := by decide +kernel
theorem dX2_init_9 : decode cX2_init 9 = .ok (.putfield 9, 3) := by decide +kernel
theorem dX2_init_12 : decode cX2_init 12 = .ok (.iconst 0, 1) := by decide +kernel
theorem dX2_init_13 : decode cX2_init 13 = .ok (.istore_n 1, 1) := by decide +kernel
theorem dX2_init_14 : decode cX2_init 14 = .ok (.iload_n 1, 1) := by decide +kernel
theorem dX2_init_15 : decode cX2_init 15 = .ok (.bipush 16, 2) := by decide +kernel
theorem dX2_init_17 : decode cX2_init 17 = .ok (.if_icmp .ge 16, 3) := by decide +kernel
theorem dX2_init_20 : decode cX2_init 20 = .ok (.aload_n 0, 1) := by decide +kernel
theorem dX2_init_21 : decode cX2_init 21 = .ok (.getfield 9, 3) := by decide +kernel
theorem dX2_init_24 : decode cX2_init 24 = .ok (.iload_n 1, 1) := by decide +kernel
theorem dX2_init_25 : decode cX2_init 25 = .ok (.iconst (-1), 1) := by decide +kernel
theorem dX2_init_26 : decode cX2_init 26 = .ok (.iastore, 1) := by decide +kernel
theorem dX2_init_27 : decode cX2_init 27 = .ok (.iinc 1 1, 3) := by decide +kernel
theorem dX2_init_30 : decode cX2_init 30 = .ok (.goto (-16), 3) := by decide +kernel
theorem dX2_init_33 : decode cX2_init 33 = .ok (.aload_n 0, 1) := by decide +kernel
theorem dX2_init_34 : decode cX2_init 34 = .ok (.iconst 0, 1) := by decide +kernel
theorem dX2_init_35 : decode cX2_init 35 = .ok (.putfield 15, 3) := by decide +kernel
theorem dX2_init_38 : decode cX2_init 38 = .ok (.aload_n 0, 1) := by decide +kernel
theorem dX2_init_39 : decode cX2_init 39 = .ok (.iconst 0, 1) := by decide +kernel
theorem dX2_init_40 : decode cX2_init 40 = .ok (.putfield 19, 3) := by decide +kernel
theorem dX2_init_43 : decode cX2_init 43 = .ok (.return_, 1) := by decide +kernel
theorem dX2_enter_0 : decode cX2_enter 0 = .ok (.iload_n 1, 1) := by decide +kernel
theorem dX2_enter_1 : decode cX2_enter 1 = .ok (.aload_n 0, 1) := by decide +kernel
theorem dX2_enter_2 : decode cX2_enter 2 = .ok (.getfield 15, 3) := by decide +kernel
theorem dX2_enter_5 : decode cX2_enter 5 = .ok (.if_icmp .ne 4, 3) := by decide +kernel
theorem dX2_enter_8 : decode cX2_enter 8 = .ok (.return_, 1) := by decide +kernel
theorem dX2_enter_9 : decode cX2_enter 9 = .ok (.aload_n 0, 1) := by decide +kernel
theorem dX2_enter_10 : decode cX2_enter 10 = .ok (.iload_n 1, 1) := by decide +kernel
theorem dX2_enter_11 : decode cX2_enter 11 = .ok (.putfield 15, 3) := by decide +kernel
theorem dX2_enter_14 : decode cX2_enter 14 = .ok (.aload_n 0, 1) := by decide +kernel
theorem dX2_enter_15 : decode cX2_enter 15 = .ok (.iconst 0, 1) := by decide +kernel
theorem dX2_enter_16 : decode cX2_enter 16 = .ok (.putfield 19, 3) := by decide +kernel
theorem dX2_enter_19 : decode cX2_enter 19 = .ok (.bipush 15, 2) := by decide +kernel
theorem dX2_enter_21 : decode cX2_enter 21 = .ok (.istore_n 3, 1) := by decide +kernel
theorem dX2_enter_22 : decode cX2_enter 22 = .ok (.iload_n 3, 1) := by decide +kernel
theorem dX2_enter_23 : decode cX2_enter 23 = .ok (.ifCond .le 23, 3) := by decide +kernel
theorem dX2_enter_26 : decode cX2_enter 26 = .ok (.aload_n 0, 1) := by decide +kernel
theorem dX2_enter_27 : decode cX2_enter 27 = .ok (.getfield 9, 3) := by decide +kernel
theorem dX2_enter_30 : decode cX2_enter 30 = .ok (.iload_n 3, 1) := by decide +kernel
theorem dX2_enter_31 : decode cX2_enter 31 = .ok (.aload_n 0, 1) := by decide +kernel
theorem dX2_enter_32 : decode cX2_enter 32 = .ok (.getfield 9, 3) := by decide +kernel
theorem dX2_enter_35 : decode cX2_enter 35 = .ok (.iload_n 3, 1) := by decide +kernel
theorem dX2_enter_36 : decode cX2_enter 36 = .ok (.iconst 1, 1) := by decide +kernel
theorem dX2_enter_37 : decode cX2_enter 37 = .ok (.isub, 1) := by decide +kernel
theorem dX2_enter_38 : decode cX2_enter 38 = .ok (.iaload, 1) := by decide +kernel
theorem dX2_enter_39 : decode cX2_enter 39 = .ok (.iastore, 1) := by decide +kernel
theorem dX2_enter_40 : decode cX2_enter 40 = .ok (.iinc 3 (-1), 3) := by decide +kernel
theorem dX2_enter_43 : decode cX2_enter 43 = .ok (.goto (-21), 3) := by decide +kernel
theorem dX2_enter_46 : decode cX2_enter 46 = .ok (.aload_n 0, 1) := by decide +kernel
theorem dX2_enter_47 : decode cX2_enter 47 = .ok (.getfield 9, 3) := by decide +kernel
theorem dX2_enter_50 : decode cX2_enter 50 = .ok (.iconst 0, 1) := by decide +kernel
theorem dX2_enter_51 : decode cX2_enter 51 = .ok (.bipush 8, 2) := by decide +kernel
theorem dX2_enter_53 : decode cX2_enter 53 = .ok (.iload_n 2, 1) := by decide +kernel
theorem dX2_enter_54 : decode cX2_enter 54 = .ok (.imul, 1) := by decide +kernel
theorem dX2_enter_55 : decode cX2_enter 55 = .ok (.iload_n 1, 1) := by decide +kernel
theorem dX2_enter_56 : decode cX2_enter 56 = .ok (.iadd, 1) := by decide +kernel
theorem dX2_enter_57 : decode cX2_enter 57 = .ok (.iastore, 1) := by decide +kernel
theorem dX2_enter_58 : decode cX2_enter 58 = .ok (.return_, 1) := by decide +kernel
set_option maxRecDepth 20000 in
theorem ggX2_forceLand_X2_enter : GoodIn wsX2_forceLand wsX2_enter := goodIn_r _ [6, 7, 1, 8, 9, 10, 11] (by decide +kernel) (by decide +kernel)
set_option maxRecDepth 20000 in
theorem gX2_forceLand_X2_enter : GoodIn wsX2_forceLand (wsV RX2 23 RX2 yX2_enter wsX2_enter) := goodIn_app (goodIn_of _ (by decide +kernel)) ggX2_forceLand_X2_enter
theorem dX2_forceLand_0 : decode cX2_forceLand 0 = .ok (.aload_n 0, 1) := by decide +kernel
theorem dX2_forceLand_1 : decode cX2_forceLand 1 = .ok (.iconst 5, 1) := by decide +kernel
theorem dX2_forceLand_2 : decode cX2_forceLand 2 = .ok (.iload_n 1, 1) := by decide +kernel
theorem dX2_forceLand_3 : decode cX2_forceLand 3 = .ok (.invokevirtual 23, 3) := by decide +kernel
theorem dX2_forceLand_6 : decode cX2_forceLand 6 = .ok (.aload_n 0, 1) := by decide +kernel
theorem dX2_forceLand_7 : decode cX2_forceLand 7 = .ok (.iconst 1, 1) := by decide +kernel
theorem dX2_forceLand_8 : decode cX2_forceLand 8 = .ok (.putfield 19, 3) := by decide +kernel
theorem dX2_forceLand_11 : decode cX2_forceLand 11 = .ok (.return_, 1) := by decide +kernel
theorem dX3_init_0 : decode cX3_init 0 = .ok (.aload_n 0, 1) := by decide +kernel
theorem dX3_init_1 : decode cX3_init 1 = .ok (.invokespecial 3, 3) := by decide +kernel
theorem dX3_init_4 : decode cX3_init 4 = .ok (.aload_n 0, 1) := by decide +kernel
theorem dX3_init_5 : decode cX3_init 5 = .ok (.bipush 9, 2) := by decide +kernel
theorem dX3_init_7 : decode cX3_init 7 = .ok (.newarray .int, 2) := by decide +kernel
theorem dX3_init_9 : decode cX3_init 9 = .ok (.putfield 9, 3) := by decide +kernel
theorem dX3_init_12 : decode cX3_init 12 = .ok (.aload_n 0, 1) := by decide +kernel
theorem dX3_init_13 : decode cX3_init 13 = .ok (.iconst 3, 1) := by decide +kernel
theorem dX3_init_14 : decode cX3_init 14 = .ok (.newarray .boolean, 2) := by decide +kernel
theorem dX3_init_16 : decode cX3_init 16 = .ok (.putfield 15, 3) := by decide +kernel
theorem dX3_init_19 : decode cX3_init 19 = .ok (.return_, 1) := by decide +kernel
theorem dX3_take_0 : decode cX3_take 0 = .ok (.aload_n 0, 1) := by decide +kernel
theorem dX3_take_1 : decode cX3_take 1 = .ok (.getfield 9, 3) := by decide +kernel
theorem dX3_take_4 : decode cX3_take 4 = .ok (.iload_n 1, 1) := by decide +kernel
theorem dX3_take_5 : decode cX3_take 5 = .ok (.iconst 3, 1) := by decide +kernel
theorem dX3_take_6 : decode cX3_take 6 = .ok (.imul, 1) := by decide +kernel
theorem dX3_take_7 : decode cX3_take 7 = .ok (.iconst 0, 1) := by decide +kernel
theorem dX3_take_8 : decode cX3_take 8 = .ok (.iadd, 1) := by decide +kernel
theorem dX3_take_9 : decode cX3_take 9 = .ok (.iload_n 2, 1) := by decide +kernel
theorem dX3_take_10 : decode cX3_take 10 = .ok (.iastore, 1) := by decide +kernel
theorem dX3_take_11 : decode cX3_take 11 = .ok (.aload_n 0, 1) := by decide +kernel
theorem dX3_take_12 : decode cX3_take 12 = .ok (.getfield 9, 3) := by decide +kernel
theorem dX3_take_15 : decode cX3_take 15 = .ok (.iload_n 1, 1) := by decide +kernel
theorem dX3_take_16 : decode cX3_take 16 = .ok (.iconst 3, 1) := by decide +kernel
theorem dX3_take_17 : decode cX3_take 17 = .ok (.imul, 1) := by decide +kernel
theorem dX3_take_18 : decode cX3_take 18 = .ok (.iconst 1, 1) := by decide +kernel
theorem dX3_take_19 : decode cX3_take 19 = .ok (.iadd, 1) := by decide +kernel
theorem dX3_take_20 : decode cX3_take 20 = .ok (.iload_n 3, 1) := by decide +kernel
theorem dX3_take_21 : decode cX3_take 21 = .ok (.iastore, 1) := by decide +kernel
theorem dX3_take_22 : decode cX3_take 22 = .ok (.aload_n 0, 1) := by decide +kernel
theorem dX3_take_23 : decode cX3_take 23 = .ok (.getfield 9, 3) := by decide +kernel
theorem dX3_take_26 : decode cX3_take 26 = .ok (.iload_n 1, 1) := by decide +kernel
theorem dX3_take_27 : decode cX3_take 27 = .ok (.iconst 3, 1) := by decide +kernel
theorem dX3_take_28 : decode cX3_take 28 = .ok (.imul, 1) := by decide +kernel
theorem dX3_take_29 : decode cX3_take 29 = .ok (.iconst 2, 1) := by decide +kernel
theorem dX3_take_30 : decode cX3_take 30 = .ok (.iadd, 1) := by decide +kernel
theorem dX3_take_31 : decode cX3_take 31 = .ok (.iload 4, 2) := by decide +kernel
theorem dX3_take_33 : decode cX3_take 33 = .ok (.iastore, 1) := by decide +kernel
theorem dX3_take_34 : decode cX3_take 34 = .ok (.aload_n 0, 1) := by decide +kernel
theorem dX3_take_35 : decode cX3_take 35 = .ok (.getfield 15, 3) := by decide +kernel
theorem dX3_take_38 : decode cX3_take 38 = .ok (.iload_n 1, 1) := by decide +kernel
theorem dX3_take_39 : decode cX3_take 39 = .ok (.iconst 1, 1) := by decide +kernel
theorem dX3_take_40 : decode cX3_take 40 = .ok (.bastore, 1) := by decide +kernel
theorem dX3_take_41 : decode cX3_take 41 = .ok (.return_, 1) := by decide +kernel
theorem dX3_countFresh_0 : decode cX3_countFresh 0 = .ok (.iconst 0, 1) := by decide +kernel
theorem dX3_countFresh_1 : decode cX3_countFresh 1 = .ok (.istore_n 1, 1) := by decide +kernel
theorem dX3_countFresh_2 : decode cX3_countFresh 2 = .ok (.iconst 0, 1) := by decide +kernel
theorem dX3_countFresh_3 : decode cX3_countFresh 3 = .ok (.istore_n 2, 1) := by decide +kernel
theorem dX3_countFresh_4 : decode cX3_countFresh 4 = .ok (.iload_n 2, 1) := by decide +kernel
theorem dX3_countFresh_5 : decode cX3_countFresh 5 = .ok (.iconst 3, 1) := by decide +kernel
theorem dX3_countFresh_6 : decode cX3_countFresh 6 = .ok (.if_icmp .ge 21, 3) := by decide +kernel
theorem dX3_countFresh_9 : decode cX3_countFresh 9 = .ok (.aload_n 0, 1) := by decide +kernel
theorem dX3_countFresh_10 : decode cX3_countFresh 10 = .ok (.getfield 15, 3) := by decide +kernel
theorem dX3_countFresh_13 : decode cX3_countFresh 13 = .ok (.iload_n 2, 1) := by decide +kernel
theorem dX3_countFresh_14 : decode cX3_countFresh 14 = .ok (.baload, 1) := by decide +kernel
theorem dX3_countFresh_15 : decode cX3_countFresh 15 = .ok (.ifCond .eq 6, 3) := by decide +kernel
theorem dX3_countFresh_18 : decode cX3_countFresh 18 = .ok (.iinc 1 1, 3) := by decide +kernel
theorem dX3_countFresh_21 : decode cX3_countFresh 21 = .ok (.iinc 2 1, 3) := by decide +kernel
theorem dX3_countFresh_24 : decode cX3_countFresh 24 = .ok (.goto (-20), 3) := by decide +kernel
theorem dX3_countFresh_27 : decode cX3_countFresh 27 = .ok (.iload_n 1, 1) := by decide +kernel
theorem dX3_countFresh_28 : decode cX3_countFresh 28 = .ok (.ireturn, 1) := by decide +kernel
theorem dX3_forget_0 : decode cX3_forget 0 = .ok (.iconst 0, 1) := by decide +kernel
theorem dX3_forget_1 : decode cX3_forget 1 = .ok (.istore_n 1, 1) := by decide +kernel
theorem dX3_forget_2 : decode cX3_forget 2 = .ok (.iload_n 1, 1) := by decide +kernel
theorem dX3_forget_3 : decode cX3_forget 3 = .ok (.iconst 3, 1) := by decide +kernel
theorem dX3_forget_4 : decode cX3_forget 4 = .ok (.if_icmp .ge 16, 3) := by decide +kernel
theorem dX3_forget_7 : decode cX3_forget 7 = .ok (.aload_n 0, 1) := by decide +kernel
theorem dX3_forget_8 : decode cX3_forget 8 = .ok (.getfield 15, 3) := by decide +kernel
theorem dX3_forget_11 : decode cX3_forget 11 = .ok (.iload_n 1, 1) := by decide +kernel
theorem dX3_forget_12 : decode cX3_forget 12 = .ok (.iconst 0, 1) := by decide +kernel
theorem dX3_forget_13 : decode cX3_forget 13 = .ok (.bastore, 1) := by decide +kernel
theorem dX3_forget_14 : decode cX3_forget 14 = .ok (.iinc 1 1, 3) := by decide +kernel
theorem dX3_forget_17 : decode cX3_forget 17 = .ok (.goto (-15), 3) := by decide +kernel
theorem dX3_forget_20 : decode cX3_forget 20 = .ok (.return_, 1) := by decide +kernel
set_option maxRecDepth 20000 in
theorem ggX3_vote_X3_countFresh : GoodIn wsX3_vote wsX3_countFresh := goodIn_r _ [7, 2, 22, 23] (by decide +kernel) (by decide +kernel)
set_option maxRecDepth 20000 in
theorem gX3_vote_X3_countFresh : GoodIn wsX3_vote (wsV RX3 19 RX3 yX3_countFresh wsX3_countFresh) := goodIn_app (goodIn_of _ (by decide +kernel)) ggX3_vote_X3_countFresh
set_option maxRecDepth 20000 in
theorem ggX3_vote_X3_middle : GoodIn wsX3_vote wsX3_middle := goodIn_r _ [10, 11, 12, 13, 14, 15, 16, 17] (by decide +kernel) (by decide +kernel)
set_option maxRecDepth 20000 in
theorem gX3_vote_X3_middle : GoodIn wsX3_vote (va_wsS RX3 23 yX3_middle wsX3_middle) := goodIn_app (goodIn_of _ (by decide +kernel)) ggX3_vote_X3_middle
set_option maxRecDepth 20000 in
theorem ggX3_vote_J9_floorDiv_7cf53 : GoodIn wsX3_vote wsJ9_floorDiv_7cf53 := goodIn_r _ [21] (by decide +kernel) (by decide +kernel)
set_option maxRecDepth 20000 in
theorem gX3_vote_J9_floorDiv_7cf53 : GoodIn wsX3_vote (va_wsS RX3 27 yJ9_floorDiv_7cf53 wsJ9_floorDiv_7cf53) := goodIn_app (goodIn_of _ (by decide +kernel)) ggX3_vote_J9_floorDiv_7cf53
theorem dX3_vote_0 : decode cX3_vote 0 = .ok (.aload_n 0, 1) := by decide +kernel
theorem dX3_vote_1 : decode cX3_vote 1 = .ok (.invokevirtual 19, 3) := by decide +kernel
theorem dX3_vote_4 : decode cX3_vote 4 = .ok (.iconst 3, 1) := by decide +kernel
theorem dX3_vote_5 : decode cX3_vote 5 = .ok (.if_icmp .ne 30, 3) := by decide +kernel
theorem dX3_vote_8 : decode cX3_vote 8 = .ok (.aload_n 0, 1) := by decide +kernel
theorem dX3_vote_9 : decode cX3_vote 9 = .ok (.getfield 9, 3) := by decide +kernel
theorem dX3_vote_12 : decode cX3_vote 12 = .ok (.iload_n 1, 1) := by decide +kernel
theorem dX3_vote_13 : decode cX3_vote 13 = .ok (.iaload, 1) := by decide +kernel
theorem dX3_vote_14 : decode cX3_vote 14 = .ok (.aload_n 0, 1) := by decide +kernel
theorem dX3_vote_15 : decode cX3_vote 15 = .ok (.getfield 9, 3) := by decide +kernel
theorem dX3_vote_18 : decode cX3_vote 18 = .ok (.iconst 3, 1) := by decide +kernel
theorem dX3_vote_19 : decode cX3_vote 19 = .ok (.iload_n 1, 1) := by decide +kernel
theorem dX3_vote_20 : decode cX3_vote 20 = .ok (.iadd, 1) := by decide +kernel
theorem dX3_vote_21 : decode cX3_vote 21 = .ok (.iaload, 1) := by decide +kernel
theorem dX3_vote_22 : decode cX3_vote 22 = .ok (.aload_n 0, 1) := by decide +kernel
theorem dX3_vote_23 : decode cX3_vote 23 = .ok (.getfield 9, 3) := by decide +kernel
theorem dX3_vote_26 : decode cX3_vote 26 = .ok (.bipush 6, 2) := by decide +kernel
theorem dX3_vote_28 : decode cX3_vote 28 = .ok (.iload_n 1, 1) := by decide +kernel
theorem dX3_vote_29 : decode cX3_vote 29 = .ok (.iadd, 1) := by decide +kernel
theorem dX3_vote_30 : decode cX3_vote 30 = .ok (.iaload, 1) := by decide +kernel
theorem dX3_vote_31 : decode cX3_vote 31 = .ok (.invokestatic 23, 3) := by decide +kernel
theorem dX3_vote_34 : decode cX3_vote 34 = .ok (.ireturn, 1) := by decide +kernel
theorem dX3_vote_35 : decode cX3_vote 35 = .ok (.iconst 0, 1) := by decide +kernel
theorem dX3_vote_36 : decode cX3_vote 36 = .ok (.istore_n 2, 1) := by decide +kernel
theorem dX3_vote_37 : decode cX3_vote 37 = .ok (.iconst 0, 1) := by decide +kernel
theorem dX3_vote_38 : decode cX3_vote 38 = .ok (.istore_n 3, 1) := by decide +kernel
theorem dX3_vote_39 : decode cX3_vote 39 = .ok (.iload_n 3, 1) := by decide +kernel
theorem dX3_vote_40 : decode cX3_vote 40 = .ok (.iconst 3, 1) := by decide +kernel
theorem dX3_vote_41 : decode cX3_vote 41 = .ok (.if_icmp .ge 31, 3) := by decide +kernel
theorem dX3_vote_44 : decode cX3_vote 44 = .ok (.aload_n 0, 1) := by decide +kernel
theorem dX3_vote_45 : decode cX3_vote 45 = .ok (.getfield 15, 3) := by decide +kernel
theorem dX3_vote_48 : decode cX3_vote 48 = .ok (.iload_n 3, 1) := by decide +kernel
theorem dX3_vote_49 : decode cX3_vote 49 = .ok (.baload, 1) := by decide +kernel
theorem dX3_vote_50 : decode cX3_vote 50 = .ok (.ifCond .eq 16, 3) := by decide +kernel
theorem dX3_vote_53 : decode cX3_vote 53 = .ok (.iload_n 2, 1) := by decide +kernel
theorem dX3_vote_54 : decode cX3_vote 54 = .ok (.aload_n 0, 1) := by decide +kernel
theorem dX3_vote_55 : decode cX3_vote 55 = .ok (.getfield 9, 3) := by decide +kernel
theorem dX3_vote_58 : decode cX3_vote 58 = .ok (.iload_n 3, 1) := by decide +kernel
theorem dX3_vote_59 : decode cX3_vote 59 = .ok (.iconst 3, 1) := by decide +kernel
theorem dX3_vote_60 : decode cX3_vote 60 = .ok (.imul, 1) := by decide +kernel
theorem dX3_vote_61 : decode cX3_vote 61 = .ok (.iload_n 1, 1) := by decide +kernel
theorem dX3_vote_62 : decode cX3_vote 62 = .ok (.iadd, 1) := by decide +kernel
theorem dX3_vote_63 : decode cX3_vote 63 = .ok (.iaload, 1) := by decide +kernel
theorem dX3_vote_64 : decode cX3_vote 64 = .ok (.iadd, 1) := by decide +kernel
theorem dX3_vote_65 : decode cX3_vote 65 = .ok (.istore_n 2, 1) := by decide +kernel
theorem dX3_vote_66 : decode cX3_vote 66 = .ok (.iinc 3 1, 3) := by decide +kernel
theorem dX3_vote_69 : decode cX3_vote 69 = .ok (.goto (-30), 3) := by decide +kernel
theorem dX3_vote_72 : decode cX3_vote 72 = .ok (.iload_n 2, 1) := by decide +kernel
theorem dX3_vote_73 : decode cX3_vote 73 = .ok (.iconst 2, 1) := by decide +kernel
theorem dX3_vote_74 : decode cX3_vote 74 = .ok (.invokestatic 27, 3) := by decide +kernel
theorem dX3_vote_77 : decode cX3_vote 77 = .ok (.ireturn, 1) := by decide +kernel
theorem dX3_middle_0 : decode cX3_middle 0 = .ok (.iload_n 0, 1) := by decide +kernel
theorem dX3_middle_1 : decode cX3_middle 1 = .ok (.iload_n 1, 1) := by decide +kernel
theorem dX3_middle_2 : decode cX3_middle 2 = .ok (.invokestatic 33, 3) := by decide +kernel
theorem dX3_middle_5 : decode cX3_middle 5 = .ok (.iload_n 0, 1) := by decide +kernel
theorem dX3_middle_6 : decode cX3_middle 6 = .ok (.iload_n 1, 1) := by decide +kernel
theorem dX3_middle_7 : decode cX3_middle 7 = .ok (.invokestatic 36, 3) := by decide +kernel
theorem dX3_middle_10 : decode cX3_middle 10 = .ok (.iload_n 2, 1) := by decide +kernel
theorem dX3_middle_11 : decode cX3_middle 11 = .ok (.invokestatic 33, 3) := by decide +kernel
theorem dX3_middle_14 : decode cX3_middle 14 = .ok (.invokestatic 36, 3) := by decide +kernel
theorem dX3_middle_17 : decode cX3_middle 17 = .ok (.ireturn, 1) := by decide +kernel
set_option maxRecDepth 20000 in
theorem ggX4_init_X1_init : GoodIn wsX4_init wsX1_init := goodIn_r _ [14, 15, 2, 3, 16, 17, 18, 19, 20] (by decide +kernel) (by decide +kernel)
set_option maxRecDepth 20000 in
theorem gX4_init_X1_init : GoodIn wsX4_init (wsX1_init) := ggX4_init_X1_init
theorem dX4_init_0 : decode cX4_init 0 = .ok (.aload_n 0, 1) := by decide +kernel
theorem dX4_init_1 : decode cX4_init 1 = .ok (.invokespecial 3, 3) := by decide +kernel
theorem dX4_init_4 : decode cX4_init 4 = .ok (.aload_n 0, 1) := by decide +kernel
theorem dX4_init_5 : decode cX4_init 5 = .ok (.new 9, 3) := by decide +kernel
theorem dX4_init_8 : decode cX4_init 8 = .ok (.dup, 1) := by decide +kernel
theorem dX4_init_9 : decode cX4_init 9 = .ok (.invokespecial 11, 3) := by decide +kernel
theorem dX4_init_12 : decode cX4_init 12 = .ok (.putfield 12, 3) := by decide +kernel
theorem dX4_init_15 : decode cX4_init 15 = .ok (.aload_n 0, 1) := by decide +kernel
theorem dX4_init_16 : decode cX4_init 16 = .ok (.iconst 0, 1) := by decide +kernel
theorem dX4_init_17 : decode cX4_init 17 = .ok (.putfield 18, 3) := by decide +kernel
theorem dX4_init_20 : decode cX4_init 20 = .ok (.aload_n 0, 1) := by decide +kernel
theorem dX4_init_21 : decode cX4_init 21 = .ok (.iconst 0, 1) := by decide +kernel
theorem dX4_init_22 : decode cX4_init 22 = .ok (.putfield 22, 3) := by decide +kernel
theorem dX4_init_25 : decode cX4_init 25 = .ok (.aload_n 0, 1) := by decide +kernel
theorem dX4_init_26 : decode cX4_init 26 = .ok (.iconst 0, 1) := by decide +kernel
theorem dX4_init_27 : decode cX4_init 27 = .ok (.putfield 26, 3) := by decide +kernel
theorem dX4_init_30 : decode cX4_init 30 = .ok (.aload_n 0, 1) := by decide +kernel
theorem dX4_init_31 : decode cX4_init 31 = .ok (.iconst 0, 1) := by decide +kernel
theorem dX4_init_32 : decode cX4_init 32 = .ok (.putfield 29, 3) := by decide +kernel
theorem dX4_init_35 : decode cX4_init 35 = .ok (.return_, 1) := by decide +kernel
set_option maxRecDepth 20000 in
theorem ggX4_begin_X1_clear : GoodIn wsX4_begin wsX1_clear := goodIn_r _ [10, 11, 17, 18] (by decide +kernel) (by decide +kernel)
set_option maxRecDepth 20000 in
theorem gX4_begin_X1_clear : GoodIn wsX4_begin (wsV RX4 32 RX1 yX1_clear wsX1_clear) := goodIn_app (goodIn_of _ (by decide +kernel)) ggX4_begin_X1_clear
theorem dX4_begin_0 : decode cX4_begin 0 = .ok (.aload_n 0, 1) := by decide +kernel
theorem dX4_begin_1 : decode cX4_begin 1 = .ok (.getfield 12, 3) := by decide +kernel
theorem dX4_begin_4 : decode cX4_begin 4 = .ok (.invokevirtual 32, 3) := by decide +kernel
theorem dX4_begin_7 : decode cX4_begin 7 = .ok (.aload_n 0, 1) := by decide +kernel
theorem dX4_begin_8 : decode cX4_begin 8 = .ok (.iconst 1, 1) := by decide +kernel
theorem dX4_begin_9 : decode cX4_begin 9 = .ok (.putfield 18, 3) := by decide +kernel
theorem dX4_begin_12 : decode cX4_begin 12 = .ok (.aload_n 0, 1) := by decide +kernel
theorem dX4_begin_13 : decode cX4_begin 13 = .ok (.iload_n 1, 1) := by decide +kernel
theorem dX4_begin_14 : decode cX4_begin 14 = .ok (.putfield 22, 3) := by decide +kernel
theorem dX4_begin_17 : decode cX4_begin 17 = .ok (.aload_n 0, 1) := by decide +kernel
theorem dX4_begin_18 : decode cX4_begin 18 = .ok (.iconst 0, 1) := by decide +kernel
theorem dX4_begin_19 : decode cX4_begin 19 = .ok (.putfield 26, 3) := by decide +kernel
theorem dX4_begin_22 : decode cX4_begin 22 = .ok (.aload_n 0, 1) := by decide +kernel
theorem dX4_begin_23 : decode cX4_begin 23 = .ok (.iconst 0, 1) := by decide +kernel
theorem dX4_begin_24 : decode cX4_begin 24 = .ok (.putfield 29, 3) := by decide +kernel
theorem dX4_begin_27 : decode cX4_begin 27 = .ok (.return_, 1) := by decide +kernel
theorem dX4_end_0 : decode cX4_end 0 = .ok (.aload_n 0, 1) := by decide +kernel
theorem dX4_end_1 : decode cX4_end 1 = .ok (.iconst 0, 1) := by decide +kernel
theorem dX4_end_2 : decode cX4_end 2 = .ok (.putfield 18, 3) := by decide +kernel
theorem dX4_end_5 : decode cX4_end 5 = .ok (.return_, 1) := by decide +kernel
theorem dX4_next_0 : decode cX4_next 0 = .ok (.aload_n 0, 1) := by decide +kernel
theorem dX4_next_1 : decode cX4_next 1 = .ok (.getfield 12, 3) := by decide +kernel
theorem dX4_next_4 : decode cX4_next 4 = .ok (.getfield 35, 3) := by decide +kernel
theorem dX4_next_7 : decode cX4_next 7 = .ok (.ireturn, 1) := by decide +kernel
theorem dX4_isComplete_0 : decode cX4_isComplete 0 = .ok (.aload_n 0, 1) := by decide +kernel
theorem dX4_isComplete_1 : decode cX4_isComplete 1 = .ok (.getfield 12, 3) := by decide +kernel
theorem dX4_isComplete_4 : decode cX4_isComplete 4 = .ok (.getfield 35, 3) := by decide +kernel
theorem dX4_isComplete_7 : decode cX4_isComplete 7 = .ok (.aload_n 0, 1) := by decide +kernel

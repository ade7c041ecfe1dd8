theorem dX6_safe_43 : decode cX6_safe 43 = .ok (.goto 4, 3) := by decide +kernel
theorem dX6_safe_46 : decode cX6_safe 46 = .ok (.iconst 0, 1) := by decide +kernel
theorem dX6_safe_47 : decode cX6_safe 47 = .ok (.ireturn, 1) := by decide +kernel
set_option maxRecDepth 20000 in
theorem ggX6_upload_X6_within : GoodIn wsX6_upload wsX6_within := goodIn_r _ [8] (by decide +kernel) (by decide +kernel)
set_option maxRecDepth 20000 in
theorem gX6_upload_X6_within : GoodIn wsX6_upload (va_wsS RX6 58 yX6_within wsX6_within) := goodIn_app (goodIn_of _ (by decide +kernel)) ggX6_upload_X6_within
theorem dX6_upload_0 : decode cX6_upload 0 = .ok (.iload_n 1, 1) := by decide +kernel
theorem dX6_upload_1 : decode cX6_upload 1 = .ok (.iconst 1, 1) := by decide +kernel
theorem dX6_upload_2 : decode cX6_upload 2 = .ok (.bipush 8, 2) := by decide +kernel
theorem dX6_upload_4 : decode cX6_upload 4 = .ok (.invokestatic 58, 3) := by decide +kernel
theorem dX6_upload_7 : decode cX6_upload 7 = .ok (.ifCond .ne 6, 3) := by decide +kernel
theorem dX6_upload_10 : decode cX6_upload 10 = .ok (.bipush (-5), 2) := by decide +kernel
theorem dX6_upload_12 : decode cX6_upload 12 = .ok (.ireturn, 1) := by decide +kernel
theorem dX6_upload_13 : decode cX6_upload 13 = .ok (.aload_n 0, 1) := by decide +kernel
theorem dX6_upload_14 : decode cX6_upload 14 = .ok (.iload_n 1, 1) := by decide +kernel
theorem dX6_upload_15 : decode cX6_upload 15 = .ok (.putfield 78, 3) := by decide +kernel
theorem dX6_upload_18 : decode cX6_upload 18 = .ok (.aload_n 0, 1) := by decide +kernel
theorem dX6_upload_19 : decode cX6_upload 19 = .ok (.iconst 0, 1) := by decide +kernel
theorem dX6_upload_20 : decode cX6_upload 20 = .ok (.putfield 81, 3) := by decide +kernel
theorem dX6_upload_23 : decode cX6_upload 23 = .ok (.aload_n 0, 1) := by decide +kernel
theorem dX6_upload_24 : decode cX6_upload 24 = .ok (.iconst 0, 1) := by decide +kernel
theorem dX6_upload_25 : decode cX6_upload 25 = .ok (.putfield 84, 3) := by decide +kernel
theorem dX6_upload_28 : decode cX6_upload 28 = .ok (.aload_n 0, 1) := by decide +kernel
theorem dX6_upload_29 : decode cX6_upload 29 = .ok (.iconst 0, 1) := by decide +kernel
theorem dX6_upload_30 : decode cX6_upload 30 = .ok (.putfield 87, 3) := by decide +kernel
theorem dX6_upload_33 : decode cX6_upload 33 = .ok (.iconst 0, 1) := by decide +kernel
theorem dX6_upload_34 : decode cX6_upload 34 = .ok (.ireturn, 1) := by decide +kernel
set_option maxRecDepth 20000 in
theorem ggX6_item_X6_within : GoodIn wsX6_item wsX6_within := goodIn_r _ [11] (by decide +kernel) (by decide +kernel)
set_option maxRecDepth 20000 in
theorem gX6_item_X6_within : GoodIn wsX6_item (va_wsS RX6 58 yX6_within wsX6_within) := goodIn_app (goodIn_of _ (by decide +kernel)) ggX6_item_X6_within
theorem dX6_item_0 : decode cX6_item 0 = .ok (.aload_n 0, 1) := by decide +kernel
theorem dX6_item_1 : decode cX6_item 1 = .ok (.getfield 78, 3) := by decide +kernel
theorem dX6_item_4 : decode cX6_item 4 = .ok (.ifCond .ne 6, 3) := by decide +kernel
theorem dX6_item_7 : decode cX6_item 7 = .ok (.bipush (-6), 2) := by decide +kernel
theorem dX6_item_9 : decode cX6_item 9 = .ok (.ireturn, 1) := by decide +kernel
theorem dX6_item_10 : decode cX6_item 10 = .ok (.iload_n 2, 1) := by decide +kernel
theorem dX6_item_11 : decode cX6_item 11 = .ok (.sipush (-10000), 3) := by decide +kernel
theorem dX6_item_14 : decode cX6_item 14 = .ok (.sipush 10000, 3) := by decide +kernel
theorem dX6_item_17 : decode cX6_item 17 = .ok (.invokestatic 58, 3) := by decide +kernel
theorem dX6_item_20 : decode cX6_item 20 = .ok (.ifCond .eq 30, 3) := by decide +kernel
theorem dX6_item_23 : decode cX6_item 23 = .ok (.iload_n 3, 1) := by decide +kernel
theorem dX6_item_24 : decode cX6_item 24 = .ok (.sipush (-10000), 3) := by decide +kernel
theorem dX6_item_27 : decode cX6_item 27 = .ok (.sipush 10000, 3) := by decide +kernel
theorem dX6_item_30 : decode cX6_item 30 = .ok (.invokestatic 58, 3) := by decide +kernel
theorem dX6_item_33 : decode cX6_item 33 = .ok (.ifCond .eq 17, 3) := by decide +kernel
theorem dX6_item_36 : decode cX6_item 36 = .ok (.iload 4, 2) := by decide +kernel
theorem dX6_item_38 : decode cX6_item 38 = .ok (.sipush 500, 3) := by decide +kernel
theorem dX6_item_41 : decode cX6_item 41 = .ok (.sipush 10000, 3) := by decide +kernel
theorem dX6_item_44 : decode cX6_item 44 = .ok (.invokestatic 58, 3) := by decide +kernel
theorem dX6_item_47 : decode cX6_item 47 = .ok (.ifCond .ne 6, 3) := by decide +kernel
theorem dX6_item_50 : decode cX6_item 50 = .ok (.bipush (-5), 2) := by decide +kernel
theorem dX6_item_52 : decode cX6_item 52 = .ok (.ireturn, 1) := by decide +kernel
theorem dX6_item_53 : decode cX6_item 53 = .ok (.iload_n 1, 1) := by decide +kernel
theorem dX6_item_54 : decode cX6_item 54 = .ok (.aload_n 0, 1) := by decide +kernel
theorem dX6_item_55 : decode cX6_item 55 = .ok (.getfield 81, 3) := by decide +kernel
theorem dX6_item_58 : decode cX6_item 58 = .ok (.if_icmp .eq 8, 3) := by decide +kernel
theorem dX6_item_61 : decode cX6_item 61 = .ok (.aload_n 0, 1) := by decide +kernel
theorem dX6_item_62 : decode cX6_item 62 = .ok (.getfield 81, 3) := by decide +kernel
theorem dX6_item_65 : decode cX6_item 65 = .ok (.ireturn, 1) := by decide +kernel
theorem dX6_item_66 : decode cX6_item 66 = .ok (.aload_n 0, 1) := by decide +kernel
theorem dX6_item_67 : decode cX6_item 67 = .ok (.getfield 16, 3) := by decide +kernel
theorem dX6_item_70 : decode cX6_item 70 = .ok (.bipush 24, 2) := by decide +kernel
theorem dX6_item_72 : decode cX6_item 72 = .ok (.iconst 3, 1) := by decide +kernel
theorem dX6_item_73 : decode cX6_item 73 = .ok (.iload_n 1, 1) := by decide +kernel
theorem dX6_item_74 : decode cX6_item 74 = .ok (.imul, 1) := by decide +kernel
theorem dX6_item_75 : decode cX6_item 75 = .ok (.iadd, 1) := by decide +kernel
theorem dX6_item_76 : decode cX6_item 76 = .ok (.iload_n 2, 1) := by decide +kernel
theorem dX6_item_77 : decode cX6_item 77 = .ok (.iastore, 1) := by decide +kernel
theorem dX6_item_78 : decode cX6_item 78 = .ok (.aload_n 0, 1) := by decide +kernel
theorem dX6_item_79 : decode cX6_item 79 = .ok (.getfield 16, 3) := by decide +kernel
theorem dX6_item_82 : decode cX6_item 82 = .ok (.bipush 25, 2) := by decide +kernel
theorem dX6_item_84 : decode cX6_item 84 = .ok (.iconst 3, 1) := by decide +kernel
theorem dX6_item_85 : decode cX6_item 85 = .ok (.iload_n 1, 1) := by decide +kernel
theorem dX6_item_86 : decode cX6_item 86 = .ok (.imul, 1) := by decide +kernel
theorem dX6_item_87 : decode cX6_item 87 = .ok (.iadd, 1) := by decide +kernel
theorem dX6_item_88 : decode cX6_item 88 = .ok (.iload_n 3, 1) := by decide +kernel
theorem dX6_item_89 : decode cX6_item 89 = .ok (.iastore, 1) := by decide +kernel
theorem dX6_item_90 : decode cX6_item 90 = .ok (.aload_n 0, 1) := by decide +kernel
theorem dX6_item_91 : decode cX6_item 91 = .ok (.getfield 16, 3) := by decide +kernel
theorem dX6_item_94 : decode cX6_item 94 = .ok (.bipush 26, 2) := by decide +kernel
theorem dX6_item_96 : decode cX6_item 96 = .ok (.iconst 3, 1) := by decide +kernel
theorem dX6_item_97 : decode cX6_item 97 = .ok (.iload_n 1, 1) := by decide +kernel
theorem dX6_item_98 : decode cX6_item 98 = .ok (.imul, 1) := by decide +kernel
theorem dX6_item_99 : decode cX6_item 99 = .ok (.iadd, 1) := by decide +kernel
theorem dX6_item_100 : decode cX6_item 100 = .ok (.iload 4, 2) := by decide +kernel
theorem dX6_item_102 : decode cX6_item 102 = .ok (.iastore, 1) := by decide +kernel
theorem dX6_item_103 : decode cX6_item 103 = .ok (.aload_n 0, 1) := by decide +kernel
theorem dX6_item_104 : decode cX6_item 104 = .ok (.iconst 0, 1) := by decide +kernel
theorem dX6_item_105 : decode cX6_item 105 = .ok (.putfield 84, 3) := by decide +kernel
theorem dX6_item_108 : decode cX6_item 108 = .ok (.aload_n 0, 1) := by decide +kernel
theorem dX6_item_109 : decode cX6_item 109 = .ok (.iconst 0, 1) := by decide +kernel
theorem dX6_item_110 : decode cX6_item 110 = .ok (.putfield 87, 3) := by decide +kernel
theorem dX6_item_113 : decode cX6_item 113 = .ok (.aload_n 0, 1) := by decide +kernel
theorem dX6_item_114 : decode cX6_item 114 = .ok (.dup, 1) := by decide +kernel
theorem dX6_item_115 : decode cX6_item 115 = .ok (.getfield 81, 3) := by decide +kernel
theorem dX6_item_118 : decode cX6_item 118 = .ok (.iconst 1, 1) := by decide +kernel
theorem dX6_item_119 : decode cX6_item 119 = .ok (.iadd, 1) := by decide +kernel
theorem dX6_item_120 : decode cX6_item 120 = .ok (.putfield 81, 3) := by decide +kernel
theorem dX6_item_123 : decode cX6_item 123 = .ok (.aload_n 0, 1) := by decide +kernel
theorem dX6_item_124 : decode cX6_item 124 = .ok (.getfield 81, 3) := by decide +kernel
theorem dX6_item_127 : decode cX6_item 127 = .ok (.aload_n 0, 1) := by decide +kernel
theorem dX6_item_128 : decode cX6_item 128 = .ok (.getfield 78, 3) := by decide +kernel
theorem dX6_item_131 : decode cX6_item 131 = .ok (.if_icmp .ge 8, 3) := by decide +kernel
theorem dX6_item_134 : decode cX6_item 134 = .ok (.aload_n 0, 1) := by decide +kernel
theorem dX6_item_135 : decode cX6_item 135 = .ok (.getfield 81, 3) := by decide +kernel
theorem dX6_item_138 : decode cX6_item 138 = .ok (.ireturn, 1) := by decide +kernel
theorem dX6_item_139 : decode cX6_item 139 = .ok (.iconst 0, 1) := by decide +kernel
theorem dX6_item_140 : decode cX6_item 140 = .ok (.istore 5, 2) := by decide +kernel
theorem dX6_item_142 : decode cX6_item 142 = .ok (.iload 5, 2) := by decide +kernel
theorem dX6_item_144 : decode cX6_item 144 = .ok (.bipush 24, 2) := by decide +kernel
theorem dX6_item_146 : decode cX6_item 146 = .ok (.if_icmp .ge 26, 3) := by decide +kernel
theorem dX6_item_149 : decode cX6_item 149 = .ok (.aload_n 0, 1) := by decide +kernel
theorem dX6_item_150 : decode cX6_item 150 = .ok (.getfield 16, 3) := by decide +kernel
theorem dX6_item_153 : decode cX6_item 153 = .ok (.iload 5, 2) := by decide +kernel
theorem dX6_item_155 : decode cX6_item 155 = .ok (.aload_n 0, 1) := by decide +kernel
theorem dX6_item_156 : decode cX6_item 156 = .ok (.getfield 16, 3) := by decide +kernel
theorem dX6_item_159 : decode cX6_item 159 = .ok (.bipush 24, 2) := by decide +kernel
theorem dX6_item_161 : decode cX6_item 161 = .ok (.iload 5, 2) := by decide +kernel
theorem dX6_item_163 : decode cX6_item 163 = .ok (.iadd, 1) := by decide +kernel
theorem dX6_item_164 : decode cX6_item 164 = .ok (.iaload, 1) := by decide +kernel
theorem dX6_item_165 : decode cX6_item 165 = .ok (.iastore, 1) := by decide +kernel
theorem dX6_item_166 : decode cX6_item 166 = .ok (.iinc 5 1, 3) := by decide +kernel
theorem dX6_item_169 : decode cX6_item 169 = .ok (.goto (-27), 3) := by decide +kernel
theorem dX6_item_172 : decode cX6_item 172 = .ok (.aload_n 0, 1) := by decide +kernel
theorem dX6_item_173 : decode cX6_item 173 = .ok (.aload_n 0, 1) := by decide +kernel
theorem dX6_item_174 : decode cX6_item 174 = .ok (.getfield 78, 3) := by decide +kernel
theorem dX6_item_177 : decode cX6_item 177 = .ok (.putfield 90, 3) := by decide +kernel
theorem dX6_item_180 : decode cX6_item 180 = .ok (.aload_n 0, 1) := by decide +kernel
theorem dX6_item_181 : decode cX6_item 181 = .ok (.iconst 0, 1) := by decide +kernel
theorem dX6_item_182 : decode cX6_item 182 = .ok (.putfield 78, 3) := by decide +kernel
theorem dX6_item_185 : decode cX6_item 185 = .ok (.aload_n 0, 1) := by decide +kernel
theorem dX6_item_186 : decode cX6_item 186 = .ok (.iconst 0, 1) := by decide +kernel
theorem dX6_item_187 : decode cX6_item 187 = .ok (.putfield 93, 3) := by decide +kernel
theorem dX6_item_190 : decode cX6_item 190 = .ok (.bipush 100, 2) := by decide +kernel
theorem dX6_item_192 : decode cX6_item 192 = .ok (.ireturn, 1) := by decide +kernel
theorem dX6_wanted_0 : decode cX6_wanted 0 = .ok (.aload_n 0, 1) := by decide +kernel
theorem dX6_wanted_1 : decode cX6_wanted 1 = .ok (.getfield 78, 3) := by decide +kernel
theorem dX6_wanted_4 : decode cX6_wanted 4 = .ok (.ifCond .ne 8, 3) := by decide +kernel
theorem dX6_wanted_7 : decode cX6_wanted 7 = .ok (.bipush (-6), 2) := by decide +kernel
theorem dX6_wanted_9 : decode cX6_wanted 9 = .ok (.goto 7, 3) := by decide +kernel
theorem dX6_wanted_12 : decode cX6_wanted 12 = .ok (.aload_n 0, 1) := by decide +kernel
theorem dX6_wanted_13 : decode cX6_wanted 13 = .ok (.getfield 81, 3) := by decide +kernel
theorem dX6_wanted_16 : decode cX6_wanted 16 = .ok (.ireturn, 1) := by decide +kernel
set_option maxRecDepth 20000 in
theorem ggX6_sample_X6_within : GoodIn wsX6_sample wsX6_within := goodIn_r _ [6] (by decide +kernel) (by decide +kernel)
set_option maxRecDepth 20000 in
theorem gX6_sample_X6_within : GoodIn wsX6_sample (va_wsS RX6 58 yX6_within wsX6_within) := goodIn_app (goodIn_of _ (by decide +kernel)) ggX6_sample_X6_within
theorem dX6_sample_0 : decode cX6_sample 0 = .ok (.iload_n 1, 1) := by decide +kernel
theorem dX6_sample_1 : decode cX6_sample 1 = .ok (.iconst 0, 1) := by decide +kernel
theorem dX6_sample_2 : decode cX6_sample 2 = .ok (.iconst 2, 1) := by decide +kernel
theorem dX6_sample_3 : decode cX6_sample 3 = .ok (.invokestatic 58, 3) := by decide +kernel
theorem dX6_sample_6 : decode cX6_sample 6 = .ok (.ifCond .eq 43, 3) := by decide +kernel
theorem dX6_sample_9 : decode cX6_sample 9 = .ok (.iload_n 2, 1) := by decide +kernel
theorem dX6_sample_10 : decode cX6_sample 10 = .ok (.sipush (-20000), 3) := by decide +kernel
theorem dX6_sample_13 : decode cX6_sample 13 = .ok (.sipush 20000, 3) := by decide +kernel
theorem dX6_sample_16 : decode cX6_sample 16 = .ok (.invokestatic 58, 3) := by decide +kernel
theorem dX6_sample_19 : decode cX6_sample 19 = .ok (.ifCond .eq 30, 3) := by decide +kernel
theorem dX6_sample_22 : decode cX6_sample 22 = .ok (.iload_n 3, 1) := by decide +kernel
theorem dX6_sample_23 : decode cX6_sample 23 = .ok (.sipush (-20000), 3) := by decide +kernel
theorem dX6_sample_26 : decode cX6_sample 26 = .ok (.sipush 20000, 3) := by decide +kernel
theorem dX6_sample_29 : decode cX6_sample 29 = .ok (.invokestatic 58, 3) := by decide +kernel
theorem dX6_sample_32 : decode cX6_sample 32 = .ok (.ifCond .eq 17, 3) := by decide +kernel
theorem dX6_sample_35 : decode cX6_sample 35 = .ok (.iload 4, 2) := by decide +kernel
theorem dX6_sample_37 : decode cX6_sample 37 = .ok (.sipush (-2000), 3) := by decide +kernel
theorem dX6_sample_40 : decode cX6_sample 40 = .ok (.sipush 20000, 3) := by decide +kernel
theorem dX6_sample_43 : decode cX6_sample 43 = .ok (.invokestatic 58, 3) := by decide +kernel
theorem dX6_sample_46 : decode cX6_sample 46 = .ok (.ifCond .ne 5, 3) := by decide +kernel
theorem dX6_sample_49 : decode cX6_sample 49 = .ok (.iconst 0, 1) := by decide +kernel
theorem dX6_sample_50 : decode cX6_sample 50 = .ok (.ireturn, 1) := by decide +kernel
theorem dX6_sample_51 : decode cX6_sample 51 = .ok (.aload_n 0, 1) := by decide +kernel
theorem dX6_sample_52 : decode cX6_sample 52 = .ok (.getfield 19, 3) := by decide +kernel
theorem dX6_sample_55 : decode cX6_sample 55 = .ok (.iload_n 1, 1) := by decide +kernel
theorem dX6_sample_56 : decode cX6_sample 56 = .ok (.iconst 1, 1) := by decide +kernel
theorem dX6_sample_57 : decode cX6_sample 57 = .ok (.bastore, 1) := by decide +kernel
theorem dX6_sample_58 : decode cX6_sample 58 = .ok (.aload_n 0, 1) := by decide +kernel
theorem dX6_sample_59 : decode cX6_sample 59 = .ok (.getfield 23, 3) := by decide +kernel
theorem dX6_sample_62 : decode cX6_sample 62 = .ok (.iconst 3, 1) := by decide +kernel
theorem dX6_sample_63 : decode cX6_sample 63 = .ok (.iload_n 1, 1) := by decide +kernel
theorem dX6_sample_64 : decode cX6_sample 64 = .ok (.imul, 1) := by decide +kernel
theorem dX6_sample_65 : decode cX6_sample 65 = .ok (.iload_n 2, 1) := by decide +kernel
theorem dX6_sample_66 : decode cX6_sample 66 = .ok (.iastore, 1) := by decide +kernel
theorem dX6_sample_67 : decode cX6_sample 67 = .ok (.aload_n 0, 1) := by decide +kernel
theorem dX6_sample_68 : decode cX6_sample 68 = .ok (.getfield 23, 3) := by decide +kernel
theorem dX6_sample_71 : decode cX6_sample 71 = .ok (.iconst 3, 1) := by decide +kernel
theorem dX6_sample_72 : decode cX6_sample 72 = .ok (.iload_n 1, 1) := by decide +kernel
theorem dX6_sample_73 : decode cX6_sample 73 = .ok (.imul, 1) := by decide +kernel
theorem dX6_sample_74 : decode cX6_sample 74 = .ok (.iconst 1, 1) := by decide +kernel
theorem dX6_sample_75 : decode cX6_sample 75 = .ok (.iadd, 1) := by decide +kernel
theorem dX6_sample_76 : decode cX6_sample 76 = .ok (.iload_n 3, 1) := by decide +kernel
theorem dX6_sample_77 : decode cX6_sample 77 = .ok (.iastore, 1) := by decide +kernel
theorem dX6_sample_78 : decode cX6_sample 78 = .ok (.aload_n 0, 1) := by decide +kernel
theorem dX6_sample_79 : decode cX6_sample 79 = .ok (.getfield 23, 3) := by decide +kernel
theorem dX6_sample_82 : decode cX6_sample 82 = .ok (.iconst 3, 1) := by decide +kernel
theorem dX6_sample_83 : decode cX6_sample 83 = .ok (.iload_n 1, 1) := by decide +kernel
theorem dX6_sample_84 : decode cX6_sample 84 = .ok (.imul, 1) := by decide +kernel
theorem dX6_sample_85 : decode cX6_sample 85 = .ok (.iconst 2, 1) := by decide +kernel
theorem dX6_sample_86 : decode cX6_sample 86 = .ok (.iadd, 1) := by decide +kernel
theorem dX6_sample_87 : decode cX6_sample 87 = .ok (.iload 4, 2) := by decide +kernel
theorem dX6_sample_89 : decode cX6_sample 89 = .ok (.iastore, 1) := by decide +kernel
theorem dX6_sample_90 : decode cX6_sample 90 = .ok (.iconst 1, 1) := by decide +kernel
theorem dX6_sample_91 : decode cX6_sample 91 = .ok (.ireturn, 1) := by decide +kernel
theorem dX6_beat_0 : decode cX6_beat 0 = .ok (.aload_n 0, 1) := by decide +kernel
theorem dX6_beat_1 : decode cX6_beat 1 = .ok (.iconst 0, 1) := by decide +kernel
theorem dX6_beat_2 : decode cX6_beat 2 = .ok (.putfield 96, 3) := by decide +kernel
theorem dX6_beat_5 : decode cX6_beat 5 = .ok (.return_, 1) := by decide +kernel
theorem dX6_become_0 : decode cX6_become 0 = .ok (.iload_n 1, 1) := by decide +kernel
theorem dX6_become_1 : decode cX6_become 1 = .ok (.aload_n 0, 1) := by decide +kernel
theorem dX6_become_2 : decode cX6_become 2 = .ok (.getfield 62, 3) := by decide +kernel
theorem dX6_become_5 : decode cX6_become 5 = .ok (.if_icmp .eq 69, 3) := by decide +kernel
theorem dX6_become_8 : decode cX6_become 8 = .ok (.bipush 15, 2) := by decide +kernel
theorem dX6_become_10 : decode cX6_become 10 = .ok (.istore_n 2, 1) := by decide +kernel
theorem dX6_become_11 : decode cX6_become 11 = .ok (.iload_n 2, 1) := by decide +kernel
theorem dX6_become_12 : decode cX6_become 12 = .ok (.ifCond .le 23, 3) := by decide +kernel
theorem dX6_become_15 : decode cX6_become 15 = .ok (.aload_n 0, 1) := by decide +kernel
theorem dX6_become_16 : decode cX6_become 16 = .ok (.getfield 36, 3) := by decide +kernel
theorem dX6_become_19 : decode cX6_become 19 = .ok (.iload_n 2, 1) := by decide +kernel
theorem dX6_become_20 : decode cX6_become 20 = .ok (.aload_n 0, 1) := by decide +kernel
theorem dX6_become_21 : decode cX6_become 21 = .ok (.getfield 36, 3) := by decide +kernel
theorem dX6_become_24 : decode cX6_become 24 = .ok (.iload_n 2, 1) := by decide +kernel
theorem dX6_become_25 : decode cX6_become 25 = .ok (.iconst 1, 1) := by decide +kernel
theorem dX6_become_26 : decode cX6_become 26 = .ok (.isub, 1) := by decide +kernel
theorem dX6_become_27 : decode cX6_become 27 = .ok (.iaload, 1) := by decide +kernel
theorem dX6_become_28 : decode cX6_become 28 = .ok (.iastore, 1) := by decide +kernel
theorem dX6_become_29 : decode cX6_become 29 = .ok (.iinc 2 (-1), 3) := by decide +kernel
theorem dX6_become_32 : decode cX6_become 32 = .ok (.goto (-21), 3) := by decide +kernel
theorem dX6_become_35 : decode cX6_become 35 = .ok (.aload_n 0, 1) := by decide +kernel
theorem dX6_become_36 : decode cX6_become 36 = .ok (.getfield 36, 3) := by decide +kernel
theorem dX6_become_39 : decode cX6_become 39 = .ok (.iconst 0, 1) := by decide +kernel
theorem dX6_become_40 : decode cX6_become 40 = .ok (.bipush 8, 2) := by decide +kernel
theorem dX6_become_42 : decode cX6_become 42 = .ok (.aload_n 0, 1) := by decide +kernel
theorem dX6_become_43 : decode cX6_become 43 = .ok (.getfield 99, 3) := by decide +kernel
theorem dX6_become_46 : decode cX6_become 46 = .ok (.imul, 1) := by decide +kernel
theorem dX6_become_47 : decode cX6_become 47 = .ok (.iload_n 1, 1) := by decide +kernel
theorem dX6_become_48 : decode cX6_become 48 = .ok (.iadd, 1) := by decide +kernel
theorem dX6_become_49 : decode cX6_become 49 = .ok (.iastore, 1) := by decide +kernel
theorem dX6_become_50 : decode cX6_become 50 = .ok (.aload_n 0, 1) := by decide +kernel
theorem dX6_become_51 : decode cX6_become 51 = .ok (.aload_n 0, 1) := by decide +kernel
theorem dX6_become_52 : decode cX6_become 52 = .ok (.getfield 102, 3) := by decide +kernel
theorem dX6_become_55 : decode cX6_become 55 = .ok (.bipush 16, 2) := by decide +kernel
theorem dX6_become_57 : decode cX6_become 57 = .ok (.if_icmp .ge 12, 3) := by decide +kernel
theorem dX6_become_60 : decode cX6_become 60 = .ok (.aload_n 0, 1) := by decide +kernel
theorem dX6_become_61 : decode cX6_become 61 = .ok (.getfield 102, 3) := by decide +kernel
theorem dX6_become_64 : decode cX6_become 64 = .ok (.iconst 1, 1) := by decide +kernel
theorem dX6_become_65 : decode cX6_become 65 = .ok (.iadd, 1) := by decide +kernel
theorem dX6_become_66 : decode cX6_become 66 = .ok (.goto 5, 3) := by decide +kernel
theorem dX6_become_69 : decode cX6_become 69 = .ok (.bipush 16, 2) := by decide +kernel
theorem dX6_become_71 : decode cX6_become 71 = .ok (.putfield 102, 3) := by decide +kernel
theorem dX6_become_74 : decode cX6_become 74 = .ok (.aload_n 0, 1) := by decide +kernel
theorem dX6_become_75 : decode cX6_become 75 = .ok (.iload_n 1, 1) := by decide +kernel
theorem dX6_become_76 : decode cX6_become 76 = .ok (.putfield 62, 3) := by decide +kernel
theorem dX6_become_79 : decode cX6_become 79 = .ok (.aload_n 0, 1) := by decide +kernel
theorem dX6_become_80 : decode cX6_become 80 = .ok (.aload_n 0, 1) := by decide +kernel
theorem dX6_become_81 : decode cX6_become 81 = .ok (.getfield 105, 3) := by decide +kernel
theorem dX6_become_84 : decode cX6_become 84 = .ok (.ifCond .eq 12, 3) := by decide +kernel
theorem dX6_become_87 : decode cX6_become 87 = .ok (.iload_n 1, 1) := by decide +kernel
theorem dX6_become_88 : decode cX6_become 88 = .ok (.iconst 5, 1) := by decide +kernel
theorem dX6_become_89 : decode cX6_become 89 = .ok (.if_icmp .ne 7, 3) := by decide +kernel
theorem dX6_become_92 : decode cX6_become 92 = .ok (.iconst 1, 1) := by decide +kernel
theorem dX6_become_93 : decode cX6_become 93 = .ok (.goto 4, 3) := by decide +kernel
theorem dX6_become_96 : decode cX6_become 96 = .ok (.iconst 0, 1) := by decide +kernel
theorem dX6_become_97 : decode cX6_become 97 = .ok (.putfield 105, 3) := by decide +kernel
theorem dX6_become_100 : decode cX6_become 100 = .ok (.return_, 1) := by decide +kernel
set_option maxRecDepth 20000 in
theorem ggX6_arm_X6_safeAt : GoodIn wsX6_arm wsX6_safeAt := goodIn_r _ [9, 2, 10, 11, 12, 13, 8, 14, 15, 16, 17, 18, 19, 20, 21, 22, 23, 24, 33, 34, 35, 36, 37, 38, 39, 40, 41, 42, 43, 44, 45, 46, 47, 48, 49, 50, 51, 52, 53, 54, 55] (by decide +kernel) (by decide +kernel)
set_option maxRecDepth 20000 in
theorem gX6_arm_X6_safeAt : GoodIn wsX6_arm (wsV RX6 74 RX6 yX6_safeAt wsX6_safeAt) := goodIn_app (goodIn_of _ (by decide +kernel)) ggX6_arm_X6_safeAt
set_option maxRecDepth 20000 in
theorem ggX6_arm_X6_become : GoodIn wsX6_arm wsX6_become := goodIn_r _ [28, 1, 29, 30, 31, 32, 33, 34, 35, 36, 37, 38, 39, 40, 41, 42, 43, 44, 45, 46, 47, 48, 49, 50, 51, 52, 53, 54, 55] (by decide +kernel) (by decide +kernel)
set_option maxRecDepth 20000 in
theorem gX6_arm_X6_become : GoodIn wsX6_arm (wsV RX6 109 RX6 yX6_become wsX6_become) := goodIn_app (goodIn_of _ (by decide +kernel)) ggX6_arm_X6_become
theorem dX6_arm_0 : decode cX6_arm 0 = .ok (.aload_n 0, 1) := by decide +kernel
theorem dX6_arm_1 : decode cX6_arm 1 = .ok (.getfield 62, 3) := by decide +kernel
theorem dX6_arm_4 : decode cX6_arm 4 = .ok (.ifCond .eq 5, 3) := by decide +kernel
theorem dX6_arm_7 : decode cX6_arm 7 = .ok (.iconst (-1), 1) := by decide +kernel
theorem dX6_arm_8 : decode cX6_arm 8 = .ok (.ireturn, 1) := by decide +kernel
theorem dX6_arm_9 : decode cX6_arm 9 = .ok (.aload_n 0, 1) := by decide +kernel
theorem dX6_arm_10 : decode cX6_arm 10 = .ok (.getfield 50, 3) := by decide +kernel
theorem dX6_arm_13 : decode cX6_arm 13 = .ok (.ifCond .ne 6, 3) := by decide +kernel
theorem dX6_arm_16 : decode cX6_arm 16 = .ok (.bipush (-7), 2) := by decide +kernel
theorem dX6_arm_18 : decode cX6_arm 18 = .ok (.ireturn, 1) := by decide +kernel
theorem dX6_arm_19 : decode cX6_arm 19 = .ok (.aload_n 0, 1) := by decide +kernel
theorem dX6_arm_20 : decode cX6_arm 20 = .ok (.getfield 32, 3) := by decide +kernel
theorem dX6_arm_23 : decode cX6_arm 23 = .ok (.ifCond .gt 22, 3) := by decide +kernel
theorem dX6_arm_26 : decode cX6_arm 26 = .ok (.aload_n 0, 1) := by decide +kernel
theorem dX6_arm_27 : decode cX6_arm 27 = .ok (.aload_n 0, 1) := by decide +kernel
theorem dX6_arm_28 : decode cX6_arm 28 = .ok (.getfield 26, 3) := by decide +kernel
theorem dX6_arm_31 : decode cX6_arm 31 = .ok (.iconst 0, 1) := by decide +kernel
theorem dX6_arm_32 : decode cX6_arm 32 = .ok (.iaload, 1) := by decide +kernel
theorem dX6_arm_33 : decode cX6_arm 33 = .ok (.aload_n 0, 1) := by decide +kernel
theorem dX6_arm_34 : decode cX6_arm 34 = .ok (.getfield 26, 3) := by decide +kernel
theorem dX6_arm_37 : decode cX6_arm 37 = .ok (.iconst 1, 1) := by decide +kernel
theorem dX6_arm_38 : decode cX6_arm 38 = .ok (.iaload, 1) := by decide +kernel
theorem dX6_arm_39 : decode cX6_arm 39 = .ok (.invokevirtual 74, 3) := by decide +kernel
theorem dX6_arm_42 : decode cX6_arm 42 = .ok (.ifCond .ne 6, 3) := by decide +kernel
theorem dX6_arm_45 : decode cX6_arm 45 = .ok (.bipush (-8), 2) := by decide +kernel
theorem dX6_arm_47 : decode cX6_arm 47 = .ok (.ireturn, 1) := by decide +kernel
theorem dX6_arm_48 : decode cX6_arm 48 = .ok (.aload_n 0, 1) := by decide +kernel
theorem dX6_arm_49 : decode cX6_arm 49 = .ok (.iconst 1, 1) := by decide +kernel
theorem dX6_arm_50 : decode cX6_arm 50 = .ok (.invokevirtual 109, 3) := by decide +kernel
theorem dX6_arm_53 : decode cX6_arm 53 = .ok (.iconst 0, 1) := by decide +kernel
theorem dX6_arm_54 : decode cX6_arm 54 = .ok (.ireturn, 1) := by decide +kernel
set_option maxRecDepth 20000 in
theorem ggX6_command_X6_within : GoodIn wsX6_command wsX6_within := goodIn_r _ [7] (by decide +kernel) (by decide +kernel)
set_option maxRecDepth 20000 in
theorem gX6_command_X6_within : GoodIn wsX6_command (va_wsS RX6 58 yX6_within wsX6_within) := goodIn_app (goodIn_of _ (by decide +kernel)) ggX6_command_X6_within
set_option maxRecDepth 20000 in
theorem ggX6_command_X6_become : GoodIn wsX6_command wsX6_become := goodIn_r _ [11, 1, 12, 13, 14, 2, 15, 16, 17, 18, 19, 20, 21, 22, 23, 24, 25, 26, 27, 28, 29, 30, 31, 32, 33, 34, 35, 36, 37] (by decide +kernel) (by decide +kernel)
set_option maxRecDepth 20000 in
theorem gX6_command_X6_become : GoodIn wsX6_command (wsV RX6 109 RX6 yX6_become wsX6_become) := goodIn_app (goodIn_of _ (by decide +kernel)) ggX6_command_X6_become
theorem dX6_command_0 : decode cX6_command 0 = .ok (.iload_n 1, 1) := by decide +kernel
theorem dX6_command_1 : decode cX6_command 1 = .ok (.iconst 2, 1) := by decide +kernel
theorem dX6_command_2 : decode cX6_command 2 = .ok (.iconst 5, 1) := by decide +kernel
theorem dX6_command_3 : decode cX6_command 3 = .ok (.invokestatic 58, 3) := by decide +kernel
theorem dX6_command_6 : decode cX6_command 6 = .ok (.ifCond .ne 6, 3) := by decide +kernel
theorem dX6_command_9 : decode cX6_command 9 = .ok (.bipush (-5), 2) := by decide +kernel
theorem dX6_command_11 : decode cX6_command 11 = .ok (.ireturn, 1) := by decide +kernel
theorem dX6_command_12 : decode cX6_command 12 = .ok (.aload_n 0, 1) := by decide +kernel
theorem dX6_command_13 : decode cX6_command 13 = .ok (.getfield 62, 3) := by decide +kernel
theorem dX6_command_16 : decode cX6_command 16 = .ok (.ifCond .ne 6, 3) := by decide +kernel
theorem dX6_command_19 : decode cX6_command 19 = .ok (.bipush (-9), 2) := by decide +kernel
theorem dX6_command_21 : decode cX6_command 21 = .ok (.ireturn, 1) := by decide +kernel
theorem dX6_command_22 : decode cX6_command 22 = .ok (.aload_n 0, 1) := by decide +kernel
theorem dX6_command_23 : decode cX6_command 23 = .ok (.getfield 105, 3) := by decide +kernel
theorem dX6_command_26 : decode cX6_command 26 = .ok (.ifCond .ne 16, 3) := by decide +kernel
theorem dX6_command_29 : decode cX6_command 29 = .ok (.aload_n 0, 1) := by decide +kernel
theorem dX6_command_30 : decode cX6_command 30 = .ok (.getfield 62, 3) := by decide +kernel
theorem dX6_command_33 : decode cX6_command 33 = .ok (.iconst 1, 1) := by decide +kernel
theorem dX6_command_34 : decode cX6_command 34 = .ok (.if_icmp .ne 11, 3) := by decide +kernel
theorem dX6_command_37 : decode cX6_command 37 = .ok (.iload_n 1, 1) := by decide +kernel
theorem dX6_command_38 : decode cX6_command 38 = .ok (.iconst 2, 1) := by decide +kernel
theorem dX6_command_39 : decode cX6_command 39 = .ok (.if_icmp .ne 6, 3) := by decide +kernel
theorem dX6_command_42 : decode cX6_command 42 = .ok (.bipush (-10), 2) := by decide +kernel
theorem dX6_command_44 : decode cX6_command 44 = .ok (.ireturn, 1) := by decide +kernel
theorem dX6_command_45 : decode cX6_command 45 = .ok (.iload_n 1, 1) := by decide +kernel
theorem dX6_command_46 : decode cX6_command 46 = .ok (.iconst 2, 1) := by decide +kernel
theorem dX6_command_47 : decode cX6_command 47 = .ok (.if_icmp .ne 13, 3) := by decide +kernel
theorem dX6_command_50 : decode cX6_command 50 = .ok (.aload_n 0, 1) := by decide +kernel
theorem dX6_command_51 : decode cX6_command 51 = .ok (.getfield 90, 3) := by decide +kernel
theorem dX6_command_54 : decode cX6_command 54 = .ok (.ifCond .ne 6, 3) := by decide +kernel
theorem dX6_command_57 : decode cX6_command 57 = .ok (.bipush (-11), 2) := by decide +kernel
theorem dX6_command_59 : decode cX6_command 59 = .ok (.ireturn, 1) := by decide +kernel
theorem dX6_command_60 : decode cX6_command 60 = .ok (.aload_n 0, 1) := by decide +kernel
theorem dX6_command_61 : decode cX6_command 61 = .ok (.iload_n 1, 1) := by decide +kernel
theorem dX6_command_62 : decode cX6_command 62 = .ok (.invokevirtual 109, 3) := by decide +kernel
theorem dX6_command_65 : decode cX6_command 65 = .ok (.iconst 0, 1) := by decide +kernel
theorem dX6_command_66 : decode cX6_command 66 = .ok (.ireturn, 1) := by decide +kernel
theorem dX6_lesser_0 : decode cX6_lesser 0 = .ok (.iload_n 0, 1) := by decide +kernel
theorem dX6_lesser_1 : decode cX6_lesser 1 = .ok (.iload_n 1, 1) := by decide +kernel
theorem dX6_lesser_2 : decode cX6_lesser 2 = .ok (.if_icmp .ge 7, 3) := by decide +kernel
theorem dX6_lesser_5 : decode cX6_lesser 5 = .ok (.iload_n 0, 1) := by decide +kernel
theorem dX6_lesser_6 : decode cX6_lesser 6 = .ok (.goto 4, 3) := by decide +kernel
theorem dX6_lesser_9 : decode cX6_lesser 9 = .ok (.iload_n 1, 1) := by decide +kernel
theorem dX6_lesser_10 : decode cX6_lesser 10 = .ok (.ireturn, 1) := by decide +kernel
theorem dX6_greater_0 : decode cX6_greater 0 = .ok (.iload_n 0, 1) := by decide +kernel
theorem dX6_greater_1 : decode cX6_greater 1 = .ok (.iload_n 1, 1) := by decide +kernel
theorem dX6_greater_2 : decode cX6_greater 2 = .ok (.if_icmp .le 7, 3) := by decide +kernel
theorem dX6_greater_5 : decode cX6_greater 5 = .ok (.iload_n 0, 1) := by decide +kernel
theorem dX6_greater_6 : decode cX6_greater 6 = .ok (.goto 4, 3) := by decide +kernel
theorem dX6_greater_9 : decode cX6_greater 9 = .ok (.iload_n 1, 1) := by decide +kernel
theorem dX6_greater_10 : decode cX6_greater 10 = .ok (.ireturn, 1) := by decide +kernel
theorem dX6_saturated_0 : decode cX6_saturated 0 = .ok (.iload_n 0, 1) := by decide +kernel
theorem dX6_saturated_1 : decode cX6_saturated 1 = .ok (.iload_n 1, 1) := by decide +kernel
theorem dX6_saturated_2 : decode cX6_saturated 2 = .ok (.if_icmp .le 7, 3) := by decide +kernel
theorem dX6_saturated_5 : decode cX6_saturated 5 = .ok (.iload_n 1, 1) := by decide +kernel
theorem dX6_saturated_6 : decode cX6_saturated 6 = .ok (.goto 15, 3) := by decide +kernel
theorem dX6_saturated_9 : decode cX6_saturated 9 = .ok (.iload_n 0, 1) := by decide +kernel
theorem dX6_saturated_10 : decode cX6_saturated 10 = .ok (.iload_n 1, 1) := by decide +kernel
theorem dX6_saturated_11 : decode cX6_saturated 11 = .ok (.ineg, 1) := by decide +kernel
theorem dX6_saturated_12 : decode cX6_saturated 12 = .ok (.if_icmp .ge 8, 3) := by decide +kernel
theorem dX6_saturated_15 : decode cX6_saturated 15 = .ok (.iload_n 1, 1) := by decide +kernel
theorem dX6_saturated_16 : decode cX6_saturated 16 = .ok (.ineg, 1) := by decide +kernel
theorem dX6_saturated_17 : decode cX6_saturated 17 = .ok (.goto 4, 3) := by decide +kernel
theorem dX6_saturated_20 : decode cX6_saturated 20 = .ok (.iload_n 0, 1) := by decide +kernel
theorem dX6_saturated_21 : decode cX6_saturated 21 = .ok (.ireturn, 1) := by decide +kernel
set_option maxRecDepth 20000 in
theorem ggX6_voted_X6_lesser : GoodIn wsX6_voted wsX6_lesser := goodIn_r _ [7] (by decide +kernel) (by decide +kernel)
set_option maxRecDepth 20000 in
theorem gX6_voted_X6_lesser : GoodIn wsX6_voted (va_wsS RX6 113 yX6_lesser wsX6_lesser) := goodIn_app (goodIn_of _ (by decide +kernel)) ggX6_voted_X6_lesser
set_option maxRecDepth 20000 in
theorem ggX6_voted_X6_greater : GoodIn wsX6_voted wsX6_greater := goodIn_r _ [10] (by decide +kernel) (by decide +kernel)
set_option maxRecDepth 20000 in
theorem gX6_voted_X6_greater : GoodIn wsX6_voted (va_wsS RX6 117 yX6_greater wsX6_greater) := goodIn_app (goodIn_of _ (by decide +kernel)) ggX6_voted_X6_greater
theorem dX6_voted_0 : decode cX6_voted 0 = .ok (.iconst 0, 1) := by decide +kernel
theorem dX6_voted_1 : decode cX6_voted 1 = .ok (.istore_n 2, 1) := by decide +kernel
theorem dX6_voted_2 : decode cX6_voted 2 = .ok (.sipush 30000, 3) := by decide +kernel
theorem dX6_voted_5 : decode cX6_voted 5 = .ok (.istore_n 3, 1) := by decide +kernel
theorem dX6_voted_6 : decode cX6_voted 6 = .ok (.sipush (-30000), 3) := by decide +kernel
theorem dX6_voted_9 : decode cX6_voted 9 = .ok (.istore 4, 2) := by decide +kernel
theorem dX6_voted_11 : decode cX6_voted 11 = .ok (.iconst 0, 1) := by decide +kernel
theorem dX6_voted_12 : decode cX6_voted 12 = .ok (.istore 5, 2) := by decide +kernel
theorem dX6_voted_14 : decode cX6_voted 14 = .ok (.iconst 0, 1) := by decide +kernel
theorem dX6_voted_15 : decode cX6_voted 15 = .ok (.istore 6, 2) := by decide +kernel
theorem dX6_voted_17 : decode cX6_voted 17 = .ok (.iload 6, 2) := by decide +kernel
theorem dX6_voted_19 : decode cX6_voted 19 = .ok (.iconst 3, 1) := by decide +kernel
theorem dX6_voted_20 : decode cX6_voted 20 = .ok (.if_icmp .ge 56, 3) := by decide +kernel
theorem dX6_voted_23 : decode cX6_voted 23 = .ok (.aload_n 0, 1) := by decide +kernel
theorem dX6_voted_24 : decode cX6_voted 24 = .ok (.getfield 19, 3) := by decide +kernel
theorem dX6_voted_27 : decode cX6_voted 27 = .ok (.iload 6, 2) := by decide +kernel
theorem dX6_voted_29 : decode cX6_voted 29 = .ok (.baload, 1) := by decide +kernel
theorem dX6_voted_30 : decode cX6_voted 30 = .ok (.ifCond .eq 40, 3) := by decide +kernel
theorem dX6_voted_33 : decode cX6_voted 33 = .ok (.aload_n 0, 1) := by decide +kernel
theorem dX6_voted_34 : decode cX6_voted 34 = .ok (.getfield 23, 3) := by decide +kernel
theorem dX6_voted_37 : decode cX6_voted 37 = .ok (.iconst 3, 1) := by decide +kernel
theorem dX6_voted_38 : decode cX6_voted 38 = .ok (.iload 6, 2) := by decide +kernel
theorem dX6_voted_40 : decode cX6_voted 40 = .ok (.imul, 1) := by decide +kernel
theorem dX6_voted_41 : decode cX6_voted 41 = .ok (.iload_n 1, 1) := by decide +kernel
theorem dX6_voted_42 : decode cX6_voted 42 = .ok (.iadd, 1) := by decide +kernel
theorem dX6_voted_43 : decode cX6_voted 43 = .ok (.iaload, 1) := by decide +kernel
theorem dX6_voted_44 : decode cX6_voted 44 = .ok (.istore 7, 2) := by decide +kernel
theorem dX6_voted_46 : decode cX6_voted 46 = .ok (.iload_n 2, 1) := by decide +kernel
theorem dX6_voted_47 : decode cX6_voted 47 = .ok (.iload 7, 2) := by decide +kernel
theorem dX6_voted_49 : decode cX6_voted 49 = .ok (.iadd, 1) := by decide +kernel
theorem dX6_voted_50 : decode cX6_voted 50 = .ok (.istore_n 2, 1) := by decide +kernel
theorem dX6_voted_51 : decode cX6_voted 51 = .ok (.iload_n 3, 1) := by decide +kernel
theorem dX6_voted_52 : decode cX6_voted 52 = .ok (.iload 7, 2) := by decide +kernel
theorem dX6_voted_54 : decode cX6_voted 54 = .ok (.invokestatic 113, 3) := by decide +kernel
theorem dX6_voted_57 : decode cX6_voted 57 = .ok (.istore_n 3, 1) := by decide +kernel
theorem dX6_voted_58 : decode cX6_voted 58 = .ok (.iload 4, 2) := by decide +kernel

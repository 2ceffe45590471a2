theorem dX11_init_0 : decode cX11_init 0 = .ok (.aload_n 0, 1) := by decide +kernel
theorem dX11_init_1 : decode cX11_init 1 = .ok (.invokespecial 1, 3) := by decide +kernel
theorem dX11_init_4 : decode cX11_init 4 = .ok (.aload_n 0, 1) := by decide +kernel
theorem dX11_init_5 : decode cX11_init 5 = .ok (.bipush 60, 2) := by decide +kernel
theorem dX11_init_7 : decode cX11_init 7 = .ok (.newarray .int, 2) := by decide +kernel
theorem dX11_init_9 : decode cX11_init 9 = .ok (.putfield 7, 3) := by decide +kernel
theorem dX11_init_12 : decode cX11_init 12 = .ok (.aload_n 0, 1) := by decide +kernel
theorem dX11_init_13 : decode cX11_init 13 = .ok (.bipush 8, 2) := by decide +kernel
theorem dX11_init_15 : decode cX11_init 15 = .ok (.newarray .int, 2) := by decide +kernel
theorem dX11_init_17 : decode cX11_init 17 = .ok (.putfield 13, 3) := by decide +kernel
theorem dX11_init_20 : decode cX11_init 20 = .ok (.aload_n 0, 1) := by decide +kernel
theorem dX11_init_21 : decode cX11_init 21 = .ok (.bipush 8, 2) := by decide +kernel
theorem dX11_init_23 : decode cX11_init 23 = .ok (.newarray .int, 2) := by decide +kernel
theorem dX11_init_25 : decode cX11_init 25 = .ok (.putfield 16, 3) := by decide +kernel
theorem dX11_init_28 : decode cX11_init 28 = .ok (.aload_n 0, 1) := by decide +kernel
theorem dX11_init_29 : decode cX11_init 29 = .ok (.bipush 8, 2) := by decide +kernel
theorem dX11_init_31 : decode cX11_init 31 = .ok (.newarray .int, 2) := by decide +kernel
theorem dX11_init_33 : decode cX11_init 33 = .ok (.putfield 19, 3) := by decide +kernel
theorem dX11_init_36 : decode cX11_init 36 = .ok (.aload_n 0, 1) := by decide +kernel
theorem dX11_init_37 : decode cX11_init 37 = .ok (.bipush 48, 2) := by decide +kernel
theorem dX11_init_39 : decode cX11_init 39 = .ok (.newarray .int, 2) := by decide +kernel
theorem dX11_init_41 : decode cX11_init 41 = .ok (.putfield 22, 3) := by decide +kernel
theorem dX11_init_44 : decode cX11_init 44 = .ok (.aload_n 0, 1) := by decide +kernel
theorem dX11_init_45 : decode cX11_init 45 = .ok (.bipush 48, 2) := by decide +kernel
theorem dX11_init_47 : decode cX11_init 47 = .ok (.newarray .int, 2) := by decide +kernel
theorem dX11_init_49 : decode cX11_init 49 = .ok (.putfield 25, 3) := by decide +kernel
theorem dX11_init_52 : decode cX11_init 52 = .ok (.aload_n 0, 1) := by decide +kernel
theorem dX11_init_53 : decode cX11_init 53 = .ok (.bipush 8, 2) := by decide +kernel
theorem dX11_init_55 : decode cX11_init 55 = .ok (.newarray .int, 2) := by decide +kernel
theorem dX11_init_57 : decode cX11_init 57 = .ok (.putfield 28, 3) := by decide +kernel
theorem dX11_init_60 : decode cX11_init 60 = .ok (.aload_n 0, 1) := by decide +kernel
theorem dX11_init_61 : decode cX11_init 61 = .ok (.bipush 8, 2) := by decide +kernel
theorem dX11_init_63 : decode cX11_init 63 = .ok (.newarray .int, 2) := by decide +kernel
theorem dX11_init_65 : decode cX11_init 65 = .ok (.putfield 31, 3) := by decide +kernel
theorem dX11_init_68 : decode cX11_init 68 = .ok (.aload_n 0, 1) := by decide +kernel
theorem dX11_init_69 : decode cX11_init 69 = .ok (.bipush 8, 2) := by decide +kernel
theorem dX11_init_71 : decode cX11_init 71 = .ok (.newarray .int, 2) := by decide +kernel
theorem dX11_init_73 : decode cX11_init 73 = .ok (.putfield 34, 3) := by decide +kernel
theorem dX11_init_76 : decode cX11_init 76 = .ok (.aload_n 0, 1) := by decide +kernel
theorem dX11_init_77 : decode cX11_init 77 = .ok (.bipush 8, 2) := by decide +kernel
theorem dX11_init_79 : decode cX11_init 79 = .ok (.newarray .int, 2) := by decide +kernel
theorem dX11_init_81 : decode cX11_init 81 = .ok (.putfield 37, 3) := by decide +kernel
theorem dX11_init_84 : decode cX11_init 84 = .ok (.aload_n 0, 1) := by decide +kernel
theorem dX11_init_85 : decode cX11_init 85 = .ok (.bipush 8, 2) := by decide +kernel
theorem dX11_init_87 : decode cX11_init 87 = .ok (.newarray .int, 2) := by decide +kernel
theorem dX11_init_89 : decode cX11_init 89 = .ok (.putfield 40, 3) := by decide +kernel
theorem dX11_init_92 : decode cX11_init 92 = .ok (.aload_n 0, 1) := by decide +kernel
theorem dX11_init_93 : decode cX11_init 93 = .ok (.bipush 8, 2) := by decide +kernel
theorem dX11_init_95 : decode cX11_init 95 = .ok (.newarray .int, 2) := by decide +kernel
theorem dX11_init_97 : decode cX11_init 97 = .ok (.putfield 43, 3) := by decide +kernel
theorem dX11_init_100 : decode cX11_init 100 = .ok (.aload_n 0, 1) := by decide +kernel
theorem dX11_init_101 : decode cX11_init 101 = .ok (.bipush 8, 2) := by decide +kernel
theorem dX11_init_103 : decode cX11_init 103 = .ok (.newarray .int, 2) := by decide +kernel
theorem dX11_init_105 : decode cX11_init 105 = .ok (.putfield 46, 3) := by decide +kernel
theorem dX11_init_108 : decode cX11_init 108 = .ok (.aload_n 0, 1) := by decide +kernel
theorem dX11_init_109 : decode cX11_init 109 = .ok (.bipush (-6), 2) := by decide +kernel
theorem dX11_init_111 : decode cX11_init 111 = .ok (.putfield 49, 3) := by decide +kernel
theorem dX11_init_114 : decode cX11_init 114 = .ok (.aload_n 0, 1) := by decide +kernel
theorem dX11_init_115 : decode cX11_init 115 = .ok (.bipush 9, 2) := by decide +kernel
theorem dX11_init_117 : decode cX11_init 117 = .ok (.newarray .int, 2) := by decide +kernel
theorem dX11_init_119 : decode cX11_init 119 = .ok (.putfield 53, 3) := by decide +kernel
theorem dX11_init_122 : decode cX11_init 122 = .ok (.aload_n 0, 1) := by decide +kernel
theorem dX11_init_123 : decode cX11_init 123 = .ok (.bipush 9, 2) := by decide +kernel
theorem dX11_init_125 : decode cX11_init 125 = .ok (.newarray .int, 2) := by decide +kernel
theorem dX11_init_127 : decode cX11_init 127 = .ok (.putfield 56, 3) := by decide +kernel
theorem dX11_init_130 : decode cX11_init 130 = .ok (.aload_n 0, 1) := by decide +kernel
theorem dX11_init_131 : decode cX11_init 131 = .ok (.bipush 9, 2) := by decide +kernel
theorem dX11_init_133 : decode cX11_init 133 = .ok (.newarray .int, 2) := by decide +kernel
theorem dX11_init_135 : decode cX11_init 135 = .ok (.putfield 59, 3) := by decide +kernel
theorem dX11_init_138 : decode cX11_init 138 = .ok (.aload_n 0, 1) := by decide +kernel
theorem dX11_init_139 : decode cX11_init 139 = .ok (.bipush 9, 2) := by decide +kernel
theorem dX11_init_141 : decode cX11_init 141 = .ok (.newarray .int, 2) := by decide +kernel
theorem dX11_init_143 : decode cX11_init 143 = .ok (.putfield 62, 3) := by decide +kernel
theorem dX11_init_146 : decode cX11_init 146 = .ok (.aload_n 0, 1) := by decide +kernel
theorem dX11_init_147 : decode cX11_init 147 = .ok (.bipush 9, 2) := by decide +kernel
theorem dX11_init_149 : decode cX11_init 149 = .ok (.newarray .int, 2) := by decide +kernel
theorem dX11_init_151 : decode cX11_init 151 = .ok (.putfield 65, 3) := by decide +kernel
theorem dX11_init_154 : decode cX11_init 154 = .ok (.aload_n 0, 1) := by decide +kernel
theorem dX11_init_155 : decode cX11_init 155 = .ok (.bipush 8, 2) := by decide +kernel
theorem dX11_init_157 : decode cX11_init 157 = .ok (.newarray .int, 2) := by decide +kernel
theorem dX11_init_159 : decode cX11_init 159 = .ok (.putfield 68, 3) := by decide +kernel
theorem dX11_init_162 : decode cX11_init 162 = .ok (.aload_n 0, 1) := by decide +kernel
theorem dX11_init_163 : decode cX11_init 163 = .ok (.bipush 102, 2) := by decide +kernel
theorem dX11_init_165 : decode cX11_init 165 = .ok (.newarray .boolean, 2) := by decide +kernel
theorem dX11_init_167 : decode cX11_init 167 = .ok (.putfield 71, 3) := by decide +kernel
theorem dX11_init_170 : decode cX11_init 170 = .ok (.aload_n 0, 1) := by decide +kernel
theorem dX11_init_171 : decode cX11_init 171 = .ok (.bipush 8, 2) := by decide +kernel
theorem dX11_init_173 : decode cX11_init 173 = .ok (.newarray .int, 2) := by decide +kernel
theorem dX11_init_175 : decode cX11_init 175 = .ok (.putfield 75, 3) := by decide +kernel
theorem dX11_init_178 : decode cX11_init 178 = .ok (.aload_n 0, 1) := by decide +kernel
theorem dX11_init_179 : decode cX11_init 179 = .ok (.sipush 800, 3) := by decide +kernel
theorem dX11_init_182 : decode cX11_init 182 = .ok (.newarray .int, 2) := by decide +kernel
theorem dX11_init_184 : decode cX11_init 184 = .ok (.putfield 78, 3) := by decide +kernel
theorem dX11_init_187 : decode cX11_init 187 = .ok (.aload_n 0, 1) := by decide +kernel
theorem dX11_init_188 : decode cX11_init 188 = .ok (.iconst 2, 1) := by decide +kernel
theorem dX11_init_189 : decode cX11_init 189 = .ok (.newarray .boolean, 2) := by decide +kernel
theorem dX11_init_191 : decode cX11_init 191 = .ok (.putfield 81, 3) := by decide +kernel
theorem dX11_init_194 : decode cX11_init 194 = .ok (.return_, 1) := by decide +kernel
theorem dX11_in_0 : decode cX11_in 0 = .ok (.lload_n 0, 1) := by decide +kernel
theorem dX11_in_1 : decode cX11_in 1 = .ok (.lload_n 2, 1) := by decide +kernel
theorem dX11_in_2 : decode cX11_in 2 = .ok (.lcmp, 1) := by decide +kernel
theorem dX11_in_3 : decode cX11_in 3 = .ok (.ifCond .lt 14, 3) := by decide +kernel
theorem dX11_in_6 : decode cX11_in 6 = .ok (.lload_n 0, 1) := by decide +kernel
theorem dX11_in_7 : decode cX11_in 7 = .ok (.lload 4, 2) := by decide +kernel
theorem dX11_in_9 : decode cX11_in 9 = .ok (.lcmp, 1) := by decide +kernel
theorem dX11_in_10 : decode cX11_in 10 = .ok (.ifCond .gt 7, 3) := by decide +kernel
theorem dX11_in_13 : decode cX11_in 13 = .ok (.iconst 1, 1) := by decide +kernel
theorem dX11_in_14 : decode cX11_in 14 = .ok (.goto 4, 3) := by decide +kernel
theorem dX11_in_17 : decode cX11_in 17 = .ok (.iconst 0, 1) := by decide +kernel
theorem dX11_in_18 : decode cX11_in 18 = .ok (.ireturn, 1) := by decide +kernel
theorem dX11_ones_0 : decode cX11_ones 0 = .ok (.iconst 0, 1) := by decide +kernel
theorem dX11_ones_1 : decode cX11_ones 1 = .ok (.istore_n 1, 1) := by decide +kernel
theorem dX11_ones_2 : decode cX11_ones 2 = .ok (.iconst 0, 1) := by decide +kernel
theorem dX11_ones_3 : decode cX11_ones 3 = .ok (.istore_n 2, 1) := by decide +kernel
theorem dX11_ones_4 : decode cX11_ones 4 = .ok (.iload_n 2, 1) := by decide +kernel
theorem dX11_ones_5 : decode cX11_ones 5 = .ok (.bipush 8, 2) := by decide +kernel
theorem dX11_ones_7 : decode cX11_ones 7 = .ok (.if_icmp .ge 17, 3) := by decide +kernel
theorem dX11_ones_10 : decode cX11_ones 10 = .ok (.iload_n 1, 1) := by decide +kernel
theorem dX11_ones_11 : decode cX11_ones 11 = .ok (.iload_n 0, 1) := by decide +kernel
theorem dX11_ones_12 : decode cX11_ones 12 = .ok (.iload_n 2, 1) := by decide +kernel
theorem dX11_ones_13 : decode cX11_ones 13 = .ok (.ishr, 1) := by decide +kernel
theorem dX11_ones_14 : decode cX11_ones 14 = .ok (.iconst 1, 1) := by decide +kernel
theorem dX11_ones_15 : decode cX11_ones 15 = .ok (.iand, 1) := by decide +kernel
theorem dX11_ones_16 : decode cX11_ones 16 = .ok (.iadd, 1) := by decide +kernel
theorem dX11_ones_17 : decode cX11_ones 17 = .ok (.istore_n 1, 1) := by decide +kernel
theorem dX11_ones_18 : decode cX11_ones 18 = .ok (.iinc 2 1, 3) := by decide +kernel
theorem dX11_ones_21 : decode cX11_ones 21 = .ok (.goto (-17), 3) := by decide +kernel
theorem dX11_ones_24 : decode cX11_ones 24 = .ok (.iload_n 1, 1) := by decide +kernel
theorem dX11_ones_25 : decode cX11_ones 25 = .ok (.ireturn, 1) := by decide +kernel
theorem dX11_isDay_0 : decode cX11_isDay 0 = .ok (.iload_n 0, 1) := by decide +kernel
theorem dX11_isDay_1 : decode cX11_isDay 1 = .ok (.i2l, 1) := by decide +kernel
theorem dX11_isDay_2 : decode cX11_isDay 2 = .ok (.lconst 0, 1) := by decide +kernel
theorem dX11_isDay_3 : decode cX11_isDay 3 = .ok (.ldc2_w 84, 3) := by decide +kernel
theorem dX11_isDay_6 : decode cX11_isDay 6 = .ok (.invokestatic 86, 3) := by decide +kernel
theorem dX11_isDay_9 : decode cX11_isDay 9 = .ok (.ireturn, 1) := by decide +kernel
theorem dX11_say_0 : decode cX11_say 0 = .ok (.iload_n 1, 1) := by decide +kernel
theorem dX11_say_1 : decode cX11_say 1 = .ok (.i2l, 1) := by decide +kernel
theorem dX11_say_2 : decode cX11_say 2 = .ok (.ldc2_w 90, 3) := by decide +kernel
theorem dX11_say_5 : decode cX11_say 5 = .ok (.ldc2_w 92, 3) := by decide +kernel
theorem dX11_say_8 : decode cX11_say 8 = .ok (.invokestatic 86, 3) := by decide +kernel
theorem dX11_say_11 : decode cX11_say 11 = .ok (.ifCond .ne 6, 3) := by decide +kernel
theorem dX11_say_14 : decode cX11_say 14 = .ok (.bipush (-2), 2) := by decide +kernel
theorem dX11_say_16 : decode cX11_say 16 = .ok (.ireturn, 1) := by decide +kernel
theorem dX11_say_17 : decode cX11_say 17 = .ok (.aload_n 0, 1) := by decide +kernel
theorem dX11_say_18 : decode cX11_say 18 = .ok (.getfield 94, 3) := by decide +kernel
theorem dX11_say_21 : decode cX11_say 21 = .ok (.bipush 60, 2) := by decide +kernel
theorem dX11_say_23 : decode cX11_say 23 = .ok (.if_icmp .ne 6, 3) := by decide +kernel
theorem dX11_say_26 : decode cX11_say 26 = .ok (.bipush (-4), 2) := by decide +kernel
theorem dX11_say_28 : decode cX11_say 28 = .ok (.ireturn, 1) := by decide +kernel
theorem dX11_say_29 : decode cX11_say 29 = .ok (.aload_n 0, 1) := by decide +kernel
theorem dX11_say_30 : decode cX11_say 30 = .ok (.getfield 7, 3) := by decide +kernel
theorem dX11_say_33 : decode cX11_say 33 = .ok (.aload_n 0, 1) := by decide +kernel
theorem dX11_say_34 : decode cX11_say 34 = .ok (.getfield 94, 3) := by decide +kernel
theorem dX11_say_37 : decode cX11_say 37 = .ok (.iload_n 1, 1) := by decide +kernel
theorem dX11_say_38 : decode cX11_say 38 = .ok (.iastore, 1) := by decide +kernel
theorem dX11_say_39 : decode cX11_say 39 = .ok (.aload_n 0, 1) := by decide +kernel
theorem dX11_say_40 : decode cX11_say 40 = .ok (.dup, 1) := by decide +kernel
theorem dX11_say_41 : decode cX11_say 41 = .ok (.getfield 94, 3) := by decide +kernel
theorem dX11_say_44 : decode cX11_say 44 = .ok (.iconst 1, 1) := by decide +kernel
theorem dX11_say_45 : decode cX11_say 45 = .ok (.iadd, 1) := by decide +kernel
theorem dX11_say_46 : decode cX11_say 46 = .ok (.putfield 94, 3) := by decide +kernel
theorem dX11_say_49 : decode cX11_say 49 = .ok (.aload_n 0, 1) := by decide +kernel
theorem dX11_say_50 : decode cX11_say 50 = .ok (.getfield 94, 3) := by decide +kernel
theorem dX11_say_53 : decode cX11_say 53 = .ok (.ireturn, 1) := by decide +kernel
theorem dX11_wipe_0 : decode cX11_wipe 0 = .ok (.aload_n 0, 1) := by decide +kernel
theorem dX11_wipe_1 : decode cX11_wipe 1 = .ok (.getfield 94, 3) := by decide +kernel
theorem dX11_wipe_4 : decode cX11_wipe 4 = .ok (.istore_n 1, 1) := by decide +kernel
theorem dX11_wipe_5 : decode cX11_wipe 5 = .ok (.aload_n 0, 1) := by decide +kernel
theorem dX11_wipe_6 : decode cX11_wipe 6 = .ok (.iconst 0, 1) := by decide +kernel
theorem dX11_wipe_7 : decode cX11_wipe 7 = .ok (.putfield 94, 3) := by decide +kernel
theorem dX11_wipe_10 : decode cX11_wipe 10 = .ok (.iload_n 1, 1) := by decide +kernel
theorem dX11_wipe_11 : decode cX11_wipe 11 = .ok (.ireturn, 1) := by decide +kernel
theorem dX11_isDigit_0 : decode cX11_isDigit 0 = .ok (.iload_n 0, 1) := by decide +kernel
theorem dX11_isDigit_1 : decode cX11_isDigit 1 = .ok (.i2l, 1) := by decide +kernel
theorem dX11_isDigit_2 : decode cX11_isDigit 2 = .ok (.ldc2_w 97, 3) := by decide +kernel
theorem dX11_isDigit_5 : decode cX11_isDigit 5 = .ok (.ldc2_w 99, 3) := by decide +kernel
theorem dX11_isDigit_8 : decode cX11_isDigit 8 = .ok (.invokestatic 86, 3) := by decide +kernel
theorem dX11_isDigit_11 : decode cX11_isDigit 11 = .ok (.ireturn, 1) := by decide +kernel
theorem dX11_isTime_0 : decode cX11_isTime 0 = .ok (.iload_n 0, 1) := by decide +kernel
theorem dX11_isTime_1 : decode cX11_isTime 1 = .ok (.bipush 110, 2) := by decide +kernel
theorem dX11_isTime_3 : decode cX11_isTime 3 = .ok (.if_icmp .eq 15, 3) := by decide +kernel
theorem dX11_isTime_6 : decode cX11_isTime 6 = .ok (.iload_n 0, 1) := by decide +kernel
theorem dX11_isTime_7 : decode cX11_isTime 7 = .ok (.bipush 104, 2) := by decide +kernel
theorem dX11_isTime_9 : decode cX11_isTime 9 = .ok (.if_icmp .eq 9, 3) := by decide +kernel
theorem dX11_isTime_12 : decode cX11_isTime 12 = .ok (.iload_n 0, 1) := by decide +kernel
theorem dX11_isTime_13 : decode cX11_isTime 13 = .ok (.bipush 97, 2) := by decide +kernel
theorem dX11_isTime_15 : decode cX11_isTime 15 = .ok (.if_icmp .ne 7, 3) := by decide +kernel
theorem dX11_isTime_18 : decode cX11_isTime 18 = .ok (.iconst 1, 1) := by decide +kernel
theorem dX11_isTime_19 : decode cX11_isTime 19 = .ok (.goto 4, 3) := by decide +kernel
theorem dX11_isTime_22 : decode cX11_isTime 22 = .ok (.iconst 0, 1) := by decide +kernel
theorem dX11_isTime_23 : decode cX11_isTime 23 = .ok (.ireturn, 1) := by decide +kernel
theorem dX11_isWay_0 : decode cX11_isWay 0 = .ok (.iload_n 0, 1) := by decide +kernel
theorem dX11_isWay_1 : decode cX11_isWay 1 = .ok (.bipush 99, 2) := by decide +kernel
theorem dX11_isWay_3 : decode cX11_isWay 3 = .ok (.if_icmp .eq 15, 3) := by decide +kernel
theorem dX11_isWay_6 : decode cX11_isWay 6 = .ok (.iload_n 0, 1) := by decide +kernel
theorem dX11_isWay_7 : decode cX11_isWay 7 = .ok (.bipush 98, 2) := by decide +kernel
theorem dX11_isWay_9 : decode cX11_isWay 9 = .ok (.if_icmp .eq 9, 3) := by decide +kernel
theorem dX11_isWay_12 : decode cX11_isWay 12 = .ok (.iload_n 0, 1) := by decide +kernel
theorem dX11_isWay_13 : decode cX11_isWay 13 = .ok (.bipush 108, 2) := by decide +kernel
theorem dX11_isWay_15 : decode cX11_isWay 15 = .ok (.if_icmp .ne 7, 3) := by decide +kernel
theorem dX11_isWay_18 : decode cX11_isWay 18 = .ok (.iconst 1, 1) := by decide +kernel
theorem dX11_isWay_19 : decode cX11_isWay 19 = .ok (.goto 4, 3) := by decide +kernel
theorem dX11_isWay_22 : decode cX11_isWay 22 = .ok (.iconst 0, 1) := by decide +kernel
theorem dX11_isWay_23 : decode cX11_isWay 23 = .ok (.ireturn, 1) := by decide +kernel
theorem dX11_beginText_0 : decode cX11_beginText 0 = .ok (.aload_n 0, 1) := by decide +kernel
theorem dX11_beginText_1 : decode cX11_beginText 1 = .ok (.iconst 1, 1) := by decide +kernel
theorem dX11_beginText_2 : decode cX11_beginText 2 = .ok (.putfield 101, 3) := by decide +kernel
theorem dX11_beginText_5 : decode cX11_beginText 5 = .ok (.aload_n 0, 1) := by decide +kernel
theorem dX11_beginText_6 : decode cX11_beginText 6 = .ok (.iconst (-1), 1) := by decide +kernel
theorem dX11_beginText_7 : decode cX11_beginText 7 = .ok (.putfield 104, 3) := by decide +kernel
theorem dX11_beginText_10 : decode cX11_beginText 10 = .ok (.aload_n 0, 1) := by decide +kernel
theorem dX11_beginText_11 : decode cX11_beginText 11 = .ok (.iconst 0, 1) := by decide +kernel
theorem dX11_beginText_12 : decode cX11_beginText 12 = .ok (.putfield 107, 3) := by decide +kernel
theorem dX11_beginText_15 : decode cX11_beginText 15 = .ok (.return_, 1) := by decide +kernel
theorem dX11_behindGift_0 : decode cX11_behindGift 0 = .ok (.iload_n 1, 1) := by decide +kernel
theorem dX11_behindGift_1 : decode cX11_behindGift 1 = .ok (.bipush 124, 2) := by decide +kernel
theorem dX11_behindGift_3 : decode cX11_behindGift 3 = .ok (.if_icmp .ne 29, 3) := by decide +kernel
theorem dX11_behindGift_6 : decode cX11_behindGift 6 = .ok (.aload_n 0, 1) := by decide +kernel
theorem dX11_behindGift_7 : decode cX11_behindGift 7 = .ok (.getfield 101, 3) := by decide +kernel
theorem dX11_behindGift_10 : decode cX11_behindGift 10 = .ok (.bipush 6, 2) := by decide +kernel
theorem dX11_behindGift_12 : decode cX11_behindGift 12 = .ok (.if_icmp .ge 20, 3) := by decide +kernel
theorem dX11_behindGift_15 : decode cX11_behindGift 15 = .ok (.aload_n 0, 1) := by decide +kernel
theorem dX11_behindGift_16 : decode cX11_behindGift 16 = .ok (.dup, 1) := by decide +kernel
theorem dX11_behindGift_17 : decode cX11_behindGift 17 = .ok (.getfield 101, 3) := by decide +kernel
theorem dX11_behindGift_20 : decode cX11_behindGift 20 = .ok (.iconst 1, 1) := by decide +kernel
theorem dX11_behindGift_21 : decode cX11_behindGift 21 = .ok (.iadd, 1) := by decide +kernel
theorem dX11_behindGift_22 : decode cX11_behindGift 22 = .ok (.putfield 101, 3) := by decide +kernel
theorem dX11_behindGift_25 : decode cX11_behindGift 25 = .ok (.aload_n 0, 1) := by decide +kernel
theorem dX11_behindGift_26 : decode cX11_behindGift 26 = .ok (.iconst (-1), 1) := by decide +kernel
theorem dX11_behindGift_27 : decode cX11_behindGift 27 = .ok (.putfield 104, 3) := by decide +kernel
theorem dX11_behindGift_30 : decode cX11_behindGift 30 = .ok (.iconst 0, 1) := by decide +kernel
theorem dX11_behindGift_31 : decode cX11_behindGift 31 = .ok (.ireturn, 1) := by decide +kernel
theorem dX11_behindGift_32 : decode cX11_behindGift 32 = .ok (.iload_n 1, 1) := by decide +kernel
theorem dX11_behindGift_33 : decode cX11_behindGift 33 = .ok (.bipush 47, 2) := by decide +kernel
theorem dX11_behindGift_35 : decode cX11_behindGift 35 = .ok (.if_icmp .ne 8, 3) := by decide +kernel
theorem dX11_behindGift_38 : decode cX11_behindGift 38 = .ok (.bipush 8, 2) := by decide +kernel
theorem dX11_behindGift_40 : decode cX11_behindGift 40 = .ok (.goto 4, 3) := by decide +kernel
theorem dX11_behindGift_43 : decode cX11_behindGift 43 = .ok (.iconst (-1), 1) := by decide +kernel
theorem dX11_behindGift_44 : decode cX11_behindGift 44 = .ok (.ireturn, 1) := by decide +kernel
theorem dX11_beginWord_0 : decode cX11_beginWord 0 = .ok (.iload_n 1, 1) := by decide +kernel
theorem dX11_beginWord_1 : decode cX11_beginWord 1 = .ok (.invokestatic 110, 3) := by decide +kernel
theorem dX11_beginWord_4 : decode cX11_beginWord 4 = .ok (.ifCond .eq 24, 3) := by decide +kernel
theorem dX11_beginWord_7 : decode cX11_beginWord 7 = .ok (.aload_n 0, 1) := by decide +kernel
theorem dX11_beginWord_8 : decode cX11_beginWord 8 = .ok (.getfield 107, 3) := by decide +kernel
theorem dX11_beginWord_11 : decode cX11_beginWord 11 = .ok (.iconst 1, 1) := by decide +kernel
theorem dX11_beginWord_12 : decode cX11_beginWord 12 = .ok (.if_icmp .ge 16, 3) := by decide +kernel
theorem dX11_beginWord_15 : decode cX11_beginWord 15 = .ok (.aload_n 0, 1) := by decide +kernel
theorem dX11_beginWord_16 : decode cX11_beginWord 16 = .ok (.iconst 1, 1) := by decide +kernel
theorem dX11_beginWord_17 : decode cX11_beginWord 17 = .ok (.putfield 107, 3) := by decide +kernel
theorem dX11_beginWord_20 : decode cX11_beginWord 20 = .ok (.aload_n 0, 1) := by decide +kernel
theorem dX11_beginWord_21 : decode cX11_beginWord 21 = .ok (.iload_n 1, 1) := by decide +kernel
theorem dX11_beginWord_22 : decode cX11_beginWord 22 = .ok (.putfield 114, 3) := by decide +kernel
theorem dX11_beginWord_25 : decode cX11_beginWord 25 = .ok (.bipush 9, 2) := by decide +kernel
theorem dX11_beginWord_27 : decode cX11_beginWord 27 = .ok (.ireturn, 1) := by decide +kernel
theorem dX11_beginWord_28 : decode cX11_beginWord 28 = .ok (.iload_n 1, 1) := by decide +kernel
theorem dX11_beginWord_29 : decode cX11_beginWord 29 = .ok (.bipush 119, 2) := by decide +kernel
theorem dX11_beginWord_31 : decode cX11_beginWord 31 = .ok (.if_icmp .ne 19, 3) := by decide +kernel
theorem dX11_beginWord_34 : decode cX11_beginWord 34 = .ok (.aload_n 0, 1) := by decide +kernel
theorem dX11_beginWord_35 : decode cX11_beginWord 35 = .ok (.getfield 107, 3) := by decide +kernel
theorem dX11_beginWord_38 : decode cX11_beginWord 38 = .ok (.iconst 2, 1) := by decide +kernel
theorem dX11_beginWord_39 : decode cX11_beginWord 39 = .ok (.if_icmp .ge 11, 3) := by decide +kernel
theorem dX11_beginWord_42 : decode cX11_beginWord 42 = .ok (.aload_n 0, 1) := by decide +kernel
theorem dX11_beginWord_43 : decode cX11_beginWord 43 = .ok (.iconst 2, 1) := by decide +kernel
theorem dX11_beginWord_44 : decode cX11_beginWord 44 = .ok (.putfield 107, 3) := by decide +kernel
theorem dX11_beginWord_47 : decode cX11_beginWord 47 = .ok (.bipush 12, 2) := by decide +kernel
theorem dX11_beginWord_49 : decode cX11_beginWord 49 = .ok (.ireturn, 1) := by decide +kernel
theorem dX11_beginWord_50 : decode cX11_beginWord 50 = .ok (.iload_n 1, 1) := by decide +kernel
theorem dX11_beginWord_51 : decode cX11_beginWord 51 = .ok (.bipush 116, 2) := by decide +kernel
theorem dX11_beginWord_53 : decode cX11_beginWord 53 = .ok (.if_icmp .ne 19, 3) := by decide +kernel
theorem dX11_beginWord_56 : decode cX11_beginWord 56 = .ok (.aload_n 0, 1) := by decide +kernel
theorem dX11_beginWord_57 : decode cX11_beginWord 57 = .ok (.getfield 107, 3) := by decide +kernel
theorem dX11_beginWord_60 : decode cX11_beginWord 60 = .ok (.iconst 3, 1) := by decide +kernel
theorem dX11_beginWord_61 : decode cX11_beginWord 61 = .ok (.if_icmp .ge 11, 3) := by decide +kernel
theorem dX11_beginWord_64 : decode cX11_beginWord 64 = .ok (.aload_n 0, 1) := by decide +kernel
theorem dX11_beginWord_65 : decode cX11_beginWord 65 = .ok (.iconst 3, 1) := by decide +kernel
theorem dX11_beginWord_66 : decode cX11_beginWord 66 = .ok (.putfield 107, 3) := by decide +kernel
theorem dX11_beginWord_69 : decode cX11_beginWord 69 = .ok (.bipush 13, 2) := by decide +kernel
theorem dX11_beginWord_71 : decode cX11_beginWord 71 = .ok (.ireturn, 1) := by decide +kernel
theorem dX11_beginWord_72 : decode cX11_beginWord 72 = .ok (.iload_n 1, 1) := by decide +kernel
theorem dX11_beginWord_73 : decode cX11_beginWord 73 = .ok (.bipush 117, 2) := by decide +kernel
theorem dX11_beginWord_75 : decode cX11_beginWord 75 = .ok (.if_icmp .ne 11, 3) := by decide +kernel
theorem dX11_beginWord_78 : decode cX11_beginWord 78 = .ok (.aload_n 0, 1) := by decide +kernel
theorem dX11_beginWord_79 : decode cX11_beginWord 79 = .ok (.iconst 3, 1) := by decide +kernel
theorem dX11_beginWord_80 : decode cX11_beginWord 80 = .ok (.putfield 107, 3) := by decide +kernel
theorem dX11_beginWord_83 : decode cX11_beginWord 83 = .ok (.bipush 18, 2) := by decide +kernel
theorem dX11_beginWord_85 : decode cX11_beginWord 85 = .ok (.ireturn, 1) := by decide +kernel
theorem dX11_beginWord_86 : decode cX11_beginWord 86 = .ok (.iconst (-1), 1) := by decide +kernel
theorem dX11_beginWord_87 : decode cX11_beginWord 87 = .ok (.ireturn, 1) := by decide +kernel
theorem dX11_stepOf_0 : decode cX11_stepOf 0 = .ok (.iload_n 1, 1) := by decide +kernel
theorem dX11_stepOf_1 : decode cX11_stepOf 1 = .ok (.tableswitch 202 0 8 #[51, 51, 117, 129, 153, 170, 176, 202, 196], 51) := by decide +kernel
theorem dX11_stepOf_52 : decode cX11_stepOf 52 = .ok (.iload_n 2, 1) := by decide +kernel
theorem dX11_stepOf_53 : decode cX11_stepOf 53 = .ok (.i2l, 1) := by decide +kernel
theorem dX11_stepOf_54 : decode cX11_stepOf 54 = .ok (.ldc2_w 117, 3) := by decide +kernel
theorem dX11_stepOf_57 : decode cX11_stepOf 57 = .ok (.ldc2_w 119, 3) := by decide +kernel
theorem dX11_stepOf_60 : decode cX11_stepOf 60 = .ok (.invokestatic 86, 3) := by decide +kernel
theorem dX11_stepOf_63 : decode cX11_stepOf 63 = .ok (.ifCond .eq 24, 3) := by decide +kernel
theorem dX11_stepOf_66 : decode cX11_stepOf 66 = .ok (.iload_n 2, 1) := by decide +kernel
theorem dX11_stepOf_67 : decode cX11_stepOf 67 = .ok (.bipush 97, 2) := by decide +kernel
theorem dX11_stepOf_69 : decode cX11_stepOf 69 = .ok (.isub, 1) := by decide +kernel
theorem dX11_stepOf_70 : decode cX11_stepOf 70 = .ok (.aload_n 0, 1) := by decide +kernel
theorem dX11_stepOf_71 : decode cX11_stepOf 71 = .ok (.getfield 104, 3) := by decide +kernel
theorem dX11_stepOf_74 : decode cX11_stepOf 74 = .ok (.if_icmp .le 13, 3) := by decide +kernel
theorem dX11_stepOf_77 : decode cX11_stepOf 77 = .ok (.aload_n 0, 1) := by decide +kernel
theorem dX11_stepOf_78 : decode cX11_stepOf 78 = .ok (.iload_n 2, 1) := by decide +kernel
theorem dX11_stepOf_79 : decode cX11_stepOf 79 = .ok (.bipush 97, 2) := by decide +kernel
theorem dX11_stepOf_81 : decode cX11_stepOf 81 = .ok (.isub, 1) := by decide +kernel
theorem dX11_stepOf_82 : decode cX11_stepOf 82 = .ok (.putfield 104, 3) := by decide +kernel
theorem dX11_stepOf_85 : decode cX11_stepOf 85 = .ok (.iconst 1, 1) := by decide +kernel
theorem dX11_stepOf_86 : decode cX11_stepOf 86 = .ok (.ireturn, 1) := by decide +kernel
theorem dX11_stepOf_87 : decode cX11_stepOf 87 = .ok (.iload_n 1, 1) := by decide +kernel
theorem dX11_stepOf_88 : decode cX11_stepOf 88 = .ok (.ifCond .ne 13, 3) := by decide +kernel
theorem dX11_stepOf_91 : decode cX11_stepOf 91 = .ok (.iload_n 2, 1) := by decide +kernel
theorem dX11_stepOf_92 : decode cX11_stepOf 92 = .ok (.bipush 42, 2) := by decide +kernel
theorem dX11_stepOf_94 : decode cX11_stepOf 94 = .ok (.if_icmp .ne 7, 3) := by decide +kernel
theorem dX11_stepOf_97 : decode cX11_stepOf 97 = .ok (.iconst 2, 1) := by decide +kernel
theorem dX11_stepOf_98 : decode cX11_stepOf 98 = .ok (.goto 19, 3) := by decide +kernel
theorem dX11_stepOf_101 : decode cX11_stepOf 101 = .ok (.iload_n 1, 1) := by decide +kernel
theorem dX11_stepOf_102 : decode cX11_stepOf 102 = .ok (.iconst 1, 1) := by decide +kernel
theorem dX11_stepOf_103 : decode cX11_stepOf 103 = .ok (.if_icmp .ne 13, 3) := by decide +kernel
theorem dX11_stepOf_106 : decode cX11_stepOf 106 = .ok (.iload_n 2, 1) := by decide +kernel
theorem dX11_stepOf_107 : decode cX11_stepOf 107 = .ok (.bipush 58, 2) := by decide +kernel
theorem dX11_stepOf_109 : decode cX11_stepOf 109 = .ok (.if_icmp .ne 7, 3) := by decide +kernel
theorem dX11_stepOf_112 : decode cX11_stepOf 112 = .ok (.iconst 3, 1) := by decide +kernel
theorem dX11_stepOf_113 : decode cX11_stepOf 113 = .ok (.goto 4, 3) := by decide +kernel
theorem dX11_stepOf_116 : decode cX11_stepOf 116 = .ok (.iconst (-1), 1) := by decide +kernel
theorem dX11_stepOf_117 : decode cX11_stepOf 117 = .ok (.ireturn, 1) := by decide +kernel
theorem dX11_stepOf_118 : decode cX11_stepOf 118 = .ok (.iload_n 2, 1) := by decide +kernel
theorem dX11_stepOf_119 : decode cX11_stepOf 119 = .ok (.bipush 58, 2) := by decide +kernel
theorem dX11_stepOf_121 : decode cX11_stepOf 121 = .ok (.if_icmp .ne 7, 3) := by decide +kernel
theorem dX11_stepOf_124 : decode cX11_stepOf 124 = .ok (.iconst 3, 1) := by decide +kernel
theorem dX11_stepOf_125 : decode cX11_stepOf 125 = .ok (.goto 4, 3) := by decide +kernel
theorem dX11_stepOf_128 : decode cX11_stepOf 128 = .ok (.iconst (-1), 1) := by decide +kernel
theorem dX11_stepOf_129 : decode cX11_stepOf 129 = .ok (.ireturn, 1) := by decide +kernel
theorem dX11_stepOf_130 : decode cX11_stepOf 130 = .ok (.iload_n 2, 1) := by decide +kernel
theorem dX11_stepOf_131 : decode cX11_stepOf 131 = .ok (.invokestatic 121, 3) := by decide +kernel
theorem dX11_stepOf_134 : decode cX11_stepOf 134 = .ok (.ifCond .eq 7, 3) := by decide +kernel
theorem dX11_stepOf_137 : decode cX11_stepOf 137 = .ok (.iconst 4, 1) := by decide +kernel
theorem dX11_stepOf_138 : decode cX11_stepOf 138 = .ok (.goto 15, 3) := by decide +kernel
theorem dX11_stepOf_141 : decode cX11_stepOf 141 = .ok (.iload_n 2, 1) := by decide +kernel
theorem dX11_stepOf_142 : decode cX11_stepOf 142 = .ok (.bipush 64, 2) := by decide +kernel
theorem dX11_stepOf_144 : decode cX11_stepOf 144 = .ok (.if_icmp .ne 8, 3) := by decide +kernel
theorem dX11_stepOf_147 : decode cX11_stepOf 147 = .ok (.bipush 6, 2) := by decide +kernel
theorem dX11_stepOf_149 : decode cX11_stepOf 149 = .ok (.goto 4, 3) := by decide +kernel
theorem dX11_stepOf_152 : decode cX11_stepOf 152 = .ok (.iconst (-1), 1) := by decide +kernel
theorem dX11_stepOf_153 : decode cX11_stepOf 153 = .ok (.ireturn, 1) := by decide +kernel
theorem dX11_stepOf_154 : decode cX11_stepOf 154 = .ok (.iload_n 2, 1) := by decide +kernel
theorem dX11_stepOf_155 : decode cX11_stepOf 155 = .ok (.invokestatic 121, 3) := by decide +kernel
theorem dX11_stepOf_158 : decode cX11_stepOf 158 = .ok (.ifCond .eq 7, 3) := by decide +kernel
theorem dX11_stepOf_161 : decode cX11_stepOf 161 = .ok (.iconst 5, 1) := by decide +kernel
theorem dX11_stepOf_162 : decode cX11_stepOf 162 = .ok (.goto 8, 3) := by decide +kernel
theorem dX11_stepOf_165 : decode cX11_stepOf 165 = .ok (.aload_n 0, 1) := by decide +kernel
theorem dX11_stepOf_166 : decode cX11_stepOf 166 = .ok (.iload_n 2, 1) := by decide +kernel
theorem dX11_stepOf_167 : decode cX11_stepOf 167 = .ok (.invokevirtual 124, 3) := by decide +kernel
theorem dX11_stepOf_170 : decode cX11_stepOf 170 = .ok (.ireturn, 1) := by decide +kernel
theorem dX11_stepOf_171 : decode cX11_stepOf 171 = .ok (.aload_n 0, 1) := by decide +kernel
theorem dX11_stepOf_172 : decode cX11_stepOf 172 = .ok (.iload_n 2, 1) := by decide +kernel
theorem dX11_stepOf_173 : decode cX11_stepOf 173 = .ok (.invokevirtual 124, 3) := by decide +kernel
theorem dX11_stepOf_176 : decode cX11_stepOf 176 = .ok (.ireturn, 1) := by decide +kernel
theorem dX11_stepOf_177 : decode cX11_stepOf 177 = .ok (.iload_n 2, 1) := by decide +kernel
theorem dX11_stepOf_178 : decode cX11_stepOf 178 = .ok (.i2l, 1) := by decide +kernel
theorem dX11_stepOf_179 : decode cX11_stepOf 179 = .ok (.ldc2_w 97, 3) := by decide +kernel
theorem dX11_stepOf_182 : decode cX11_stepOf 182 = .ok (.ldc2_w 128, 3) := by decide +kernel
theorem dX11_stepOf_185 : decode cX11_stepOf 185 = .ok (.invokestatic 86, 3) := by decide +kernel
theorem dX11_stepOf_188 : decode cX11_stepOf 188 = .ok (.ifCond .eq 7, 3) := by decide +kernel
theorem dX11_stepOf_191 : decode cX11_stepOf 191 = .ok (.iconst 5, 1) := by decide +kernel
theorem dX11_stepOf_192 : decode cX11_stepOf 192 = .ok (.goto 4, 3) := by decide +kernel
theorem dX11_stepOf_195 : decode cX11_stepOf 195 = .ok (.iconst (-1), 1) := by decide +kernel
theorem dX11_stepOf_196 : decode cX11_stepOf 196 = .ok (.ireturn, 1) := by decide +kernel
theorem dX11_stepOf_197 : decode cX11_stepOf 197 = .ok (.aload_n 0, 1) := by decide +kernel
theorem dX11_stepOf_198 : decode cX11_stepOf 198 = .ok (.iload_n 2, 1) := by decide +kernel
theorem dX11_stepOf_199 : decode cX11_stepOf 199 = .ok (.invokevirtual 130, 3) := by decide +kernel
theorem dX11_stepOf_202 : decode cX11_stepOf 202 = .ok (.ireturn, 1) := by decide +kernel
theorem dX11_stepOf_203 : decode cX11_stepOf 203 = .ok (.aload_n 0, 1) := by decide +kernel
theorem dX11_stepOf_204 : decode cX11_stepOf 204 = .ok (.iload_n 1, 1) := by decide +kernel
theorem dX11_stepOf_205 : decode cX11_stepOf 205 = .ok (.iload_n 2, 1) := by decide +kernel
theorem dX11_stepOf_206 : decode cX11_stepOf 206 = .ok (.invokevirtual 133, 3) := by decide +kernel
theorem dX11_stepOf_209 : decode cX11_stepOf 209 = .ok (.ireturn, 1) := by decide +kernel
theorem dX11_stepWord_0 : decode cX11_stepWord 0 = .ok (.iload_n 1, 1) := by decide +kernel
theorem dX11_stepWord_1 : decode cX11_stepWord 1 = .ok (.tableswitch 230 9 18 #[55, 79, 230, 230, 101, 115, 144, 163, 187, 209], 55) := by decide +kernel
theorem dX11_stepWord_56 : decode cX11_stepWord 56 = .ok (.iload_n 2, 1) := by decide +kernel
theorem dX11_stepWord_57 : decode cX11_stepWord 57 = .ok (.bipush 63, 2) := by decide +kernel
theorem dX11_stepWord_59 : decode cX11_stepWord 59 = .ok (.if_icmp .ne 8, 3) := by decide +kernel
theorem dX11_stepWord_62 : decode cX11_stepWord 62 = .ok (.bipush 10, 2) := by decide +kernel
theorem dX11_stepWord_64 : decode cX11_stepWord 64 = .ok (.goto 15, 3) := by decide +kernel
theorem dX11_stepWord_67 : decode cX11_stepWord 67 = .ok (.iload_n 2, 1) := by decide +kernel
theorem dX11_stepWord_68 : decode cX11_stepWord 68 = .ok (.bipush 44, 2) := by decide +kernel
theorem dX11_stepWord_70 : decode cX11_stepWord 70 = .ok (.if_icmp .ne 8, 3) := by decide +kernel
theorem dX11_stepWord_73 : decode cX11_stepWord 73 = .ok (.bipush 8, 2) := by decide +kernel
theorem dX11_stepWord_75 : decode cX11_stepWord 75 = .ok (.goto 4, 3) := by decide +kernel
theorem dX11_stepWord_78 : decode cX11_stepWord 78 = .ok (.iconst (-1), 1) := by decide +kernel
theorem dX11_stepWord_79 : decode cX11_stepWord 79 = .ok (.ireturn, 1) := by decide +kernel
theorem dX11_stepWord_80 : decode cX11_stepWord 80 = .ok (.iload_n 2, 1) := by decide +kernel
theorem dX11_stepWord_81 : decode cX11_stepWord 81 = .ok (.invokestatic 110, 3) := by decide +kernel
theorem dX11_stepWord_84 : decode cX11_stepWord 84 = .ok (.ifCond .eq 16, 3) := by decide +kernel
theorem dX11_stepWord_87 : decode cX11_stepWord 87 = .ok (.iload_n 2, 1) := by decide +kernel
theorem dX11_stepWord_88 : decode cX11_stepWord 88 = .ok (.aload_n 0, 1) := by decide +kernel
theorem dX11_stepWord_89 : decode cX11_stepWord 89 = .ok (.getfield 114, 3) := by decide +kernel
theorem dX11_stepWord_92 : decode cX11_stepWord 92 = .ok (.if_icmp .eq 8, 3) := by decide +kernel
theorem dX11_stepWord_95 : decode cX11_stepWord 95 = .ok (.bipush 11, 2) := by decide +kernel
theorem dX11_stepWord_97 : decode cX11_stepWord 97 = .ok (.goto 4, 3) := by decide +kernel
theorem dX11_stepWord_100 : decode cX11_stepWord 100 = .ok (.iconst (-1), 1) := by decide +kernel
theorem dX11_stepWord_101 : decode cX11_stepWord 101 = .ok (.ireturn, 1) := by decide +kernel
theorem dX11_stepWord_102 : decode cX11_stepWord 102 = .ok (.iload_n 2, 1) := by decide +kernel
theorem dX11_stepWord_103 : decode cX11_stepWord 103 = .ok (.invokestatic 121, 3) := by decide +kernel
theorem dX11_stepWord_106 : decode cX11_stepWord 106 = .ok (.ifCond .eq 8, 3) := by decide +kernel
theorem dX11_stepWord_109 : decode cX11_stepWord 109 = .ok (.bipush 14, 2) := by decide +kernel
theorem dX11_stepWord_111 : decode cX11_stepWord 111 = .ok (.goto 4, 3) := by decide +kernel
theorem dX11_stepWord_114 : decode cX11_stepWord 114 = .ok (.iconst (-1), 1) := by decide +kernel
theorem dX11_stepWord_115 : decode cX11_stepWord 115 = .ok (.ireturn, 1) := by decide +kernel
theorem dX11_stepWord_116 : decode cX11_stepWord 116 = .ok (.iload_n 2, 1) := by decide +kernel
theorem dX11_stepWord_117 : decode cX11_stepWord 117 = .ok (.invokestatic 121, 3) := by decide +kernel
theorem dX11_stepWord_120 : decode cX11_stepWord 120 = .ok (.ifCond .eq 6, 3) := by decide +kernel
theorem dX11_stepWord_123 : decode cX11_stepWord 123 = .ok (.bipush 15, 2) := by decide +kernel
theorem dX11_stepWord_125 : decode cX11_stepWord 125 = .ok (.ireturn, 1) := by decide +kernel
theorem dX11_stepWord_126 : decode cX11_stepWord 126 = .ok (.aload_n 0, 1) := by decide +kernel
theorem dX11_stepWord_127 : decode cX11_stepWord 127 = .ok (.iload_n 2, 1) := by decide +kernel
theorem dX11_stepWord_128 : decode cX11_stepWord 128 = .ok (.putfield 114, 3) := by decide +kernel
theorem dX11_stepWord_131 : decode cX11_stepWord 131 = .ok (.iload_n 2, 1) := by decide +kernel
theorem dX11_stepWord_132 : decode cX11_stepWord 132 = .ok (.invokestatic 137, 3) := by decide +kernel
theorem dX11_stepWord_135 : decode cX11_stepWord 135 = .ok (.ifCond .eq 8, 3) := by decide +kernel
theorem dX11_stepWord_138 : decode cX11_stepWord 138 = .ok (.bipush 16, 2) := by decide +kernel
theorem dX11_stepWord_140 : decode cX11_stepWord 140 = .ok (.goto 4, 3) := by decide +kernel
theorem dX11_stepWord_143 : decode cX11_stepWord 143 = .ok (.iconst (-1), 1) := by decide +kernel
theorem dX11_stepWord_144 : decode cX11_stepWord 144 = .ok (.ireturn, 1) := by decide +kernel
theorem dX11_stepWord_145 : decode cX11_stepWord 145 = .ok (.aload_n 0, 1) := by decide +kernel
theorem dX11_stepWord_146 : decode cX11_stepWord 146 = .ok (.iload_n 2, 1) := by decide +kernel
theorem dX11_stepWord_147 : decode cX11_stepWord 147 = .ok (.putfield 114, 3) := by decide +kernel
theorem dX11_stepWord_150 : decode cX11_stepWord 150 = .ok (.iload_n 2, 1) := by decide +kernel
theorem dX11_stepWord_151 : decode cX11_stepWord 151 = .ok (.invokestatic 137, 3) := by decide +kernel
theorem dX11_stepWord_154 : decode cX11_stepWord 154 = .ok (.ifCond .eq 8, 3) := by decide +kernel
theorem dX11_stepWord_157 : decode cX11_stepWord 157 = .ok (.bipush 16, 2) := by decide +kernel
theorem dX11_stepWord_159 : decode cX11_stepWord 159 = .ok (.goto 4, 3) := by decide +kernel
theorem dX11_stepWord_162 : decode cX11_stepWord 162 = .ok (.iconst (-1), 1) := by decide +kernel
theorem dX11_stepWord_163 : decode cX11_stepWord 163 = .ok (.ireturn, 1) := by decide +kernel
theorem dX11_stepWord_164 : decode cX11_stepWord 164 = .ok (.iload_n 2, 1) := by decide +kernel
theorem dX11_stepWord_165 : decode cX11_stepWord 165 = .ok (.bipush 63, 2) := by decide +kernel
theorem dX11_stepWord_167 : decode cX11_stepWord 167 = .ok (.if_icmp .ne 8, 3) := by decide +kernel
theorem dX11_stepWord_170 : decode cX11_stepWord 170 = .ok (.bipush 17, 2) := by decide +kernel
theorem dX11_stepWord_172 : decode cX11_stepWord 172 = .ok (.goto 15, 3) := by decide +kernel
theorem dX11_stepWord_175 : decode cX11_stepWord 175 = .ok (.iload_n 2, 1) := by decide +kernel
theorem dX11_stepWord_176 : decode cX11_stepWord 176 = .ok (.bipush 44, 2) := by decide +kernel
theorem dX11_stepWord_178 : decode cX11_stepWord 178 = .ok (.if_icmp .ne 8, 3) := by decide +kernel
theorem dX11_stepWord_181 : decode cX11_stepWord 181 = .ok (.bipush 8, 2) := by decide +kernel
theorem dX11_stepWord_183 : decode cX11_stepWord 183 = .ok (.goto 4, 3) := by decide +kernel
theorem dX11_stepWord_186 : decode cX11_stepWord 186 = .ok (.iconst (-1), 1) := by decide +kernel
theorem dX11_stepWord_187 : decode cX11_stepWord 187 = .ok (.ireturn, 1) := by decide +kernel
theorem dX11_stepWord_188 : decode cX11_stepWord 188 = .ok (.iload_n 2, 1) := by decide +kernel
theorem dX11_stepWord_189 : decode cX11_stepWord 189 = .ok (.invokestatic 137, 3) := by decide +kernel
theorem dX11_stepWord_192 : decode cX11_stepWord 192 = .ok (.ifCond .eq 16, 3) := by decide +kernel
theorem dX11_stepWord_195 : decode cX11_stepWord 195 = .ok (.iload_n 2, 1) := by decide +kernel
theorem dX11_stepWord_196 : decode cX11_stepWord 196 = .ok (.aload_n 0, 1) := by decide +kernel
theorem dX11_stepWord_197 : decode cX11_stepWord 197 = .ok (.getfield 114, 3) := by decide +kernel
theorem dX11_stepWord_200 : decode cX11_stepWord 200 = .ok (.if_icmp .eq 8, 3) := by decide +kernel
theorem dX11_stepWord_203 : decode cX11_stepWord 203 = .ok (.bipush 19, 2) := by decide +kernel
theorem dX11_stepWord_205 : decode cX11_stepWord 205 = .ok (.goto 4, 3) := by decide +kernel
theorem dX11_stepWord_208 : decode cX11_stepWord 208 = .ok (.iconst (-1), 1) := by decide +kernel
theorem dX11_stepWord_209 : decode cX11_stepWord 209 = .ok (.ireturn, 1) := by decide +kernel
theorem dX11_stepWord_210 : decode cX11_stepWord 210 = .ok (.iload_n 2, 1) := by decide +kernel
theorem dX11_stepWord_211 : decode cX11_stepWord 211 = .ok (.i2l, 1) := by decide +kernel
theorem dX11_stepWord_212 : decode cX11_stepWord 212 = .ok (.ldc2_w 97, 3) := by decide +kernel
theorem dX11_stepWord_215 : decode cX11_stepWord 215 = .ok (.ldc2_w 128, 3) := by decide +kernel
theorem dX11_stepWord_218 : decode cX11_stepWord 218 = .ok (.invokestatic 86, 3) := by decide +kernel
theorem dX11_stepWord_221 : decode cX11_stepWord 221 = .ok (.ifCond .eq 8, 3) := by decide +kernel
theorem dX11_stepWord_224 : decode cX11_stepWord 224 = .ok (.bipush 20, 2) := by decide +kernel
theorem dX11_stepWord_226 : decode cX11_stepWord 226 = .ok (.goto 4, 3) := by decide +kernel
theorem dX11_stepWord_229 : decode cX11_stepWord 229 = .ok (.iconst (-1), 1) := by decide +kernel
theorem dX11_stepWord_230 : decode cX11_stepWord 230 = .ok (.ireturn, 1) := by decide +kernel
theorem dX11_stepWord_231 : decode cX11_stepWord 231 = .ok (.iload_n 2, 1) := by decide +kernel
theorem dX11_stepWord_232 : decode cX11_stepWord 232 = .ok (.bipush 44, 2) := by decide +kernel
theorem dX11_stepWord_234 : decode cX11_stepWord 234 = .ok (.if_icmp .ne 8, 3) := by decide +kernel
theorem dX11_stepWord_237 : decode cX11_stepWord 237 = .ok (.bipush 8, 2) := by decide +kernel
theorem dX11_stepWord_239 : decode cX11_stepWord 239 = .ok (.goto 4, 3) := by decide +kernel
theorem dX11_stepWord_242 : decode cX11_stepWord 242 = .ok (.iconst (-1), 1) := by decide +kernel
theorem dX11_stepWord_243 : decode cX11_stepWord 243 = .ok (.ireturn, 1) := by decide +kernel
theorem dX11_isWhole_0 : decode cX11_isWhole 0 = .ok (.iload_n 0, 1) := by decide +kernel
theorem dX11_isWhole_1 : decode cX11_isWhole 1 = .ok (.iconst 4, 1) := by decide +kernel
theorem dX11_isWhole_2 : decode cX11_isWhole 2 = .ok (.if_icmp .eq 44, 3) := by decide +kernel
theorem dX11_isWhole_5 : decode cX11_isWhole 5 = .ok (.iload_n 0, 1) := by decide +kernel
theorem dX11_isWhole_6 : decode cX11_isWhole 6 = .ok (.iconst 5, 1) := by decide +kernel
theorem dX11_isWhole_7 : decode cX11_isWhole 7 = .ok (.if_icmp .eq 39, 3) := by decide +kernel
theorem dX11_isWhole_10 : decode cX11_isWhole 10 = .ok (.iload_n 0, 1) := by decide +kernel
theorem dX11_isWhole_11 : decode cX11_isWhole 11 = .ok (.bipush 9, 2) := by decide +kernel
theorem dX11_isWhole_13 : decode cX11_isWhole 13 = .ok (.if_icmp .eq 33, 3) := by decide +kernel
theorem dX11_isWhole_16 : decode cX11_isWhole 16 = .ok (.iload_n 0, 1) := by decide +kernel
theorem dX11_isWhole_17 : decode cX11_isWhole 17 = .ok (.bipush 11, 2) := by decide +kernel
theorem dX11_isWhole_19 : decode cX11_isWhole 19 = .ok (.if_icmp .eq 27, 3) := by decide +kernel
theorem dX11_isWhole_22 : decode cX11_isWhole 22 = .ok (.iload_n 0, 1) := by decide +kernel
theorem dX11_isWhole_23 : decode cX11_isWhole 23 = .ok (.bipush 12, 2) := by decide +kernel
theorem dX11_isWhole_25 : decode cX11_isWhole 25 = .ok (.if_icmp .eq 21, 3) := by decide +kernel
theorem dX11_isWhole_28 : decode cX11_isWhole 28 = .ok (.iload_n 0, 1) := by decide +kernel
theorem dX11_isWhole_29 : decode cX11_isWhole 29 = .ok (.bipush 16, 2) := by decide +kernel
theorem dX11_isWhole_31 : decode cX11_isWhole 31 = .ok (.if_icmp .eq 15, 3) := by decide +kernel
theorem dX11_isWhole_34 : decode cX11_isWhole 34 = .ok (.iload_n 0, 1) := by decide +kernel
theorem dX11_isWhole_35 : decode cX11_isWhole 35 = .ok (.bipush 19, 2) := by decide +kernel
theorem dX11_isWhole_37 : decode cX11_isWhole 37 = .ok (.if_icmp .eq 9, 3) := by decide +kernel
theorem dX11_isWhole_40 : decode cX11_isWhole 40 = .ok (.iload_n 0, 1) := by decide +kernel
theorem dX11_isWhole_41 : decode cX11_isWhole 41 = .ok (.bipush 20, 2) := by decide +kernel
theorem dX11_isWhole_43 : decode cX11_isWhole 43 = .ok (.if_icmp .ne 7, 3) := by decide +kernel
theorem dX11_isWhole_46 : decode cX11_isWhole 46 = .ok (.iconst 1, 1) := by decide +kernel
theorem dX11_isWhole_47 : decode cX11_isWhole 47 = .ok (.goto 4, 3) := by decide +kernel
theorem dX11_isWhole_50 : decode cX11_isWhole 50 = .ok (.iconst 0, 1) := by decide +kernel
theorem dX11_isWhole_51 : decode cX11_isWhole 51 = .ok (.ireturn, 1) := by decide +kernel
theorem dX11_fault_0 : decode cX11_fault 0 = .ok (.aload_n 0, 1) := by decide +kernel
theorem dX11_fault_1 : decode cX11_fault 1 = .ok (.invokevirtual 140, 3) := by decide +kernel
theorem dX11_fault_4 : decode cX11_fault 4 = .ok (.iconst 0, 1) := by decide +kernel
theorem dX11_fault_5 : decode cX11_fault 5 = .ok (.istore_n 1, 1) := by decide +kernel
theorem dX11_fault_6 : decode cX11_fault 6 = .ok (.iconst 0, 1) := by decide +kernel
theorem dX11_fault_7 : decode cX11_fault 7 = .ok (.istore_n 2, 1) := by decide +kernel
theorem dX11_fault_8 : decode cX11_fault 8 = .ok (.iload_n 2, 1) := by decide +kernel
theorem dX11_fault_9 : decode cX11_fault 9 = .ok (.aload_n 0, 1) := by decide +kernel
theorem dX11_fault_10 : decode cX11_fault 10 = .ok (.getfield 94, 3) := by decide +kernel
theorem dX11_fault_13 : decode cX11_fault 13 = .ok (.if_icmp .ge 27, 3) := by decide +kernel
theorem dX11_fault_16 : decode cX11_fault 16 = .ok (.aload_n 0, 1) := by decide +kernel
theorem dX11_fault_17 : decode cX11_fault 17 = .ok (.iload_n 1, 1) := by decide +kernel
theorem dX11_fault_18 : decode cX11_fault 18 = .ok (.aload_n 0, 1) := by decide +kernel
theorem dX11_fault_19 : decode cX11_fault 19 = .ok (.getfield 7, 3) := by decide +kernel
theorem dX11_fault_22 : decode cX11_fault 22 = .ok (.iload_n 2, 1) := by decide +kernel
theorem dX11_fault_23 : decode cX11_fault 23 = .ok (.iaload, 1) := by decide +kernel
theorem dX11_fault_24 : decode cX11_fault 24 = .ok (.invokevirtual 143, 3) := by decide +kernel
theorem dX11_fault_27 : decode cX11_fault 27 = .ok (.istore_n 1, 1) := by decide +kernel
theorem dX11_fault_28 : decode cX11_fault 28 = .ok (.iload_n 1, 1) := by decide +kernel
theorem dX11_fault_29 : decode cX11_fault 29 = .ok (.ifCond .ge 5, 3) := by decide +kernel
theorem dX11_fault_32 : decode cX11_fault 32 = .ok (.iload_n 2, 1) := by decide +kernel
theorem dX11_fault_33 : decode cX11_fault 33 = .ok (.ireturn, 1) := by decide +kernel
theorem dX11_fault_34 : decode cX11_fault 34 = .ok (.iinc 2 1, 3) := by decide +kernel
theorem dX11_fault_37 : decode cX11_fault 37 = .ok (.goto (-29), 3) := by decide +kernel
theorem dX11_fault_40 : decode cX11_fault 40 = .ok (.iload_n 1, 1) := by decide +kernel
theorem dX11_fault_41 : decode cX11_fault 41 = .ok (.invokestatic 146, 3) := by decide +kernel
theorem dX11_fault_44 : decode cX11_fault 44 = .ok (.ifCond .eq 8, 3) := by decide +kernel
theorem dX11_fault_47 : decode cX11_fault 47 = .ok (.bipush (-6), 2) := by decide +kernel
theorem dX11_fault_49 : decode cX11_fault 49 = .ok (.goto 7, 3) := by decide +kernel
theorem dX11_fault_52 : decode cX11_fault 52 = .ok (.aload_n 0, 1) := by decide +kernel
theorem dX11_fault_53 : decode cX11_fault 53 = .ok (.getfield 94, 3) := by decide +kernel
theorem dX11_fault_56 : decode cX11_fault 56 = .ok (.ireturn, 1) := by decide +kernel
theorem dX11_isLaw_0 : decode cX11_isLaw 0 = .ok (.iload_n 1, 1) := by decide +kernel
theorem dX11_isLaw_1 : decode cX11_isLaw 1 = .ok (.i2l, 1) := by decide +kernel
theorem dX11_isLaw_2 : decode cX11_isLaw 2 = .ok (.lconst 0, 1) := by decide +kernel
theorem dX11_isLaw_3 : decode cX11_isLaw 3 = .ok (.aload_n 0, 1) := by decide +kernel
theorem dX11_isLaw_4 : decode cX11_isLaw 4 = .ok (.getfield 149, 3) := by decide +kernel
theorem dX11_isLaw_7 : decode cX11_isLaw 7 = .ok (.iconst 1, 1) := by decide +kernel
theorem dX11_isLaw_8 : decode cX11_isLaw 8 = .ok (.isub, 1) := by decide +kernel
theorem dX11_isLaw_9 : decode cX11_isLaw 9 = .ok (.i2l, 1) := by decide +kernel
theorem dX11_isLaw_10 : decode cX11_isLaw 10 = .ok (.invokestatic 86, 3) := by decide +kernel
theorem dX11_isLaw_13 : decode cX11_isLaw 13 = .ok (.ireturn, 1) := by decide +kernel
theorem dX11_layText_0 : decode cX11_layText 0 = .ok (.aload_n 0, 1) := by decide +kernel
theorem dX11_layText_1 : decode cX11_layText 1 = .ok (.invokevirtual 140, 3) := by decide +kernel
theorem dX11_layText_4 : decode cX11_layText 4 = .ok (.aload_n 0, 1) := by decide +kernel
theorem dX11_layText_5 : decode cX11_layText 5 = .ok (.getfield 19, 3) := by decide +kernel
theorem dX11_layText_8 : decode cX11_layText 8 = .ok (.iload_n 1, 1) := by decide +kernel
theorem dX11_layText_9 : decode cX11_layText 9 = .ok (.iconst 0, 1) := by decide +kernel
theorem dX11_layText_10 : decode cX11_layText 10 = .ok (.iastore, 1) := by decide +kernel
theorem dX11_layText_11 : decode cX11_layText 11 = .ok (.aload_n 0, 1) := by decide +kernel
theorem dX11_layText_12 : decode cX11_layText 12 = .ok (.getfield 28, 3) := by decide +kernel
theorem dX11_layText_15 : decode cX11_layText 15 = .ok (.iload_n 1, 1) := by decide +kernel
theorem dX11_layText_16 : decode cX11_layText 16 = .ok (.bipush 110, 2) := by decide +kernel
theorem dX11_layText_18 : decode cX11_layText 18 = .ok (.iastore, 1) := by decide +kernel
theorem dX11_layText_19 : decode cX11_layText 19 = .ok (.aload_n 0, 1) := by decide +kernel
theorem dX11_layText_20 : decode cX11_layText 20 = .ok (.getfield 31, 3) := by decide +kernel
theorem dX11_layText_23 : decode cX11_layText 23 = .ok (.iload_n 1, 1) := by decide +kernel
theorem dX11_layText_24 : decode cX11_layText 24 = .ok (.bipush (-6), 2) := by decide +kernel
theorem dX11_layText_26 : decode cX11_layText 26 = .ok (.iastore, 1) := by decide +kernel
theorem dX11_layText_27 : decode cX11_layText 27 = .ok (.aload_n 0, 1) := by decide +kernel
theorem dX11_layText_28 : decode cX11_layText 28 = .ok (.getfield 34, 3) := by decide +kernel
theorem dX11_layText_31 : decode cX11_layText 31 = .ok (.iload_n 1, 1) := by decide +kernel
theorem dX11_layText_32 : decode cX11_layText 32 = .ok (.iconst 0, 1) := by decide +kernel
theorem dX11_layText_33 : decode cX11_layText 33 = .ok (.iastore, 1) := by decide +kernel
theorem dX11_layText_34 : decode cX11_layText 34 = .ok (.aload_n 0, 1) := by decide +kernel
theorem dX11_layText_35 : decode cX11_layText 35 = .ok (.getfield 37, 3) := by decide +kernel
theorem dX11_layText_38 : decode cX11_layText 38 = .ok (.iload_n 1, 1) := by decide +kernel
theorem dX11_layText_39 : decode cX11_layText 39 = .ok (.bipush (-6), 2) := by decide +kernel
theorem dX11_layText_41 : decode cX11_layText 41 = .ok (.iastore, 1) := by decide +kernel
theorem dX11_layText_42 : decode cX11_layText 42 = .ok (.aload_n 0, 1) := by decide +kernel
theorem dX11_layText_43 : decode cX11_layText 43 = .ok (.getfield 40, 3) := by decide +kernel
theorem dX11_layText_46 : decode cX11_layText 46 = .ok (.iload_n 1, 1) := by decide +kernel
theorem dX11_layText_47 : decode cX11_layText 47 = .ok (.bipush (-6), 2) := by decide +kernel
theorem dX11_layText_49 : decode cX11_layText 49 = .ok (.iastore, 1) := by decide +kernel
theorem dX11_layText_50 : decode cX11_layText 50 = .ok (.aload_n 0, 1) := by decide +kernel
theorem dX11_layText_51 : decode cX11_layText 51 = .ok (.getfield 43, 3) := by decide +kernel
theorem dX11_layText_54 : decode cX11_layText 54 = .ok (.iload_n 1, 1) := by decide +kernel
theorem dX11_layText_55 : decode cX11_layText 55 = .ok (.bipush (-6), 2) := by decide +kernel
theorem dX11_layText_57 : decode cX11_layText 57 = .ok (.iastore, 1) := by decide +kernel
theorem dX11_layText_58 : decode cX11_layText 58 = .ok (.aload_n 0, 1) := by decide +kernel
theorem dX11_layText_59 : decode cX11_layText 59 = .ok (.getfield 46, 3) := by decide +kernel
theorem dX11_layText_62 : decode cX11_layText 62 = .ok (.iload_n 1, 1) := by decide +kernel
theorem dX11_layText_63 : decode cX11_layText 63 = .ok (.iconst 0, 1) := by decide +kernel
theorem dX11_layText_64 : decode cX11_layText 64 = .ok (.iastore, 1) := by decide +kernel
theorem dX11_layText_65 : decode cX11_layText 65 = .ok (.iconst 0, 1) := by decide +kernel
theorem dX11_layText_66 : decode cX11_layText 66 = .ok (.istore_n 2, 1) := by decide +kernel
theorem dX11_layText_67 : decode cX11_layText 67 = .ok (.iconst 0, 1) := by decide +kernel
theorem dX11_layText_68 : decode cX11_layText 68 = .ok (.istore_n 3, 1) := by decide +kernel
theorem dX11_layText_69 : decode cX11_layText 69 = .ok (.iconst 0, 1) := by decide +kernel
theorem dX11_layText_70 : decode cX11_layText 70 = .ok (.istore 4, 2) := by decide +kernel
theorem dX11_layText_72 : decode cX11_layText 72 = .ok (.iload 4, 2) := by decide +kernel
theorem dX11_layText_74 : decode cX11_layText 74 = .ok (.aload_n 0, 1) := by decide +kernel
theorem dX11_layText_75 : decode cX11_layText 75 = .ok (.getfield 94, 3) := by decide +kernel
theorem dX11_layText_78 : decode cX11_layText 78 = .ok (.if_icmp .ge 193, 3) := by decide +kernel
theorem dX11_layText_81 : decode cX11_layText 81 = .ok (.aload_n 0, 1) := by decide +kernel
theorem dX11_layText_82 : decode cX11_layText 82 = .ok (.getfield 7, 3) := by decide +kernel
theorem dX11_layText_85 : decode cX11_layText 85 = .ok (.iload 4, 2) := by decide +kernel
theorem dX11_layText_87 : decode cX11_layText 87 = .ok (.iaload, 1) := by decide +kernel
theorem dX11_layText_88 : decode cX11_layText 88 = .ok (.istore 5, 2) := by decide +kernel
theorem dX11_layText_90 : decode cX11_layText 90 = .ok (.iload_n 2, 1) := by decide +kernel
theorem dX11_layText_91 : decode cX11_layText 91 = .ok (.istore 6, 2) := by decide +kernel
theorem dX11_layText_93 : decode cX11_layText 93 = .ok (.aload_n 0, 1) := by decide +kernel
theorem dX11_layText_94 : decode cX11_layText 94 = .ok (.iload_n 2, 1) := by decide +kernel
theorem dX11_layText_95 : decode cX11_layText 95 = .ok (.iload 5, 2) := by decide +kernel
theorem dX11_layText_97 : decode cX11_layText 97 = .ok (.invokevirtual 143, 3) := by decide +kernel
theorem dX11_layText_100 : decode cX11_layText 100 = .ok (.istore_n 2, 1) := by decide +kernel
theorem dX11_layText_101 : decode cX11_layText 101 = .ok (.bipush 6, 2) := by decide +kernel
theorem dX11_layText_103 : decode cX11_layText 103 = .ok (.iload_n 1, 1) := by decide +kernel
theorem dX11_layText_104 : decode cX11_layText 104 = .ok (.imul, 1) := by decide +kernel
theorem dX11_layText_105 : decode cX11_layText 105 = .ok (.aload_n 0, 1) := by decide +kernel
theorem dX11_layText_106 : decode cX11_layText 106 = .ok (.getfield 19, 3) := by decide +kernel
theorem dX11_layText_109 : decode cX11_layText 109 = .ok (.iload_n 1, 1) := by decide +kernel
theorem dX11_layText_110 : decode cX11_layText 110 = .ok (.iaload, 1) := by decide +kernel
theorem dX11_layText_111 : decode cX11_layText 111 = .ok (.iadd, 1) := by decide +kernel
theorem dX11_layText_112 : decode cX11_layText 112 = .ok (.istore 7, 2) := by decide +kernel
theorem dX11_layText_114 : decode cX11_layText 114 = .ok (.iload_n 2, 1) := by decide +kernel
theorem dX11_layText_115 : decode cX11_layText 115 = .ok (.iconst 1, 1) := by decide +kernel
theorem dX11_layText_116 : decode cX11_layText 116 = .ok (.if_icmp .ne 16, 3) := by decide +kernel
theorem dX11_layText_119 : decode cX11_layText 119 = .ok (.iload_n 3, 1) := by decide +kernel
theorem dX11_layText_120 : decode cX11_layText 120 = .ok (.iconst 1, 1) := by decide +kernel
theorem dX11_layText_121 : decode cX11_layText 121 = .ok (.iload 5, 2) := by decide +kernel
theorem dX11_layText_123 : decode cX11_layText 123 = .ok (.bipush 97, 2) := by decide +kernel
theorem dX11_layText_125 : decode cX11_layText 125 = .ok (.isub, 1) := by decide +kernel
theorem dX11_layText_126 : decode cX11_layText 126 = .ok (.ishl, 1) := by decide +kernel
theorem dX11_layText_127 : decode cX11_layText 127 = .ok (.ior, 1) := by decide +kernel
theorem dX11_layText_128 : decode cX11_layText 128 = .ok (.istore_n 3, 1) := by decide +kernel
theorem dX11_layText_129 : decode cX11_layText 129 = .ok (.goto 136, 3) := by decide +kernel
theorem dX11_layText_132 : decode cX11_layText 132 = .ok (.iload_n 2, 1) := by decide +kernel
theorem dX11_layText_133 : decode cX11_layText 133 = .ok (.iconst 3, 1) := by decide +kernel
theorem dX11_layText_134 : decode cX11_layText 134 = .ok (.if_icmp .ne 24, 3) := by decide +kernel
theorem dX11_layText_137 : decode cX11_layText 137 = .ok (.aload_n 0, 1) := by decide +kernel
theorem dX11_layText_138 : decode cX11_layText 138 = .ok (.getfield 22, 3) := by decide +kernel
theorem dX11_layText_141 : decode cX11_layText 141 = .ok (.iload 7, 2) := by decide +kernel
theorem dX11_layText_143 : decode cX11_layText 143 = .ok (.iload_n 3, 1) := by decide +kernel
theorem dX11_layText_144 : decode cX11_layText 144 = .ok (.iastore, 1) := by decide +kernel
theorem dX11_layText_145 : decode cX11_layText 145 = .ok (.aload_n 0, 1) := by decide +kernel
theorem dX11_layText_146 : decode cX11_layText 146 = .ok (.getfield 25, 3) := by decide +kernel
theorem dX11_layText_149 : decode cX11_layText 149 = .ok (.iload 7, 2) := by decide +kernel
theorem dX11_layText_151 : decode cX11_layText 151 = .ok (.iconst 0, 1) := by decide +kernel
theorem dX11_layText_152 : decode cX11_layText 152 = .ok (.iastore, 1) := by decide +kernel
theorem dX11_layText_153 : decode cX11_layText 153 = .ok (.iconst 0, 1) := by decide +kernel
theorem dX11_layText_154 : decode cX11_layText 154 = .ok (.istore_n 3, 1) := by decide +kernel
theorem dX11_layText_155 : decode cX11_layText 155 = .ok (.goto 110, 3) := by decide +kernel
theorem dX11_layText_158 : decode cX11_layText 158 = .ok (.iload_n 2, 1) := by decide +kernel
theorem dX11_layText_159 : decode cX11_layText 159 = .ok (.bipush 6, 2) := by decide +kernel
theorem dX11_layText_161 : decode cX11_layText 161 = .ok (.if_icmp .ne 15, 3) := by decide +kernel
theorem dX11_layText_164 : decode cX11_layText 164 = .ok (.aload_n 0, 1) := by decide +kernel
theorem dX11_layText_165 : decode cX11_layText 165 = .ok (.getfield 25, 3) := by decide +kernel
theorem dX11_layText_168 : decode cX11_layText 168 = .ok (.iload 7, 2) := by decide +kernel
theorem dX11_layText_170 : decode cX11_layText 170 = .ok (.bipush 100, 2) := by decide +kernel
theorem dX11_layText_172 : decode cX11_layText 172 = .ok (.iastore, 1) := by decide +kernel
theorem dX11_layText_173 : decode cX11_layText 173 = .ok (.goto 92, 3) := by decide +kernel
theorem dX11_layText_176 : decode cX11_layText 176 = .ok (.iload_n 2, 1) := by decide +kernel
theorem dX11_layText_177 : decode cX11_layText 177 = .ok (.iconst 4, 1) := by decide +kernel
theorem dX11_layText_178 : decode cX11_layText 178 = .ok (.if_icmp .eq 8, 3) := by decide +kernel
theorem dX11_layText_181 : decode cX11_layText 181 = .ok (.iload_n 2, 1) := by decide +kernel
theorem dX11_layText_182 : decode cX11_layText 182 = .ok (.iconst 5, 1) := by decide +kernel
theorem dX11_layText_183 : decode cX11_layText 183 = .ok (.if_icmp .ne 47, 3) := by decide +kernel
theorem dX11_layText_186 : decode cX11_layText 186 = .ok (.aload_n 0, 1) := by decide +kernel
theorem dX11_layText_187 : decode cX11_layText 187 = .ok (.getfield 25, 3) := by decide +kernel
theorem dX11_layText_190 : decode cX11_layText 190 = .ok (.iload 7, 2) := by decide +kernel
theorem dX11_layText_192 : decode cX11_layText 192 = .ok (.iload 6, 2) := by decide +kernel
theorem dX11_layText_194 : decode cX11_layText 194 = .ok (.bipush 6, 2) := by decide +kernel
theorem dX11_layText_196 : decode cX11_layText 196 = .ok (.if_icmp .ne 14, 3) := by decide +kernel
theorem dX11_layText_199 : decode cX11_layText 199 = .ok (.bipush 100, 2) := by decide +kernel
theorem dX11_layText_201 : decode cX11_layText 201 = .ok (.iload 5, 2) := by decide +kernel
theorem dX11_layText_203 : decode cX11_layText 203 = .ok (.iadd, 1) := by decide +kernel
theorem dX11_layText_204 : decode cX11_layText 204 = .ok (.bipush 48, 2) := by decide +kernel
theorem dX11_layText_206 : decode cX11_layText 206 = .ok (.isub, 1) := by decide +kernel
theorem dX11_layText_207 : decode cX11_layText 207 = .ok (.goto 19, 3) := by decide +kernel
theorem dX11_layText_210 : decode cX11_layText 210 = .ok (.bipush 10, 2) := by decide +kernel
theorem dX11_layText_212 : decode cX11_layText 212 = .ok (.aload_n 0, 1) := by decide +kernel
theorem dX11_layText_213 : decode cX11_layText 213 = .ok (.getfield 25, 3) := by decide +kernel
theorem dX11_layText_216 : decode cX11_layText 216 = .ok (.iload 7, 2) := by decide +kernel
theorem dX11_layText_218 : decode cX11_layText 218 = .ok (.iaload, 1) := by decide +kernel
theorem dX11_layText_219 : decode cX11_layText 219 = .ok (.imul, 1) := by decide +kernel
theorem dX11_layText_220 : decode cX11_layText 220 = .ok (.iload 5, 2) := by decide +kernel
theorem dX11_layText_222 : decode cX11_layText 222 = .ok (.iadd, 1) := by decide +kernel
theorem dX11_layText_223 : decode cX11_layText 223 = .ok (.bipush 48, 2) := by decide +kernel
theorem dX11_layText_225 : decode cX11_layText 225 = .ok (.isub, 1) := by decide +kernel
theorem dX11_layText_226 : decode cX11_layText 226 = .ok (.iastore, 1) := by decide +kernel
theorem dX11_layText_227 : decode cX11_layText 227 = .ok (.goto 38, 3) := by decide +kernel
theorem dX11_layText_230 : decode cX11_layText 230 = .ok (.iload 5, 2) := by decide +kernel
theorem dX11_layText_232 : decode cX11_layText 232 = .ok (.bipush 124, 2) := by decide +kernel
theorem dX11_layText_234 : decode cX11_layText 234 = .ok (.if_icmp .eq 10, 3) := by decide +kernel
theorem dX11_layText_237 : decode cX11_layText 237 = .ok (.iload 5, 2) := by decide +kernel
theorem dX11_layText_239 : decode cX11_layText 239 = .ok (.bipush 47, 2) := by decide +kernel
theorem dX11_layText_241 : decode cX11_layText 241 = .ok (.if_icmp .ne 16, 3) := by decide +kernel
theorem dX11_layText_244 : decode cX11_layText 244 = .ok (.aload_n 0, 1) := by decide +kernel
theorem dX11_layText_245 : decode cX11_layText 245 = .ok (.getfield 19, 3) := by decide +kernel
theorem dX11_layText_248 : decode cX11_layText 248 = .ok (.iload_n 1, 1) := by decide +kernel
theorem dX11_layText_249 : decode cX11_layText 249 = .ok (.dup2, 1) := by decide +kernel
theorem dX11_layText_250 : decode cX11_layText 250 = .ok (.iaload, 1) := by decide +kernel
theorem dX11_layText_251 : decode cX11_layText 251 = .ok (.iconst 1, 1) := by decide +kernel
theorem dX11_layText_252 : decode cX11_layText 252 = .ok (.iadd, 1) := by decide +kernel
theorem dX11_layText_253 : decode cX11_layText 253 = .ok (.iastore, 1) := by decide +kernel
theorem dX11_layText_254 : decode cX11_layText 254 = .ok (.goto 11, 3) := by decide +kernel
theorem dX11_layText_257 : decode cX11_layText 257 = .ok (.aload_n 0, 1) := by decide +kernel
theorem dX11_layText_258 : decode cX11_layText 258 = .ok (.iload_n 1, 1) := by decide +kernel
theorem dX11_layText_259 : decode cX11_layText 259 = .ok (.iload_n 2, 1) := by decide +kernel
theorem dX11_layText_260 : decode cX11_layText 260 = .ok (.iload 5, 2) := by decide +kernel
theorem dX11_layText_262 : decode cX11_layText 262 = .ok (.invokevirtual 152, 3) := by decide +kernel
theorem dX11_layText_265 : decode cX11_layText 265 = .ok (.iinc 4 1, 3) := by decide +kernel
theorem dX11_layText_268 : decode cX11_layText 268 = .ok (.goto (-196), 3) := by decide +kernel
theorem dX11_layText_271 : decode cX11_layText 271 = .ok (.aload_n 0, 1) := by decide +kernel
theorem dX11_layText_272 : decode cX11_layText 272 = .ok (.getfield 19, 3) := by decide +kernel
theorem dX11_layText_275 : decode cX11_layText 275 = .ok (.iload_n 1, 1) := by decide +kernel
theorem dX11_layText_276 : decode cX11_layText 276 = .ok (.dup2, 1) := by decide +kernel
theorem dX11_layText_277 : decode cX11_layText 277 = .ok (.iaload, 1) := by decide +kernel
theorem dX11_layText_278 : decode cX11_layText 278 = .ok (.aload_n 0, 1) := by decide +kernel
theorem dX11_layText_279 : decode cX11_layText 279 = .ok (.getfield 107, 3) := by decide +kernel
theorem dX11_layText_282 : decode cX11_layText 282 = .ok (.ifCond .ne 7, 3) := by decide +kernel
theorem dX11_layText_285 : decode cX11_layText 285 = .ok (.iconst 1, 1) := by decide +kernel
theorem dX11_layText_286 : decode cX11_layText 286 = .ok (.goto 4, 3) := by decide +kernel
theorem dX11_layText_289 : decode cX11_layText 289 = .ok (.iconst 0, 1) := by decide +kernel
theorem dX11_layText_290 : decode cX11_layText 290 = .ok (.iadd, 1) := by decide +kernel
theorem dX11_layText_291 : decode cX11_layText 291 = .ok (.iastore, 1) := by decide +kernel
theorem dX11_layText_292 : decode cX11_layText 292 = .ok (.aload_n 0, 1) := by decide +kernel
theorem dX11_layText_293 : decode cX11_layText 293 = .ok (.iconst 0, 1) := by decide +kernel
theorem dX11_layText_294 : decode cX11_layText 294 = .ok (.putfield 94, 3) := by decide +kernel
theorem dX11_layText_297 : decode cX11_layText 297 = .ok (.return_, 1) := by decide +kernel
theorem dX11_layWord_0 : decode cX11_layWord 0 = .ok (.iload_n 2, 1) := by decide +kernel
theorem dX11_layWord_1 : decode cX11_layWord 1 = .ok (.tableswitch 167 9 20 #[63, 167, 73, 83, 167, 93, 106, 129, 167, 167, 139, 149], 63) := by decide +kernel
theorem dX11_layWord_64 : decode cX11_layWord 64 = .ok (.aload_n 0, 1) := by decide +kernel
theorem dX11_layWord_65 : decode cX11_layWord 65 = .ok (.getfield 28, 3) := by decide +kernel
theorem dX11_layWord_68 : decode cX11_layWord 68 = .ok (.iload_n 1, 1) := by decide +kernel
theorem dX11_layWord_69 : decode cX11_layWord 69 = .ok (.iload_n 3, 1) := by decide +kernel
theorem dX11_layWord_70 : decode cX11_layWord 70 = .ok (.iastore, 1) := by decide +kernel
theorem dX11_layWord_71 : decode cX11_layWord 71 = .ok (.goto 97, 3) := by decide +kernel
theorem dX11_layWord_74 : decode cX11_layWord 74 = .ok (.aload_n 0, 1) := by decide +kernel
theorem dX11_layWord_75 : decode cX11_layWord 75 = .ok (.getfield 31, 3) := by decide +kernel
theorem dX11_layWord_78 : decode cX11_layWord 78 = .ok (.iload_n 1, 1) := by decide +kernel
theorem dX11_layWord_79 : decode cX11_layWord 79 = .ok (.iload_n 3, 1) := by decide +kernel
theorem dX11_layWord_80 : decode cX11_layWord 80 = .ok (.iastore, 1) := by decide +kernel
theorem dX11_layWord_81 : decode cX11_layWord 81 = .ok (.goto 87, 3) := by decide +kernel
theorem dX11_layWord_84 : decode cX11_layWord 84 = .ok (.aload_n 0, 1) := by decide +kernel
theorem dX11_layWord_85 : decode cX11_layWord 85 = .ok (.getfield 34, 3) := by decide +kernel
theorem dX11_layWord_88 : decode cX11_layWord 88 = .ok (.iload_n 1, 1) := by decide +kernel
theorem dX11_layWord_89 : decode cX11_layWord 89 = .ok (.iconst 1, 1) := by decide +kernel
theorem dX11_layWord_90 : decode cX11_layWord 90 = .ok (.iastore, 1) := by decide +kernel
theorem dX11_layWord_91 : decode cX11_layWord 91 = .ok (.goto 77, 3) := by decide +kernel
theorem dX11_layWord_94 : decode cX11_layWord 94 = .ok (.aload_n 0, 1) := by decide +kernel
theorem dX11_layWord_95 : decode cX11_layWord 95 = .ok (.getfield 37, 3) := by decide +kernel
theorem dX11_layWord_98 : decode cX11_layWord 98 = .ok (.iload_n 1, 1) := by decide +kernel
theorem dX11_layWord_99 : decode cX11_layWord 99 = .ok (.iload_n 3, 1) := by decide +kernel
theorem dX11_layWord_100 : decode cX11_layWord 100 = .ok (.bipush 48, 2) := by decide +kernel
theorem dX11_layWord_102 : decode cX11_layWord 102 = .ok (.isub, 1) := by decide +kernel
theorem dX11_layWord_103 : decode cX11_layWord 103 = .ok (.iastore, 1) := by decide +kernel
theorem dX11_layWord_104 : decode cX11_layWord 104 = .ok (.goto 64, 3) := by decide +kernel
theorem dX11_layWord_107 : decode cX11_layWord 107 = .ok (.aload_n 0, 1) := by decide +kernel
theorem dX11_layWord_108 : decode cX11_layWord 108 = .ok (.getfield 37, 3) := by decide +kernel
theorem dX11_layWord_111 : decode cX11_layWord 111 = .ok (.iload_n 1, 1) := by decide +kernel
theorem dX11_layWord_112 : decode cX11_layWord 112 = .ok (.bipush 10, 2) := by decide +kernel
theorem dX11_layWord_114 : decode cX11_layWord 114 = .ok (.aload_n 0, 1) := by decide +kernel
theorem dX11_layWord_115 : decode cX11_layWord 115 = .ok (.getfield 37, 3) := by decide +kernel
theorem dX11_layWord_118 : decode cX11_layWord 118 = .ok (.iload_n 1, 1) := by decide +kernel
theorem dX11_layWord_119 : decode cX11_layWord 119 = .ok (.iaload, 1) := by decide +kernel
theorem dX11_layWord_120 : decode cX11_layWord 120 = .ok (.imul, 1) := by decide +kernel
theorem dX11_layWord_121 : decode cX11_layWord 121 = .ok (.iload_n 3, 1) := by decide +kernel
theorem dX11_layWord_122 : decode cX11_layWord 122 = .ok (.iadd, 1) := by decide +kernel
theorem dX11_layWord_123 : decode cX11_layWord 123 = .ok (.bipush 48, 2) := by decide +kernel
theorem dX11_layWord_125 : decode cX11_layWord 125 = .ok (.isub, 1) := by decide +kernel
theorem dX11_layWord_126 : decode cX11_layWord 126 = .ok (.iastore, 1) := by decide +kernel
theorem dX11_layWord_127 : decode cX11_layWord 127 = .ok (.goto 41, 3) := by decide +kernel
theorem dX11_layWord_130 : decode cX11_layWord 130 = .ok (.aload_n 0, 1) := by decide +kernel
theorem dX11_layWord_131 : decode cX11_layWord 131 = .ok (.getfield 40, 3) := by decide +kernel
theorem dX11_layWord_134 : decode cX11_layWord 134 = .ok (.iload_n 1, 1) := by decide +kernel
theorem dX11_layWord_135 : decode cX11_layWord 135 = .ok (.iload_n 3, 1) := by decide +kernel
theorem dX11_layWord_136 : decode cX11_layWord 136 = .ok (.iastore, 1) := by decide +kernel
theorem dX11_layWord_137 : decode cX11_layWord 137 = .ok (.goto 31, 3) := by decide +kernel
theorem dX11_layWord_140 : decode cX11_layWord 140 = .ok (.aload_n 0, 1) := by decide +kernel
theorem dX11_layWord_141 : decode cX11_layWord 141 = .ok (.getfield 43, 3) := by decide +kernel
theorem dX11_layWord_144 : decode cX11_layWord 144 = .ok (.iload_n 1, 1) := by decide +kernel
theorem dX11_layWord_145 : decode cX11_layWord 145 = .ok (.iload_n 3, 1) := by decide +kernel
theorem dX11_layWord_146 : decode cX11_layWord 146 = .ok (.iastore, 1) := by decide +kernel
theorem dX11_layWord_147 : decode cX11_layWord 147 = .ok (.goto 21, 3) := by decide +kernel
theorem dX11_layWord_150 : decode cX11_layWord 150 = .ok (.aload_n 0, 1) := by decide +kernel
theorem dX11_layWord_151 : decode cX11_layWord 151 = .ok (.getfield 46, 3) := by decide +kernel
theorem dX11_layWord_154 : decode cX11_layWord 154 = .ok (.iload_n 1, 1) := by decide +kernel
theorem dX11_layWord_155 : decode cX11_layWord 155 = .ok (.dup2, 1) := by decide +kernel
theorem dX11_layWord_156 : decode cX11_layWord 156 = .ok (.iaload, 1) := by decide +kernel
theorem dX11_layWord_157 : decode cX11_layWord 157 = .ok (.iconst 1, 1) := by decide +kernel
theorem dX11_layWord_158 : decode cX11_layWord 158 = .ok (.iload_n 3, 1) := by decide +kernel
theorem dX11_layWord_159 : decode cX11_layWord 159 = .ok (.bipush 48, 2) := by decide +kernel
theorem dX11_layWord_161 : decode cX11_layWord 161 = .ok (.isub, 1) := by decide +kernel
theorem dX11_layWord_162 : decode cX11_layWord 162 = .ok (.ishl, 1) := by decide +kernel
theorem dX11_layWord_163 : decode cX11_layWord 163 = .ok (.ior, 1) := by decide +kernel
theorem dX11_layWord_164 : decode cX11_layWord 164 = .ok (.iastore, 1) := by decide +kernel
theorem dX11_layWord_165 : decode cX11_layWord 165 = .ok (.goto 3, 3) := by decide +kernel
theorem dX11_layWord_168 : decode cX11_layWord 168 = .ok (.return_, 1) := by decide +kernel
theorem dX11_law_0 : decode cX11_law 0 = .ok (.iload_n 1, 1) := by decide +kernel
theorem dX11_law_1 : decode cX11_law 1 = .ok (.invokestatic 156, 3) := by decide +kernel
theorem dX11_law_4 : decode cX11_law 4 = .ok (.ifCond .eq 18, 3) := by decide +kernel
theorem dX11_law_7 : decode cX11_law 7 = .ok (.iload_n 2, 1) := by decide +kernel
theorem dX11_law_8 : decode cX11_law 8 = .ok (.i2l, 1) := by decide +kernel
theorem dX11_law_9 : decode cX11_law 9 = .ok (.iload_n 1, 1) := by decide +kernel
theorem dX11_law_10 : decode cX11_law 10 = .ok (.iconst 1, 1) := by decide +kernel
theorem dX11_law_11 : decode cX11_law 11 = .ok (.iadd, 1) := by decide +kernel
theorem dX11_law_12 : decode cX11_law 12 = .ok (.i2l, 1) := by decide +kernel
theorem dX11_law_13 : decode cX11_law 13 = .ok (.ldc2_w 159, 3) := by decide +kernel
theorem dX11_law_16 : decode cX11_law 16 = .ok (.invokestatic 86, 3) := by decide +kernel
theorem dX11_law_19 : decode cX11_law 19 = .ok (.ifCond .ne 6, 3) := by decide +kernel
theorem dX11_law_22 : decode cX11_law 22 = .ok (.bipush (-2), 2) := by decide +kernel
theorem dX11_law_24 : decode cX11_law 24 = .ok (.ireturn, 1) := by decide +kernel
theorem dX11_law_25 : decode cX11_law 25 = .ok (.aload_n 0, 1) := by decide +kernel
theorem dX11_law_26 : decode cX11_law 26 = .ok (.invokevirtual 161, 3) := by decide +kernel
theorem dX11_law_29 : decode cX11_law 29 = .ok (.ifCond .lt 6, 3) := by decide +kernel
theorem dX11_law_32 : decode cX11_law 32 = .ok (.bipush (-5), 2) := by decide +kernel
theorem dX11_law_34 : decode cX11_law 34 = .ok (.ireturn, 1) := by decide +kernel
theorem dX11_law_35 : decode cX11_law 35 = .ok (.aload_n 0, 1) := by decide +kernel
theorem dX11_law_36 : decode cX11_law 36 = .ok (.getfield 149, 3) := by decide +kernel
theorem dX11_law_39 : decode cX11_law 39 = .ok (.bipush 8, 2) := by decide +kernel
theorem dX11_law_41 : decode cX11_law 41 = .ok (.if_icmp .ne 6, 3) := by decide +kernel
theorem dX11_law_44 : decode cX11_law 44 = .ok (.bipush (-4), 2) := by decide +kernel
theorem dX11_law_46 : decode cX11_law 46 = .ok (.ireturn, 1) := by decide +kernel
theorem dX11_law_47 : decode cX11_law 47 = .ok (.aload_n 0, 1) := by decide +kernel
theorem dX11_law_48 : decode cX11_law 48 = .ok (.getfield 13, 3) := by decide +kernel
theorem dX11_law_51 : decode cX11_law 51 = .ok (.aload_n 0, 1) := by decide +kernel
theorem dX11_law_52 : decode cX11_law 52 = .ok (.getfield 149, 3) := by decide +kernel
theorem dX11_law_55 : decode cX11_law 55 = .ok (.iload_n 1, 1) := by decide +kernel
theorem dX11_law_56 : decode cX11_law 56 = .ok (.iastore, 1) := by decide +kernel
theorem dX11_law_57 : decode cX11_law 57 = .ok (.aload_n 0, 1) := by decide +kernel
theorem dX11_law_58 : decode cX11_law 58 = .ok (.getfield 16, 3) := by decide +kernel
theorem dX11_law_61 : decode cX11_law 61 = .ok (.aload_n 0, 1) := by decide +kernel
theorem dX11_law_62 : decode cX11_law 62 = .ok (.getfield 149, 3) := by decide +kernel
theorem dX11_law_65 : decode cX11_law 65 = .ok (.iload_n 2, 1) := by decide +kernel
theorem dX11_law_66 : decode cX11_law 66 = .ok (.iastore, 1) := by decide +kernel
theorem dX11_law_67 : decode cX11_law 67 = .ok (.aload_n 0, 1) := by decide +kernel
theorem dX11_law_68 : decode cX11_law 68 = .ok (.aload_n 0, 1) := by decide +kernel
theorem dX11_law_69 : decode cX11_law 69 = .ok (.getfield 149, 3) := by decide +kernel
theorem dX11_law_72 : decode cX11_law 72 = .ok (.invokevirtual 165, 3) := by decide +kernel
theorem dX11_law_75 : decode cX11_law 75 = .ok (.aload_n 0, 1) := by decide +kernel
theorem dX11_law_76 : decode cX11_law 76 = .ok (.dup, 1) := by decide +kernel
theorem dX11_law_77 : decode cX11_law 77 = .ok (.getfield 149, 3) := by decide +kernel
theorem dX11_law_80 : decode cX11_law 80 = .ok (.iconst 1, 1) := by decide +kernel
theorem dX11_law_81 : decode cX11_law 81 = .ok (.iadd, 1) := by decide +kernel
theorem dX11_law_82 : decode cX11_law 82 = .ok (.putfield 149, 3) := by decide +kernel
theorem dX11_law_85 : decode cX11_law 85 = .ok (.aload_n 0, 1) := by decide +kernel
theorem dX11_law_86 : decode cX11_law 86 = .ok (.getfield 149, 3) := by decide +kernel
theorem dX11_law_89 : decode cX11_law 89 = .ok (.iconst 1, 1) := by decide +kernel
theorem dX11_law_90 : decode cX11_law 90 = .ok (.isub, 1) := by decide +kernel
theorem dX11_law_91 : decode cX11_law 91 = .ok (.ireturn, 1) := by decide +kernel
theorem dX11_anew_0 : decode cX11_anew 0 = .ok (.aload_n 0, 1) := by decide +kernel
theorem dX11_anew_1 : decode cX11_anew 1 = .ok (.iload_n 1, 1) := by decide +kernel
theorem dX11_anew_2 : decode cX11_anew 2 = .ok (.invokevirtual 169, 3) := by decide +kernel
theorem dX11_anew_5 : decode cX11_anew 5 = .ok (.ifCond .ne 5, 3) := by decide +kernel
theorem dX11_anew_8 : decode cX11_anew 8 = .ok (.iconst (-1), 1) := by decide +kernel
theorem dX11_anew_9 : decode cX11_anew 9 = .ok (.ireturn, 1) := by decide +kernel
theorem dX11_anew_10 : decode cX11_anew 10 = .ok (.aload_n 0, 1) := by decide +kernel
theorem dX11_anew_11 : decode cX11_anew 11 = .ok (.invokevirtual 161, 3) := by decide +kernel
theorem dX11_anew_14 : decode cX11_anew 14 = .ok (.ifCond .lt 6, 3) := by decide +kernel
theorem dX11_anew_17 : decode cX11_anew 17 = .ok (.bipush (-5), 2) := by decide +kernel
theorem dX11_anew_19 : decode cX11_anew 19 = .ok (.ireturn, 1) := by decide +kernel
theorem dX11_anew_20 : decode cX11_anew 20 = .ok (.aload_n 0, 1) := by decide +kernel
theorem dX11_anew_21 : decode cX11_anew 21 = .ok (.iload_n 1, 1) := by decide +kernel
theorem dX11_anew_22 : decode cX11_anew 22 = .ok (.invokevirtual 165, 3) := by decide +kernel
theorem dX11_anew_25 : decode cX11_anew 25 = .ok (.aload_n 0, 1) := by decide +kernel
theorem dX11_anew_26 : decode cX11_anew 26 = .ok (.getfield 19, 3) := by decide +kernel
theorem dX11_anew_29 : decode cX11_anew 29 = .ok (.iload_n 1, 1) := by decide +kernel
theorem dX11_anew_30 : decode cX11_anew 30 = .ok (.iaload, 1) := by decide +kernel
theorem dX11_anew_31 : decode cX11_anew 31 = .ok (.ireturn, 1) := by decide +kernel
theorem dX11_move_0 : decode cX11_move 0 = .ok (.aload_n 0, 1) := by decide +kernel
theorem dX11_move_1 : decode cX11_move 1 = .ok (.iload_n 1, 1) := by decide +kernel
theorem dX11_move_2 : decode cX11_move 2 = .ok (.invokevirtual 169, 3) := by decide +kernel
theorem dX11_move_5 : decode cX11_move 5 = .ok (.ifCond .ne 5, 3) := by decide +kernel
theorem dX11_move_8 : decode cX11_move 8 = .ok (.iconst (-1), 1) := by decide +kernel
theorem dX11_move_9 : decode cX11_move 9 = .ok (.ireturn, 1) := by decide +kernel
theorem dX11_move_10 : decode cX11_move 10 = .ok (.iload_n 2, 1) := by decide +kernel
theorem dX11_move_11 : decode cX11_move 11 = .ok (.ifCond .ne 39, 3) := by decide +kernel
theorem dX11_move_14 : decode cX11_move 14 = .ok (.iload_n 3, 1) := by decide +kernel
theorem dX11_move_15 : decode cX11_move 15 = .ok (.i2l, 1) := by decide +kernel
theorem dX11_move_16 : decode cX11_move 16 = .ok (.lconst 0, 1) := by decide +kernel
theorem dX11_move_17 : decode cX11_move 17 = .ok (.aload_n 0, 1) := by decide +kernel
theorem dX11_move_18 : decode cX11_move 18 = .ok (.getfield 16, 3) := by decide +kernel
theorem dX11_move_21 : decode cX11_move 21 = .ok (.iload_n 1, 1) := by decide +kernel
theorem dX11_move_22 : decode cX11_move 22 = .ok (.iaload, 1) := by decide +kernel
theorem dX11_move_23 : decode cX11_move 23 = .ok (.iconst 1, 1) := by decide +kernel
theorem dX11_move_24 : decode cX11_move 24 = .ok (.isub, 1) := by decide +kernel
theorem dX11_move_25 : decode cX11_move 25 = .ok (.i2l, 1) := by decide +kernel
theorem dX11_move_26 : decode cX11_move 26 = .ok (.invokestatic 86, 3) := by decide +kernel
theorem dX11_move_29 : decode cX11_move 29 = .ok (.ifCond .eq 21, 3) := by decide +kernel
theorem dX11_move_32 : decode cX11_move 32 = .ok (.aload_n 0, 1) := by decide +kernel
theorem dX11_move_33 : decode cX11_move 33 = .ok (.getfield 13, 3) := by decide +kernel
theorem dX11_move_36 : decode cX11_move 36 = .ok (.iload_n 1, 1) := by decide +kernel
theorem dX11_move_37 : decode cX11_move 37 = .ok (.iaload, 1) := by decide +kernel
theorem dX11_move_38 : decode cX11_move 38 = .ok (.istore 4, 2) := by decide +kernel
theorem dX11_move_40 : decode cX11_move 40 = .ok (.aload_n 0, 1) := by decide +kernel
theorem dX11_move_41 : decode cX11_move 41 = .ok (.getfield 13, 3) := by decide +kernel
theorem dX11_move_44 : decode cX11_move 44 = .ok (.iload_n 1, 1) := by decide +kernel
theorem dX11_move_45 : decode cX11_move 45 = .ok (.iload_n 3, 1) := by decide +kernel
theorem dX11_move_46 : decode cX11_move 46 = .ok (.iastore, 1) := by decide +kernel
theorem dX11_move_47 : decode cX11_move 47 = .ok (.iload 4, 2) := by decide +kernel
theorem dX11_move_49 : decode cX11_move 49 = .ok (.ireturn, 1) := by decide +kernel
theorem dX11_move_50 : decode cX11_move 50 = .ok (.iload_n 2, 1) := by decide +kernel
theorem dX11_move_51 : decode cX11_move 51 = .ok (.iconst 1, 1) := by decide +kernel
theorem dX11_move_52 : decode cX11_move 52 = .ok (.if_icmp .ne 41, 3) := by decide +kernel
theorem dX11_move_55 : decode cX11_move 55 = .ok (.iload_n 3, 1) := by decide +kernel
theorem dX11_move_56 : decode cX11_move 56 = .ok (.i2l, 1) := by decide +kernel
theorem dX11_move_57 : decode cX11_move 57 = .ok (.aload_n 0, 1) := by decide +kernel
theorem dX11_move_58 : decode cX11_move 58 = .ok (.getfield 13, 3) := by decide +kernel
theorem dX11_move_61 : decode cX11_move 61 = .ok (.iload_n 1, 1) := by decide +kernel
theorem dX11_move_62 : decode cX11_move 62 = .ok (.iaload, 1) := by decide +kernel
theorem dX11_move_63 : decode cX11_move 63 = .ok (.iconst 1, 1) := by decide +kernel
theorem dX11_move_64 : decode cX11_move 64 = .ok (.iadd, 1) := by decide +kernel
theorem dX11_move_65 : decode cX11_move 65 = .ok (.i2l, 1) := by decide +kernel
theorem dX11_move_66 : decode cX11_move 66 = .ok (.ldc2_w 159, 3) := by decide +kernel
theorem dX11_move_69 : decode cX11_move 69 = .ok (.invokestatic 86, 3) := by decide +kernel
theorem dX11_move_72 : decode cX11_move 72 = .ok (.ifCond .eq 21, 3) := by decide +kernel
theorem dX11_move_75 : decode cX11_move 75 = .ok (.aload_n 0, 1) := by decide +kernel
theorem dX11_move_76 : decode cX11_move 76 = .ok (.getfield 16, 3) := by decide +kernel
theorem dX11_move_79 : decode cX11_move 79 = .ok (.iload_n 1, 1) := by decide +kernel
theorem dX11_move_80 : decode cX11_move 80 = .ok (.iaload, 1) := by decide +kernel
theorem dX11_move_81 : decode cX11_move 81 = .ok (.istore 4, 2) := by decide +kernel
theorem dX11_move_83 : decode cX11_move 83 = .ok (.aload_n 0, 1) := by decide +kernel
theorem dX11_move_84 : decode cX11_move 84 = .ok (.getfield 16, 3) := by decide +kernel
theorem dX11_move_87 : decode cX11_move 87 = .ok (.iload_n 1, 1) := by decide +kernel
theorem dX11_move_88 : decode cX11_move 88 = .ok (.iload_n 3, 1) := by decide +kernel
theorem dX11_move_89 : decode cX11_move 89 = .ok (.iastore, 1) := by decide +kernel
theorem dX11_move_90 : decode cX11_move 90 = .ok (.iload 4, 2) := by decide +kernel
theorem dX11_move_92 : decode cX11_move 92 = .ok (.ireturn, 1) := by decide +kernel
theorem dX11_move_93 : decode cX11_move 93 = .ok (.bipush (-2), 2) := by decide +kernel
theorem dX11_move_95 : decode cX11_move 95 = .ok (.ireturn, 1) := by decide +kernel
theorem dX11_of_0 : decode cX11_of 0 = .ok (.aload_n 0, 1) := by decide +kernel
theorem dX11_of_1 : decode cX11_of 1 = .ok (.iload_n 1, 1) := by decide +kernel
theorem dX11_of_2 : decode cX11_of 2 = .ok (.invokevirtual 169, 3) := by decide +kernel
theorem dX11_of_5 : decode cX11_of 5 = .ok (.ifCond .ne 5, 3) := by decide +kernel
theorem dX11_of_8 : decode cX11_of 8 = .ok (.iconst (-1), 1) := by decide +kernel
theorem dX11_of_9 : decode cX11_of 9 = .ok (.ireturn, 1) := by decide +kernel
theorem dX11_of_10 : decode cX11_of 10 = .ok (.iload_n 2, 1) := by decide +kernel
theorem dX11_of_11 : decode cX11_of 11 = .ok (.tableswitch 123 0 9 #[53, 60, 67, 74, 81, 88, 95, 102, 109, 116], 53) := by decide +kernel
theorem dX11_of_64 : decode cX11_of 64 = .ok (.aload_n 0, 1) := by decide +kernel
theorem dX11_of_65 : decode cX11_of 65 = .ok (.getfield 13, 3) := by decide +kernel
theorem dX11_of_68 : decode cX11_of 68 = .ok (.iload_n 1, 1) := by decide +kernel
theorem dX11_of_69 : decode cX11_of 69 = .ok (.iaload, 1) := by decide +kernel
theorem dX11_of_70 : decode cX11_of 70 = .ok (.ireturn, 1) := by decide +kernel
theorem dX11_of_71 : decode cX11_of 71 = .ok (.aload_n 0, 1) := by decide +kernel
theorem dX11_of_72 : decode cX11_of 72 = .ok (.getfield 16, 3) := by decide +kernel
theorem dX11_of_75 : decode cX11_of 75 = .ok (.iload_n 1, 1) := by decide +kernel
theorem dX11_of_76 : decode cX11_of 76 = .ok (.iaload, 1) := by decide +kernel
theorem dX11_of_77 : decode cX11_of 77 = .ok (.ireturn, 1) := by decide +kernel
theorem dX11_of_78 : decode cX11_of 78 = .ok (.aload_n 0, 1) := by decide +kernel
theorem dX11_of_79 : decode cX11_of 79 = .ok (.getfield 19, 3) := by decide +kernel
theorem dX11_of_82 : decode cX11_of 82 = .ok (.iload_n 1, 1) := by decide +kernel
theorem dX11_of_83 : decode cX11_of 83 = .ok (.iaload, 1) := by decide +kernel
theorem dX11_of_84 : decode cX11_of 84 = .ok (.ireturn, 1) := by decide +kernel
theorem dX11_of_85 : decode cX11_of 85 = .ok (.aload_n 0, 1) := by decide +kernel
theorem dX11_of_86 : decode cX11_of 86 = .ok (.getfield 28, 3) := by decide +kernel
theorem dX11_of_89 : decode cX11_of 89 = .ok (.iload_n 1, 1) := by decide +kernel
theorem dX11_of_90 : decode cX11_of 90 = .ok (.iaload, 1) := by decide +kernel
theorem dX11_of_91 : decode cX11_of 91 = .ok (.ireturn, 1) := by decide +kernel
theorem dX11_of_92 : decode cX11_of 92 = .ok (.aload_n 0, 1) := by decide +kernel
theorem dX11_of_93 : decode cX11_of 93 = .ok (.getfield 31, 3) := by decide +kernel
theorem dX11_of_96 : decode cX11_of 96 = .ok (.iload_n 1, 1) := by decide +kernel
theorem dX11_of_97 : decode cX11_of 97 = .ok (.iaload, 1) := by decide +kernel
theorem dX11_of_98 : decode cX11_of 98 = .ok (.ireturn, 1) := by decide +kernel
theorem dX11_of_99 : decode cX11_of 99 = .ok (.aload_n 0, 1) := by decide +kernel
theorem dX11_of_100 : decode cX11_of 100 = .ok (.getfield 34, 3) := by decide +kernel
theorem dX11_of_103 : decode cX11_of 103 = .ok (.iload_n 1, 1) := by decide +kernel
theorem dX11_of_104 : decode cX11_of 104 = .ok (.iaload, 1) := by decide +kernel
theorem dX11_of_105 : decode cX11_of 105 = .ok (.ireturn, 1) := by decide +kernel
theorem dX11_of_106 : decode cX11_of 106 = .ok (.aload_n 0, 1) := by decide +kernel
theorem dX11_of_107 : decode cX11_of 107 = .ok (.getfield 37, 3) := by decide +kernel
theorem dX11_of_110 : decode cX11_of 110 = .ok (.iload_n 1, 1) := by decide +kernel
theorem dX11_of_111 : decode cX11_of 111 = .ok (.iaload, 1) := by decide +kernel
theorem dX11_of_112 : decode cX11_of 112 = .ok (.ireturn, 1) := by decide +kernel
theorem dX11_of_113 : decode cX11_of 113 = .ok (.aload_n 0, 1) := by decide +kernel
theorem dX11_of_114 : decode cX11_of 114 = .ok (.getfield 40, 3) := by decide +kernel
theorem dX11_of_117 : decode cX11_of 117 = .ok (.iload_n 1, 1) := by decide +kernel
theorem dX11_of_118 : decode cX11_of 118 = .ok (.iaload, 1) := by decide +kernel
theorem dX11_of_119 : decode cX11_of 119 = .ok (.ireturn, 1) := by decide +kernel
theorem dX11_of_120 : decode cX11_of 120 = .ok (.aload_n 0, 1) := by decide +kernel
theorem dX11_of_121 : decode cX11_of 121 = .ok (.getfield 43, 3) := by decide +kernel
theorem dX11_of_124 : decode cX11_of 124 = .ok (.iload_n 1, 1) := by decide +kernel
theorem dX11_of_125 : decode cX11_of 125 = .ok (.iaload, 1) := by decide +kernel
theorem dX11_of_126 : decode cX11_of 126 = .ok (.ireturn, 1) := by decide +kernel
theorem dX11_of_127 : decode cX11_of 127 = .ok (.aload_n 0, 1) := by decide +kernel
theorem dX11_of_128 : decode cX11_of 128 = .ok (.getfield 46, 3) := by decide +kernel
theorem dX11_of_131 : decode cX11_of 131 = .ok (.iload_n 1, 1) := by decide +kernel
theorem dX11_of_132 : decode cX11_of 132 = .ok (.iaload, 1) := by decide +kernel
theorem dX11_of_133 : decode cX11_of 133 = .ok (.ireturn, 1) := by decide +kernel
theorem dX11_of_134 : decode cX11_of 134 = .ok (.bipush (-2), 2) := by decide +kernel
theorem dX11_of_136 : decode cX11_of 136 = .ok (.ireturn, 1) := by decide +kernel
theorem dX11_part_0 : decode cX11_part 0 = .ok (.aload_n 0, 1) := by decide +kernel
theorem dX11_part_1 : decode cX11_part 1 = .ok (.iload_n 1, 1) := by decide +kernel
theorem dX11_part_2 : decode cX11_part 2 = .ok (.invokevirtual 169, 3) := by decide +kernel
theorem dX11_part_5 : decode cX11_part 5 = .ok (.ifCond .eq 21, 3) := by decide +kernel
theorem dX11_part_8 : decode cX11_part 8 = .ok (.iload_n 2, 1) := by decide +kernel
theorem dX11_part_9 : decode cX11_part 9 = .ok (.i2l, 1) := by decide +kernel
theorem dX11_part_10 : decode cX11_part 10 = .ok (.lconst 0, 1) := by decide +kernel
theorem dX11_part_11 : decode cX11_part 11 = .ok (.aload_n 0, 1) := by decide +kernel
theorem dX11_part_12 : decode cX11_part 12 = .ok (.getfield 19, 3) := by decide +kernel
theorem dX11_part_15 : decode cX11_part 15 = .ok (.iload_n 1, 1) := by decide +kernel
theorem dX11_part_16 : decode cX11_part 16 = .ok (.iaload, 1) := by decide +kernel
theorem dX11_part_17 : decode cX11_part 17 = .ok (.iconst 1, 1) := by decide +kernel
theorem dX11_part_18 : decode cX11_part 18 = .ok (.isub, 1) := by decide +kernel
theorem dX11_part_19 : decode cX11_part 19 = .ok (.i2l, 1) := by decide +kernel
theorem dX11_part_20 : decode cX11_part 20 = .ok (.invokestatic 86, 3) := by decide +kernel
theorem dX11_part_23 : decode cX11_part 23 = .ok (.ifCond .ne 5, 3) := by decide +kernel
theorem dX11_part_26 : decode cX11_part 26 = .ok (.iconst (-1), 1) := by decide +kernel
theorem dX11_part_27 : decode cX11_part 27 = .ok (.ireturn, 1) := by decide +kernel
theorem dX11_part_28 : decode cX11_part 28 = .ok (.iload_n 3, 1) := by decide +kernel
theorem dX11_part_29 : decode cX11_part 29 = .ok (.ifCond .ne 17, 3) := by decide +kernel
theorem dX11_part_32 : decode cX11_part 32 = .ok (.aload_n 0, 1) := by decide +kernel
theorem dX11_part_33 : decode cX11_part 33 = .ok (.getfield 22, 3) := by decide +kernel
theorem dX11_part_36 : decode cX11_part 36 = .ok (.bipush 6, 2) := by decide +kernel
theorem dX11_part_38 : decode cX11_part 38 = .ok (.iload_n 1, 1) := by decide +kernel
theorem dX11_part_39 : decode cX11_part 39 = .ok (.imul, 1) := by decide +kernel
theorem dX11_part_40 : decode cX11_part 40 = .ok (.iload_n 2, 1) := by decide +kernel
theorem dX11_part_41 : decode cX11_part 41 = .ok (.iadd, 1) := by decide +kernel
theorem dX11_part_42 : decode cX11_part 42 = .ok (.iaload, 1) := by decide +kernel
theorem dX11_part_43 : decode cX11_part 43 = .ok (.goto 24, 3) := by decide +kernel
theorem dX11_part_46 : decode cX11_part 46 = .ok (.iload_n 3, 1) := by decide +kernel
theorem dX11_part_47 : decode cX11_part 47 = .ok (.iconst 1, 1) := by decide +kernel
theorem dX11_part_48 : decode cX11_part 48 = .ok (.if_icmp .ne 17, 3) := by decide +kernel
theorem dX11_part_51 : decode cX11_part 51 = .ok (.aload_n 0, 1) := by decide +kernel
theorem dX11_part_52 : decode cX11_part 52 = .ok (.getfield 25, 3) := by decide +kernel
theorem dX11_part_55 : decode cX11_part 55 = .ok (.bipush 6, 2) := by decide +kernel
theorem dX11_part_57 : decode cX11_part 57 = .ok (.iload_n 1, 1) := by decide +kernel
theorem dX11_part_58 : decode cX11_part 58 = .ok (.imul, 1) := by decide +kernel
theorem dX11_part_59 : decode cX11_part 59 = .ok (.iload_n 2, 1) := by decide +kernel
theorem dX11_part_60 : decode cX11_part 60 = .ok (.iadd, 1) := by decide +kernel
theorem dX11_part_61 : decode cX11_part 61 = .ok (.iaload, 1) := by decide +kernel
theorem dX11_part_62 : decode cX11_part 62 = .ok (.goto 5, 3) := by decide +kernel
theorem dX11_part_65 : decode cX11_part 65 = .ok (.bipush (-2), 2) := by decide +kernel
theorem dX11_part_67 : decode cX11_part 67 = .ok (.ireturn, 1) := by decide +kernel
theorem dX11_isInForce_0 : decode cX11_isInForce 0 = .ok (.iload_n 2, 1) := by decide +kernel
theorem dX11_isInForce_1 : decode cX11_isInForce 1 = .ok (.i2l, 1) := by decide +kernel
theorem dX11_isInForce_2 : decode cX11_isInForce 2 = .ok (.aload_n 0, 1) := by decide +kernel
theorem dX11_isInForce_3 : decode cX11_isInForce 3 = .ok (.getfield 13, 3) := by decide +kernel
theorem dX11_isInForce_6 : decode cX11_isInForce 6 = .ok (.iload_n 1, 1) := by decide +kernel
theorem dX11_isInForce_7 : decode cX11_isInForce 7 = .ok (.iaload, 1) := by decide +kernel
theorem dX11_isInForce_8 : decode cX11_isInForce 8 = .ok (.i2l, 1) := by decide +kernel
theorem dX11_isInForce_9 : decode cX11_isInForce 9 = .ok (.aload_n 0, 1) := by decide +kernel
theorem dX11_isInForce_10 : decode cX11_isInForce 10 = .ok (.getfield 16, 3) := by decide +kernel
theorem dX11_isInForce_13 : decode cX11_isInForce 13 = .ok (.iload_n 1, 1) := by decide +kernel
theorem dX11_isInForce_14 : decode cX11_isInForce 14 = .ok (.iaload, 1) := by decide +kernel
theorem dX11_isInForce_15 : decode cX11_isInForce 15 = .ok (.iconst 1, 1) := by decide +kernel
theorem dX11_isInForce_16 : decode cX11_isInForce 16 = .ok (.isub, 1) := by decide +kernel
theorem dX11_isInForce_17 : decode cX11_isInForce 17 = .ok (.i2l, 1) := by decide +kernel
theorem dX11_isInForce_18 : decode cX11_isInForce 18 = .ok (.invokestatic 86, 3) := by decide +kernel
theorem dX11_isInForce_21 : decode cX11_isInForce 21 = .ok (.ireturn, 1) := by decide +kernel
theorem dX11_forceOf_0 : decode cX11_forceOf 0 = .ok (.iconst 0, 1) := by decide +kernel
theorem dX11_forceOf_1 : decode cX11_forceOf 1 = .ok (.istore_n 2, 1) := by decide +kernel
theorem dX11_forceOf_2 : decode cX11_forceOf 2 = .ok (.iconst 0, 1) := by decide +kernel
theorem dX11_forceOf_3 : decode cX11_forceOf 3 = .ok (.istore_n 3, 1) := by decide +kernel
theorem dX11_forceOf_4 : decode cX11_forceOf 4 = .ok (.iload_n 3, 1) := by decide +kernel
theorem dX11_forceOf_5 : decode cX11_forceOf 5 = .ok (.aload_n 0, 1) := by decide +kernel
theorem dX11_forceOf_6 : decode cX11_forceOf 6 = .ok (.getfield 149, 3) := by decide +kernel
theorem dX11_forceOf_9 : decode cX11_forceOf 9 = .ok (.if_icmp .ge 28, 3) := by decide +kernel
theorem dX11_forceOf_12 : decode cX11_forceOf 12 = .ok (.iload_n 2, 1) := by decide +kernel
theorem dX11_forceOf_13 : decode cX11_forceOf 13 = .ok (.aload_n 0, 1) := by decide +kernel
theorem dX11_forceOf_14 : decode cX11_forceOf 14 = .ok (.iload_n 3, 1) := by decide +kernel
theorem dX11_forceOf_15 : decode cX11_forceOf 15 = .ok (.iload_n 1, 1) := by decide +kernel
theorem dX11_forceOf_16 : decode cX11_forceOf 16 = .ok (.invokevirtual 172, 3) := by decide +kernel
theorem dX11_forceOf_19 : decode cX11_forceOf 19 = .ok (.ifCond .eq 9, 3) := by decide +kernel
theorem dX11_forceOf_22 : decode cX11_forceOf 22 = .ok (.iconst 1, 1) := by decide +kernel
theorem dX11_forceOf_23 : decode cX11_forceOf 23 = .ok (.iload_n 3, 1) := by decide +kernel
theorem dX11_forceOf_24 : decode cX11_forceOf 24 = .ok (.ishl, 1) := by decide +kernel
theorem dX11_forceOf_25 : decode cX11_forceOf 25 = .ok (.goto 4, 3) := by decide +kernel
theorem dX11_forceOf_28 : decode cX11_forceOf 28 = .ok (.iconst 0, 1) := by decide +kernel
theorem dX11_forceOf_29 : decode cX11_forceOf 29 = .ok (.ior, 1) := by decide +kernel
theorem dX11_forceOf_30 : decode cX11_forceOf 30 = .ok (.istore_n 2, 1) := by decide +kernel
theorem dX11_forceOf_31 : decode cX11_forceOf 31 = .ok (.iinc 3 1, 3) := by decide +kernel
theorem dX11_forceOf_34 : decode cX11_forceOf 34 = .ok (.goto (-30), 3) := by decide +kernel
theorem dX11_forceOf_37 : decode cX11_forceOf 37 = .ok (.iload_n 2, 1) := by decide +kernel
theorem dX11_forceOf_38 : decode cX11_forceOf 38 = .ok (.ireturn, 1) := by decide +kernel
theorem dX11_undoneOf_0 : decode cX11_undoneOf 0 = .ok (.aload_n 0, 1) := by decide +kernel
theorem dX11_undoneOf_1 : decode cX11_undoneOf 1 = .ok (.iload_n 1, 1) := by decide +kernel
theorem dX11_undoneOf_2 : decode cX11_undoneOf 2 = .ok (.invokevirtual 176, 3) := by decide +kernel
theorem dX11_undoneOf_5 : decode cX11_undoneOf 5 = .ok (.istore_n 2, 1) := by decide +kernel
theorem dX11_undoneOf_6 : decode cX11_undoneOf 6 = .ok (.iconst 0, 1) := by decide +kernel
theorem dX11_undoneOf_7 : decode cX11_undoneOf 7 = .ok (.istore_n 3, 1) := by decide +kernel
theorem dX11_undoneOf_8 : decode cX11_undoneOf 8 = .ok (.iload_n 2, 1) := by decide +kernel
theorem dX11_undoneOf_9 : decode cX11_undoneOf 9 = .ok (.ifCond .eq 113, 3) := by decide +kernel
theorem dX11_undoneOf_12 : decode cX11_undoneOf 12 = .ok (.bipush (-6), 2) := by decide +kernel
theorem dX11_undoneOf_14 : decode cX11_undoneOf 14 = .ok (.istore 4, 2) := by decide +kernel
theorem dX11_undoneOf_16 : decode cX11_undoneOf 16 = .ok (.iconst 0, 1) := by decide +kernel
theorem dX11_undoneOf_17 : decode cX11_undoneOf 17 = .ok (.istore 5, 2) := by decide +kernel
theorem dX11_undoneOf_19 : decode cX11_undoneOf 19 = .ok (.iload 5, 2) := by decide +kernel
theorem dX11_undoneOf_21 : decode cX11_undoneOf 21 = .ok (.aload_n 0, 1) := by decide +kernel
theorem dX11_undoneOf_22 : decode cX11_undoneOf 22 = .ok (.getfield 149, 3) := by decide +kernel
theorem dX11_undoneOf_25 : decode cX11_undoneOf 25 = .ok (.if_icmp .ge 62, 3) := by decide +kernel
theorem dX11_undoneOf_28 : decode cX11_undoneOf 28 = .ok (.iload_n 2, 1) := by decide +kernel
theorem dX11_undoneOf_29 : decode cX11_undoneOf 29 = .ok (.iload 5, 2) := by decide +kernel
theorem dX11_undoneOf_31 : decode cX11_undoneOf 31 = .ok (.ishr, 1) := by decide +kernel
theorem dX11_undoneOf_32 : decode cX11_undoneOf 32 = .ok (.iconst 1, 1) := by decide +kernel
theorem dX11_undoneOf_33 : decode cX11_undoneOf 33 = .ok (.iand, 1) := by decide +kernel
theorem dX11_undoneOf_34 : decode cX11_undoneOf 34 = .ok (.iconst 1, 1) := by decide +kernel
theorem dX11_undoneOf_35 : decode cX11_undoneOf 35 = .ok (.if_icmp .ne 7, 3) := by decide +kernel
theorem dX11_undoneOf_38 : decode cX11_undoneOf 38 = .ok (.iconst 1, 1) := by decide +kernel
theorem dX11_undoneOf_39 : decode cX11_undoneOf 39 = .ok (.goto 4, 3) := by decide +kernel
theorem dX11_undoneOf_42 : decode cX11_undoneOf 42 = .ok (.iconst 0, 1) := by decide +kernel
theorem dX11_undoneOf_43 : decode cX11_undoneOf 43 = .ok (.istore 6, 2) := by decide +kernel
theorem dX11_undoneOf_45 : decode cX11_undoneOf 45 = .ok (.iload 6, 2) := by decide +kernel
theorem dX11_undoneOf_47 : decode cX11_undoneOf 47 = .ok (.ifCond .eq 30, 3) := by decide +kernel
theorem dX11_undoneOf_50 : decode cX11_undoneOf 50 = .ok (.iload 4, 2) := by decide +kernel
theorem dX11_undoneOf_52 : decode cX11_undoneOf 52 = .ok (.ifCond .lt 20, 3) := by decide +kernel
theorem dX11_undoneOf_55 : decode cX11_undoneOf 55 = .ok (.aload_n 0, 1) := by decide +kernel
theorem dX11_undoneOf_56 : decode cX11_undoneOf 56 = .ok (.getfield 13, 3) := by decide +kernel
theorem dX11_undoneOf_59 : decode cX11_undoneOf 59 = .ok (.iload 5, 2) := by decide +kernel
theorem dX11_undoneOf_61 : decode cX11_undoneOf 61 = .ok (.iaload, 1) := by decide +kernel
theorem dX11_undoneOf_62 : decode cX11_undoneOf 62 = .ok (.aload_n 0, 1) := by decide +kernel
theorem dX11_undoneOf_63 : decode cX11_undoneOf 63 = .ok (.getfield 13, 3) := by decide +kernel
theorem dX11_undoneOf_66 : decode cX11_undoneOf 66 = .ok (.iload 4, 2) := by decide +kernel
theorem dX11_undoneOf_68 : decode cX11_undoneOf 68 = .ok (.iaload, 1) := by decide +kernel
theorem dX11_undoneOf_69 : decode cX11_undoneOf 69 = .ok (.if_icmp .lt 8, 3) := by decide +kernel
theorem dX11_undoneOf_72 : decode cX11_undoneOf 72 = .ok (.iload 5, 2) := by decide +kernel
theorem dX11_undoneOf_74 : decode cX11_undoneOf 74 = .ok (.goto 5, 3) := by decide +kernel
theorem dX11_undoneOf_77 : decode cX11_undoneOf 77 = .ok (.iload 4, 2) := by decide +kernel
theorem dX11_undoneOf_79 : decode cX11_undoneOf 79 = .ok (.istore 4, 2) := by decide +kernel
theorem dX11_undoneOf_81 : decode cX11_undoneOf 81 = .ok (.iinc 5 1, 3) := by decide +kernel
theorem dX11_undoneOf_84 : decode cX11_undoneOf 84 = .ok (.goto (-65), 3) := by decide +kernel
theorem dX11_undoneOf_87 : decode cX11_undoneOf 87 = .ok (.iload_n 2, 1) := by decide +kernel
theorem dX11_undoneOf_88 : decode cX11_undoneOf 88 = .ok (.iconst 1, 1) := by decide +kernel
theorem dX11_undoneOf_89 : decode cX11_undoneOf 89 = .ok (.iload 4, 2) := by decide +kernel
theorem dX11_undoneOf_91 : decode cX11_undoneOf 91 = .ok (.ishl, 1) := by decide +kernel
theorem dX11_undoneOf_92 : decode cX11_undoneOf 92 = .ok (.iconst (-1), 1) := by decide +kernel
theorem dX11_undoneOf_93 : decode cX11_undoneOf 93 = .ok (.ixor, 1) := by decide +kernel
theorem dX11_undoneOf_94 : decode cX11_undoneOf 94 = .ok (.iand, 1) := by decide +kernel
theorem dX11_undoneOf_95 : decode cX11_undoneOf 95 = .ok (.istore_n 2, 1) := by decide +kernel
theorem dX11_undoneOf_96 : decode cX11_undoneOf 96 = .ok (.iload_n 3, 1) := by decide +kernel
theorem dX11_undoneOf_97 : decode cX11_undoneOf 97 = .ok (.iload_n 3, 1) := by decide +kernel
theorem dX11_undoneOf_98 : decode cX11_undoneOf 98 = .ok (.iload 4, 2) := by decide +kernel
theorem dX11_undoneOf_100 : decode cX11_undoneOf 100 = .ok (.ishr, 1) := by decide +kernel
theorem dX11_undoneOf_101 : decode cX11_undoneOf 101 = .ok (.iconst 1, 1) := by decide +kernel
theorem dX11_undoneOf_102 : decode cX11_undoneOf 102 = .ok (.iand, 1) := by decide +kernel
theorem dX11_undoneOf_103 : decode cX11_undoneOf 103 = .ok (.ifCond .ne 13, 3) := by decide +kernel
theorem dX11_undoneOf_106 : decode cX11_undoneOf 106 = .ok (.aload_n 0, 1) := by decide +kernel
theorem dX11_undoneOf_107 : decode cX11_undoneOf 107 = .ok (.getfield 46, 3) := by decide +kernel
theorem dX11_undoneOf_110 : decode cX11_undoneOf 110 = .ok (.iload 4, 2) := by decide +kernel
theorem dX11_undoneOf_112 : decode cX11_undoneOf 112 = .ok (.iaload, 1) := by decide +kernel
theorem dX11_undoneOf_113 : decode cX11_undoneOf 113 = .ok (.goto 4, 3) := by decide +kernel
theorem dX11_undoneOf_116 : decode cX11_undoneOf 116 = .ok (.iconst 0, 1) := by decide +kernel
theorem dX11_undoneOf_117 : decode cX11_undoneOf 117 = .ok (.ior, 1) := by decide +kernel
theorem dX11_undoneOf_118 : decode cX11_undoneOf 118 = .ok (.istore_n 3, 1) := by decide +kernel
theorem dX11_undoneOf_119 : decode cX11_undoneOf 119 = .ok (.goto (-111), 3) := by decide +kernel
theorem dX11_undoneOf_122 : decode cX11_undoneOf 122 = .ok (.iload_n 3, 1) := by decide +kernel
theorem dX11_undoneOf_123 : decode cX11_undoneOf 123 = .ok (.iconst 1, 1) := by decide +kernel
theorem dX11_undoneOf_124 : decode cX11_undoneOf 124 = .ok (.aload_n 0, 1) := by decide +kernel
theorem dX11_undoneOf_125 : decode cX11_undoneOf 125 = .ok (.getfield 149, 3) := by decide +kernel
theorem dX11_undoneOf_128 : decode cX11_undoneOf 128 = .ok (.ishl, 1) := by decide +kernel
theorem dX11_undoneOf_129 : decode cX11_undoneOf 129 = .ok (.iconst 1, 1) := by decide +kernel
theorem dX11_undoneOf_130 : decode cX11_undoneOf 130 = .ok (.isub, 1) := by decide +kernel
theorem dX11_undoneOf_131 : decode cX11_undoneOf 131 = .ok (.iand, 1) := by decide +kernel
theorem dX11_undoneOf_132 : decode cX11_undoneOf 132 = .ok (.ireturn, 1) := by decide +kernel
theorem dX11_force_0 : decode cX11_force 0 = .ok (.iload_n 1, 1) := by decide +kernel
theorem dX11_force_1 : decode cX11_force 1 = .ok (.invokestatic 156, 3) := by decide +kernel
theorem dX11_force_4 : decode cX11_force 4 = .ok (.ifCond .eq 15, 3) := by decide +kernel
theorem dX11_force_7 : decode cX11_force 7 = .ok (.iload_n 2, 1) := by decide +kernel
theorem dX11_force_8 : decode cX11_force 8 = .ok (.i2l, 1) := by decide +kernel
theorem dX11_force_9 : decode cX11_force 9 = .ok (.lconst 0, 1) := by decide +kernel
theorem dX11_force_10 : decode cX11_force 10 = .ok (.ldc2_w 179, 3) := by decide +kernel
theorem dX11_force_13 : decode cX11_force 13 = .ok (.invokestatic 86, 3) := by decide +kernel
theorem dX11_force_16 : decode cX11_force 16 = .ok (.ifCond .ne 6, 3) := by decide +kernel
theorem dX11_force_19 : decode cX11_force 19 = .ok (.bipush (-2), 2) := by decide +kernel
theorem dX11_force_21 : decode cX11_force 21 = .ok (.ireturn, 1) := by decide +kernel
theorem dX11_force_22 : decode cX11_force 22 = .ok (.iload_n 2, 1) := by decide +kernel
theorem dX11_force_23 : decode cX11_force 23 = .ok (.ifCond .ne 11, 3) := by decide +kernel
theorem dX11_force_26 : decode cX11_force 26 = .ok (.aload_n 0, 1) := by decide +kernel
theorem dX11_force_27 : decode cX11_force 27 = .ok (.iload_n 1, 1) := by decide +kernel
theorem dX11_force_28 : decode cX11_force 28 = .ok (.invokevirtual 176, 3) := by decide +kernel
theorem dX11_force_31 : decode cX11_force 31 = .ok (.goto 29, 3) := by decide +kernel
theorem dX11_force_34 : decode cX11_force 34 = .ok (.iload_n 2, 1) := by decide +kernel
theorem dX11_force_35 : decode cX11_force 35 = .ok (.iconst 1, 1) := by decide +kernel
theorem dX11_force_36 : decode cX11_force 36 = .ok (.if_icmp .ne 11, 3) := by decide +kernel
theorem dX11_force_39 : decode cX11_force 39 = .ok (.aload_n 0, 1) := by decide +kernel
theorem dX11_force_40 : decode cX11_force 40 = .ok (.iload_n 1, 1) := by decide +kernel
theorem dX11_force_41 : decode cX11_force 41 = .ok (.invokevirtual 181, 3) := by decide +kernel
theorem dX11_force_44 : decode cX11_force 44 = .ok (.goto 16, 3) := by decide +kernel
theorem dX11_force_47 : decode cX11_force 47 = .ok (.aload_n 0, 1) := by decide +kernel
theorem dX11_force_48 : decode cX11_force 48 = .ok (.iload_n 1, 1) := by decide +kernel
theorem dX11_force_49 : decode cX11_force 49 = .ok (.invokevirtual 176, 3) := by decide +kernel
theorem dX11_force_52 : decode cX11_force 52 = .ok (.aload_n 0, 1) := by decide +kernel
theorem dX11_force_53 : decode cX11_force 53 = .ok (.iload_n 1, 1) := by decide +kernel
theorem dX11_force_54 : decode cX11_force 54 = .ok (.invokevirtual 181, 3) := by decide +kernel
theorem dX11_force_57 : decode cX11_force 57 = .ok (.iconst (-1), 1) := by decide +kernel
theorem dX11_force_58 : decode cX11_force 58 = .ok (.ixor, 1) := by decide +kernel
theorem dX11_force_59 : decode cX11_force 59 = .ok (.iand, 1) := by decide +kernel
theorem dX11_force_60 : decode cX11_force 60 = .ok (.ireturn, 1) := by decide +kernel
theorem dX11_open_0 : decode cX11_open 0 = .ok (.iconst 0, 1) := by decide +kernel
theorem dX11_open_1 : decode cX11_open 1 = .ok (.istore_n 2, 1) := by decide +kernel
theorem dX11_open_2 : decode cX11_open 2 = .ok (.iconst 0, 1) := by decide +kernel
theorem dX11_open_3 : decode cX11_open 3 = .ok (.istore_n 3, 1) := by decide +kernel
theorem dX11_open_4 : decode cX11_open 4 = .ok (.iload_n 3, 1) := by decide +kernel
theorem dX11_open_5 : decode cX11_open 5 = .ok (.aload_n 0, 1) := by decide +kernel
theorem dX11_open_6 : decode cX11_open 6 = .ok (.getfield 149, 3) := by decide +kernel
theorem dX11_open_9 : decode cX11_open 9 = .ok (.if_icmp .ge 63, 3) := by decide +kernel
theorem dX11_open_12 : decode cX11_open 12 = .ok (.iconst 0, 1) := by decide +kernel
theorem dX11_open_13 : decode cX11_open 13 = .ok (.istore 4, 2) := by decide +kernel
theorem dX11_open_15 : decode cX11_open 15 = .ok (.iload 4, 2) := by decide +kernel
theorem dX11_open_17 : decode cX11_open 17 = .ok (.iconst 2, 1) := by decide +kernel
theorem dX11_open_18 : decode cX11_open 18 = .ok (.if_icmp .ge 48, 3) := by decide +kernel
theorem dX11_open_21 : decode cX11_open 21 = .ok (.iload 4, 2) := by decide +kernel
theorem dX11_open_23 : decode cX11_open 23 = .ok (.ifCond .ne 12, 3) := by decide +kernel
theorem dX11_open_26 : decode cX11_open 26 = .ok (.aload_n 0, 1) := by decide +kernel
theorem dX11_open_27 : decode cX11_open 27 = .ok (.getfield 31, 3) := by decide +kernel
theorem dX11_open_30 : decode cX11_open 30 = .ok (.iload_n 3, 1) := by decide +kernel
theorem dX11_open_31 : decode cX11_open 31 = .ok (.iaload, 1) := by decide +kernel
theorem dX11_open_32 : decode cX11_open 32 = .ok (.goto 9, 3) := by decide +kernel
theorem dX11_open_35 : decode cX11_open 35 = .ok (.aload_n 0, 1) := by decide +kernel
theorem dX11_open_36 : decode cX11_open 36 = .ok (.getfield 43, 3) := by decide +kernel
theorem dX11_open_39 : decode cX11_open 39 = .ok (.iload_n 3, 1) := by decide +kernel
theorem dX11_open_40 : decode cX11_open 40 = .ok (.iaload, 1) := by decide +kernel
theorem dX11_open_41 : decode cX11_open 41 = .ok (.ifCond .lt 19, 3) := by decide +kernel
theorem dX11_open_44 : decode cX11_open 44 = .ok (.iload_n 2, 1) := by decide +kernel
theorem dX11_open_45 : decode cX11_open 45 = .ok (.iload_n 1, 1) := by decide +kernel
theorem dX11_open_46 : decode cX11_open 46 = .ok (.if_icmp .ne 11, 3) := by decide +kernel
theorem dX11_open_49 : decode cX11_open 49 = .ok (.bipush 10, 2) := by decide +kernel
theorem dX11_open_51 : decode cX11_open 51 = .ok (.iload_n 3, 1) := by decide +kernel
theorem dX11_open_52 : decode cX11_open 52 = .ok (.imul, 1) := by decide +kernel
theorem dX11_open_53 : decode cX11_open 53 = .ok (.iload 4, 2) := by decide +kernel
theorem dX11_open_55 : decode cX11_open 55 = .ok (.iadd, 1) := by decide +kernel
theorem dX11_open_56 : decode cX11_open 56 = .ok (.ireturn, 1) := by decide +kernel
theorem dX11_open_57 : decode cX11_open 57 = .ok (.iinc 2 1, 3) := by decide +kernel
theorem dX11_open_60 : decode cX11_open 60 = .ok (.iinc 4 1, 3) := by decide +kernel
theorem dX11_open_63 : decode cX11_open 63 = .ok (.goto (-48), 3) := by decide +kernel
theorem dX11_open_66 : decode cX11_open 66 = .ok (.iinc 3 1, 3) := by decide +kernel
theorem dX11_open_69 : decode cX11_open 69 = .ok (.goto (-65), 3) := by decide +kernel
theorem dX11_open_72 : decode cX11_open 72 = .ok (.iload_n 1, 1) := by decide +kernel
theorem dX11_open_73 : decode cX11_open 73 = .ok (.iconst (-1), 1) := by decide +kernel
theorem dX11_open_74 : decode cX11_open 74 = .ok (.if_icmp .ne 7, 3) := by decide +kernel
theorem dX11_open_77 : decode cX11_open 77 = .ok (.iload_n 2, 1) := by decide +kernel
theorem dX11_open_78 : decode cX11_open 78 = .ok (.goto 5, 3) := by decide +kernel
theorem dX11_open_81 : decode cX11_open 81 = .ok (.bipush (-6), 2) := by decide +kernel
theorem dX11_open_83 : decode cX11_open 83 = .ok (.ireturn, 1) := by decide +kernel
theorem dX11_isSecond_0 : decode cX11_isSecond 0 = .ok (.iconst 0, 1) := by decide +kernel
theorem dX11_isSecond_1 : decode cX11_isSecond 1 = .ok (.istore_n 3, 1) := by decide +kernel
theorem dX11_isSecond_2 : decode cX11_isSecond 2 = .ok (.iconst 0, 1) := by decide +kernel
theorem dX11_isSecond_3 : decode cX11_isSecond 3 = .ok (.istore 4, 2) := by decide +kernel
theorem dX11_isSecond_5 : decode cX11_isSecond 5 = .ok (.iload 4, 2) := by decide +kernel
theorem dX11_isSecond_7 : decode cX11_isSecond 7 = .ok (.iload_n 1, 1) := by decide +kernel
theorem dX11_isSecond_8 : decode cX11_isSecond 8 = .ok (.if_icmp .gt 62, 3) := by decide +kernel
theorem dX11_isSecond_11 : decode cX11_isSecond 11 = .ok (.iload_n 3, 1) := by decide +kernel
theorem dX11_isSecond_12 : decode cX11_isSecond 12 = .ok (.aload_n 0, 1) := by decide +kernel
theorem dX11_isSecond_13 : decode cX11_isSecond 13 = .ok (.getfield 31, 3) := by decide +kernel
theorem dX11_isSecond_16 : decode cX11_isSecond 16 = .ok (.iload 4, 2) := by decide +kernel
theorem dX11_isSecond_18 : decode cX11_isSecond 18 = .ok (.iaload, 1) := by decide +kernel
theorem dX11_isSecond_19 : decode cX11_isSecond 19 = .ok (.ifCond .lt 18, 3) := by decide +kernel
theorem dX11_isSecond_22 : decode cX11_isSecond 22 = .ok (.iload 4, 2) := by decide +kernel
theorem dX11_isSecond_24 : decode cX11_isSecond 24 = .ok (.iload_n 1, 1) := by decide +kernel
theorem dX11_isSecond_25 : decode cX11_isSecond 25 = .ok (.if_icmp .lt 8, 3) := by decide +kernel
theorem dX11_isSecond_28 : decode cX11_isSecond 28 = .ok (.iload_n 2, 1) := by decide +kernel
theorem dX11_isSecond_29 : decode cX11_isSecond 29 = .ok (.iconst 1, 1) := by decide +kernel
theorem dX11_isSecond_30 : decode cX11_isSecond 30 = .ok (.if_icmp .ne 7, 3) := by decide +kernel
theorem dX11_isSecond_33 : decode cX11_isSecond 33 = .ok (.iconst 1, 1) := by decide +kernel
theorem dX11_isSecond_34 : decode cX11_isSecond 34 = .ok (.goto 4, 3) := by decide +kernel
theorem dX11_isSecond_37 : decode cX11_isSecond 37 = .ok (.iconst 0, 1) := by decide +kernel
theorem dX11_isSecond_38 : decode cX11_isSecond 38 = .ok (.iadd, 1) := by decide +kernel
theorem dX11_isSecond_39 : decode cX11_isSecond 39 = .ok (.istore_n 3, 1) := by decide +kernel
theorem dX11_isSecond_40 : decode cX11_isSecond 40 = .ok (.iload_n 3, 1) := by decide +kernel
theorem dX11_isSecond_41 : decode cX11_isSecond 41 = .ok (.aload_n 0, 1) := by decide +kernel
theorem dX11_isSecond_42 : decode cX11_isSecond 42 = .ok (.getfield 43, 3) := by decide +kernel
theorem dX11_isSecond_45 : decode cX11_isSecond 45 = .ok (.iload 4, 2) := by decide +kernel
theorem dX11_isSecond_47 : decode cX11_isSecond 47 = .ok (.iaload, 1) := by decide +kernel
theorem dX11_isSecond_48 : decode cX11_isSecond 48 = .ok (.ifCond .lt 13, 3) := by decide +kernel
theorem dX11_isSecond_51 : decode cX11_isSecond 51 = .ok (.iload 4, 2) := by decide +kernel
theorem dX11_isSecond_53 : decode cX11_isSecond 53 = .ok (.iload_n 1, 1) := by decide +kernel
theorem dX11_isSecond_54 : decode cX11_isSecond 54 = .ok (.if_icmp .ge 7, 3) := by decide +kernel
theorem dX11_isSecond_57 : decode cX11_isSecond 57 = .ok (.iconst 1, 1) := by decide +kernel
theorem dX11_isSecond_58 : decode cX11_isSecond 58 = .ok (.goto 4, 3) := by decide +kernel
theorem dX11_isSecond_61 : decode cX11_isSecond 61 = .ok (.iconst 0, 1) := by decide +kernel
theorem dX11_isSecond_62 : decode cX11_isSecond 62 = .ok (.iadd, 1) := by decide +kernel
theorem dX11_isSecond_63 : decode cX11_isSecond 63 = .ok (.istore_n 3, 1) := by decide +kernel
theorem dX11_isSecond_64 : decode cX11_isSecond 64 = .ok (.iinc 4 1, 3) := by decide +kernel
theorem dX11_isSecond_67 : decode cX11_isSecond 67 = .ok (.goto (-62), 3) := by decide +kernel
theorem dX11_isSecond_70 : decode cX11_isSecond 70 = .ok (.iload_n 3, 1) := by decide +kernel
theorem dX11_isSecond_71 : decode cX11_isSecond 71 = .ok (.bipush 8, 2) := by decide +kernel
theorem dX11_isSecond_73 : decode cX11_isSecond 73 = .ok (.if_icmp .ge 19, 3) := by decide +kernel
theorem dX11_isSecond_76 : decode cX11_isSecond 76 = .ok (.aload_n 0, 1) := by decide +kernel
theorem dX11_isSecond_77 : decode cX11_isSecond 77 = .ok (.getfield 184, 3) := by decide +kernel
theorem dX11_isSecond_80 : decode cX11_isSecond 80 = .ok (.iload_n 3, 1) := by decide +kernel
theorem dX11_isSecond_81 : decode cX11_isSecond 81 = .ok (.ishr, 1) := by decide +kernel
theorem dX11_isSecond_82 : decode cX11_isSecond 82 = .ok (.iconst 1, 1) := by decide +kernel
theorem dX11_isSecond_83 : decode cX11_isSecond 83 = .ok (.iand, 1) := by decide +kernel
theorem dX11_isSecond_84 : decode cX11_isSecond 84 = .ok (.iconst 1, 1) := by decide +kernel
theorem dX11_isSecond_85 : decode cX11_isSecond 85 = .ok (.if_icmp .ne 7, 3) := by decide +kernel
theorem dX11_isSecond_88 : decode cX11_isSecond 88 = .ok (.iconst 1, 1) := by decide +kernel
theorem dX11_isSecond_89 : decode cX11_isSecond 89 = .ok (.goto 4, 3) := by decide +kernel
theorem dX11_isSecond_92 : decode cX11_isSecond 92 = .ok (.iconst 0, 1) := by decide +kernel
theorem dX11_isSecond_93 : decode cX11_isSecond 93 = .ok (.ireturn, 1) := by decide +kernel
theorem dX11_timeOf_0 : decode cX11_timeOf 0 = .ok (.aload_n 0, 1) := by decide +kernel
theorem dX11_timeOf_1 : decode cX11_timeOf 1 = .ok (.getfield 31, 3) := by decide +kernel
theorem dX11_timeOf_4 : decode cX11_timeOf 4 = .ok (.iload_n 1, 1) := by decide +kernel
theorem dX11_timeOf_5 : decode cX11_timeOf 5 = .ok (.iaload, 1) := by decide +kernel
theorem dX11_timeOf_6 : decode cX11_timeOf 6 = .ok (.ifCond .lt 21, 3) := by decide +kernel
theorem dX11_timeOf_9 : decode cX11_timeOf 9 = .ok (.aload_n 0, 1) := by decide +kernel
theorem dX11_timeOf_10 : decode cX11_timeOf 10 = .ok (.iload_n 1, 1) := by decide +kernel
theorem dX11_timeOf_11 : decode cX11_timeOf 11 = .ok (.iconst 0, 1) := by decide +kernel
theorem dX11_timeOf_12 : decode cX11_timeOf 12 = .ok (.invokevirtual 187, 3) := by decide +kernel
theorem dX11_timeOf_15 : decode cX11_timeOf 15 = .ok (.ifCond .eq 12, 3) := by decide +kernel
theorem dX11_timeOf_18 : decode cX11_timeOf 18 = .ok (.aload_n 0, 1) := by decide +kernel
theorem dX11_timeOf_19 : decode cX11_timeOf 19 = .ok (.getfield 31, 3) := by decide +kernel
theorem dX11_timeOf_22 : decode cX11_timeOf 22 = .ok (.iload_n 1, 1) := by decide +kernel
theorem dX11_timeOf_23 : decode cX11_timeOf 23 = .ok (.iaload, 1) := by decide +kernel
theorem dX11_timeOf_24 : decode cX11_timeOf 24 = .ok (.goto 9, 3) := by decide +kernel
theorem dX11_timeOf_27 : decode cX11_timeOf 27 = .ok (.aload_n 0, 1) := by decide +kernel
theorem dX11_timeOf_28 : decode cX11_timeOf 28 = .ok (.getfield 28, 3) := by decide +kernel
theorem dX11_timeOf_31 : decode cX11_timeOf 31 = .ok (.iload_n 1, 1) := by decide +kernel
theorem dX11_timeOf_32 : decode cX11_timeOf 32 = .ok (.iaload, 1) := by decide +kernel
theorem dX11_timeOf_33 : decode cX11_timeOf 33 = .ok (.ireturn, 1) := by decide +kernel
theorem dX11_wayOf_0 : decode cX11_wayOf 0 = .ok (.aload_n 0, 1) := by decide +kernel
theorem dX11_wayOf_1 : decode cX11_wayOf 1 = .ok (.getfield 49, 3) := by decide +kernel
theorem dX11_wayOf_4 : decode cX11_wayOf 4 = .ok (.ifCond .lt 10, 3) := by decide +kernel
theorem dX11_wayOf_7 : decode cX11_wayOf 7 = .ok (.aload_n 0, 1) := by decide +kernel
theorem dX11_wayOf_8 : decode cX11_wayOf 8 = .ok (.getfield 49, 3) := by decide +kernel
theorem dX11_wayOf_11 : decode cX11_wayOf 11 = .ok (.goto 36, 3) := by decide +kernel
theorem dX11_wayOf_14 : decode cX11_wayOf 14 = .ok (.aload_n 0, 1) := by decide +kernel
theorem dX11_wayOf_15 : decode cX11_wayOf 15 = .ok (.getfield 43, 3) := by decide +kernel
theorem dX11_wayOf_18 : decode cX11_wayOf 18 = .ok (.iload_n 1, 1) := by decide +kernel
theorem dX11_wayOf_19 : decode cX11_wayOf 19 = .ok (.iaload, 1) := by decide +kernel
theorem dX11_wayOf_20 : decode cX11_wayOf 20 = .ok (.ifCond .lt 21, 3) := by decide +kernel
theorem dX11_wayOf_23 : decode cX11_wayOf 23 = .ok (.aload_n 0, 1) := by decide +kernel
theorem dX11_wayOf_24 : decode cX11_wayOf 24 = .ok (.iload_n 1, 1) := by decide +kernel
theorem dX11_wayOf_25 : decode cX11_wayOf 25 = .ok (.iconst 1, 1) := by decide +kernel
theorem dX11_wayOf_26 : decode cX11_wayOf 26 = .ok (.invokevirtual 187, 3) := by decide +kernel
theorem dX11_wayOf_29 : decode cX11_wayOf 29 = .ok (.ifCond .eq 12, 3) := by decide +kernel
theorem dX11_wayOf_32 : decode cX11_wayOf 32 = .ok (.aload_n 0, 1) := by decide +kernel
theorem dX11_wayOf_33 : decode cX11_wayOf 33 = .ok (.getfield 43, 3) := by decide +kernel
theorem dX11_wayOf_36 : decode cX11_wayOf 36 = .ok (.iload_n 1, 1) := by decide +kernel
theorem dX11_wayOf_37 : decode cX11_wayOf 37 = .ok (.iaload, 1) := by decide +kernel
theorem dX11_wayOf_38 : decode cX11_wayOf 38 = .ok (.goto 9, 3) := by decide +kernel
theorem dX11_wayOf_41 : decode cX11_wayOf 41 = .ok (.aload_n 0, 1) := by decide +kernel
theorem dX11_wayOf_42 : decode cX11_wayOf 42 = .ok (.getfield 40, 3) := by decide +kernel
theorem dX11_wayOf_45 : decode cX11_wayOf 45 = .ok (.iload_n 1, 1) := by decide +kernel
theorem dX11_wayOf_46 : decode cX11_wayOf 46 = .ok (.iaload, 1) := by decide +kernel
theorem dX11_wayOf_47 : decode cX11_wayOf 47 = .ok (.ireturn, 1) := by decide +kernel
theorem dX11_isPiece_0 : decode cX11_isPiece 0 = .ok (.iload_n 1, 1) := by decide +kernel
theorem dX11_isPiece_1 : decode cX11_isPiece 1 = .ok (.i2l, 1) := by decide +kernel
theorem dX11_isPiece_2 : decode cX11_isPiece 2 = .ok (.lconst 0, 1) := by decide +kernel
theorem dX11_isPiece_3 : decode cX11_isPiece 3 = .ok (.aload_n 0, 1) := by decide +kernel
theorem dX11_isPiece_4 : decode cX11_isPiece 4 = .ok (.getfield 190, 3) := by decide +kernel
theorem dX11_isPiece_7 : decode cX11_isPiece 7 = .ok (.iconst 1, 1) := by decide +kernel
theorem dX11_isPiece_8 : decode cX11_isPiece 8 = .ok (.isub, 1) := by decide +kernel
theorem dX11_isPiece_9 : decode cX11_isPiece 9 = .ok (.i2l, 1) := by decide +kernel
theorem dX11_isPiece_10 : decode cX11_isPiece 10 = .ok (.invokestatic 86, 3) := by decide +kernel
theorem dX11_isPiece_13 : decode cX11_isPiece 13 = .ok (.ireturn, 1) := by decide +kernel
theorem dX11_layPiece_0 : decode cX11_layPiece 0 = .ok (.aload_n 0, 1) := by decide +kernel
theorem dX11_layPiece_1 : decode cX11_layPiece 1 = .ok (.getfield 53, 3) := by decide +kernel
theorem dX11_layPiece_4 : decode cX11_layPiece 4 = .ok (.iload_n 1, 1) := by decide +kernel
theorem dX11_layPiece_5 : decode cX11_layPiece 5 = .ok (.iload_n 2, 1) := by decide +kernel
theorem dX11_layPiece_6 : decode cX11_layPiece 6 = .ok (.iastore, 1) := by decide +kernel
theorem dX11_layPiece_7 : decode cX11_layPiece 7 = .ok (.aload_n 0, 1) := by decide +kernel
theorem dX11_layPiece_8 : decode cX11_layPiece 8 = .ok (.getfield 56, 3) := by decide +kernel
theorem dX11_layPiece_11 : decode cX11_layPiece 11 = .ok (.iload_n 1, 1) := by decide +kernel
theorem dX11_layPiece_12 : decode cX11_layPiece 12 = .ok (.bipush (-6), 2) := by decide +kernel
theorem dX11_layPiece_14 : decode cX11_layPiece 14 = .ok (.iastore, 1) := by decide +kernel
theorem dX11_layPiece_15 : decode cX11_layPiece 15 = .ok (.aload_n 0, 1) := by decide +kernel
theorem dX11_layPiece_16 : decode cX11_layPiece 16 = .ok (.getfield 59, 3) := by decide +kernel
theorem dX11_layPiece_19 : decode cX11_layPiece 19 = .ok (.iload_n 1, 1) := by decide +kernel
theorem dX11_layPiece_20 : decode cX11_layPiece 20 = .ok (.bipush (-6), 2) := by decide +kernel
theorem dX11_layPiece_22 : decode cX11_layPiece 22 = .ok (.iastore, 1) := by decide +kernel
theorem dX11_layPiece_23 : decode cX11_layPiece 23 = .ok (.aload_n 0, 1) := by decide +kernel
theorem dX11_layPiece_24 : decode cX11_layPiece 24 = .ok (.getfield 62, 3) := by decide +kernel
theorem dX11_layPiece_27 : decode cX11_layPiece 27 = .ok (.iload_n 1, 1) := by decide +kernel
theorem dX11_layPiece_28 : decode cX11_layPiece 28 = .ok (.iload_n 3, 1) := by decide +kernel
theorem dX11_layPiece_29 : decode cX11_layPiece 29 = .ok (.iastore, 1) := by decide +kernel
theorem dX11_layPiece_30 : decode cX11_layPiece 30 = .ok (.aload_n 0, 1) := by decide +kernel
theorem dX11_layPiece_31 : decode cX11_layPiece 31 = .ok (.getfield 65, 3) := by decide +kernel
theorem dX11_layPiece_34 : decode cX11_layPiece 34 = .ok (.iload_n 1, 1) := by decide +kernel
theorem dX11_layPiece_35 : decode cX11_layPiece 35 = .ok (.bipush (-6), 2) := by decide +kernel
theorem dX11_layPiece_37 : decode cX11_layPiece 37 = .ok (.iastore, 1) := by decide +kernel
theorem dX11_layPiece_38 : decode cX11_layPiece 38 = .ok (.return_, 1) := by decide +kernel
theorem dX11_piece_0 : decode cX11_piece 0 = .ok (.iload_n 1, 1) := by decide +kernel
theorem dX11_piece_1 : decode cX11_piece 1 = .ok (.invokestatic 156, 3) := by decide +kernel
theorem dX11_piece_4 : decode cX11_piece 4 = .ok (.ifCond .eq 15, 3) := by decide +kernel
theorem dX11_piece_7 : decode cX11_piece 7 = .ok (.iload_n 2, 1) := by decide +kernel
theorem dX11_piece_8 : decode cX11_piece 8 = .ok (.i2l, 1) := by decide +kernel
theorem dX11_piece_9 : decode cX11_piece 9 = .ok (.lconst 0, 1) := by decide +kernel
theorem dX11_piece_10 : decode cX11_piece 10 = .ok (.ldc2_w 193, 3) := by decide +kernel
theorem dX11_piece_13 : decode cX11_piece 13 = .ok (.invokestatic 86, 3) := by decide +kernel
theorem dX11_piece_16 : decode cX11_piece 16 = .ok (.ifCond .ne 6, 3) := by decide +kernel
theorem dX11_piece_19 : decode cX11_piece 19 = .ok (.bipush (-2), 2) := by decide +kernel
theorem dX11_piece_21 : decode cX11_piece 21 = .ok (.ireturn, 1) := by decide +kernel
theorem dX11_piece_22 : decode cX11_piece 22 = .ok (.aload_n 0, 1) := by decide +kernel
theorem dX11_piece_23 : decode cX11_piece 23 = .ok (.getfield 190, 3) := by decide +kernel
theorem dX11_piece_26 : decode cX11_piece 26 = .ok (.bipush 8, 2) := by decide +kernel
theorem dX11_piece_28 : decode cX11_piece 28 = .ok (.if_icmp .ne 6, 3) := by decide +kernel
theorem dX11_piece_31 : decode cX11_piece 31 = .ok (.bipush (-4), 2) := by decide +kernel
theorem dX11_piece_33 : decode cX11_piece 33 = .ok (.ireturn, 1) := by decide +kernel
theorem dX11_piece_34 : decode cX11_piece 34 = .ok (.aload_n 0, 1) := by decide +kernel
theorem dX11_piece_35 : decode cX11_piece 35 = .ok (.aload_n 0, 1) := by decide +kernel
theorem dX11_piece_36 : decode cX11_piece 36 = .ok (.getfield 190, 3) := by decide +kernel
theorem dX11_piece_39 : decode cX11_piece 39 = .ok (.iload_n 1, 1) := by decide +kernel
theorem dX11_piece_40 : decode cX11_piece 40 = .ok (.iload_n 2, 1) := by decide +kernel
theorem dX11_piece_41 : decode cX11_piece 41 = .ok (.invokevirtual 195, 3) := by decide +kernel
theorem dX11_piece_44 : decode cX11_piece 44 = .ok (.aload_n 0, 1) := by decide +kernel
theorem dX11_piece_45 : decode cX11_piece 45 = .ok (.dup, 1) := by decide +kernel
theorem dX11_piece_46 : decode cX11_piece 46 = .ok (.getfield 190, 3) := by decide +kernel
theorem dX11_piece_49 : decode cX11_piece 49 = .ok (.iconst 1, 1) := by decide +kernel
theorem dX11_piece_50 : decode cX11_piece 50 = .ok (.iadd, 1) := by decide +kernel
theorem dX11_piece_51 : decode cX11_piece 51 = .ok (.putfield 190, 3) := by decide +kernel
theorem dX11_piece_54 : decode cX11_piece 54 = .ok (.aload_n 0, 1) := by decide +kernel
theorem dX11_piece_55 : decode cX11_piece 55 = .ok (.getfield 190, 3) := by decide +kernel
theorem dX11_piece_58 : decode cX11_piece 58 = .ok (.iconst 1, 1) := by decide +kernel
theorem dX11_piece_59 : decode cX11_piece 59 = .ok (.isub, 1) := by decide +kernel
theorem dX11_piece_60 : decode cX11_piece 60 = .ok (.ireturn, 1) := by decide +kernel
theorem dX11_about_0 : decode cX11_about 0 = .ok (.aload_n 0, 1) := by decide +kernel
theorem dX11_about_1 : decode cX11_about 1 = .ok (.iload_n 1, 1) := by decide +kernel
theorem dX11_about_2 : decode cX11_about 2 = .ok (.invokevirtual 198, 3) := by decide +kernel
theorem dX11_about_5 : decode cX11_about 5 = .ok (.ifCond .ne 5, 3) := by decide +kernel
theorem dX11_about_8 : decode cX11_about 8 = .ok (.iconst (-1), 1) := by decide +kernel
theorem dX11_about_9 : decode cX11_about 9 = .ok (.ireturn, 1) := by decide +kernel
theorem dX11_about_10 : decode cX11_about 10 = .ok (.iload_n 2, 1) := by decide +kernel
theorem dX11_about_11 : decode cX11_about 11 = .ok (.tableswitch 68 0 4 #[33, 40, 47, 54, 61], 33) := by decide +kernel
theorem dX11_about_44 : decode cX11_about 44 = .ok (.aload_n 0, 1) := by decide +kernel
theorem dX11_about_45 : decode cX11_about 45 = .ok (.getfield 53, 3) := by decide +kernel
theorem dX11_about_48 : decode cX11_about 48 = .ok (.iload_n 1, 1) := by decide +kernel
theorem dX11_about_49 : decode cX11_about 49 = .ok (.iaload, 1) := by decide +kernel
theorem dX11_about_50 : decode cX11_about 50 = .ok (.ireturn, 1) := by decide +kernel
theorem dX11_about_51 : decode cX11_about 51 = .ok (.aload_n 0, 1) := by decide +kernel
theorem dX11_about_52 : decode cX11_about 52 = .ok (.getfield 56, 3) := by decide +kernel
theorem dX11_about_55 : decode cX11_about 55 = .ok (.iload_n 1, 1) := by decide +kernel
theorem dX11_about_56 : decode cX11_about 56 = .ok (.iaload, 1) := by decide +kernel
theorem dX11_about_57 : decode cX11_about 57 = .ok (.ireturn, 1) := by decide +kernel
theorem dX11_about_58 : decode cX11_about 58 = .ok (.aload_n 0, 1) := by decide +kernel
theorem dX11_about_59 : decode cX11_about 59 = .ok (.getfield 59, 3) := by decide +kernel
theorem dX11_about_62 : decode cX11_about 62 = .ok (.iload_n 1, 1) := by decide +kernel
theorem dX11_about_63 : decode cX11_about 63 = .ok (.iaload, 1) := by decide +kernel
theorem dX11_about_64 : decode cX11_about 64 = .ok (.ireturn, 1) := by decide +kernel
theorem dX11_about_65 : decode cX11_about 65 = .ok (.aload_n 0, 1) := by decide +kernel
theorem dX11_about_66 : decode cX11_about 66 = .ok (.getfield 62, 3) := by decide +kernel
theorem dX11_about_69 : decode cX11_about 69 = .ok (.iload_n 1, 1) := by decide +kernel
theorem dX11_about_70 : decode cX11_about 70 = .ok (.iaload, 1) := by decide +kernel
theorem dX11_about_71 : decode cX11_about 71 = .ok (.ireturn, 1) := by decide +kernel
theorem dX11_about_72 : decode cX11_about 72 = .ok (.aload_n 0, 1) := by decide +kernel
theorem dX11_about_73 : decode cX11_about 73 = .ok (.getfield 65, 3) := by decide +kernel
theorem dX11_about_76 : decode cX11_about 76 = .ok (.iload_n 1, 1) := by decide +kernel
theorem dX11_about_77 : decode cX11_about 77 = .ok (.iaload, 1) := by decide +kernel
theorem dX11_about_78 : decode cX11_about 78 = .ok (.ireturn, 1) := by decide +kernel
theorem dX11_about_79 : decode cX11_about 79 = .ok (.bipush (-2), 2) := by decide +kernel
theorem dX11_about_81 : decode cX11_about 81 = .ok (.ireturn, 1) := by decide +kernel
theorem dX11_change_0 : decode cX11_change 0 = .ok (.aload_n 0, 1) := by decide +kernel
theorem dX11_change_1 : decode cX11_change 1 = .ok (.iload_n 1, 1) := by decide +kernel
theorem dX11_change_2 : decode cX11_change 2 = .ok (.invokevirtual 198, 3) := by decide +kernel
theorem dX11_change_5 : decode cX11_change 5 = .ok (.ifCond .ne 5, 3) := by decide +kernel
theorem dX11_change_8 : decode cX11_change 8 = .ok (.iconst (-1), 1) := by decide +kernel
theorem dX11_change_9 : decode cX11_change 9 = .ok (.ireturn, 1) := by decide +kernel
theorem dX11_change_10 : decode cX11_change 10 = .ok (.iload_n 2, 1) := by decide +kernel
theorem dX11_change_11 : decode cX11_change 11 = .ok (.iconst 3, 1) := by decide +kernel
theorem dX11_change_12 : decode cX11_change 12 = .ok (.if_icmp .ne 15, 3) := by decide +kernel
theorem dX11_change_15 : decode cX11_change 15 = .ok (.iload_n 3, 1) := by decide +kernel
theorem dX11_change_16 : decode cX11_change 16 = .ok (.i2l, 1) := by decide +kernel
theorem dX11_change_17 : decode cX11_change 17 = .ok (.lconst 0, 1) := by decide +kernel
theorem dX11_change_18 : decode cX11_change 18 = .ok (.ldc2_w 193, 3) := by decide +kernel
theorem dX11_change_21 : decode cX11_change 21 = .ok (.invokestatic 86, 3) := by decide +kernel
theorem dX11_change_24 : decode cX11_change 24 = .ok (.goto 43, 3) := by decide +kernel
theorem dX11_change_27 : decode cX11_change 27 = .ok (.iload_n 2, 1) := by decide +kernel
theorem dX11_change_28 : decode cX11_change 28 = .ok (.i2l, 1) := by decide +kernel
theorem dX11_change_29 : decode cX11_change 29 = .ok (.lconst 1, 1) := by decide +kernel
theorem dX11_change_30 : decode cX11_change 30 = .ok (.ldc2_w 179, 3) := by decide +kernel
theorem dX11_change_33 : decode cX11_change 33 = .ok (.invokestatic 86, 3) := by decide +kernel
theorem dX11_change_36 : decode cX11_change 36 = .ok (.ifCond .eq 30, 3) := by decide +kernel
theorem dX11_change_39 : decode cX11_change 39 = .ok (.iload_n 3, 1) := by decide +kernel
theorem dX11_change_40 : decode cX11_change 40 = .ok (.iconst (-1), 1) := by decide +kernel
theorem dX11_change_41 : decode cX11_change 41 = .ok (.if_icmp .eq 21, 3) := by decide +kernel
theorem dX11_change_44 : decode cX11_change 44 = .ok (.iload_n 3, 1) := by decide +kernel
theorem dX11_change_45 : decode cX11_change 45 = .ok (.i2l, 1) := by decide +kernel
theorem dX11_change_46 : decode cX11_change 46 = .ok (.aload_n 0, 1) := by decide +kernel
theorem dX11_change_47 : decode cX11_change 47 = .ok (.getfield 53, 3) := by decide +kernel
theorem dX11_change_50 : decode cX11_change 50 = .ok (.iload_n 1, 1) := by decide +kernel
theorem dX11_change_51 : decode cX11_change 51 = .ok (.iaload, 1) := by decide +kernel
theorem dX11_change_52 : decode cX11_change 52 = .ok (.i2l, 1) := by decide +kernel
theorem dX11_change_53 : decode cX11_change 53 = .ok (.ldc2_w 84, 3) := by decide +kernel
theorem dX11_change_56 : decode cX11_change 56 = .ok (.invokestatic 86, 3) := by decide +kernel
theorem dX11_change_59 : decode cX11_change 59 = .ok (.ifCond .eq 7, 3) := by decide +kernel
theorem dX11_change_62 : decode cX11_change 62 = .ok (.iconst 1, 1) := by decide +kernel
theorem dX11_change_63 : decode cX11_change 63 = .ok (.goto 4, 3) := by decide +kernel
theorem dX11_change_66 : decode cX11_change 66 = .ok (.iconst 0, 1) := by decide +kernel
theorem dX11_change_67 : decode cX11_change 67 = .ok (.istore 4, 2) := by decide +kernel
theorem dX11_change_69 : decode cX11_change 69 = .ok (.iload 4, 2) := by decide +kernel
theorem dX11_change_71 : decode cX11_change 71 = .ok (.ifCond .ne 6, 3) := by decide +kernel
theorem dX11_change_74 : decode cX11_change 74 = .ok (.bipush (-2), 2) := by decide +kernel
theorem dX11_change_76 : decode cX11_change 76 = .ok (.ireturn, 1) := by decide +kernel
theorem dX11_change_77 : decode cX11_change 77 = .ok (.iload_n 2, 1) := by decide +kernel
theorem dX11_change_78 : decode cX11_change 78 = .ok (.iconst 3, 1) := by decide +kernel
theorem dX11_change_79 : decode cX11_change 79 = .ok (.if_icmp .ge 12, 3) := by decide +kernel
theorem dX11_change_82 : decode cX11_change 82 = .ok (.iload_n 3, 1) := by decide +kernel
theorem dX11_change_83 : decode cX11_change 83 = .ok (.ifCond .ge 8, 3) := by decide +kernel
theorem dX11_change_86 : decode cX11_change 86 = .ok (.bipush (-6), 2) := by decide +kernel
theorem dX11_change_88 : decode cX11_change 88 = .ok (.goto 4, 3) := by decide +kernel
theorem dX11_change_91 : decode cX11_change 91 = .ok (.iload_n 3, 1) := by decide +kernel
theorem dX11_change_92 : decode cX11_change 92 = .ok (.istore 5, 2) := by decide +kernel
theorem dX11_change_94 : decode cX11_change 94 = .ok (.iload_n 2, 1) := by decide +kernel
theorem dX11_change_95 : decode cX11_change 95 = .ok (.iconst 1, 1) := by decide +kernel
theorem dX11_change_96 : decode cX11_change 96 = .ok (.if_icmp .ne 12, 3) := by decide +kernel
theorem dX11_change_99 : decode cX11_change 99 = .ok (.aload_n 0, 1) := by decide +kernel
theorem dX11_change_100 : decode cX11_change 100 = .ok (.getfield 56, 3) := by decide +kernel
theorem dX11_change_103 : decode cX11_change 103 = .ok (.iload_n 1, 1) := by decide +kernel
theorem dX11_change_104 : decode cX11_change 104 = .ok (.iaload, 1) := by decide +kernel
theorem dX11_change_105 : decode cX11_change 105 = .ok (.goto 23, 3) := by decide +kernel
theorem dX11_change_108 : decode cX11_change 108 = .ok (.iload_n 2, 1) := by decide +kernel
theorem dX11_change_109 : decode cX11_change 109 = .ok (.iconst 2, 1) := by decide +kernel
theorem dX11_change_110 : decode cX11_change 110 = .ok (.if_icmp .ne 12, 3) := by decide +kernel
theorem dX11_change_113 : decode cX11_change 113 = .ok (.aload_n 0, 1) := by decide +kernel
theorem dX11_change_114 : decode cX11_change 114 = .ok (.getfield 59, 3) := by decide +kernel
theorem dX11_change_117 : decode cX11_change 117 = .ok (.iload_n 1, 1) := by decide +kernel
theorem dX11_change_118 : decode cX11_change 118 = .ok (.iaload, 1) := by decide +kernel
theorem dX11_change_119 : decode cX11_change 119 = .ok (.goto 9, 3) := by decide +kernel
theorem dX11_change_122 : decode cX11_change 122 = .ok (.aload_n 0, 1) := by decide +kernel
theorem dX11_change_123 : decode cX11_change 123 = .ok (.getfield 62, 3) := by decide +kernel
theorem dX11_change_126 : decode cX11_change 126 = .ok (.iload_n 1, 1) := by decide +kernel
theorem dX11_change_127 : decode cX11_change 127 = .ok (.iaload, 1) := by decide +kernel
theorem dX11_change_128 : decode cX11_change 128 = .ok (.istore 6, 2) := by decide +kernel
theorem dX11_change_130 : decode cX11_change 130 = .ok (.iload_n 2, 1) := by decide +kernel
theorem dX11_change_131 : decode cX11_change 131 = .ok (.iconst 1, 1) := by decide +kernel
theorem dX11_change_132 : decode cX11_change 132 = .ok (.if_icmp .ne 14, 3) := by decide +kernel
theorem dX11_change_135 : decode cX11_change 135 = .ok (.aload_n 0, 1) := by decide +kernel
theorem dX11_change_136 : decode cX11_change 136 = .ok (.getfield 56, 3) := by decide +kernel
theorem dX11_change_139 : decode cX11_change 139 = .ok (.iload_n 1, 1) := by decide +kernel
theorem dX11_change_140 : decode cX11_change 140 = .ok (.iload 5, 2) := by decide +kernel
theorem dX11_change_142 : decode cX11_change 142 = .ok (.iastore, 1) := by decide +kernel
theorem dX11_change_143 : decode cX11_change 143 = .ok (.goto 27, 3) := by decide +kernel
theorem dX11_change_146 : decode cX11_change 146 = .ok (.iload_n 2, 1) := by decide +kernel
theorem dX11_change_147 : decode cX11_change 147 = .ok (.iconst 2, 1) := by decide +kernel
theorem dX11_change_148 : decode cX11_change 148 = .ok (.if_icmp .ne 14, 3) := by decide +kernel
theorem dX11_change_151 : decode cX11_change 151 = .ok (.aload_n 0, 1) := by decide +kernel
theorem dX11_change_152 : decode cX11_change 152 = .ok (.getfield 59, 3) := by decide +kernel
theorem dX11_change_155 : decode cX11_change 155 = .ok (.iload_n 1, 1) := by decide +kernel
theorem dX11_change_156 : decode cX11_change 156 = .ok (.iload 5, 2) := by decide +kernel
theorem dX11_change_158 : decode cX11_change 158 = .ok (.iastore, 1) := by decide +kernel
theorem dX11_change_159 : decode cX11_change 159 = .ok (.goto 11, 3) := by decide +kernel
theorem dX11_change_162 : decode cX11_change 162 = .ok (.aload_n 0, 1) := by decide +kernel
theorem dX11_change_163 : decode cX11_change 163 = .ok (.getfield 62, 3) := by decide +kernel
theorem dX11_change_166 : decode cX11_change 166 = .ok (.iload_n 1, 1) := by decide +kernel
theorem dX11_change_167 : decode cX11_change 167 = .ok (.iload 5, 2) := by decide +kernel
theorem dX11_change_169 : decode cX11_change 169 = .ok (.iastore, 1) := by decide +kernel
theorem dX11_change_170 : decode cX11_change 170 = .ok (.iload 6, 2) := by decide +kernel
theorem dX11_change_172 : decode cX11_change 172 = .ok (.ireturn, 1) := by decide +kernel
theorem dX11_set_0 : decode cX11_set 0 = .ok (.iload_n 1, 1) := by decide +kernel
theorem dX11_set_1 : decode cX11_set 1 = .ok (.i2l, 1) := by decide +kernel
theorem dX11_set_2 : decode cX11_set 2 = .ok (.lconst 0, 1) := by decide +kernel
theorem dX11_set_3 : decode cX11_set 3 = .ok (.ldc2_w 179, 3) := by decide +kernel
theorem dX11_set_6 : decode cX11_set 6 = .ok (.invokestatic 86, 3) := by decide +kernel
theorem dX11_set_9 : decode cX11_set 9 = .ok (.ifCond .eq 13, 3) := by decide +kernel
theorem dX11_set_12 : decode cX11_set 12 = .ok (.iload_n 2, 1) := by decide +kernel
theorem dX11_set_13 : decode cX11_set 13 = .ok (.i2l, 1) := by decide +kernel
theorem dX11_set_14 : decode cX11_set 14 = .ok (.lconst 0, 1) := by decide +kernel
theorem dX11_set_15 : decode cX11_set 15 = .ok (.lconst 1, 1) := by decide +kernel
theorem dX11_set_16 : decode cX11_set 16 = .ok (.invokestatic 86, 3) := by decide +kernel
theorem dX11_set_19 : decode cX11_set 19 = .ok (.ifCond .ne 6, 3) := by decide +kernel
theorem dX11_set_22 : decode cX11_set 22 = .ok (.bipush (-2), 2) := by decide +kernel
theorem dX11_set_24 : decode cX11_set 24 = .ok (.ireturn, 1) := by decide +kernel
theorem dX11_set_25 : decode cX11_set 25 = .ok (.iload_n 1, 1) := by decide +kernel
theorem dX11_set_26 : decode cX11_set 26 = .ok (.ifCond .ne 10, 3) := by decide +kernel
theorem dX11_set_29 : decode cX11_set 29 = .ok (.aload_n 0, 1) := by decide +kernel
theorem dX11_set_30 : decode cX11_set 30 = .ok (.getfield 201, 3) := by decide +kernel
theorem dX11_set_33 : decode cX11_set 33 = .ok (.goto 19, 3) := by decide +kernel
theorem dX11_set_36 : decode cX11_set 36 = .ok (.iload_n 1, 1) := by decide +kernel
theorem dX11_set_37 : decode cX11_set 37 = .ok (.iconst 1, 1) := by decide +kernel
theorem dX11_set_38 : decode cX11_set 38 = .ok (.if_icmp .ne 10, 3) := by decide +kernel
theorem dX11_set_41 : decode cX11_set 41 = .ok (.aload_n 0, 1) := by decide +kernel
theorem dX11_set_42 : decode cX11_set 42 = .ok (.getfield 204, 3) := by decide +kernel
theorem dX11_set_45 : decode cX11_set 45 = .ok (.goto 7, 3) := by decide +kernel
theorem dX11_set_48 : decode cX11_set 48 = .ok (.aload_n 0, 1) := by decide +kernel
theorem dX11_set_49 : decode cX11_set 49 = .ok (.getfield 207, 3) := by decide +kernel
theorem dX11_set_52 : decode cX11_set 52 = .ok (.istore_n 3, 1) := by decide +kernel
theorem dX11_set_53 : decode cX11_set 53 = .ok (.iload_n 1, 1) := by decide +kernel
theorem dX11_set_54 : decode cX11_set 54 = .ok (.ifCond .ne 11, 3) := by decide +kernel
theorem dX11_set_57 : decode cX11_set 57 = .ok (.aload_n 0, 1) := by decide +kernel
theorem dX11_set_58 : decode cX11_set 58 = .ok (.iload_n 2, 1) := by decide +kernel
theorem dX11_set_59 : decode cX11_set 59 = .ok (.putfield 201, 3) := by decide +kernel
theorem dX11_set_62 : decode cX11_set 62 = .ok (.goto 21, 3) := by decide +kernel
theorem dX11_set_65 : decode cX11_set 65 = .ok (.iload_n 1, 1) := by decide +kernel
theorem dX11_set_66 : decode cX11_set 66 = .ok (.iconst 1, 1) := by decide +kernel
theorem dX11_set_67 : decode cX11_set 67 = .ok (.if_icmp .ne 11, 3) := by decide +kernel
theorem dX11_set_70 : decode cX11_set 70 = .ok (.aload_n 0, 1) := by decide +kernel
theorem dX11_set_71 : decode cX11_set 71 = .ok (.iload_n 2, 1) := by decide +kernel
theorem dX11_set_72 : decode cX11_set 72 = .ok (.putfield 204, 3) := by decide +kernel
theorem dX11_set_75 : decode cX11_set 75 = .ok (.goto 8, 3) := by decide +kernel
theorem dX11_set_78 : decode cX11_set 78 = .ok (.aload_n 0, 1) := by decide +kernel
theorem dX11_set_79 : decode cX11_set 79 = .ok (.iload_n 2, 1) := by decide +kernel
theorem dX11_set_80 : decode cX11_set 80 = .ok (.putfield 207, 3) := by decide +kernel
theorem dX11_set_83 : decode cX11_set 83 = .ok (.iload_n 3, 1) := by decide +kernel
theorem dX11_set_84 : decode cX11_set 84 = .ok (.ireturn, 1) := by decide +kernel
theorem dX11_fitting_0 : decode cX11_fitting 0 = .ok (.bipush (-6), 2) := by decide +kernel
theorem dX11_fitting_2 : decode cX11_fitting 2 = .ok (.istore_n 3, 1) := by decide +kernel
theorem dX11_fitting_3 : decode cX11_fitting 3 = .ok (.aload_n 0, 1) := by decide +kernel
theorem dX11_fitting_4 : decode cX11_fitting 4 = .ok (.getfield 19, 3) := by decide +kernel
theorem dX11_fitting_7 : decode cX11_fitting 7 = .ok (.iload_n 1, 1) := by decide +kernel
theorem dX11_fitting_8 : decode cX11_fitting 8 = .ok (.iaload, 1) := by decide +kernel
theorem dX11_fitting_9 : decode cX11_fitting 9 = .ok (.iconst 1, 1) := by decide +kernel
theorem dX11_fitting_10 : decode cX11_fitting 10 = .ok (.isub, 1) := by decide +kernel
theorem dX11_fitting_11 : decode cX11_fitting 11 = .ok (.istore 4, 2) := by decide +kernel
theorem dX11_fitting_13 : decode cX11_fitting 13 = .ok (.iload 4, 2) := by decide +kernel
theorem dX11_fitting_15 : decode cX11_fitting 15 = .ok (.ifCond .lt 40, 3) := by decide +kernel
theorem dX11_fitting_18 : decode cX11_fitting 18 = .ok (.aload_n 0, 1) := by decide +kernel
theorem dX11_fitting_19 : decode cX11_fitting 19 = .ok (.getfield 22, 3) := by decide +kernel
theorem dX11_fitting_22 : decode cX11_fitting 22 = .ok (.bipush 6, 2) := by decide +kernel
theorem dX11_fitting_24 : decode cX11_fitting 24 = .ok (.iload_n 1, 1) := by decide +kernel
theorem dX11_fitting_25 : decode cX11_fitting 25 = .ok (.imul, 1) := by decide +kernel
theorem dX11_fitting_26 : decode cX11_fitting 26 = .ok (.iload 4, 2) := by decide +kernel
theorem dX11_fitting_28 : decode cX11_fitting 28 = .ok (.iadd, 1) := by decide +kernel
theorem dX11_fitting_29 : decode cX11_fitting 29 = .ok (.iaload, 1) := by decide +kernel
theorem dX11_fitting_30 : decode cX11_fitting 30 = .ok (.aload_n 0, 1) := by decide +kernel
theorem dX11_fitting_31 : decode cX11_fitting 31 = .ok (.getfield 62, 3) := by decide +kernel
theorem dX11_fitting_34 : decode cX11_fitting 34 = .ok (.iload_n 2, 1) := by decide +kernel
theorem dX11_fitting_35 : decode cX11_fitting 35 = .ok (.iaload, 1) := by decide +kernel
theorem dX11_fitting_36 : decode cX11_fitting 36 = .ok (.iconst (-1), 1) := by decide +kernel
theorem dX11_fitting_37 : decode cX11_fitting 37 = .ok (.ixor, 1) := by decide +kernel
theorem dX11_fitting_38 : decode cX11_fitting 38 = .ok (.iand, 1) := by decide +kernel
theorem dX11_fitting_39 : decode cX11_fitting 39 = .ok (.ifCond .ne 8, 3) := by decide +kernel
theorem dX11_fitting_42 : decode cX11_fitting 42 = .ok (.iload 4, 2) := by decide +kernel
theorem dX11_fitting_44 : decode cX11_fitting 44 = .ok (.goto 4, 3) := by decide +kernel
theorem dX11_fitting_47 : decode cX11_fitting 47 = .ok (.iload_n 3, 1) := by decide +kernel
theorem dX11_fitting_48 : decode cX11_fitting 48 = .ok (.istore_n 3, 1) := by decide +kernel
theorem dX11_fitting_49 : decode cX11_fitting 49 = .ok (.iinc 4 (-1), 3) := by decide +kernel
theorem dX11_fitting_52 : decode cX11_fitting 52 = .ok (.goto (-39), 3) := by decide +kernel
theorem dX11_fitting_55 : decode cX11_fitting 55 = .ok (.iload_n 3, 1) := by decide +kernel
theorem dX11_fitting_56 : decode cX11_fitting 56 = .ok (.ireturn, 1) := by decide +kernel
theorem dX11_lackOf_0 : decode cX11_lackOf 0 = .ok (.aload_n 0, 1) := by decide +kernel
theorem dX11_lackOf_1 : decode cX11_lackOf 1 = .ok (.iload_n 1, 1) := by decide +kernel
theorem dX11_lackOf_2 : decode cX11_lackOf 2 = .ok (.iload_n 3, 1) := by decide +kernel
theorem dX11_lackOf_3 : decode cX11_lackOf 3 = .ok (.invokevirtual 172, 3) := by decide +kernel
theorem dX11_lackOf_6 : decode cX11_lackOf 6 = .ok (.ifCond .ne 5, 3) := by decide +kernel
theorem dX11_lackOf_9 : decode cX11_lackOf 9 = .ok (.iconst 1, 1) := by decide +kernel
theorem dX11_lackOf_10 : decode cX11_lackOf 10 = .ok (.ireturn, 1) := by decide +kernel
theorem dX11_lackOf_11 : decode cX11_lackOf 11 = .ok (.iload 4, 2) := by decide +kernel
theorem dX11_lackOf_13 : decode cX11_lackOf 13 = .ok (.iload_n 1, 1) := by decide +kernel
theorem dX11_lackOf_14 : decode cX11_lackOf 14 = .ok (.ishr, 1) := by decide +kernel
theorem dX11_lackOf_15 : decode cX11_lackOf 15 = .ok (.iconst 1, 1) := by decide +kernel
theorem dX11_lackOf_16 : decode cX11_lackOf 16 = .ok (.iand, 1) := by decide +kernel
theorem dX11_lackOf_17 : decode cX11_lackOf 17 = .ok (.iconst 1, 1) := by decide +kernel
theorem dX11_lackOf_18 : decode cX11_lackOf 18 = .ok (.if_icmp .ne 5, 3) := by decide +kernel
theorem dX11_lackOf_21 : decode cX11_lackOf 21 = .ok (.iconst 2, 1) := by decide +kernel
theorem dX11_lackOf_22 : decode cX11_lackOf 22 = .ok (.ireturn, 1) := by decide +kernel
theorem dX11_lackOf_23 : decode cX11_lackOf 23 = .ok (.aload_n 0, 1) := by decide +kernel
theorem dX11_lackOf_24 : decode cX11_lackOf 24 = .ok (.getfield 53, 3) := by decide +kernel
theorem dX11_lackOf_27 : decode cX11_lackOf 27 = .ok (.iload_n 2, 1) := by decide +kernel
theorem dX11_lackOf_28 : decode cX11_lackOf 28 = .ok (.iaload, 1) := by decide +kernel
theorem dX11_lackOf_29 : decode cX11_lackOf 29 = .ok (.iload_n 3, 1) := by decide +kernel
theorem dX11_lackOf_30 : decode cX11_lackOf 30 = .ok (.if_icmp .le 5, 3) := by decide +kernel
theorem dX11_lackOf_33 : decode cX11_lackOf 33 = .ok (.iconst 3, 1) := by decide +kernel
theorem dX11_lackOf_34 : decode cX11_lackOf 34 = .ok (.ireturn, 1) := by decide +kernel
theorem dX11_lackOf_35 : decode cX11_lackOf 35 = .ok (.aload_n 0, 1) := by decide +kernel
theorem dX11_lackOf_36 : decode cX11_lackOf 36 = .ok (.iload_n 1, 1) := by decide +kernel
theorem dX11_lackOf_37 : decode cX11_lackOf 37 = .ok (.iload_n 2, 1) := by decide +kernel
theorem dX11_lackOf_38 : decode cX11_lackOf 38 = .ok (.invokevirtual 210, 3) := by decide +kernel
theorem dX11_lackOf_41 : decode cX11_lackOf 41 = .ok (.ifCond .ge 5, 3) := by decide +kernel
theorem dX11_lackOf_44 : decode cX11_lackOf 44 = .ok (.iconst 4, 1) := by decide +kernel
theorem dX11_lackOf_45 : decode cX11_lackOf 45 = .ok (.ireturn, 1) := by decide +kernel
theorem dX11_lackOf_46 : decode cX11_lackOf 46 = .ok (.aload_n 0, 1) := by decide +kernel
theorem dX11_lackOf_47 : decode cX11_lackOf 47 = .ok (.iload_n 1, 1) := by decide +kernel
theorem dX11_lackOf_48 : decode cX11_lackOf 48 = .ok (.invokevirtual 213, 3) := by decide +kernel
theorem dX11_lackOf_51 : decode cX11_lackOf 51 = .ok (.istore 5, 2) := by decide +kernel
theorem dX11_lackOf_53 : decode cX11_lackOf 53 = .ok (.aload_n 0, 1) := by decide +kernel
theorem dX11_lackOf_54 : decode cX11_lackOf 54 = .ok (.getfield 56, 3) := by decide +kernel
theorem dX11_lackOf_57 : decode cX11_lackOf 57 = .ok (.iload_n 2, 1) := by decide +kernel
theorem dX11_lackOf_58 : decode cX11_lackOf 58 = .ok (.iaload, 1) := by decide +kernel
theorem dX11_lackOf_59 : decode cX11_lackOf 59 = .ok (.ifCond .lt 18, 3) := by decide +kernel
theorem dX11_lackOf_62 : decode cX11_lackOf 62 = .ok (.aload_n 0, 1) := by decide +kernel
theorem dX11_lackOf_63 : decode cX11_lackOf 63 = .ok (.getfield 56, 3) := by decide +kernel
theorem dX11_lackOf_66 : decode cX11_lackOf 66 = .ok (.iload_n 2, 1) := by decide +kernel
theorem dX11_lackOf_67 : decode cX11_lackOf 67 = .ok (.iaload, 1) := by decide +kernel
theorem dX11_lackOf_68 : decode cX11_lackOf 68 = .ok (.aload_n 0, 1) := by decide +kernel
theorem dX11_lackOf_69 : decode cX11_lackOf 69 = .ok (.getfield 13, 3) := by decide +kernel
theorem dX11_lackOf_72 : decode cX11_lackOf 72 = .ok (.iload_n 1, 1) := by decide +kernel
theorem dX11_lackOf_73 : decode cX11_lackOf 73 = .ok (.iaload, 1) := by decide +kernel
theorem dX11_lackOf_74 : decode cX11_lackOf 74 = .ok (.if_icmp .lt 7, 3) := by decide +kernel
theorem dX11_lackOf_77 : decode cX11_lackOf 77 = .ok (.iconst 1, 1) := by decide +kernel
theorem dX11_lackOf_78 : decode cX11_lackOf 78 = .ok (.goto 4, 3) := by decide +kernel
theorem dX11_lackOf_81 : decode cX11_lackOf 81 = .ok (.iconst 0, 1) := by decide +kernel
theorem dX11_lackOf_82 : decode cX11_lackOf 82 = .ok (.istore 6, 2) := by decide +kernel
theorem dX11_lackOf_84 : decode cX11_lackOf 84 = .ok (.iload 5, 2) := by decide +kernel
theorem dX11_lackOf_86 : decode cX11_lackOf 86 = .ok (.bipush 97, 2) := by decide +kernel
theorem dX11_lackOf_88 : decode cX11_lackOf 88 = .ok (.if_icmp .eq 30, 3) := by decide +kernel
theorem dX11_lackOf_91 : decode cX11_lackOf 91 = .ok (.aload_n 0, 1) := by decide +kernel
theorem dX11_lackOf_92 : decode cX11_lackOf 92 = .ok (.getfield 53, 3) := by decide +kernel
theorem dX11_lackOf_95 : decode cX11_lackOf 95 = .ok (.iload_n 2, 1) := by decide +kernel
theorem dX11_lackOf_96 : decode cX11_lackOf 96 = .ok (.iaload, 1) := by decide +kernel
theorem dX11_lackOf_97 : decode cX11_lackOf 97 = .ok (.aload_n 0, 1) := by decide +kernel
theorem dX11_lackOf_98 : decode cX11_lackOf 98 = .ok (.getfield 13, 3) := by decide +kernel
theorem dX11_lackOf_101 : decode cX11_lackOf 101 = .ok (.iload_n 1, 1) := by decide +kernel
theorem dX11_lackOf_102 : decode cX11_lackOf 102 = .ok (.iaload, 1) := by decide +kernel
theorem dX11_lackOf_103 : decode cX11_lackOf 103 = .ok (.if_icmp .ge 15, 3) := by decide +kernel
theorem dX11_lackOf_106 : decode cX11_lackOf 106 = .ok (.iload 5, 2) := by decide +kernel
theorem dX11_lackOf_108 : decode cX11_lackOf 108 = .ok (.bipush 104, 2) := by decide +kernel
theorem dX11_lackOf_110 : decode cX11_lackOf 110 = .ok (.if_icmp .ne 12, 3) := by decide +kernel
theorem dX11_lackOf_113 : decode cX11_lackOf 113 = .ok (.iload 6, 2) := by decide +kernel
theorem dX11_lackOf_115 : decode cX11_lackOf 115 = .ok (.ifCond .eq 7, 3) := by decide +kernel
theorem dX11_lackOf_118 : decode cX11_lackOf 118 = .ok (.iconst 1, 1) := by decide +kernel
theorem dX11_lackOf_119 : decode cX11_lackOf 119 = .ok (.goto 4, 3) := by decide +kernel
theorem dX11_lackOf_122 : decode cX11_lackOf 122 = .ok (.iconst 0, 1) := by decide +kernel
theorem dX11_lackOf_123 : decode cX11_lackOf 123 = .ok (.istore 7, 2) := by decide +kernel
theorem dX11_lackOf_125 : decode cX11_lackOf 125 = .ok (.iload 7, 2) := by decide +kernel
theorem dX11_lackOf_127 : decode cX11_lackOf 127 = .ok (.ifCond .eq 21, 3) := by decide +kernel
theorem dX11_lackOf_130 : decode cX11_lackOf 130 = .ok (.aload_n 0, 1) := by decide +kernel
theorem dX11_lackOf_131 : decode cX11_lackOf 131 = .ok (.getfield 34, 3) := by decide +kernel
theorem dX11_lackOf_134 : decode cX11_lackOf 134 = .ok (.iload_n 1, 1) := by decide +kernel
theorem dX11_lackOf_135 : decode cX11_lackOf 135 = .ok (.iaload, 1) := by decide +kernel
theorem dX11_lackOf_136 : decode cX11_lackOf 136 = .ok (.ifCond .eq 8, 3) := by decide +kernel
theorem dX11_lackOf_139 : decode cX11_lackOf 139 = .ok (.iload 6, 2) := by decide +kernel
theorem dX11_lackOf_141 : decode cX11_lackOf 141 = .ok (.ifCond .eq 7, 3) := by decide +kernel
theorem dX11_lackOf_144 : decode cX11_lackOf 144 = .ok (.iconst 0, 1) := by decide +kernel
theorem dX11_lackOf_145 : decode cX11_lackOf 145 = .ok (.goto 4, 3) := by decide +kernel
theorem dX11_lackOf_148 : decode cX11_lackOf 148 = .ok (.iconst 5, 1) := by decide +kernel
theorem dX11_lackOf_149 : decode cX11_lackOf 149 = .ok (.ireturn, 1) := by decide +kernel
theorem dX11_sameDay_0 : decode cX11_sameDay 0 = .ok (.aload_n 0, 1) := by decide +kernel
theorem dX11_sameDay_1 : decode cX11_sameDay 1 = .ok (.getfield 59, 3) := by decide +kernel
theorem dX11_sameDay_4 : decode cX11_sameDay 4 = .ok (.iload_n 1, 1) := by decide +kernel
theorem dX11_sameDay_5 : decode cX11_sameDay 5 = .ok (.iaload, 1) := by decide +kernel
theorem dX11_sameDay_6 : decode cX11_sameDay 6 = .ok (.ifCond .lt 22, 3) := by decide +kernel
theorem dX11_sameDay_9 : decode cX11_sameDay 9 = .ok (.aload_n 0, 1) := by decide +kernel
theorem dX11_sameDay_10 : decode cX11_sameDay 10 = .ok (.getfield 59, 3) := by decide +kernel
theorem dX11_sameDay_13 : decode cX11_sameDay 13 = .ok (.iload_n 1, 1) := by decide +kernel
theorem dX11_sameDay_14 : decode cX11_sameDay 14 = .ok (.iaload, 1) := by decide +kernel
theorem dX11_sameDay_15 : decode cX11_sameDay 15 = .ok (.iload_n 2, 1) := by decide +kernel
theorem dX11_sameDay_16 : decode cX11_sameDay 16 = .ok (.if_icmp .ge 12, 3) := by decide +kernel
theorem dX11_sameDay_19 : decode cX11_sameDay 19 = .ok (.aload_n 0, 1) := by decide +kernel
theorem dX11_sameDay_20 : decode cX11_sameDay 20 = .ok (.getfield 59, 3) := by decide +kernel
theorem dX11_sameDay_23 : decode cX11_sameDay 23 = .ok (.iload_n 1, 1) := by decide +kernel
theorem dX11_sameDay_24 : decode cX11_sameDay 24 = .ok (.iaload, 1) := by decide +kernel
theorem dX11_sameDay_25 : decode cX11_sameDay 25 = .ok (.goto 4, 3) := by decide +kernel
theorem dX11_sameDay_28 : decode cX11_sameDay 28 = .ok (.iload_n 2, 1) := by decide +kernel
theorem dX11_sameDay_29 : decode cX11_sameDay 29 = .ok (.ireturn, 1) := by decide +kernel
theorem dX11_chosen_0 : decode cX11_chosen 0 = .ok (.bipush (-6), 2) := by decide +kernel
theorem dX11_chosen_2 : decode cX11_chosen 2 = .ok (.istore_n 3, 1) := by decide +kernel
theorem dX11_chosen_3 : decode cX11_chosen 3 = .ok (.aload_n 0, 1) := by decide +kernel
theorem dX11_chosen_4 : decode cX11_chosen 4 = .ok (.iconst 0, 1) := by decide +kernel
theorem dX11_chosen_5 : decode cX11_chosen 5 = .ok (.putfield 216, 3) := by decide +kernel
theorem dX11_chosen_8 : decode cX11_chosen 8 = .ok (.iconst 0, 1) := by decide +kernel
theorem dX11_chosen_9 : decode cX11_chosen 9 = .ok (.istore 4, 2) := by decide +kernel
theorem dX11_chosen_11 : decode cX11_chosen 11 = .ok (.iload 4, 2) := by decide +kernel
theorem dX11_chosen_13 : decode cX11_chosen 13 = .ok (.aload_n 0, 1) := by decide +kernel
theorem dX11_chosen_14 : decode cX11_chosen 14 = .ok (.getfield 149, 3) := by decide +kernel
theorem dX11_chosen_17 : decode cX11_chosen 17 = .ok (.if_icmp .ge 75, 3) := by decide +kernel
theorem dX11_chosen_20 : decode cX11_chosen 20 = .ok (.iload_n 1, 1) := by decide +kernel
theorem dX11_chosen_21 : decode cX11_chosen 21 = .ok (.iload 4, 2) := by decide +kernel
theorem dX11_chosen_23 : decode cX11_chosen 23 = .ok (.ishr, 1) := by decide +kernel
theorem dX11_chosen_24 : decode cX11_chosen 24 = .ok (.iconst 1, 1) := by decide +kernel
theorem dX11_chosen_25 : decode cX11_chosen 25 = .ok (.iand, 1) := by decide +kernel
theorem dX11_chosen_26 : decode cX11_chosen 26 = .ok (.iconst 1, 1) := by decide +kernel
theorem dX11_chosen_27 : decode cX11_chosen 27 = .ok (.if_icmp .ne 59, 3) := by decide +kernel
theorem dX11_chosen_30 : decode cX11_chosen 30 = .ok (.iload_n 3, 1) := by decide +kernel
theorem dX11_chosen_31 : decode cX11_chosen 31 = .ok (.ifCond .ge 7, 3) := by decide +kernel
theorem dX11_chosen_34 : decode cX11_chosen 34 = .ok (.iconst 1, 1) := by decide +kernel
theorem dX11_chosen_35 : decode cX11_chosen 35 = .ok (.goto 11, 3) := by decide +kernel
theorem dX11_chosen_38 : decode cX11_chosen 38 = .ok (.aload_n 0, 1) := by decide +kernel
theorem dX11_chosen_39 : decode cX11_chosen 39 = .ok (.iload 4, 2) := by decide +kernel
theorem dX11_chosen_41 : decode cX11_chosen 41 = .ok (.iload_n 3, 1) := by decide +kernel
theorem dX11_chosen_42 : decode cX11_chosen 42 = .ok (.iload_n 2, 1) := by decide +kernel
theorem dX11_chosen_43 : decode cX11_chosen 43 = .ok (.invokevirtual 220, 3) := by decide +kernel
theorem dX11_chosen_46 : decode cX11_chosen 46 = .ok (.istore 5, 2) := by decide +kernel
theorem dX11_chosen_48 : decode cX11_chosen 48 = .ok (.aload_n 0, 1) := by decide +kernel
theorem dX11_chosen_49 : decode cX11_chosen 49 = .ok (.iload 5, 2) := by decide +kernel
theorem dX11_chosen_51 : decode cX11_chosen 51 = .ok (.ifCond .eq 15, 3) := by decide +kernel
theorem dX11_chosen_54 : decode cX11_chosen 54 = .ok (.iload 5, 2) := by decide +kernel
theorem dX11_chosen_56 : decode cX11_chosen 56 = .ok (.ifCond .ge 14, 3) := by decide +kernel
theorem dX11_chosen_59 : decode cX11_chosen 59 = .ok (.aload_n 0, 1) := by decide +kernel
theorem dX11_chosen_60 : decode cX11_chosen 60 = .ok (.getfield 216, 3) := by decide +kernel
theorem dX11_chosen_63 : decode cX11_chosen 63 = .ok (.ifCond .eq 7, 3) := by decide +kernel
theorem dX11_chosen_66 : decode cX11_chosen 66 = .ok (.iconst 1, 1) := by decide +kernel
theorem dX11_chosen_67 : decode cX11_chosen 67 = .ok (.goto 4, 3) := by decide +kernel
theorem dX11_chosen_70 : decode cX11_chosen 70 = .ok (.iconst 0, 1) := by decide +kernel
theorem dX11_chosen_71 : decode cX11_chosen 71 = .ok (.putfield 216, 3) := by decide +kernel
theorem dX11_chosen_74 : decode cX11_chosen 74 = .ok (.iload 5, 2) := by decide +kernel
theorem dX11_chosen_76 : decode cX11_chosen 76 = .ok (.ifCond .le 8, 3) := by decide +kernel
theorem dX11_chosen_79 : decode cX11_chosen 79 = .ok (.iload 4, 2) := by decide +kernel
theorem dX11_chosen_81 : decode cX11_chosen 81 = .ok (.goto 4, 3) := by decide +kernel
theorem dX11_chosen_84 : decode cX11_chosen 84 = .ok (.iload_n 3, 1) := by decide +kernel
theorem dX11_chosen_85 : decode cX11_chosen 85 = .ok (.istore_n 3, 1) := by decide +kernel
theorem dX11_chosen_86 : decode cX11_chosen 86 = .ok (.iinc 4 1, 3) := by decide +kernel
theorem dX11_chosen_89 : decode cX11_chosen 89 = .ok (.goto (-78), 3) := by decide +kernel
theorem dX11_chosen_92 : decode cX11_chosen 92 = .ok (.iload_n 3, 1) := by decide +kernel
theorem dX11_chosen_93 : decode cX11_chosen 93 = .ok (.ireturn, 1) := by decide +kernel
theorem dX11_heldAgainst_0 : decode cX11_heldAgainst 0 = .ok (.aload_n 0, 1) := by decide +kernel
theorem dX11_heldAgainst_1 : decode cX11_heldAgainst 1 = .ok (.getfield 13, 3) := by decide +kernel
theorem dX11_heldAgainst_4 : decode cX11_heldAgainst 4 = .ok (.iload_n 1, 1) := by decide +kernel
theorem dX11_heldAgainst_5 : decode cX11_heldAgainst 5 = .ok (.iaload, 1) := by decide +kernel
theorem dX11_heldAgainst_6 : decode cX11_heldAgainst 6 = .ok (.aload_n 0, 1) := by decide +kernel
theorem dX11_heldAgainst_7 : decode cX11_heldAgainst 7 = .ok (.getfield 13, 3) := by decide +kernel
theorem dX11_heldAgainst_10 : decode cX11_heldAgainst 10 = .ok (.iload_n 2, 1) := by decide +kernel
theorem dX11_heldAgainst_11 : decode cX11_heldAgainst 11 = .ok (.iaload, 1) := by decide +kernel
theorem dX11_heldAgainst_12 : decode cX11_heldAgainst 12 = .ok (.isub, 1) := by decide +kernel
theorem dX11_heldAgainst_13 : decode cX11_heldAgainst 13 = .ok (.istore 4, 2) := by decide +kernel
theorem dX11_heldAgainst_15 : decode cX11_heldAgainst 15 = .ok (.aload_n 0, 1) := by decide +kernel
theorem dX11_heldAgainst_16 : decode cX11_heldAgainst 16 = .ok (.iload_n 1, 1) := by decide +kernel
theorem dX11_heldAgainst_17 : decode cX11_heldAgainst 17 = .ok (.iload_n 3, 1) := by decide +kernel
theorem dX11_heldAgainst_18 : decode cX11_heldAgainst 18 = .ok (.invokevirtual 224, 3) := by decide +kernel
theorem dX11_heldAgainst_21 : decode cX11_heldAgainst 21 = .ok (.aload_n 0, 1) := by decide +kernel
theorem dX11_heldAgainst_22 : decode cX11_heldAgainst 22 = .ok (.iload_n 2, 1) := by decide +kernel
theorem dX11_heldAgainst_23 : decode cX11_heldAgainst 23 = .ok (.iload_n 3, 1) := by decide +kernel
theorem dX11_heldAgainst_24 : decode cX11_heldAgainst 24 = .ok (.invokevirtual 224, 3) := by decide +kernel
theorem dX11_heldAgainst_27 : decode cX11_heldAgainst 27 = .ok (.isub, 1) := by decide +kernel
theorem dX11_heldAgainst_28 : decode cX11_heldAgainst 28 = .ok (.istore 5, 2) := by decide +kernel
theorem dX11_heldAgainst_30 : decode cX11_heldAgainst 30 = .ok (.aload_n 0, 1) := by decide +kernel
theorem dX11_heldAgainst_31 : decode cX11_heldAgainst 31 = .ok (.getfield 201, 3) := by decide +kernel
theorem dX11_heldAgainst_34 : decode cX11_heldAgainst 34 = .ok (.ifCond .ne 18, 3) := by decide +kernel
theorem dX11_heldAgainst_37 : decode cX11_heldAgainst 37 = .ok (.iload 4, 2) := by decide +kernel
theorem dX11_heldAgainst_39 : decode cX11_heldAgainst 39 = .ok (.ifCond .eq 8, 3) := by decide +kernel
theorem dX11_heldAgainst_42 : decode cX11_heldAgainst 42 = .ok (.iload 4, 2) := by decide +kernel
theorem dX11_heldAgainst_44 : decode cX11_heldAgainst 44 = .ok (.goto 20, 3) := by decide +kernel
theorem dX11_heldAgainst_47 : decode cX11_heldAgainst 47 = .ok (.iload 5, 2) := by decide +kernel
theorem dX11_heldAgainst_49 : decode cX11_heldAgainst 49 = .ok (.goto 15, 3) := by decide +kernel
theorem dX11_heldAgainst_52 : decode cX11_heldAgainst 52 = .ok (.iload 5, 2) := by decide +kernel
theorem dX11_heldAgainst_54 : decode cX11_heldAgainst 54 = .ok (.ifCond .eq 8, 3) := by decide +kernel
theorem dX11_heldAgainst_57 : decode cX11_heldAgainst 57 = .ok (.iload 5, 2) := by decide +kernel
theorem dX11_heldAgainst_59 : decode cX11_heldAgainst 59 = .ok (.goto 5, 3) := by decide +kernel
theorem dX11_heldAgainst_62 : decode cX11_heldAgainst 62 = .ok (.iload 4, 2) := by decide +kernel
theorem dX11_heldAgainst_64 : decode cX11_heldAgainst 64 = .ok (.ireturn, 1) := by decide +kernel
theorem dX11_marksAt_0 : decode cX11_marksAt 0 = .ok (.aload_n 0, 1) := by decide +kernel
theorem dX11_marksAt_1 : decode cX11_marksAt 1 = .ok (.getfield 22, 3) := by decide +kernel
theorem dX11_marksAt_4 : decode cX11_marksAt 4 = .ok (.bipush 6, 2) := by decide +kernel
theorem dX11_marksAt_6 : decode cX11_marksAt 6 = .ok (.iload_n 1, 1) := by decide +kernel
theorem dX11_marksAt_7 : decode cX11_marksAt 7 = .ok (.imul, 1) := by decide +kernel
theorem dX11_marksAt_8 : decode cX11_marksAt 8 = .ok (.aload_n 0, 1) := by decide +kernel
theorem dX11_marksAt_9 : decode cX11_marksAt 9 = .ok (.iload_n 1, 1) := by decide +kernel
theorem dX11_marksAt_10 : decode cX11_marksAt 10 = .ok (.iload_n 2, 1) := by decide +kernel
theorem dX11_marksAt_11 : decode cX11_marksAt 11 = .ok (.invokevirtual 210, 3) := by decide +kernel
theorem dX11_marksAt_14 : decode cX11_marksAt 14 = .ok (.iadd, 1) := by decide +kernel
theorem dX11_marksAt_15 : decode cX11_marksAt 15 = .ok (.iaload, 1) := by decide +kernel
theorem dX11_marksAt_16 : decode cX11_marksAt 16 = .ok (.invokestatic 227, 3) := by decide +kernel
theorem dX11_marksAt_19 : decode cX11_marksAt 19 = .ok (.ireturn, 1) := by decide +kernel
theorem dX11_governing_0 : decode cX11_governing 0 = .ok (.aload_n 0, 1) := by decide +kernel
theorem dX11_governing_1 : decode cX11_governing 1 = .ok (.iload_n 2, 1) := by decide +kernel
theorem dX11_governing_2 : decode cX11_governing 2 = .ok (.invokevirtual 181, 3) := by decide +kernel
theorem dX11_governing_5 : decode cX11_governing 5 = .ok (.istore_n 3, 1) := by decide +kernel
theorem dX11_governing_6 : decode cX11_governing 6 = .ok (.iconst 0, 1) := by decide +kernel
theorem dX11_governing_7 : decode cX11_governing 7 = .ok (.istore 4, 2) := by decide +kernel
theorem dX11_governing_9 : decode cX11_governing 9 = .ok (.iconst 0, 1) := by decide +kernel
theorem dX11_governing_10 : decode cX11_governing 10 = .ok (.istore 5, 2) := by decide +kernel
theorem dX11_governing_12 : decode cX11_governing 12 = .ok (.iload 5, 2) := by decide +kernel
theorem dX11_governing_14 : decode cX11_governing 14 = .ok (.aload_n 0, 1) := by decide +kernel
theorem dX11_governing_15 : decode cX11_governing 15 = .ok (.getfield 149, 3) := by decide +kernel
theorem dX11_governing_18 : decode cX11_governing 18 = .ok (.if_icmp .ge 34, 3) := by decide +kernel
theorem dX11_governing_21 : decode cX11_governing 21 = .ok (.iload 4, 2) := by decide +kernel
theorem dX11_governing_23 : decode cX11_governing 23 = .ok (.aload_n 0, 1) := by decide +kernel
theorem dX11_governing_24 : decode cX11_governing 24 = .ok (.iload 5, 2) := by decide +kernel
theorem dX11_governing_26 : decode cX11_governing 26 = .ok (.iload_n 1, 1) := by decide +kernel
theorem dX11_governing_27 : decode cX11_governing 27 = .ok (.iload_n 2, 1) := by decide +kernel
theorem dX11_governing_28 : decode cX11_governing 28 = .ok (.iload_n 3, 1) := by decide +kernel
theorem dX11_governing_29 : decode cX11_governing 29 = .ok (.invokevirtual 230, 3) := by decide +kernel
theorem dX11_governing_32 : decode cX11_governing 32 = .ok (.ifCond .ne 10, 3) := by decide +kernel
theorem dX11_governing_35 : decode cX11_governing 35 = .ok (.iconst 1, 1) := by decide +kernel
theorem dX11_governing_36 : decode cX11_governing 36 = .ok (.iload 5, 2) := by decide +kernel
theorem dX11_governing_38 : decode cX11_governing 38 = .ok (.ishl, 1) := by decide +kernel
theorem dX11_governing_39 : decode cX11_governing 39 = .ok (.goto 4, 3) := by decide +kernel
theorem dX11_governing_42 : decode cX11_governing 42 = .ok (.iconst 0, 1) := by decide +kernel
theorem dX11_governing_43 : decode cX11_governing 43 = .ok (.ior, 1) := by decide +kernel
theorem dX11_governing_44 : decode cX11_governing 44 = .ok (.istore 4, 2) := by decide +kernel
theorem dX11_governing_46 : decode cX11_governing 46 = .ok (.iinc 5 1, 3) := by decide +kernel
theorem dX11_governing_49 : decode cX11_governing 49 = .ok (.goto (-37), 3) := by decide +kernel
theorem dX11_governing_52 : decode cX11_governing 52 = .ok (.iload 4, 2) := by decide +kernel
theorem dX11_governing_54 : decode cX11_governing 54 = .ok (.ifCond .ne 98, 3) := by decide +kernel
theorem dX11_governing_57 : decode cX11_governing 57 = .ok (.aload_n 0, 1) := by decide +kernel
theorem dX11_governing_58 : decode cX11_governing 58 = .ok (.getfield 204, 3) := by decide +kernel
theorem dX11_governing_61 : decode cX11_governing 61 = .ok (.iconst 1, 1) := by decide +kernel
theorem dX11_governing_62 : decode cX11_governing 62 = .ok (.if_icmp .ne 90, 3) := by decide +kernel
theorem dX11_governing_65 : decode cX11_governing 65 = .ok (.aload_n 0, 1) := by decide +kernel
theorem dX11_governing_66 : decode cX11_governing 66 = .ok (.getfield 53, 3) := by decide +kernel
theorem dX11_governing_69 : decode cX11_governing 69 = .ok (.iload_n 1, 1) := by decide +kernel
theorem dX11_governing_70 : decode cX11_governing 70 = .ok (.iaload, 1) := by decide +kernel
theorem dX11_governing_71 : decode cX11_governing 71 = .ok (.iload_n 2, 1) := by decide +kernel
theorem dX11_governing_72 : decode cX11_governing 72 = .ok (.if_icmp .gt 80, 3) := by decide +kernel
theorem dX11_governing_75 : decode cX11_governing 75 = .ok (.iconst 0, 1) := by decide +kernel
theorem dX11_governing_76 : decode cX11_governing 76 = .ok (.istore 5, 2) := by decide +kernel
theorem dX11_governing_78 : decode cX11_governing 78 = .ok (.iload 5, 2) := by decide +kernel
theorem dX11_governing_80 : decode cX11_governing 80 = .ok (.aload_n 0, 1) := by decide +kernel
theorem dX11_governing_81 : decode cX11_governing 81 = .ok (.getfield 149, 3) := by decide +kernel
theorem dX11_governing_84 : decode cX11_governing 84 = .ok (.if_icmp .ge 68, 3) := by decide +kernel
theorem dX11_governing_87 : decode cX11_governing 87 = .ok (.aload_n 0, 1) := by decide +kernel
theorem dX11_governing_88 : decode cX11_governing 88 = .ok (.iload 5, 2) := by decide +kernel
theorem dX11_governing_90 : decode cX11_governing 90 = .ok (.aload_n 0, 1) := by decide +kernel
theorem dX11_governing_91 : decode cX11_governing 91 = .ok (.getfield 53, 3) := by decide +kernel
theorem dX11_governing_94 : decode cX11_governing 94 = .ok (.iload_n 1, 1) := by decide +kernel
theorem dX11_governing_95 : decode cX11_governing 95 = .ok (.iaload, 1) := by decide +kernel
theorem dX11_governing_96 : decode cX11_governing 96 = .ok (.invokevirtual 172, 3) := by decide +kernel
theorem dX11_governing_99 : decode cX11_governing 99 = .ok (.ifCond .eq 26, 3) := by decide +kernel
theorem dX11_governing_102 : decode cX11_governing 102 = .ok (.iload_n 3, 1) := by decide +kernel
theorem dX11_governing_103 : decode cX11_governing 103 = .ok (.iload 5, 2) := by decide +kernel
theorem dX11_governing_105 : decode cX11_governing 105 = .ok (.ishr, 1) := by decide +kernel
theorem dX11_governing_106 : decode cX11_governing 106 = .ok (.iconst 1, 1) := by decide +kernel
theorem dX11_governing_107 : decode cX11_governing 107 = .ok (.iand, 1) := by decide +kernel
theorem dX11_governing_108 : decode cX11_governing 108 = .ok (.ifCond .ne 17, 3) := by decide +kernel
theorem dX11_governing_111 : decode cX11_governing 111 = .ok (.aload_n 0, 1) := by decide +kernel
theorem dX11_governing_112 : decode cX11_governing 112 = .ok (.iload 5, 2) := by decide +kernel
theorem dX11_governing_114 : decode cX11_governing 114 = .ok (.iload_n 1, 1) := by decide +kernel
theorem dX11_governing_115 : decode cX11_governing 115 = .ok (.invokevirtual 210, 3) := by decide +kernel
theorem dX11_governing_118 : decode cX11_governing 118 = .ok (.ifCond .lt 7, 3) := by decide +kernel
theorem dX11_governing_121 : decode cX11_governing 121 = .ok (.iconst 1, 1) := by decide +kernel
theorem dX11_governing_122 : decode cX11_governing 122 = .ok (.goto 4, 3) := by decide +kernel
theorem dX11_governing_125 : decode cX11_governing 125 = .ok (.iconst 0, 1) := by decide +kernel
theorem dX11_governing_126 : decode cX11_governing 126 = .ok (.istore 6, 2) := by decide +kernel
theorem dX11_governing_128 : decode cX11_governing 128 = .ok (.iload 4, 2) := by decide +kernel
theorem dX11_governing_130 : decode cX11_governing 130 = .ok (.iload 6, 2) := by decide +kernel
theorem dX11_governing_132 : decode cX11_governing 132 = .ok (.ifCond .eq 10, 3) := by decide +kernel
theorem dX11_governing_135 : decode cX11_governing 135 = .ok (.iconst 1, 1) := by decide +kernel
theorem dX11_governing_136 : decode cX11_governing 136 = .ok (.iload 5, 2) := by decide +kernel
theorem dX11_governing_138 : decode cX11_governing 138 = .ok (.ishl, 1) := by decide +kernel
theorem dX11_governing_139 : decode cX11_governing 139 = .ok (.goto 4, 3) := by decide +kernel
theorem dX11_governing_142 : decode cX11_governing 142 = .ok (.iconst 0, 1) := by decide +kernel
theorem dX11_governing_143 : decode cX11_governing 143 = .ok (.ior, 1) := by decide +kernel
theorem dX11_governing_144 : decode cX11_governing 144 = .ok (.istore 4, 2) := by decide +kernel
theorem dX11_governing_146 : decode cX11_governing 146 = .ok (.iinc 5 1, 3) := by decide +kernel
theorem dX11_governing_149 : decode cX11_governing 149 = .ok (.goto (-71), 3) := by decide +kernel
theorem dX11_governing_152 : decode cX11_governing 152 = .ok (.aload_n 0, 1) := by decide +kernel
theorem dX11_governing_153 : decode cX11_governing 153 = .ok (.iload 4, 2) := by decide +kernel
theorem dX11_governing_155 : decode cX11_governing 155 = .ok (.iload_n 1, 1) := by decide +kernel
theorem dX11_governing_156 : decode cX11_governing 156 = .ok (.invokevirtual 234, 3) := by decide +kernel
theorem dX11_governing_159 : decode cX11_governing 159 = .ok (.ireturn, 1) := by decide +kernel
theorem dX11_governs0_0 : decode cX11_governs0 0 = .ok (.aload_n 0, 1) := by decide +kernel
theorem dX11_governs0_1 : decode cX11_governs0 1 = .ok (.iload_n 1, 1) := by decide +kernel
theorem dX11_governs0_2 : decode cX11_governs0 2 = .ok (.aload_n 0, 1) := by decide +kernel
theorem dX11_governs0_3 : decode cX11_governs0 3 = .ok (.iload_n 1, 1) := by decide +kernel
theorem dX11_governs0_4 : decode cX11_governs0 4 = .ok (.iload_n 2, 1) := by decide +kernel
theorem dX11_governs0_5 : decode cX11_governs0 5 = .ok (.invokevirtual 237, 3) := by decide +kernel
theorem dX11_governs0_8 : decode cX11_governs0 8 = .ok (.invokevirtual 240, 3) := by decide +kernel
theorem dX11_governs0_11 : decode cX11_governs0 11 = .ok (.ireturn, 1) := by decide +kernel
theorem dX11_meets_0 : decode cX11_meets 0 = .ok (.aload_n 0, 1) := by decide +kernel
theorem dX11_meets_1 : decode cX11_meets 1 = .ok (.iload_n 1, 1) := by decide +kernel
theorem dX11_meets_2 : decode cX11_meets 2 = .ok (.invokevirtual 169, 3) := by decide +kernel
theorem dX11_meets_5 : decode cX11_meets 5 = .ok (.ifCond .eq 11, 3) := by decide +kernel
theorem dX11_meets_8 : decode cX11_meets 8 = .ok (.aload_n 0, 1) := by decide +kernel
theorem dX11_meets_9 : decode cX11_meets 9 = .ok (.iload_n 2, 1) := by decide +kernel
theorem dX11_meets_10 : decode cX11_meets 10 = .ok (.invokevirtual 198, 3) := by decide +kernel
theorem dX11_meets_13 : decode cX11_meets 13 = .ok (.ifCond .ne 5, 3) := by decide +kernel
theorem dX11_meets_16 : decode cX11_meets 16 = .ok (.iconst (-1), 1) := by decide +kernel
theorem dX11_meets_17 : decode cX11_meets 17 = .ok (.ireturn, 1) := by decide +kernel
theorem dX11_meets_18 : decode cX11_meets 18 = .ok (.iload_n 3, 1) := by decide +kernel
theorem dX11_meets_19 : decode cX11_meets 19 = .ok (.invokestatic 156, 3) := by decide +kernel
theorem dX11_meets_22 : decode cX11_meets 22 = .ok (.ifCond .ne 6, 3) := by decide +kernel
theorem dX11_meets_25 : decode cX11_meets 25 = .ok (.bipush (-2), 2) := by decide +kernel
theorem dX11_meets_27 : decode cX11_meets 27 = .ok (.ireturn, 1) := by decide +kernel
theorem dX11_meets_28 : decode cX11_meets 28 = .ok (.aload_n 0, 1) := by decide +kernel
theorem dX11_meets_29 : decode cX11_meets 29 = .ok (.iload_n 2, 1) := by decide +kernel
theorem dX11_meets_30 : decode cX11_meets 30 = .ok (.iload_n 3, 1) := by decide +kernel
theorem dX11_meets_31 : decode cX11_meets 31 = .ok (.invokevirtual 237, 3) := by decide +kernel
theorem dX11_meets_34 : decode cX11_meets 34 = .ok (.istore 4, 2) := by decide +kernel
theorem dX11_meets_36 : decode cX11_meets 36 = .ok (.aload_n 0, 1) := by decide +kernel
theorem dX11_meets_37 : decode cX11_meets 37 = .ok (.iload_n 1, 1) := by decide +kernel
theorem dX11_meets_38 : decode cX11_meets 38 = .ok (.iload_n 2, 1) := by decide +kernel
theorem dX11_meets_39 : decode cX11_meets 39 = .ok (.iload 4, 2) := by decide +kernel
theorem dX11_meets_41 : decode cX11_meets 41 = .ok (.aload_n 0, 1) := by decide +kernel
theorem dX11_meets_42 : decode cX11_meets 42 = .ok (.iload 4, 2) := by decide +kernel
theorem dX11_meets_44 : decode cX11_meets 44 = .ok (.invokevirtual 181, 3) := by decide +kernel
theorem dX11_meets_47 : decode cX11_meets 47 = .ok (.invokevirtual 230, 3) := by decide +kernel
theorem dX11_meets_50 : decode cX11_meets 50 = .ok (.ifCond .ne 7, 3) := by decide +kernel
theorem dX11_meets_53 : decode cX11_meets 53 = .ok (.iconst 1, 1) := by decide +kernel
theorem dX11_meets_54 : decode cX11_meets 54 = .ok (.goto 4, 3) := by decide +kernel
theorem dX11_meets_57 : decode cX11_meets 57 = .ok (.iconst 0, 1) := by decide +kernel
theorem dX11_meets_58 : decode cX11_meets 58 = .ok (.ireturn, 1) := by decide +kernel
theorem dX11_why_0 : decode cX11_why 0 = .ok (.aload_n 0, 1) := by decide +kernel
theorem dX11_why_1 : decode cX11_why 1 = .ok (.iload_n 1, 1) := by decide +kernel
theorem dX11_why_2 : decode cX11_why 2 = .ok (.invokevirtual 169, 3) := by decide +kernel
theorem dX11_why_5 : decode cX11_why 5 = .ok (.ifCond .eq 11, 3) := by decide +kernel
theorem dX11_why_8 : decode cX11_why 8 = .ok (.aload_n 0, 1) := by decide +kernel
theorem dX11_why_9 : decode cX11_why 9 = .ok (.iload_n 2, 1) := by decide +kernel
theorem dX11_why_10 : decode cX11_why 10 = .ok (.invokevirtual 198, 3) := by decide +kernel
theorem dX11_why_13 : decode cX11_why 13 = .ok (.ifCond .ne 5, 3) := by decide +kernel
theorem dX11_why_16 : decode cX11_why 16 = .ok (.iconst (-1), 1) := by decide +kernel
theorem dX11_why_17 : decode cX11_why 17 = .ok (.ireturn, 1) := by decide +kernel
theorem dX11_why_18 : decode cX11_why 18 = .ok (.iload_n 3, 1) := by decide +kernel
theorem dX11_why_19 : decode cX11_why 19 = .ok (.invokestatic 156, 3) := by decide +kernel
theorem dX11_why_22 : decode cX11_why 22 = .ok (.ifCond .ne 6, 3) := by decide +kernel
theorem dX11_why_25 : decode cX11_why 25 = .ok (.bipush (-2), 2) := by decide +kernel
theorem dX11_why_27 : decode cX11_why 27 = .ok (.ireturn, 1) := by decide +kernel
theorem dX11_why_28 : decode cX11_why 28 = .ok (.aload_n 0, 1) := by decide +kernel
theorem dX11_why_29 : decode cX11_why 29 = .ok (.iload_n 2, 1) := by decide +kernel
theorem dX11_why_30 : decode cX11_why 30 = .ok (.iload_n 3, 1) := by decide +kernel
theorem dX11_why_31 : decode cX11_why 31 = .ok (.invokevirtual 243, 3) := by decide +kernel
theorem dX11_why_34 : decode cX11_why 34 = .ok (.iload_n 1, 1) := by decide +kernel
theorem dX11_why_35 : decode cX11_why 35 = .ok (.if_icmp .ne 5, 3) := by decide +kernel
theorem dX11_why_38 : decode cX11_why 38 = .ok (.iconst 0, 1) := by decide +kernel
theorem dX11_why_39 : decode cX11_why 39 = .ok (.ireturn, 1) := by decide +kernel
theorem dX11_why_40 : decode cX11_why 40 = .ok (.aload_n 0, 1) := by decide +kernel
theorem dX11_why_41 : decode cX11_why 41 = .ok (.iload_n 2, 1) := by decide +kernel
theorem dX11_why_42 : decode cX11_why 42 = .ok (.iload_n 3, 1) := by decide +kernel
theorem dX11_why_43 : decode cX11_why 43 = .ok (.invokevirtual 237, 3) := by decide +kernel
theorem dX11_why_46 : decode cX11_why 46 = .ok (.istore 4, 2) := by decide +kernel
theorem dX11_why_48 : decode cX11_why 48 = .ok (.aload_n 0, 1) := by decide +kernel
theorem dX11_why_49 : decode cX11_why 49 = .ok (.iload_n 1, 1) := by decide +kernel
theorem dX11_why_50 : decode cX11_why 50 = .ok (.iload_n 2, 1) := by decide +kernel
theorem dX11_why_51 : decode cX11_why 51 = .ok (.iload 4, 2) := by decide +kernel
theorem dX11_why_53 : decode cX11_why 53 = .ok (.aload_n 0, 1) := by decide +kernel
theorem dX11_why_54 : decode cX11_why 54 = .ok (.iload 4, 2) := by decide +kernel
theorem dX11_why_56 : decode cX11_why 56 = .ok (.invokevirtual 181, 3) := by decide +kernel
theorem dX11_why_59 : decode cX11_why 59 = .ok (.invokevirtual 230, 3) := by decide +kernel
theorem dX11_why_62 : decode cX11_why 62 = .ok (.istore 5, 2) := by decide +kernel
theorem dX11_why_64 : decode cX11_why 64 = .ok (.iload 5, 2) := by decide +kernel
theorem dX11_why_66 : decode cX11_why 66 = .ok (.ifCond .ne 8, 3) := by decide +kernel
theorem dX11_why_69 : decode cX11_why 69 = .ok (.bipush 6, 2) := by decide +kernel
theorem dX11_why_71 : decode cX11_why 71 = .ok (.goto 5, 3) := by decide +kernel
theorem dX11_why_74 : decode cX11_why 74 = .ok (.iload 5, 2) := by decide +kernel
theorem dX11_why_76 : decode cX11_why 76 = .ok (.ireturn, 1) := by decide +kernel
theorem dX11_governs_0 : decode cX11_governs 0 = .ok (.aload_n 0, 1) := by decide +kernel
theorem dX11_governs_1 : decode cX11_governs 1 = .ok (.iload_n 1, 1) := by decide +kernel
theorem dX11_governs_2 : decode cX11_governs 2 = .ok (.invokevirtual 198, 3) := by decide +kernel
theorem dX11_governs_5 : decode cX11_governs 5 = .ok (.ifCond .ne 5, 3) := by decide +kernel
theorem dX11_governs_8 : decode cX11_governs 8 = .ok (.iconst (-1), 1) := by decide +kernel
theorem dX11_governs_9 : decode cX11_governs 9 = .ok (.ireturn, 1) := by decide +kernel
theorem dX11_governs_10 : decode cX11_governs 10 = .ok (.iload_n 2, 1) := by decide +kernel
theorem dX11_governs_11 : decode cX11_governs 11 = .ok (.invokestatic 156, 3) := by decide +kernel
theorem dX11_governs_14 : decode cX11_governs 14 = .ok (.ifCond .eq 12, 3) := by decide +kernel
theorem dX11_governs_17 : decode cX11_governs 17 = .ok (.aload_n 0, 1) := by decide +kernel
theorem dX11_governs_18 : decode cX11_governs 18 = .ok (.iload_n 1, 1) := by decide +kernel
theorem dX11_governs_19 : decode cX11_governs 19 = .ok (.iload_n 2, 1) := by decide +kernel
theorem dX11_governs_20 : decode cX11_governs 20 = .ok (.invokevirtual 243, 3) := by decide +kernel
theorem dX11_governs_23 : decode cX11_governs 23 = .ok (.goto 5, 3) := by decide +kernel
theorem dX11_governs_26 : decode cX11_governs 26 = .ok (.bipush (-2), 2) := by decide +kernel
theorem dX11_governs_28 : decode cX11_governs 28 = .ok (.ireturn, 1) := by decide +kernel
theorem dX11_those_0 : decode cX11_those 0 = .ok (.iload_n 1, 1) := by decide +kernel
theorem dX11_those_1 : decode cX11_those 1 = .ok (.invokestatic 156, 3) := by decide +kernel
theorem dX11_those_4 : decode cX11_those 4 = .ok (.ifCond .eq 15, 3) := by decide +kernel
theorem dX11_those_7 : decode cX11_those 7 = .ok (.iload_n 2, 1) := by decide +kernel
theorem dX11_those_8 : decode cX11_those 8 = .ok (.i2l, 1) := by decide +kernel
theorem dX11_those_9 : decode cX11_those 9 = .ok (.lconst 0, 1) := by decide +kernel
theorem dX11_those_10 : decode cX11_those 10 = .ok (.ldc2_w 246, 3) := by decide +kernel
theorem dX11_those_13 : decode cX11_those 13 = .ok (.invokestatic 86, 3) := by decide +kernel
theorem dX11_those_16 : decode cX11_those 16 = .ok (.ifCond .ne 6, 3) := by decide +kernel
theorem dX11_those_19 : decode cX11_those 19 = .ok (.bipush (-2), 2) := by decide +kernel
theorem dX11_those_21 : decode cX11_those 21 = .ok (.ireturn, 1) := by decide +kernel
theorem dX11_those_22 : decode cX11_those 22 = .ok (.iconst 0, 1) := by decide +kernel
theorem dX11_those_23 : decode cX11_those 23 = .ok (.istore_n 3, 1) := by decide +kernel
theorem dX11_those_24 : decode cX11_those 24 = .ok (.iconst 0, 1) := by decide +kernel
theorem dX11_those_25 : decode cX11_those 25 = .ok (.istore 4, 2) := by decide +kernel
theorem dX11_those_27 : decode cX11_those 27 = .ok (.iload 4, 2) := by decide +kernel
theorem dX11_those_29 : decode cX11_those 29 = .ok (.aload_n 0, 1) := by decide +kernel
theorem dX11_those_30 : decode cX11_those 30 = .ok (.getfield 190, 3) := by decide +kernel
theorem dX11_those_33 : decode cX11_those 33 = .ok (.if_icmp .ge 112, 3) := by decide +kernel
theorem dX11_those_36 : decode cX11_those 36 = .ok (.aload_n 0, 1) := by decide +kernel
theorem dX11_those_37 : decode cX11_those 37 = .ok (.getfield 53, 3) := by decide +kernel
theorem dX11_those_40 : decode cX11_those 40 = .ok (.iload 4, 2) := by decide +kernel
theorem dX11_those_42 : decode cX11_those 42 = .ok (.iaload, 1) := by decide +kernel
theorem dX11_those_43 : decode cX11_those 43 = .ok (.iload_n 1, 1) := by decide +kernel
theorem dX11_those_44 : decode cX11_those 44 = .ok (.if_icmp .gt 7, 3) := by decide +kernel
theorem dX11_those_47 : decode cX11_those 47 = .ok (.iconst 1, 1) := by decide +kernel
theorem dX11_those_48 : decode cX11_those 48 = .ok (.goto 4, 3) := by decide +kernel
theorem dX11_those_51 : decode cX11_those 51 = .ok (.iconst 0, 1) := by decide +kernel
theorem dX11_those_52 : decode cX11_those 52 = .ok (.istore 5, 2) := by decide +kernel
theorem dX11_those_54 : decode cX11_those 54 = .ok (.iload_n 2, 1) := by decide +kernel
theorem dX11_those_55 : decode cX11_those 55 = .ok (.iconst 2, 1) := by decide +kernel
theorem dX11_those_56 : decode cX11_those 56 = .ok (.if_icmp .ne 25, 3) := by decide +kernel
theorem dX11_those_59 : decode cX11_those 59 = .ok (.aload_n 0, 1) := by decide +kernel
theorem dX11_those_60 : decode cX11_those 60 = .ok (.iload 4, 2) := by decide +kernel
theorem dX11_those_62 : decode cX11_those 62 = .ok (.iload_n 1, 1) := by decide +kernel
theorem dX11_those_63 : decode cX11_those 63 = .ok (.invokevirtual 248, 3) := by decide +kernel
theorem dX11_those_66 : decode cX11_those 66 = .ok (.bipush (-3), 2) := by decide +kernel
theorem dX11_those_68 : decode cX11_those 68 = .ok (.if_icmp .ne 7, 3) := by decide +kernel
theorem dX11_those_71 : decode cX11_those 71 = .ok (.iconst 1, 1) := by decide +kernel
theorem dX11_those_72 : decode cX11_those 72 = .ok (.goto 4, 3) := by decide +kernel
theorem dX11_those_75 : decode cX11_those 75 = .ok (.iconst 0, 1) := by decide +kernel
theorem dX11_those_76 : decode cX11_those 76 = .ok (.istore 5, 2) := by decide +kernel
theorem dX11_those_78 : decode cX11_those 78 = .ok (.goto 45, 3) := by decide +kernel
theorem dX11_those_81 : decode cX11_those 81 = .ok (.iload_n 2, 1) := by decide +kernel
theorem dX11_those_82 : decode cX11_those 82 = .ok (.iconst 2, 1) := by decide +kernel
theorem dX11_those_83 : decode cX11_those 83 = .ok (.if_icmp .ge 40, 3) := by decide +kernel
theorem dX11_those_86 : decode cX11_those 86 = .ok (.aload_n 0, 1) := by decide +kernel
theorem dX11_those_87 : decode cX11_those 87 = .ok (.iload 4, 2) := by decide +kernel
theorem dX11_those_89 : decode cX11_those 89 = .ok (.iload_n 1, 1) := by decide +kernel
theorem dX11_those_90 : decode cX11_those 90 = .ok (.invokevirtual 243, 3) := by decide +kernel
theorem dX11_those_93 : decode cX11_those 93 = .ok (.istore 6, 2) := by decide +kernel
theorem dX11_those_95 : decode cX11_those 95 = .ok (.iload_n 2, 1) := by decide +kernel
theorem dX11_those_96 : decode cX11_those 96 = .ok (.ifCond .ne 10, 3) := by decide +kernel
theorem dX11_those_99 : decode cX11_those 99 = .ok (.aload_n 0, 1) := by decide +kernel
theorem dX11_those_100 : decode cX11_those 100 = .ok (.getfield 216, 3) := by decide +kernel
theorem dX11_those_103 : decode cX11_those 103 = .ok (.goto 18, 3) := by decide +kernel
theorem dX11_those_106 : decode cX11_those 106 = .ok (.iload 5, 2) := by decide +kernel
theorem dX11_those_108 : decode cX11_those 108 = .ok (.ifCond .eq 12, 3) := by decide +kernel
theorem dX11_those_111 : decode cX11_those 111 = .ok (.iload 6, 2) := by decide +kernel
theorem dX11_those_113 : decode cX11_those 113 = .ok (.ifCond .ge 7, 3) := by decide +kernel
theorem dX11_those_116 : decode cX11_those 116 = .ok (.iconst 1, 1) := by decide +kernel
theorem dX11_those_117 : decode cX11_those 117 = .ok (.goto 4, 3) := by decide +kernel
theorem dX11_those_120 : decode cX11_those 120 = .ok (.iconst 0, 1) := by decide +kernel
theorem dX11_those_121 : decode cX11_those 121 = .ok (.istore 5, 2) := by decide +kernel
theorem dX11_those_123 : decode cX11_those 123 = .ok (.iload_n 3, 1) := by decide +kernel
theorem dX11_those_124 : decode cX11_those 124 = .ok (.iload 5, 2) := by decide +kernel
theorem dX11_those_126 : decode cX11_those 126 = .ok (.ifCond .eq 10, 3) := by decide +kernel
theorem dX11_those_129 : decode cX11_those 129 = .ok (.iconst 1, 1) := by decide +kernel
theorem dX11_those_130 : decode cX11_those 130 = .ok (.iload 4, 2) := by decide +kernel
theorem dX11_those_132 : decode cX11_those 132 = .ok (.ishl, 1) := by decide +kernel
theorem dX11_those_133 : decode cX11_those 133 = .ok (.goto 4, 3) := by decide +kernel
theorem dX11_those_136 : decode cX11_those 136 = .ok (.iconst 0, 1) := by decide +kernel
theorem dX11_those_137 : decode cX11_those 137 = .ok (.ior, 1) := by decide +kernel
theorem dX11_those_138 : decode cX11_those 138 = .ok (.istore_n 3, 1) := by decide +kernel
theorem dX11_those_139 : decode cX11_those 139 = .ok (.iinc 4 1, 3) := by decide +kernel
theorem dX11_those_142 : decode cX11_those 142 = .ok (.goto (-115), 3) := by decide +kernel
theorem dX11_those_145 : decode cX11_those 145 = .ok (.iload_n 3, 1) := by decide +kernel
theorem dX11_those_146 : decode cX11_those 146 = .ok (.ireturn, 1) := by decide +kernel
theorem dX11_plainGift_0 : decode cX11_plainGift 0 = .ok (.aload_n 0, 1) := by decide +kernel
theorem dX11_plainGift_1 : decode cX11_plainGift 1 = .ok (.iload_n 1, 1) := by decide +kernel
theorem dX11_plainGift_2 : decode cX11_plainGift 2 = .ok (.iload_n 2, 1) := by decide +kernel
theorem dX11_plainGift_3 : decode cX11_plainGift 3 = .ok (.invokevirtual 237, 3) := by decide +kernel
theorem dX11_plainGift_6 : decode cX11_plainGift 6 = .ok (.istore_n 3, 1) := by decide +kernel
theorem dX11_plainGift_7 : decode cX11_plainGift 7 = .ok (.aload_n 0, 1) := by decide +kernel
theorem dX11_plainGift_8 : decode cX11_plainGift 8 = .ok (.iload_n 3, 1) := by decide +kernel
theorem dX11_plainGift_9 : decode cX11_plainGift 9 = .ok (.invokevirtual 181, 3) := by decide +kernel
theorem dX11_plainGift_12 : decode cX11_plainGift 12 = .ok (.istore 4, 2) := by decide +kernel
theorem dX11_plainGift_14 : decode cX11_plainGift 14 = .ok (.aload_n 0, 1) := by decide +kernel
theorem dX11_plainGift_15 : decode cX11_plainGift 15 = .ok (.iload_n 1, 1) := by decide +kernel
theorem dX11_plainGift_16 : decode cX11_plainGift 16 = .ok (.iload_n 3, 1) := by decide +kernel
theorem dX11_plainGift_17 : decode cX11_plainGift 17 = .ok (.invokevirtual 240, 3) := by decide +kernel
theorem dX11_plainGift_20 : decode cX11_plainGift 20 = .ok (.istore 5, 2) := by decide +kernel
theorem dX11_plainGift_22 : decode cX11_plainGift 22 = .ok (.iconst 0, 1) := by decide +kernel
theorem dX11_plainGift_23 : decode cX11_plainGift 23 = .ok (.istore 6, 2) := by decide +kernel
theorem dX11_plainGift_25 : decode cX11_plainGift 25 = .ok (.aload_n 0, 1) := by decide +kernel
theorem dX11_plainGift_26 : decode cX11_plainGift 26 = .ok (.iconst 0, 1) := by decide +kernel
theorem dX11_plainGift_27 : decode cX11_plainGift 27 = .ok (.putfield 251, 3) := by decide +kernel
theorem dX11_plainGift_30 : decode cX11_plainGift 30 = .ok (.aload_n 0, 1) := by decide +kernel
theorem dX11_plainGift_31 : decode cX11_plainGift 31 = .ok (.iload 5, 2) := by decide +kernel
theorem dX11_plainGift_33 : decode cX11_plainGift 33 = .ok (.invokevirtual 169, 3) := by decide +kernel
theorem dX11_plainGift_36 : decode cX11_plainGift 36 = .ok (.ifCond .eq 106, 3) := by decide +kernel
theorem dX11_plainGift_39 : decode cX11_plainGift 39 = .ok (.iload 6, 2) := by decide +kernel
theorem dX11_plainGift_41 : decode cX11_plainGift 41 = .ok (.iload 5, 2) := by decide +kernel
theorem dX11_plainGift_43 : decode cX11_plainGift 43 = .ok (.ishr, 1) := by decide +kernel
theorem dX11_plainGift_44 : decode cX11_plainGift 44 = .ok (.iconst 1, 1) := by decide +kernel
theorem dX11_plainGift_45 : decode cX11_plainGift 45 = .ok (.iand, 1) := by decide +kernel
theorem dX11_plainGift_46 : decode cX11_plainGift 46 = .ok (.ifCond .ne 96, 3) := by decide +kernel
theorem dX11_plainGift_49 : decode cX11_plainGift 49 = .ok (.aload_n 0, 1) := by decide +kernel
theorem dX11_plainGift_50 : decode cX11_plainGift 50 = .ok (.iload 5, 2) := by decide +kernel
theorem dX11_plainGift_52 : decode cX11_plainGift 52 = .ok (.iload_n 1, 1) := by decide +kernel
theorem dX11_plainGift_53 : decode cX11_plainGift 53 = .ok (.invokevirtual 210, 3) := by decide +kernel
theorem dX11_plainGift_56 : decode cX11_plainGift 56 = .ok (.istore 7, 2) := by decide +kernel
theorem dX11_plainGift_58 : decode cX11_plainGift 58 = .ok (.iload 7, 2) := by decide +kernel
theorem dX11_plainGift_60 : decode cX11_plainGift 60 = .ok (.ifCond .lt 14, 3) := by decide +kernel
theorem dX11_plainGift_63 : decode cX11_plainGift 63 = .ok (.iload 4, 2) := by decide +kernel
theorem dX11_plainGift_65 : decode cX11_plainGift 65 = .ok (.iload 5, 2) := by decide +kernel
theorem dX11_plainGift_67 : decode cX11_plainGift 67 = .ok (.ishr, 1) := by decide +kernel
theorem dX11_plainGift_68 : decode cX11_plainGift 68 = .ok (.iconst 1, 1) := by decide +kernel
theorem dX11_plainGift_69 : decode cX11_plainGift 69 = .ok (.iand, 1) := by decide +kernel
theorem dX11_plainGift_70 : decode cX11_plainGift 70 = .ok (.iconst 1, 1) := by decide +kernel
theorem dX11_plainGift_71 : decode cX11_plainGift 71 = .ok (.if_icmp .ne 6, 3) := by decide +kernel
theorem dX11_plainGift_74 : decode cX11_plainGift 74 = .ok (.bipush (-6), 2) := by decide +kernel
theorem dX11_plainGift_76 : decode cX11_plainGift 76 = .ok (.ireturn, 1) := by decide +kernel
theorem dX11_plainGift_77 : decode cX11_plainGift 77 = .ok (.aload_n 0, 1) := by decide +kernel
theorem dX11_plainGift_78 : decode cX11_plainGift 78 = .ok (.getfield 68, 3) := by decide +kernel
theorem dX11_plainGift_81 : decode cX11_plainGift 81 = .ok (.aload_n 0, 1) := by decide +kernel
theorem dX11_plainGift_82 : decode cX11_plainGift 82 = .ok (.getfield 251, 3) := by decide +kernel
theorem dX11_plainGift_85 : decode cX11_plainGift 85 = .ok (.iload 5, 2) := by decide +kernel
theorem dX11_plainGift_87 : decode cX11_plainGift 87 = .ok (.iastore, 1) := by decide +kernel
theorem dX11_plainGift_88 : decode cX11_plainGift 88 = .ok (.aload_n 0, 1) := by decide +kernel
theorem dX11_plainGift_89 : decode cX11_plainGift 89 = .ok (.dup, 1) := by decide +kernel
theorem dX11_plainGift_90 : decode cX11_plainGift 90 = .ok (.getfield 251, 3) := by decide +kernel
theorem dX11_plainGift_93 : decode cX11_plainGift 93 = .ok (.iconst 1, 1) := by decide +kernel
theorem dX11_plainGift_94 : decode cX11_plainGift 94 = .ok (.iadd, 1) := by decide +kernel
theorem dX11_plainGift_95 : decode cX11_plainGift 95 = .ok (.putfield 251, 3) := by decide +kernel
theorem dX11_plainGift_98 : decode cX11_plainGift 98 = .ok (.iload 6, 2) := by decide +kernel
theorem dX11_plainGift_100 : decode cX11_plainGift 100 = .ok (.iconst 1, 1) := by decide +kernel
theorem dX11_plainGift_101 : decode cX11_plainGift 101 = .ok (.iload 5, 2) := by decide +kernel
theorem dX11_plainGift_103 : decode cX11_plainGift 103 = .ok (.ishl, 1) := by decide +kernel
theorem dX11_plainGift_104 : decode cX11_plainGift 104 = .ok (.ior, 1) := by decide +kernel
theorem dX11_plainGift_105 : decode cX11_plainGift 105 = .ok (.istore 6, 2) := by decide +kernel
theorem dX11_plainGift_107 : decode cX11_plainGift 107 = .ok (.aload_n 0, 1) := by decide +kernel
theorem dX11_plainGift_108 : decode cX11_plainGift 108 = .ok (.getfield 25, 3) := by decide +kernel
theorem dX11_plainGift_111 : decode cX11_plainGift 111 = .ok (.bipush 6, 2) := by decide +kernel
theorem dX11_plainGift_113 : decode cX11_plainGift 113 = .ok (.iload 5, 2) := by decide +kernel
theorem dX11_plainGift_115 : decode cX11_plainGift 115 = .ok (.imul, 1) := by decide +kernel
theorem dX11_plainGift_116 : decode cX11_plainGift 116 = .ok (.iload 7, 2) := by decide +kernel
theorem dX11_plainGift_118 : decode cX11_plainGift 118 = .ok (.iadd, 1) := by decide +kernel
theorem dX11_plainGift_119 : decode cX11_plainGift 119 = .ok (.iaload, 1) := by decide +kernel
theorem dX11_plainGift_120 : decode cX11_plainGift 120 = .ok (.istore 8, 2) := by decide +kernel
theorem dX11_plainGift_122 : decode cX11_plainGift 122 = .ok (.iload 8, 2) := by decide +kernel
theorem dX11_plainGift_124 : decode cX11_plainGift 124 = .ok (.bipush 100, 2) := by decide +kernel
theorem dX11_plainGift_126 : decode cX11_plainGift 126 = .ok (.if_icmp .ge 6, 3) := by decide +kernel
theorem dX11_plainGift_129 : decode cX11_plainGift 129 = .ok (.iload 8, 2) := by decide +kernel
theorem dX11_plainGift_131 : decode cX11_plainGift 131 = .ok (.ireturn, 1) := by decide +kernel
theorem dX11_plainGift_132 : decode cX11_plainGift 132 = .ok (.iload 8, 2) := by decide +kernel
theorem dX11_plainGift_134 : decode cX11_plainGift 134 = .ok (.bipush 100, 2) := by decide +kernel
theorem dX11_plainGift_136 : decode cX11_plainGift 136 = .ok (.isub, 1) := by decide +kernel
theorem dX11_plainGift_137 : decode cX11_plainGift 137 = .ok (.istore 5, 2) := by decide +kernel
theorem dX11_plainGift_139 : decode cX11_plainGift 139 = .ok (.goto (-109), 3) := by decide +kernel
theorem dX11_plainGift_142 : decode cX11_plainGift 142 = .ok (.aload_n 0, 1) := by decide +kernel
theorem dX11_plainGift_143 : decode cX11_plainGift 143 = .ok (.iload 5, 2) := by decide +kernel
theorem dX11_plainGift_145 : decode cX11_plainGift 145 = .ok (.invokevirtual 169, 3) := by decide +kernel
theorem dX11_plainGift_148 : decode cX11_plainGift 148 = .ok (.ifCond .eq 8, 3) := by decide +kernel
theorem dX11_plainGift_151 : decode cX11_plainGift 151 = .ok (.bipush (-3), 2) := by decide +kernel
theorem dX11_plainGift_153 : decode cX11_plainGift 153 = .ok (.goto 5, 3) := by decide +kernel
theorem dX11_plainGift_156 : decode cX11_plainGift 156 = .ok (.bipush (-6), 2) := by decide +kernel
theorem dX11_plainGift_158 : decode cX11_plainGift 158 = .ok (.ireturn, 1) := by decide +kernel
theorem dX11_giftOf_0 : decode cX11_giftOf 0 = .ok (.aload_n 0, 1) := by decide +kernel
theorem dX11_giftOf_1 : decode cX11_giftOf 1 = .ok (.iload_n 1, 1) := by decide +kernel
theorem dX11_giftOf_2 : decode cX11_giftOf 2 = .ok (.iload_n 2, 1) := by decide +kernel
theorem dX11_giftOf_3 : decode cX11_giftOf 3 = .ok (.invokevirtual 248, 3) := by decide +kernel
theorem dX11_giftOf_6 : decode cX11_giftOf 6 = .ok (.istore_n 3, 1) := by decide +kernel
theorem dX11_giftOf_7 : decode cX11_giftOf 7 = .ok (.aload_n 0, 1) := by decide +kernel
theorem dX11_giftOf_8 : decode cX11_giftOf 8 = .ok (.getfield 251, 3) := by decide +kernel
theorem dX11_giftOf_11 : decode cX11_giftOf 11 = .ok (.ifCond .le 12, 3) := by decide +kernel
theorem dX11_giftOf_14 : decode cX11_giftOf 14 = .ok (.aload_n 0, 1) := by decide +kernel
theorem dX11_giftOf_15 : decode cX11_giftOf 15 = .ok (.getfield 68, 3) := by decide +kernel
theorem dX11_giftOf_18 : decode cX11_giftOf 18 = .ok (.iconst 0, 1) := by decide +kernel
theorem dX11_giftOf_19 : decode cX11_giftOf 19 = .ok (.iaload, 1) := by decide +kernel
theorem dX11_giftOf_20 : decode cX11_giftOf 20 = .ok (.goto 5, 3) := by decide +kernel
theorem dX11_giftOf_23 : decode cX11_giftOf 23 = .ok (.bipush (-6), 2) := by decide +kernel
theorem dX11_giftOf_25 : decode cX11_giftOf 25 = .ok (.istore 4, 2) := by decide +kernel
theorem dX11_giftOf_27 : decode cX11_giftOf 27 = .ok (.aload_n 0, 1) := by decide +kernel
theorem dX11_giftOf_28 : decode cX11_giftOf 28 = .ok (.getfield 207, 3) := by decide +kernel
theorem dX11_giftOf_31 : decode cX11_giftOf 31 = .ok (.iconst 1, 1) := by decide +kernel
theorem dX11_giftOf_32 : decode cX11_giftOf 32 = .ok (.if_icmp .ne 54, 3) := by decide +kernel
theorem dX11_giftOf_35 : decode cX11_giftOf 35 = .ok (.iload_n 3, 1) := by decide +kernel
theorem dX11_giftOf_36 : decode cX11_giftOf 36 = .ok (.ifCond .lt 50, 3) := by decide +kernel
theorem dX11_giftOf_39 : decode cX11_giftOf 39 = .ok (.aload_n 0, 1) := by decide +kernel
theorem dX11_giftOf_40 : decode cX11_giftOf 40 = .ok (.getfield 13, 3) := by decide +kernel
theorem dX11_giftOf_43 : decode cX11_giftOf 43 = .ok (.iload 4, 2) := by decide +kernel
theorem dX11_giftOf_45 : decode cX11_giftOf 45 = .ok (.iaload, 1) := by decide +kernel
theorem dX11_giftOf_46 : decode cX11_giftOf 46 = .ok (.aload_n 0, 1) := by decide +kernel
theorem dX11_giftOf_47 : decode cX11_giftOf 47 = .ok (.getfield 53, 3) := by decide +kernel
theorem dX11_giftOf_50 : decode cX11_giftOf 50 = .ok (.iload_n 1, 1) := by decide +kernel
theorem dX11_giftOf_51 : decode cX11_giftOf 51 = .ok (.iaload, 1) := by decide +kernel
theorem dX11_giftOf_52 : decode cX11_giftOf 52 = .ok (.if_icmp .le 34, 3) := by decide +kernel
theorem dX11_giftOf_55 : decode cX11_giftOf 55 = .ok (.aload_n 0, 1) := by decide +kernel
theorem dX11_giftOf_56 : decode cX11_giftOf 56 = .ok (.iload_n 1, 1) := by decide +kernel
theorem dX11_giftOf_57 : decode cX11_giftOf 57 = .ok (.aload_n 0, 1) := by decide +kernel
theorem dX11_giftOf_58 : decode cX11_giftOf 58 = .ok (.getfield 53, 3) := by decide +kernel
theorem dX11_giftOf_61 : decode cX11_giftOf 61 = .ok (.iload_n 1, 1) := by decide +kernel
theorem dX11_giftOf_62 : decode cX11_giftOf 62 = .ok (.iaload, 1) := by decide +kernel
theorem dX11_giftOf_63 : decode cX11_giftOf 63 = .ok (.invokevirtual 248, 3) := by decide +kernel
theorem dX11_giftOf_66 : decode cX11_giftOf 66 = .ok (.istore 5, 2) := by decide +kernel
theorem dX11_giftOf_68 : decode cX11_giftOf 68 = .ok (.iload 5, 2) := by decide +kernel
theorem dX11_giftOf_70 : decode cX11_giftOf 70 = .ok (.ifCond .lt 14, 3) := by decide +kernel
theorem dX11_giftOf_73 : decode cX11_giftOf 73 = .ok (.iload 5, 2) := by decide +kernel
theorem dX11_giftOf_75 : decode cX11_giftOf 75 = .ok (.iload_n 3, 1) := by decide +kernel
theorem dX11_giftOf_76 : decode cX11_giftOf 76 = .ok (.if_icmp .ge 8, 3) := by decide +kernel
theorem dX11_giftOf_79 : decode cX11_giftOf 79 = .ok (.iload 5, 2) := by decide +kernel
theorem dX11_giftOf_81 : decode cX11_giftOf 81 = .ok (.goto 4, 3) := by decide +kernel
theorem dX11_giftOf_84 : decode cX11_giftOf 84 = .ok (.iload_n 3, 1) := by decide +kernel
theorem dX11_giftOf_85 : decode cX11_giftOf 85 = .ok (.istore_n 3, 1) := by decide +kernel
theorem dX11_giftOf_86 : decode cX11_giftOf 86 = .ok (.iload_n 3, 1) := by decide +kernel
theorem dX11_giftOf_87 : decode cX11_giftOf 87 = .ok (.ireturn, 1) := by decide +kernel
theorem dX11_gives_0 : decode cX11_gives 0 = .ok (.aload_n 0, 1) := by decide +kernel
theorem dX11_gives_1 : decode cX11_gives 1 = .ok (.iload_n 1, 1) := by decide +kernel
theorem dX11_gives_2 : decode cX11_gives 2 = .ok (.invokevirtual 198, 3) := by decide +kernel
theorem dX11_gives_5 : decode cX11_gives 5 = .ok (.ifCond .ne 5, 3) := by decide +kernel
theorem dX11_gives_8 : decode cX11_gives 8 = .ok (.iconst (-1), 1) := by decide +kernel
theorem dX11_gives_9 : decode cX11_gives 9 = .ok (.ireturn, 1) := by decide +kernel
theorem dX11_gives_10 : decode cX11_gives 10 = .ok (.iload_n 2, 1) := by decide +kernel
theorem dX11_gives_11 : decode cX11_gives 11 = .ok (.invokestatic 156, 3) := by decide +kernel
theorem dX11_gives_14 : decode cX11_gives 14 = .ok (.ifCond .eq 12, 3) := by decide +kernel
theorem dX11_gives_17 : decode cX11_gives 17 = .ok (.aload_n 0, 1) := by decide +kernel
theorem dX11_gives_18 : decode cX11_gives 18 = .ok (.iload_n 1, 1) := by decide +kernel
theorem dX11_gives_19 : decode cX11_gives 19 = .ok (.iload_n 2, 1) := by decide +kernel
theorem dX11_gives_20 : decode cX11_gives 20 = .ok (.invokevirtual 254, 3) := by decide +kernel
theorem dX11_gives_23 : decode cX11_gives 23 = .ok (.goto 5, 3) := by decide +kernel
theorem dX11_gives_26 : decode cX11_gives 26 = .ok (.bipush (-2), 2) := by decide +kernel
theorem dX11_gives_28 : decode cX11_gives 28 = .ok (.ireturn, 1) := by decide +kernel
theorem dX11_route_0 : decode cX11_route 0 = .ok (.aload_n 0, 1) := by decide +kernel
theorem dX11_route_1 : decode cX11_route 1 = .ok (.iload_n 1, 1) := by decide +kernel
theorem dX11_route_2 : decode cX11_route 2 = .ok (.invokevirtual 198, 3) := by decide +kernel
theorem dX11_route_5 : decode cX11_route 5 = .ok (.ifCond .ne 5, 3) := by decide +kernel
theorem dX11_route_8 : decode cX11_route 8 = .ok (.iconst (-1), 1) := by decide +kernel
theorem dX11_route_9 : decode cX11_route 9 = .ok (.ireturn, 1) := by decide +kernel
theorem dX11_route_10 : decode cX11_route 10 = .ok (.iload_n 2, 1) := by decide +kernel
theorem dX11_route_11 : decode cX11_route 11 = .ok (.invokestatic 156, 3) := by decide +kernel
theorem dX11_route_14 : decode cX11_route 14 = .ok (.ifCond .ne 6, 3) := by decide +kernel
theorem dX11_route_17 : decode cX11_route 17 = .ok (.bipush (-2), 2) := by decide +kernel
theorem dX11_route_19 : decode cX11_route 19 = .ok (.ireturn, 1) := by decide +kernel
theorem dX11_route_20 : decode cX11_route 20 = .ok (.aload_n 0, 1) := by decide +kernel
theorem dX11_route_21 : decode cX11_route 21 = .ok (.iload_n 1, 1) := by decide +kernel
theorem dX11_route_22 : decode cX11_route 22 = .ok (.iload_n 2, 1) := by decide +kernel
theorem dX11_route_23 : decode cX11_route 23 = .ok (.invokevirtual 248, 3) := by decide +kernel
theorem dX11_route_26 : decode cX11_route 26 = .ok (.pop, 1) := by decide +kernel
theorem dX11_route_27 : decode cX11_route 27 = .ok (.iload_n 3, 1) := by decide +kernel
theorem dX11_route_28 : decode cX11_route 28 = .ok (.iconst (-1), 1) := by decide +kernel
theorem dX11_route_29 : decode cX11_route 29 = .ok (.if_icmp .ne 10, 3) := by decide +kernel
theorem dX11_route_32 : decode cX11_route 32 = .ok (.aload_n 0, 1) := by decide +kernel
theorem dX11_route_33 : decode cX11_route 33 = .ok (.getfield 251, 3) := by decide +kernel
theorem dX11_route_36 : decode cX11_route 36 = .ok (.goto 30, 3) := by decide +kernel
theorem dX11_route_39 : decode cX11_route 39 = .ok (.iload_n 3, 1) := by decide +kernel
theorem dX11_route_40 : decode cX11_route 40 = .ok (.i2l, 1) := by decide +kernel
theorem dX11_route_41 : decode cX11_route 41 = .ok (.lconst 0, 1) := by decide +kernel
theorem dX11_route_42 : decode cX11_route 42 = .ok (.aload_n 0, 1) := by decide +kernel
theorem dX11_route_43 : decode cX11_route 43 = .ok (.getfield 251, 3) := by decide +kernel
theorem dX11_route_46 : decode cX11_route 46 = .ok (.iconst 1, 1) := by decide +kernel
theorem dX11_route_47 : decode cX11_route 47 = .ok (.isub, 1) := by decide +kernel
theorem dX11_route_48 : decode cX11_route 48 = .ok (.i2l, 1) := by decide +kernel
theorem dX11_route_49 : decode cX11_route 49 = .ok (.invokestatic 86, 3) := by decide +kernel
theorem dX11_route_52 : decode cX11_route 52 = .ok (.ifCond .eq 12, 3) := by decide +kernel
theorem dX11_route_55 : decode cX11_route 55 = .ok (.aload_n 0, 1) := by decide +kernel
theorem dX11_route_56 : decode cX11_route 56 = .ok (.getfield 68, 3) := by decide +kernel
theorem dX11_route_59 : decode cX11_route 59 = .ok (.iload_n 3, 1) := by decide +kernel
theorem dX11_route_60 : decode cX11_route 60 = .ok (.iaload, 1) := by decide +kernel
theorem dX11_route_61 : decode cX11_route 61 = .ok (.goto 5, 3) := by decide +kernel
theorem dX11_route_64 : decode cX11_route 64 = .ok (.bipush (-6), 2) := by decide +kernel
theorem dX11_route_66 : decode cX11_route 66 = .ok (.ireturn, 1) := by decide +kernel
theorem dX11_sum_0 : decode cX11_sum 0 = .ok (.iload_n 1, 1) := by decide +kernel
theorem dX11_sum_1 : decode cX11_sum 1 = .ok (.invokestatic 156, 3) := by decide +kernel
theorem dX11_sum_4 : decode cX11_sum 4 = .ok (.ifCond .ne 6, 3) := by decide +kernel
theorem dX11_sum_7 : decode cX11_sum 7 = .ok (.bipush (-2), 2) := by decide +kernel
theorem dX11_sum_9 : decode cX11_sum 9 = .ok (.ireturn, 1) := by decide +kernel
theorem dX11_sum_10 : decode cX11_sum 10 = .ok (.iconst 0, 1) := by decide +kernel
theorem dX11_sum_11 : decode cX11_sum 11 = .ok (.istore_n 2, 1) := by decide +kernel
theorem dX11_sum_12 : decode cX11_sum 12 = .ok (.iconst 0, 1) := by decide +kernel
theorem dX11_sum_13 : decode cX11_sum 13 = .ok (.istore_n 3, 1) := by decide +kernel
theorem dX11_sum_14 : decode cX11_sum 14 = .ok (.iload_n 3, 1) := by decide +kernel
theorem dX11_sum_15 : decode cX11_sum 15 = .ok (.aload_n 0, 1) := by decide +kernel
theorem dX11_sum_16 : decode cX11_sum 16 = .ok (.getfield 190, 3) := by decide +kernel
theorem dX11_sum_19 : decode cX11_sum 19 = .ok (.if_icmp .ge 31, 3) := by decide +kernel
theorem dX11_sum_22 : decode cX11_sum 22 = .ok (.aload_n 0, 1) := by decide +kernel
theorem dX11_sum_23 : decode cX11_sum 23 = .ok (.iload_n 3, 1) := by decide +kernel
theorem dX11_sum_24 : decode cX11_sum 24 = .ok (.iload_n 1, 1) := by decide +kernel
theorem dX11_sum_25 : decode cX11_sum 25 = .ok (.invokevirtual 254, 3) := by decide +kernel
theorem dX11_sum_28 : decode cX11_sum 28 = .ok (.istore 4, 2) := by decide +kernel
theorem dX11_sum_30 : decode cX11_sum 30 = .ok (.iload_n 2, 1) := by decide +kernel
theorem dX11_sum_31 : decode cX11_sum 31 = .ok (.iload 4, 2) := by decide +kernel
theorem dX11_sum_33 : decode cX11_sum 33 = .ok (.ifCond .le 8, 3) := by decide +kernel
theorem dX11_sum_36 : decode cX11_sum 36 = .ok (.iload 4, 2) := by decide +kernel
theorem dX11_sum_38 : decode cX11_sum 38 = .ok (.goto 4, 3) := by decide +kernel
theorem dX11_sum_41 : decode cX11_sum 41 = .ok (.iconst 0, 1) := by decide +kernel
theorem dX11_sum_42 : decode cX11_sum 42 = .ok (.iadd, 1) := by decide +kernel
theorem dX11_sum_43 : decode cX11_sum 43 = .ok (.istore_n 2, 1) := by decide +kernel
theorem dX11_sum_44 : decode cX11_sum 44 = .ok (.iinc 3 1, 3) := by decide +kernel
theorem dX11_sum_47 : decode cX11_sum 47 = .ok (.goto (-33), 3) := by decide +kernel
theorem dX11_sum_50 : decode cX11_sum 50 = .ok (.iload_n 2, 1) := by decide +kernel
theorem dX11_sum_51 : decode cX11_sum 51 = .ok (.ireturn, 1) := by decide +kernel
theorem dX11_passage_0 : decode cX11_passage 0 = .ok (.aload_n 0, 1) := by decide +kernel
theorem dX11_passage_1 : decode cX11_passage 1 = .ok (.iload_n 1, 1) := by decide +kernel
theorem dX11_passage_2 : decode cX11_passage 2 = .ok (.invokevirtual 198, 3) := by decide +kernel
theorem dX11_passage_5 : decode cX11_passage 5 = .ok (.ifCond .ne 5, 3) := by decide +kernel
theorem dX11_passage_8 : decode cX11_passage 8 = .ok (.iconst (-1), 1) := by decide +kernel
theorem dX11_passage_9 : decode cX11_passage 9 = .ok (.ireturn, 1) := by decide +kernel
theorem dX11_passage_10 : decode cX11_passage 10 = .ok (.iload_n 3, 1) := by decide +kernel
theorem dX11_passage_11 : decode cX11_passage 11 = .ok (.i2l, 1) := by decide +kernel
theorem dX11_passage_12 : decode cX11_passage 12 = .ok (.lconst 0, 1) := by decide +kernel
theorem dX11_passage_13 : decode cX11_passage 13 = .ok (.lconst 1, 1) := by decide +kernel
theorem dX11_passage_14 : decode cX11_passage 14 = .ok (.invokestatic 86, 3) := by decide +kernel
theorem dX11_passage_17 : decode cX11_passage 17 = .ok (.ifCond .ne 6, 3) := by decide +kernel
theorem dX11_passage_20 : decode cX11_passage 20 = .ok (.bipush (-2), 2) := by decide +kernel
theorem dX11_passage_22 : decode cX11_passage 22 = .ok (.ireturn, 1) := by decide +kernel
theorem dX11_passage_23 : decode cX11_passage 23 = .ok (.iconst 0, 1) := by decide +kernel
theorem dX11_passage_24 : decode cX11_passage 24 = .ok (.istore 4, 2) := by decide +kernel
theorem dX11_passage_26 : decode cX11_passage 26 = .ok (.bipush (-6), 2) := by decide +kernel
theorem dX11_passage_28 : decode cX11_passage 28 = .ok (.istore 5, 2) := by decide +kernel
theorem dX11_passage_30 : decode cX11_passage 30 = .ok (.aload_n 0, 1) := by decide +kernel
theorem dX11_passage_31 : decode cX11_passage 31 = .ok (.getfield 53, 3) := by decide +kernel
theorem dX11_passage_34 : decode cX11_passage 34 = .ok (.iload_n 1, 1) := by decide +kernel
theorem dX11_passage_35 : decode cX11_passage 35 = .ok (.iaload, 1) := by decide +kernel
theorem dX11_passage_36 : decode cX11_passage 36 = .ok (.istore 6, 2) := by decide +kernel
theorem dX11_passage_38 : decode cX11_passage 38 = .ok (.iload 6, 2) := by decide +kernel
theorem dX11_passage_40 : decode cX11_passage 40 = .ok (.bipush 99, 2) := by decide +kernel
theorem dX11_passage_42 : decode cX11_passage 42 = .ok (.if_icmp .gt 61, 3) := by decide +kernel
theorem dX11_passage_45 : decode cX11_passage 45 = .ok (.aload_n 0, 1) := by decide +kernel
theorem dX11_passage_46 : decode cX11_passage 46 = .ok (.iload_n 1, 1) := by decide +kernel
theorem dX11_passage_47 : decode cX11_passage 47 = .ok (.iload 6, 2) := by decide +kernel
theorem dX11_passage_49 : decode cX11_passage 49 = .ok (.invokevirtual 240, 3) := by decide +kernel
theorem dX11_passage_52 : decode cX11_passage 52 = .ok (.istore 7, 2) := by decide +kernel
theorem dX11_passage_54 : decode cX11_passage 54 = .ok (.iload 7, 2) := by decide +kernel
theorem dX11_passage_56 : decode cX11_passage 56 = .ok (.iload 5, 2) := by decide +kernel
theorem dX11_passage_58 : decode cX11_passage 58 = .ok (.if_icmp .ne 14, 3) := by decide +kernel
theorem dX11_passage_61 : decode cX11_passage 61 = .ok (.iload 6, 2) := by decide +kernel
theorem dX11_passage_63 : decode cX11_passage 63 = .ok (.aload_n 0, 1) := by decide +kernel
theorem dX11_passage_64 : decode cX11_passage 64 = .ok (.getfield 53, 3) := by decide +kernel
theorem dX11_passage_67 : decode cX11_passage 67 = .ok (.iload_n 1, 1) := by decide +kernel
theorem dX11_passage_68 : decode cX11_passage 68 = .ok (.iaload, 1) := by decide +kernel
theorem dX11_passage_69 : decode cX11_passage 69 = .ok (.if_icmp .ne 24, 3) := by decide +kernel
theorem dX11_passage_72 : decode cX11_passage 72 = .ok (.iload 4, 2) := by decide +kernel
theorem dX11_passage_74 : decode cX11_passage 74 = .ok (.iload_n 2, 1) := by decide +kernel
theorem dX11_passage_75 : decode cX11_passage 75 = .ok (.if_icmp .ne 15, 3) := by decide +kernel
theorem dX11_passage_78 : decode cX11_passage 78 = .ok (.iload_n 3, 1) := by decide +kernel
theorem dX11_passage_79 : decode cX11_passage 79 = .ok (.ifCond .ne 8, 3) := by decide +kernel
theorem dX11_passage_82 : decode cX11_passage 82 = .ok (.iload 6, 2) := by decide +kernel
theorem dX11_passage_84 : decode cX11_passage 84 = .ok (.goto 5, 3) := by decide +kernel
theorem dX11_passage_87 : decode cX11_passage 87 = .ok (.iload 7, 2) := by decide +kernel
theorem dX11_passage_89 : decode cX11_passage 89 = .ok (.ireturn, 1) := by decide +kernel
theorem dX11_passage_90 : decode cX11_passage 90 = .ok (.iinc 4 1, 3) := by decide +kernel
theorem dX11_passage_93 : decode cX11_passage 93 = .ok (.iload 7, 2) := by decide +kernel
theorem dX11_passage_95 : decode cX11_passage 95 = .ok (.istore 5, 2) := by decide +kernel
theorem dX11_passage_97 : decode cX11_passage 97 = .ok (.iinc 6 1, 3) := by decide +kernel
theorem dX11_passage_100 : decode cX11_passage 100 = .ok (.goto (-62), 3) := by decide +kernel
theorem dX11_passage_103 : decode cX11_passage 103 = .ok (.iload_n 2, 1) := by decide +kernel
theorem dX11_passage_104 : decode cX11_passage 104 = .ok (.iconst (-1), 1) := by decide +kernel
theorem dX11_passage_105 : decode cX11_passage 105 = .ok (.if_icmp .ne 8, 3) := by decide +kernel
theorem dX11_passage_108 : decode cX11_passage 108 = .ok (.iload 4, 2) := by decide +kernel
theorem dX11_passage_110 : decode cX11_passage 110 = .ok (.goto 5, 3) := by decide +kernel
theorem dX11_passage_113 : decode cX11_passage 113 = .ok (.bipush (-6), 2) := by decide +kernel
theorem dX11_passage_115 : decode cX11_passage 115 = .ok (.ireturn, 1) := by decide +kernel
theorem dX11_carry_0 : decode cX11_carry 0 = .ok (.aload_n 0, 1) := by decide +kernel
theorem dX11_carry_1 : decode cX11_carry 1 = .ok (.iload_n 1, 1) := by decide +kernel
theorem dX11_carry_2 : decode cX11_carry 2 = .ok (.iload_n 2, 1) := by decide +kernel
theorem dX11_carry_3 : decode cX11_carry 3 = .ok (.invokevirtual 240, 3) := by decide +kernel
theorem dX11_carry_6 : decode cX11_carry 6 = .ok (.istore_n 3, 1) := by decide +kernel
theorem dX11_carry_7 : decode cX11_carry 7 = .ok (.iload_n 3, 1) := by decide +kernel
theorem dX11_carry_8 : decode cX11_carry 8 = .ok (.aload_n 0, 1) := by decide +kernel
theorem dX11_carry_9 : decode cX11_carry 9 = .ok (.getfield 257, 3) := by decide +kernel
theorem dX11_carry_12 : decode cX11_carry 12 = .ok (.if_icmp .ne 13, 3) := by decide +kernel
theorem dX11_carry_15 : decode cX11_carry 15 = .ok (.iload_n 2, 1) := by decide +kernel
theorem dX11_carry_16 : decode cX11_carry 16 = .ok (.aload_n 0, 1) := by decide +kernel
theorem dX11_carry_17 : decode cX11_carry 17 = .ok (.getfield 53, 3) := by decide +kernel
theorem dX11_carry_20 : decode cX11_carry 20 = .ok (.iload_n 1, 1) := by decide +kernel
theorem dX11_carry_21 : decode cX11_carry 21 = .ok (.iaload, 1) := by decide +kernel
theorem dX11_carry_22 : decode cX11_carry 22 = .ok (.if_icmp .ne 7, 3) := by decide +kernel
theorem dX11_carry_25 : decode cX11_carry 25 = .ok (.iconst 1, 1) := by decide +kernel
theorem dX11_carry_26 : decode cX11_carry 26 = .ok (.goto 4, 3) := by decide +kernel
theorem dX11_carry_29 : decode cX11_carry 29 = .ok (.iconst 0, 1) := by decide +kernel
theorem dX11_carry_30 : decode cX11_carry 30 = .ok (.istore 4, 2) := by decide +kernel
theorem dX11_carry_32 : decode cX11_carry 32 = .ok (.aload_n 0, 1) := by decide +kernel
theorem dX11_carry_33 : decode cX11_carry 33 = .ok (.iload_n 3, 1) := by decide +kernel
theorem dX11_carry_34 : decode cX11_carry 34 = .ok (.putfield 257, 3) := by decide +kernel
theorem dX11_carry_37 : decode cX11_carry 37 = .ok (.iload 4, 2) := by decide +kernel
theorem dX11_carry_39 : decode cX11_carry 39 = .ok (.ifCond .ne 4, 3) := by decide +kernel
theorem dX11_carry_42 : decode cX11_carry 42 = .ok (.return_, 1) := by decide +kernel
theorem dX11_carry_43 : decode cX11_carry 43 = .ok (.iload_n 3, 1) := by decide +kernel
theorem dX11_carry_44 : decode cX11_carry 44 = .ok (.ifCond .ge 8, 3) := by decide +kernel
theorem dX11_carry_47 : decode cX11_carry 47 = .ok (.bipush (-6), 2) := by decide +kernel
theorem dX11_carry_49 : decode cX11_carry 49 = .ok (.goto 9, 3) := by decide +kernel
theorem dX11_carry_52 : decode cX11_carry 52 = .ok (.aload_n 0, 1) := by decide +kernel
theorem dX11_carry_53 : decode cX11_carry 53 = .ok (.getfield 37, 3) := by decide +kernel
theorem dX11_carry_56 : decode cX11_carry 56 = .ok (.iload_n 3, 1) := by decide +kernel
theorem dX11_carry_57 : decode cX11_carry 57 = .ok (.iaload, 1) := by decide +kernel
theorem dX11_carry_58 : decode cX11_carry 58 = .ok (.istore 5, 2) := by decide +kernel
theorem dX11_carry_60 : decode cX11_carry 60 = .ok (.iload 5, 2) := by decide +kernel
theorem dX11_carry_62 : decode cX11_carry 62 = .ok (.ifCond .ge 12, 3) := by decide +kernel
theorem dX11_carry_65 : decode cX11_carry 65 = .ok (.aload_n 0, 1) := by decide +kernel
theorem dX11_carry_66 : decode cX11_carry 66 = .ok (.bipush (-6), 2) := by decide +kernel
theorem dX11_carry_68 : decode cX11_carry 68 = .ok (.putfield 260, 3) := by decide +kernel
theorem dX11_carry_71 : decode cX11_carry 71 = .ok (.goto 93, 3) := by decide +kernel
theorem dX11_carry_74 : decode cX11_carry 74 = .ok (.aload_n 0, 1) := by decide +kernel
theorem dX11_carry_75 : decode cX11_carry 75 = .ok (.getfield 260, 3) := by decide +kernel
theorem dX11_carry_78 : decode cX11_carry 78 = .ok (.ifCond .ge 17, 3) := by decide +kernel
theorem dX11_carry_81 : decode cX11_carry 81 = .ok (.aload_n 0, 1) := by decide +kernel
theorem dX11_carry_82 : decode cX11_carry 82 = .ok (.aload_n 0, 1) := by decide +kernel
theorem dX11_carry_83 : decode cX11_carry 83 = .ok (.getfield 263, 3) := by decide +kernel
theorem dX11_carry_86 : decode cX11_carry 86 = .ok (.iload 5, 2) := by decide +kernel
theorem dX11_carry_88 : decode cX11_carry 88 = .ok (.iadd, 1) := by decide +kernel
theorem dX11_carry_89 : decode cX11_carry 89 = .ok (.putfield 260, 3) := by decide +kernel
theorem dX11_carry_92 : decode cX11_carry 92 = .ok (.goto 72, 3) := by decide +kernel
theorem dX11_carry_95 : decode cX11_carry 95 = .ok (.aload_n 0, 1) := by decide +kernel
theorem dX11_carry_96 : decode cX11_carry 96 = .ok (.iload_n 3, 1) := by decide +kernel
theorem dX11_carry_97 : decode cX11_carry 97 = .ok (.invokevirtual 266, 3) := by decide +kernel
theorem dX11_carry_100 : decode cX11_carry 100 = .ok (.istore 6, 2) := by decide +kernel
theorem dX11_carry_102 : decode cX11_carry 102 = .ok (.aload_n 0, 1) := by decide +kernel
theorem dX11_carry_103 : decode cX11_carry 103 = .ok (.iload 6, 2) := by decide +kernel
theorem dX11_carry_105 : decode cX11_carry 105 = .ok (.bipush 98, 2) := by decide +kernel
theorem dX11_carry_107 : decode cX11_carry 107 = .ok (.if_icmp .ne 7, 3) := by decide +kernel
theorem dX11_carry_110 : decode cX11_carry 110 = .ok (.iload_n 2, 1) := by decide +kernel
theorem dX11_carry_111 : decode cX11_carry 111 = .ok (.goto 7, 3) := by decide +kernel
theorem dX11_carry_114 : decode cX11_carry 114 = .ok (.aload_n 0, 1) := by decide +kernel
theorem dX11_carry_115 : decode cX11_carry 115 = .ok (.getfield 263, 3) := by decide +kernel
theorem dX11_carry_118 : decode cX11_carry 118 = .ok (.putfield 263, 3) := by decide +kernel
theorem dX11_carry_121 : decode cX11_carry 121 = .ok (.aload_n 0, 1) := by decide +kernel
theorem dX11_carry_122 : decode cX11_carry 122 = .ok (.iload 6, 2) := by decide +kernel
theorem dX11_carry_124 : decode cX11_carry 124 = .ok (.bipush 108, 2) := by decide +kernel
theorem dX11_carry_126 : decode cX11_carry 126 = .ok (.if_icmp .ne 28, 3) := by decide +kernel
theorem dX11_carry_129 : decode cX11_carry 129 = .ok (.aload_n 0, 1) := by decide +kernel
theorem dX11_carry_130 : decode cX11_carry 130 = .ok (.getfield 260, 3) := by decide +kernel
theorem dX11_carry_133 : decode cX11_carry 133 = .ok (.iload_n 2, 1) := by decide +kernel
theorem dX11_carry_134 : decode cX11_carry 134 = .ok (.iload 5, 2) := by decide +kernel
theorem dX11_carry_136 : decode cX11_carry 136 = .ok (.iadd, 1) := by decide +kernel
theorem dX11_carry_137 : decode cX11_carry 137 = .ok (.if_icmp .ge 10, 3) := by decide +kernel
theorem dX11_carry_140 : decode cX11_carry 140 = .ok (.aload_n 0, 1) := by decide +kernel
theorem dX11_carry_141 : decode cX11_carry 141 = .ok (.getfield 260, 3) := by decide +kernel
theorem dX11_carry_144 : decode cX11_carry 144 = .ok (.goto 17, 3) := by decide +kernel
theorem dX11_carry_147 : decode cX11_carry 147 = .ok (.iload_n 2, 1) := by decide +kernel
theorem dX11_carry_148 : decode cX11_carry 148 = .ok (.iload 5, 2) := by decide +kernel
theorem dX11_carry_150 : decode cX11_carry 150 = .ok (.iadd, 1) := by decide +kernel
theorem dX11_carry_151 : decode cX11_carry 151 = .ok (.goto 10, 3) := by decide +kernel
theorem dX11_carry_154 : decode cX11_carry 154 = .ok (.aload_n 0, 1) := by decide +kernel
theorem dX11_carry_155 : decode cX11_carry 155 = .ok (.getfield 263, 3) := by decide +kernel
theorem dX11_carry_158 : decode cX11_carry 158 = .ok (.iload 5, 2) := by decide +kernel
theorem dX11_carry_160 : decode cX11_carry 160 = .ok (.iadd, 1) := by decide +kernel
theorem dX11_carry_161 : decode cX11_carry 161 = .ok (.putfield 260, 3) := by decide +kernel
theorem dX11_carry_164 : decode cX11_carry 164 = .ok (.return_, 1) := by decide +kernel
theorem dX11_beginTerm_0 : decode cX11_beginTerm 0 = .ok (.aload_n 0, 1) := by decide +kernel
theorem dX11_beginTerm_1 : decode cX11_beginTerm 1 = .ok (.aload_n 0, 1) := by decide +kernel
theorem dX11_beginTerm_2 : decode cX11_beginTerm 2 = .ok (.getfield 53, 3) := by decide +kernel
theorem dX11_beginTerm_5 : decode cX11_beginTerm 5 = .ok (.iload_n 1, 1) := by decide +kernel
theorem dX11_beginTerm_6 : decode cX11_beginTerm 6 = .ok (.iaload, 1) := by decide +kernel
theorem dX11_beginTerm_7 : decode cX11_beginTerm 7 = .ok (.putfield 263, 3) := by decide +kernel
theorem dX11_beginTerm_10 : decode cX11_beginTerm 10 = .ok (.aload_n 0, 1) := by decide +kernel
theorem dX11_beginTerm_11 : decode cX11_beginTerm 11 = .ok (.bipush (-6), 2) := by decide +kernel
theorem dX11_beginTerm_13 : decode cX11_beginTerm 13 = .ok (.putfield 260, 3) := by decide +kernel
theorem dX11_beginTerm_16 : decode cX11_beginTerm 16 = .ok (.aload_n 0, 1) := by decide +kernel
theorem dX11_beginTerm_17 : decode cX11_beginTerm 17 = .ok (.bipush (-6), 2) := by decide +kernel
theorem dX11_beginTerm_19 : decode cX11_beginTerm 19 = .ok (.putfield 257, 3) := by decide +kernel
theorem dX11_beginTerm_22 : decode cX11_beginTerm 22 = .ok (.return_, 1) := by decide +kernel
theorem dX11_term_0 : decode cX11_term 0 = .ok (.aload_n 0, 1) := by decide +kernel
theorem dX11_term_1 : decode cX11_term 1 = .ok (.iload_n 1, 1) := by decide +kernel
theorem dX11_term_2 : decode cX11_term 2 = .ok (.invokevirtual 198, 3) := by decide +kernel
theorem dX11_term_5 : decode cX11_term 5 = .ok (.ifCond .ne 5, 3) := by decide +kernel
theorem dX11_term_8 : decode cX11_term 8 = .ok (.iconst (-1), 1) := by decide +kernel
theorem dX11_term_9 : decode cX11_term 9 = .ok (.ireturn, 1) := by decide +kernel
theorem dX11_term_10 : decode cX11_term 10 = .ok (.iload_n 2, 1) := by decide +kernel
theorem dX11_term_11 : decode cX11_term 11 = .ok (.invokestatic 156, 3) := by decide +kernel
theorem dX11_term_14 : decode cX11_term 14 = .ok (.ifCond .eq 13, 3) := by decide +kernel
theorem dX11_term_17 : decode cX11_term 17 = .ok (.iload_n 3, 1) := by decide +kernel
theorem dX11_term_18 : decode cX11_term 18 = .ok (.i2l, 1) := by decide +kernel
theorem dX11_term_19 : decode cX11_term 19 = .ok (.lconst 0, 1) := by decide +kernel
theorem dX11_term_20 : decode cX11_term 20 = .ok (.lconst 1, 1) := by decide +kernel
theorem dX11_term_21 : decode cX11_term 21 = .ok (.invokestatic 86, 3) := by decide +kernel
theorem dX11_term_24 : decode cX11_term 24 = .ok (.ifCond .ne 6, 3) := by decide +kernel
theorem dX11_term_27 : decode cX11_term 27 = .ok (.bipush (-2), 2) := by decide +kernel
theorem dX11_term_29 : decode cX11_term 29 = .ok (.ireturn, 1) := by decide +kernel
theorem dX11_term_30 : decode cX11_term 30 = .ok (.iload_n 2, 1) := by decide +kernel
theorem dX11_term_31 : decode cX11_term 31 = .ok (.aload_n 0, 1) := by decide +kernel
theorem dX11_term_32 : decode cX11_term 32 = .ok (.getfield 53, 3) := by decide +kernel
theorem dX11_term_35 : decode cX11_term 35 = .ok (.iload_n 1, 1) := by decide +kernel
theorem dX11_term_36 : decode cX11_term 36 = .ok (.iaload, 1) := by decide +kernel
theorem dX11_term_37 : decode cX11_term 37 = .ok (.if_icmp .ge 6, 3) := by decide +kernel
theorem dX11_term_40 : decode cX11_term 40 = .ok (.bipush (-3), 2) := by decide +kernel
theorem dX11_term_42 : decode cX11_term 42 = .ok (.ireturn, 1) := by decide +kernel
theorem dX11_term_43 : decode cX11_term 43 = .ok (.aload_n 0, 1) := by decide +kernel
theorem dX11_term_44 : decode cX11_term 44 = .ok (.iload_n 1, 1) := by decide +kernel
theorem dX11_term_45 : decode cX11_term 45 = .ok (.invokevirtual 269, 3) := by decide +kernel
theorem dX11_term_48 : decode cX11_term 48 = .ok (.aload_n 0, 1) := by decide +kernel
theorem dX11_term_49 : decode cX11_term 49 = .ok (.getfield 53, 3) := by decide +kernel
theorem dX11_term_52 : decode cX11_term 52 = .ok (.iload_n 1, 1) := by decide +kernel
theorem dX11_term_53 : decode cX11_term 53 = .ok (.iaload, 1) := by decide +kernel
theorem dX11_term_54 : decode cX11_term 54 = .ok (.istore 4, 2) := by decide +kernel
theorem dX11_term_56 : decode cX11_term 56 = .ok (.iload 4, 2) := by decide +kernel
theorem dX11_term_58 : decode cX11_term 58 = .ok (.iload_n 2, 1) := by decide +kernel
theorem dX11_term_59 : decode cX11_term 59 = .ok (.if_icmp .gt 16, 3) := by decide +kernel
theorem dX11_term_62 : decode cX11_term 62 = .ok (.aload_n 0, 1) := by decide +kernel
theorem dX11_term_63 : decode cX11_term 63 = .ok (.iload_n 1, 1) := by decide +kernel
theorem dX11_term_64 : decode cX11_term 64 = .ok (.iload 4, 2) := by decide +kernel
theorem dX11_term_66 : decode cX11_term 66 = .ok (.invokevirtual 272, 3) := by decide +kernel
theorem dX11_term_69 : decode cX11_term 69 = .ok (.iinc 4 1, 3) := by decide +kernel
theorem dX11_term_72 : decode cX11_term 72 = .ok (.goto (-16), 3) := by decide +kernel
theorem dX11_term_75 : decode cX11_term 75 = .ok (.iload_n 3, 1) := by decide +kernel
theorem dX11_term_76 : decode cX11_term 76 = .ok (.ifCond .ne 10, 3) := by decide +kernel
theorem dX11_term_79 : decode cX11_term 79 = .ok (.aload_n 0, 1) := by decide +kernel
theorem dX11_term_80 : decode cX11_term 80 = .ok (.getfield 263, 3) := by decide +kernel
theorem dX11_term_83 : decode cX11_term 83 = .ok (.goto 7, 3) := by decide +kernel
theorem dX11_term_86 : decode cX11_term 86 = .ok (.aload_n 0, 1) := by decide +kernel
theorem dX11_term_87 : decode cX11_term 87 = .ok (.getfield 260, 3) := by decide +kernel
theorem dX11_term_90 : decode cX11_term 90 = .ok (.ireturn, 1) := by decide +kernel
theorem dX11_whole_0 : decode cX11_whole 0 = .ok (.aload_n 0, 1) := by decide +kernel
theorem dX11_whole_1 : decode cX11_whole 1 = .ok (.iload_n 1, 1) := by decide +kernel
theorem dX11_whole_2 : decode cX11_whole 2 = .ok (.invokevirtual 198, 3) := by decide +kernel
theorem dX11_whole_5 : decode cX11_whole 5 = .ok (.ifCond .ne 5, 3) := by decide +kernel
theorem dX11_whole_8 : decode cX11_whole 8 = .ok (.iconst (-1), 1) := by decide +kernel
theorem dX11_whole_9 : decode cX11_whole 9 = .ok (.ireturn, 1) := by decide +kernel
theorem dX11_whole_10 : decode cX11_whole 10 = .ok (.iload_n 2, 1) := by decide +kernel
theorem dX11_whole_11 : decode cX11_whole 11 = .ok (.i2l, 1) := by decide +kernel
theorem dX11_whole_12 : decode cX11_whole 12 = .ok (.lconst 0, 1) := by decide +kernel
theorem dX11_whole_13 : decode cX11_whole 13 = .ok (.ldc2_w 246, 3) := by decide +kernel
theorem dX11_whole_16 : decode cX11_whole 16 = .ok (.invokestatic 86, 3) := by decide +kernel
theorem dX11_whole_19 : decode cX11_whole 19 = .ok (.ifCond .ne 6, 3) := by decide +kernel
theorem dX11_whole_22 : decode cX11_whole 22 = .ok (.bipush (-2), 2) := by decide +kernel
theorem dX11_whole_24 : decode cX11_whole 24 = .ok (.ireturn, 1) := by decide +kernel
theorem dX11_whole_25 : decode cX11_whole 25 = .ok (.aload_n 0, 1) := by decide +kernel
theorem dX11_whole_26 : decode cX11_whole 26 = .ok (.iload_n 2, 1) := by decide +kernel
theorem dX11_whole_27 : decode cX11_whole 27 = .ok (.ifCond .ne 8, 3) := by decide +kernel
theorem dX11_whole_30 : decode cX11_whole 30 = .ok (.bipush (-6), 2) := by decide +kernel
theorem dX11_whole_32 : decode cX11_whole 32 = .ok (.goto 25, 3) := by decide +kernel
theorem dX11_whole_35 : decode cX11_whole 35 = .ok (.iload_n 2, 1) := by decide +kernel
theorem dX11_whole_36 : decode cX11_whole 36 = .ok (.iconst 1, 1) := by decide +kernel
theorem dX11_whole_37 : decode cX11_whole 37 = .ok (.if_icmp .ne 8, 3) := by decide +kernel
theorem dX11_whole_40 : decode cX11_whole 40 = .ok (.bipush 99, 2) := by decide +kernel
theorem dX11_whole_42 : decode cX11_whole 42 = .ok (.goto 15, 3) := by decide +kernel
theorem dX11_whole_45 : decode cX11_whole 45 = .ok (.iload_n 2, 1) := by decide +kernel
theorem dX11_whole_46 : decode cX11_whole 46 = .ok (.iconst 2, 1) := by decide +kernel
theorem dX11_whole_47 : decode cX11_whole 47 = .ok (.if_icmp .ne 8, 3) := by decide +kernel
theorem dX11_whole_50 : decode cX11_whole 50 = .ok (.bipush 98, 2) := by decide +kernel
theorem dX11_whole_52 : decode cX11_whole 52 = .ok (.goto 5, 3) := by decide +kernel
theorem dX11_whole_55 : decode cX11_whole 55 = .ok (.bipush 108, 2) := by decide +kernel
theorem dX11_whole_57 : decode cX11_whole 57 = .ok (.putfield 49, 3) := by decide +kernel
theorem dX11_whole_60 : decode cX11_whole 60 = .ok (.aload_n 0, 1) := by decide +kernel
theorem dX11_whole_61 : decode cX11_whole 61 = .ok (.iload_n 1, 1) := by decide +kernel
theorem dX11_whole_62 : decode cX11_whole 62 = .ok (.invokevirtual 269, 3) := by decide +kernel
theorem dX11_whole_65 : decode cX11_whole 65 = .ok (.bipush (-6), 2) := by decide +kernel
theorem dX11_whole_67 : decode cX11_whole 67 = .ok (.istore_n 3, 1) := by decide +kernel
theorem dX11_whole_68 : decode cX11_whole 68 = .ok (.aload_n 0, 1) := by decide +kernel
theorem dX11_whole_69 : decode cX11_whole 69 = .ok (.getfield 53, 3) := by decide +kernel
theorem dX11_whole_72 : decode cX11_whole 72 = .ok (.iload_n 1, 1) := by decide +kernel
theorem dX11_whole_73 : decode cX11_whole 73 = .ok (.iaload, 1) := by decide +kernel
theorem dX11_whole_74 : decode cX11_whole 74 = .ok (.istore 4, 2) := by decide +kernel
theorem dX11_whole_76 : decode cX11_whole 76 = .ok (.iload 4, 2) := by decide +kernel
theorem dX11_whole_78 : decode cX11_whole 78 = .ok (.bipush 99, 2) := by decide +kernel
theorem dX11_whole_80 : decode cX11_whole 80 = .ok (.if_icmp .gt 44, 3) := by decide +kernel
theorem dX11_whole_83 : decode cX11_whole 83 = .ok (.iload_n 3, 1) := by decide +kernel
theorem dX11_whole_84 : decode cX11_whole 84 = .ok (.ifCond .ge 40, 3) := by decide +kernel
theorem dX11_whole_87 : decode cX11_whole 87 = .ok (.aload_n 0, 1) := by decide +kernel
theorem dX11_whole_88 : decode cX11_whole 88 = .ok (.iload_n 1, 1) := by decide +kernel
theorem dX11_whole_89 : decode cX11_whole 89 = .ok (.iload 4, 2) := by decide +kernel
theorem dX11_whole_91 : decode cX11_whole 91 = .ok (.invokevirtual 272, 3) := by decide +kernel
theorem dX11_whole_94 : decode cX11_whole 94 = .ok (.aload_n 0, 1) := by decide +kernel
theorem dX11_whole_95 : decode cX11_whole 95 = .ok (.getfield 260, 3) := by decide +kernel
theorem dX11_whole_98 : decode cX11_whole 98 = .ok (.ifCond .lt 17, 3) := by decide +kernel
theorem dX11_whole_101 : decode cX11_whole 101 = .ok (.aload_n 0, 1) := by decide +kernel
theorem dX11_whole_102 : decode cX11_whole 102 = .ok (.getfield 260, 3) := by decide +kernel
theorem dX11_whole_105 : decode cX11_whole 105 = .ok (.iload 4, 2) := by decide +kernel
theorem dX11_whole_107 : decode cX11_whole 107 = .ok (.if_icmp .gt 8, 3) := by decide +kernel
theorem dX11_whole_110 : decode cX11_whole 110 = .ok (.iload 4, 2) := by decide +kernel
theorem dX11_whole_112 : decode cX11_whole 112 = .ok (.goto 5, 3) := by decide +kernel
theorem dX11_whole_115 : decode cX11_whole 115 = .ok (.bipush (-6), 2) := by decide +kernel
theorem dX11_whole_117 : decode cX11_whole 117 = .ok (.istore_n 3, 1) := by decide +kernel
theorem dX11_whole_118 : decode cX11_whole 118 = .ok (.iinc 4 1, 3) := by decide +kernel
theorem dX11_whole_121 : decode cX11_whole 121 = .ok (.goto (-45), 3) := by decide +kernel
theorem dX11_whole_124 : decode cX11_whole 124 = .ok (.aload_n 0, 1) := by decide +kernel
theorem dX11_whole_125 : decode cX11_whole 125 = .ok (.bipush (-6), 2) := by decide +kernel
theorem dX11_whole_127 : decode cX11_whole 127 = .ok (.putfield 49, 3) := by decide +kernel
theorem dX11_whole_130 : decode cX11_whole 130 = .ok (.iload_n 3, 1) := by decide +kernel
theorem dX11_whole_131 : decode cX11_whole 131 = .ok (.ireturn, 1) := by decide +kernel
theorem dX11_taken_0 : decode cX11_taken 0 = .ok (.aload_n 0, 1) := by decide +kernel
theorem dX11_taken_1 : decode cX11_taken 1 = .ok (.iload_n 1, 1) := by decide +kernel
theorem dX11_taken_2 : decode cX11_taken 2 = .ok (.invokevirtual 169, 3) := by decide +kernel
theorem dX11_taken_5 : decode cX11_taken 5 = .ok (.ifCond .ne 5, 3) := by decide +kernel
theorem dX11_taken_8 : decode cX11_taken 8 = .ok (.iconst (-1), 1) := by decide +kernel
theorem dX11_taken_9 : decode cX11_taken 9 = .ok (.ireturn, 1) := by decide +kernel
theorem dX11_taken_10 : decode cX11_taken 10 = .ok (.iconst 0, 1) := by decide +kernel
theorem dX11_taken_11 : decode cX11_taken 11 = .ok (.istore_n 2, 1) := by decide +kernel
theorem dX11_taken_12 : decode cX11_taken 12 = .ok (.iconst 0, 1) := by decide +kernel
theorem dX11_taken_13 : decode cX11_taken 13 = .ok (.istore_n 3, 1) := by decide +kernel
theorem dX11_taken_14 : decode cX11_taken 14 = .ok (.iload_n 3, 1) := by decide +kernel
theorem dX11_taken_15 : decode cX11_taken 15 = .ok (.aload_n 0, 1) := by decide +kernel
theorem dX11_taken_16 : decode cX11_taken 16 = .ok (.getfield 190, 3) := by decide +kernel
theorem dX11_taken_19 : decode cX11_taken 19 = .ok (.if_icmp .ge 70, 3) := by decide +kernel
theorem dX11_taken_22 : decode cX11_taken 22 = .ok (.aload_n 0, 1) := by decide +kernel
theorem dX11_taken_23 : decode cX11_taken 23 = .ok (.getfield 56, 3) := by decide +kernel
theorem dX11_taken_26 : decode cX11_taken 26 = .ok (.iload_n 3, 1) := by decide +kernel
theorem dX11_taken_27 : decode cX11_taken 27 = .ok (.iaload, 1) := by decide +kernel
theorem dX11_taken_28 : decode cX11_taken 28 = .ok (.ifCond .lt 22, 3) := by decide +kernel
theorem dX11_taken_31 : decode cX11_taken 31 = .ok (.aload_n 0, 1) := by decide +kernel
theorem dX11_taken_32 : decode cX11_taken 32 = .ok (.getfield 56, 3) := by decide +kernel
theorem dX11_taken_35 : decode cX11_taken 35 = .ok (.iload_n 3, 1) := by decide +kernel
theorem dX11_taken_36 : decode cX11_taken 36 = .ok (.iaload, 1) := by decide +kernel
theorem dX11_taken_37 : decode cX11_taken 37 = .ok (.aload_n 0, 1) := by decide +kernel
theorem dX11_taken_38 : decode cX11_taken 38 = .ok (.getfield 13, 3) := by decide +kernel
theorem dX11_taken_41 : decode cX11_taken 41 = .ok (.iload_n 1, 1) := by decide +kernel
theorem dX11_taken_42 : decode cX11_taken 42 = .ok (.iaload, 1) := by decide +kernel
theorem dX11_taken_43 : decode cX11_taken 43 = .ok (.if_icmp .ge 7, 3) := by decide +kernel
theorem dX11_taken_46 : decode cX11_taken 46 = .ok (.iconst 1, 1) := by decide +kernel
theorem dX11_taken_47 : decode cX11_taken 47 = .ok (.goto 4, 3) := by decide +kernel
theorem dX11_taken_50 : decode cX11_taken 50 = .ok (.iconst 0, 1) := by decide +kernel
theorem dX11_taken_51 : decode cX11_taken 51 = .ok (.istore 4, 2) := by decide +kernel
theorem dX11_taken_53 : decode cX11_taken 53 = .ok (.iload_n 2, 1) := by decide +kernel
theorem dX11_taken_54 : decode cX11_taken 54 = .ok (.iload 4, 2) := by decide +kernel
theorem dX11_taken_56 : decode cX11_taken 56 = .ok (.ifCond .eq 24, 3) := by decide +kernel
theorem dX11_taken_59 : decode cX11_taken 59 = .ok (.aload_n 0, 1) := by decide +kernel
theorem dX11_taken_60 : decode cX11_taken 60 = .ok (.iload_n 3, 1) := by decide +kernel
theorem dX11_taken_61 : decode cX11_taken 61 = .ok (.aload_n 0, 1) := by decide +kernel
theorem dX11_taken_62 : decode cX11_taken 62 = .ok (.getfield 13, 3) := by decide +kernel
theorem dX11_taken_65 : decode cX11_taken 65 = .ok (.iload_n 1, 1) := by decide +kernel
theorem dX11_taken_66 : decode cX11_taken 66 = .ok (.iaload, 1) := by decide +kernel
theorem dX11_taken_67 : decode cX11_taken 67 = .ok (.invokevirtual 243, 3) := by decide +kernel
theorem dX11_taken_70 : decode cX11_taken 70 = .ok (.iload_n 1, 1) := by decide +kernel
theorem dX11_taken_71 : decode cX11_taken 71 = .ok (.if_icmp .ne 9, 3) := by decide +kernel
theorem dX11_taken_74 : decode cX11_taken 74 = .ok (.iconst 1, 1) := by decide +kernel
theorem dX11_taken_75 : decode cX11_taken 75 = .ok (.iload_n 3, 1) := by decide +kernel
theorem dX11_taken_76 : decode cX11_taken 76 = .ok (.ishl, 1) := by decide +kernel
theorem dX11_taken_77 : decode cX11_taken 77 = .ok (.goto 4, 3) := by decide +kernel
theorem dX11_taken_80 : decode cX11_taken 80 = .ok (.iconst 0, 1) := by decide +kernel
theorem dX11_taken_81 : decode cX11_taken 81 = .ok (.ior, 1) := by decide +kernel
theorem dX11_taken_82 : decode cX11_taken 82 = .ok (.istore_n 2, 1) := by decide +kernel
theorem dX11_taken_83 : decode cX11_taken 83 = .ok (.iinc 3 1, 3) := by decide +kernel
theorem dX11_taken_86 : decode cX11_taken 86 = .ok (.goto (-72), 3) := by decide +kernel
theorem dX11_taken_89 : decode cX11_taken 89 = .ok (.iload_n 2, 1) := by decide +kernel
theorem dX11_taken_90 : decode cX11_taken 90 = .ok (.ireturn, 1) := by decide +kernel
theorem dX11_brief_0 : decode cX11_brief 0 = .ok (.iload_n 1, 1) := by decide +kernel
theorem dX11_brief_1 : decode cX11_brief 1 = .ok (.i2l, 1) := by decide +kernel
theorem dX11_brief_2 : decode cX11_brief 2 = .ok (.lconst 0, 1) := by decide +kernel
theorem dX11_brief_3 : decode cX11_brief 3 = .ok (.lconst 1, 1) := by decide +kernel
theorem dX11_brief_4 : decode cX11_brief 4 = .ok (.invokestatic 86, 3) := by decide +kernel
theorem dX11_brief_7 : decode cX11_brief 7 = .ok (.ifCond .ne 6, 3) := by decide +kernel
theorem dX11_brief_10 : decode cX11_brief 10 = .ok (.bipush (-2), 2) := by decide +kernel
theorem dX11_brief_12 : decode cX11_brief 12 = .ok (.ireturn, 1) := by decide +kernel
theorem dX11_brief_13 : decode cX11_brief 13 = .ok (.aload_n 0, 1) := by decide +kernel
theorem dX11_brief_14 : decode cX11_brief 14 = .ok (.getfield 149, 3) := by decide +kernel
theorem dX11_brief_17 : decode cX11_brief 17 = .ok (.ifCond .ne 6, 3) := by decide +kernel
theorem dX11_brief_20 : decode cX11_brief 20 = .ok (.bipush (-3), 2) := by decide +kernel
theorem dX11_brief_22 : decode cX11_brief 22 = .ok (.ireturn, 1) := by decide +kernel
theorem dX11_brief_23 : decode cX11_brief 23 = .ok (.iconst 0, 1) := by decide +kernel
theorem dX11_brief_24 : decode cX11_brief 24 = .ok (.istore_n 2, 1) := by decide +kernel
theorem dX11_brief_25 : decode cX11_brief 25 = .ok (.iconst 1, 1) := by decide +kernel
theorem dX11_brief_26 : decode cX11_brief 26 = .ok (.istore_n 3, 1) := by decide +kernel
theorem dX11_brief_27 : decode cX11_brief 27 = .ok (.iload_n 3, 1) := by decide +kernel
theorem dX11_brief_28 : decode cX11_brief 28 = .ok (.aload_n 0, 1) := by decide +kernel
theorem dX11_brief_29 : decode cX11_brief 29 = .ok (.getfield 149, 3) := by decide +kernel
theorem dX11_brief_32 : decode cX11_brief 32 = .ok (.if_icmp .ge 44, 3) := by decide +kernel
theorem dX11_brief_35 : decode cX11_brief 35 = .ok (.aload_n 0, 1) := by decide +kernel
theorem dX11_brief_36 : decode cX11_brief 36 = .ok (.getfield 16, 3) := by decide +kernel
theorem dX11_brief_39 : decode cX11_brief 39 = .ok (.iload_n 3, 1) := by decide +kernel
theorem dX11_brief_40 : decode cX11_brief 40 = .ok (.iaload, 1) := by decide +kernel
theorem dX11_brief_41 : decode cX11_brief 41 = .ok (.aload_n 0, 1) := by decide +kernel
theorem dX11_brief_42 : decode cX11_brief 42 = .ok (.getfield 13, 3) := by decide +kernel
theorem dX11_brief_45 : decode cX11_brief 45 = .ok (.iload_n 3, 1) := by decide +kernel
theorem dX11_brief_46 : decode cX11_brief 46 = .ok (.iaload, 1) := by decide +kernel
theorem dX11_brief_47 : decode cX11_brief 47 = .ok (.isub, 1) := by decide +kernel
theorem dX11_brief_48 : decode cX11_brief 48 = .ok (.aload_n 0, 1) := by decide +kernel
theorem dX11_brief_49 : decode cX11_brief 49 = .ok (.getfield 16, 3) := by decide +kernel
theorem dX11_brief_52 : decode cX11_brief 52 = .ok (.iload_n 2, 1) := by decide +kernel
theorem dX11_brief_53 : decode cX11_brief 53 = .ok (.iaload, 1) := by decide +kernel
theorem dX11_brief_54 : decode cX11_brief 54 = .ok (.aload_n 0, 1) := by decide +kernel
theorem dX11_brief_55 : decode cX11_brief 55 = .ok (.getfield 13, 3) := by decide +kernel
theorem dX11_brief_58 : decode cX11_brief 58 = .ok (.iload_n 2, 1) := by decide +kernel
theorem dX11_brief_59 : decode cX11_brief 59 = .ok (.iaload, 1) := by decide +kernel
theorem dX11_brief_60 : decode cX11_brief 60 = .ok (.isub, 1) := by decide +kernel
theorem dX11_brief_61 : decode cX11_brief 61 = .ok (.if_icmp .ge 7, 3) := by decide +kernel
theorem dX11_brief_64 : decode cX11_brief 64 = .ok (.iload_n 3, 1) := by decide +kernel
theorem dX11_brief_65 : decode cX11_brief 65 = .ok (.goto 4, 3) := by decide +kernel
theorem dX11_brief_68 : decode cX11_brief 68 = .ok (.iload_n 2, 1) := by decide +kernel
theorem dX11_brief_69 : decode cX11_brief 69 = .ok (.istore_n 2, 1) := by decide +kernel
theorem dX11_brief_70 : decode cX11_brief 70 = .ok (.iinc 3 1, 3) := by decide +kernel
theorem dX11_brief_73 : decode cX11_brief 73 = .ok (.goto (-46), 3) := by decide +kernel
theorem dX11_brief_76 : decode cX11_brief 76 = .ok (.iload_n 1, 1) := by decide +kernel
theorem dX11_brief_77 : decode cX11_brief 77 = .ok (.ifCond .ne 7, 3) := by decide +kernel
theorem dX11_brief_80 : decode cX11_brief 80 = .ok (.iload_n 2, 1) := by decide +kernel
theorem dX11_brief_81 : decode cX11_brief 81 = .ok (.goto 16, 3) := by decide +kernel
theorem dX11_brief_84 : decode cX11_brief 84 = .ok (.aload_n 0, 1) := by decide +kernel
theorem dX11_brief_85 : decode cX11_brief 85 = .ok (.getfield 16, 3) := by decide +kernel
theorem dX11_brief_88 : decode cX11_brief 88 = .ok (.iload_n 2, 1) := by decide +kernel
theorem dX11_brief_89 : decode cX11_brief 89 = .ok (.iaload, 1) := by decide +kernel
theorem dX11_brief_90 : decode cX11_brief 90 = .ok (.aload_n 0, 1) := by decide +kernel
theorem dX11_brief_91 : decode cX11_brief 91 = .ok (.getfield 13, 3) := by decide +kernel
theorem dX11_brief_94 : decode cX11_brief 94 = .ok (.iload_n 2, 1) := by decide +kernel
theorem dX11_brief_95 : decode cX11_brief 95 = .ok (.iaload, 1) := by decide +kernel
theorem dX11_brief_96 : decode cX11_brief 96 = .ok (.isub, 1) := by decide +kernel
theorem dX11_brief_97 : decode cX11_brief 97 = .ok (.ireturn, 1) := by decide +kernel
theorem dX11_caught_0 : decode cX11_caught 0 = .ok (.aload_n 0, 1) := by decide +kernel
theorem dX11_caught_1 : decode cX11_caught 1 = .ok (.iload_n 1, 1) := by decide +kernel
theorem dX11_caught_2 : decode cX11_caught 2 = .ok (.invokevirtual 169, 3) := by decide +kernel
theorem dX11_caught_5 : decode cX11_caught 5 = .ok (.ifCond .ne 5, 3) := by decide +kernel
theorem dX11_caught_8 : decode cX11_caught 8 = .ok (.iconst (-1), 1) := by decide +kernel
theorem dX11_caught_9 : decode cX11_caught 9 = .ok (.ireturn, 1) := by decide +kernel
theorem dX11_caught_10 : decode cX11_caught 10 = .ok (.iconst 0, 1) := by decide +kernel
theorem dX11_caught_11 : decode cX11_caught 11 = .ok (.istore_n 2, 1) := by decide +kernel
theorem dX11_caught_12 : decode cX11_caught 12 = .ok (.iconst 0, 1) := by decide +kernel
theorem dX11_caught_13 : decode cX11_caught 13 = .ok (.istore_n 3, 1) := by decide +kernel
theorem dX11_caught_14 : decode cX11_caught 14 = .ok (.iload_n 3, 1) := by decide +kernel
theorem dX11_caught_15 : decode cX11_caught 15 = .ok (.aload_n 0, 1) := by decide +kernel
theorem dX11_caught_16 : decode cX11_caught 16 = .ok (.getfield 190, 3) := by decide +kernel
theorem dX11_caught_19 : decode cX11_caught 19 = .ok (.if_icmp .ge 59, 3) := by decide +kernel
theorem dX11_caught_22 : decode cX11_caught 22 = .ok (.aload_n 0, 1) := by decide +kernel
theorem dX11_caught_23 : decode cX11_caught 23 = .ok (.getfield 53, 3) := by decide +kernel
theorem dX11_caught_26 : decode cX11_caught 26 = .ok (.iload_n 3, 1) := by decide +kernel
theorem dX11_caught_27 : decode cX11_caught 27 = .ok (.iaload, 1) := by decide +kernel
theorem dX11_caught_28 : decode cX11_caught 28 = .ok (.istore 4, 2) := by decide +kernel
theorem dX11_caught_30 : decode cX11_caught 30 = .ok (.iload 4, 2) := by decide +kernel
theorem dX11_caught_32 : decode cX11_caught 32 = .ok (.bipush 99, 2) := by decide +kernel
theorem dX11_caught_34 : decode cX11_caught 34 = .ok (.if_icmp .gt 38, 3) := by decide +kernel
theorem dX11_caught_37 : decode cX11_caught 37 = .ok (.iload_n 2, 1) := by decide +kernel
theorem dX11_caught_38 : decode cX11_caught 38 = .ok (.iload_n 3, 1) := by decide +kernel
theorem dX11_caught_39 : decode cX11_caught 39 = .ok (.ishr, 1) := by decide +kernel
theorem dX11_caught_40 : decode cX11_caught 40 = .ok (.iconst 1, 1) := by decide +kernel
theorem dX11_caught_41 : decode cX11_caught 41 = .ok (.iand, 1) := by decide +kernel
theorem dX11_caught_42 : decode cX11_caught 42 = .ok (.ifCond .ne 30, 3) := by decide +kernel
theorem dX11_caught_45 : decode cX11_caught 45 = .ok (.iload_n 2, 1) := by decide +kernel
theorem dX11_caught_46 : decode cX11_caught 46 = .ok (.aload_n 0, 1) := by decide +kernel
theorem dX11_caught_47 : decode cX11_caught 47 = .ok (.iload_n 3, 1) := by decide +kernel
theorem dX11_caught_48 : decode cX11_caught 48 = .ok (.iload 4, 2) := by decide +kernel
theorem dX11_caught_50 : decode cX11_caught 50 = .ok (.invokevirtual 243, 3) := by decide +kernel
theorem dX11_caught_53 : decode cX11_caught 53 = .ok (.iload_n 1, 1) := by decide +kernel
theorem dX11_caught_54 : decode cX11_caught 54 = .ok (.if_icmp .ne 9, 3) := by decide +kernel
theorem dX11_caught_57 : decode cX11_caught 57 = .ok (.iconst 1, 1) := by decide +kernel
theorem dX11_caught_58 : decode cX11_caught 58 = .ok (.iload_n 3, 1) := by decide +kernel
theorem dX11_caught_59 : decode cX11_caught 59 = .ok (.ishl, 1) := by decide +kernel
theorem dX11_caught_60 : decode cX11_caught 60 = .ok (.goto 4, 3) := by decide +kernel
theorem dX11_caught_63 : decode cX11_caught 63 = .ok (.iconst 0, 1) := by decide +kernel
theorem dX11_caught_64 : decode cX11_caught 64 = .ok (.ior, 1) := by decide +kernel
theorem dX11_caught_65 : decode cX11_caught 65 = .ok (.istore_n 2, 1) := by decide +kernel
theorem dX11_caught_66 : decode cX11_caught 66 = .ok (.iinc 4 1, 3) := by decide +kernel
theorem dX11_caught_69 : decode cX11_caught 69 = .ok (.goto (-39), 3) := by decide +kernel
theorem dX11_caught_72 : decode cX11_caught 72 = .ok (.iinc 3 1, 3) := by decide +kernel
theorem dX11_caught_75 : decode cX11_caught 75 = .ok (.goto (-61), 3) := by decide +kernel
theorem dX11_caught_78 : decode cX11_caught 78 = .ok (.iload_n 2, 1) := by decide +kernel
theorem dX11_caught_79 : decode cX11_caught 79 = .ok (.ireturn, 1) := by decide +kernel
theorem dX11_giftBy_0 : decode cX11_giftBy 0 = .ok (.aload_n 0, 1) := by decide +kernel
theorem dX11_giftBy_1 : decode cX11_giftBy 1 = .ok (.iload_n 3, 1) := by decide +kernel
theorem dX11_giftBy_2 : decode cX11_giftBy 2 = .ok (.putfield 184, 3) := by decide +kernel
theorem dX11_giftBy_5 : decode cX11_giftBy 5 = .ok (.aload_n 0, 1) := by decide +kernel
theorem dX11_giftBy_6 : decode cX11_giftBy 6 = .ok (.iload_n 1, 1) := by decide +kernel
theorem dX11_giftBy_7 : decode cX11_giftBy 7 = .ok (.iload_n 2, 1) := by decide +kernel
theorem dX11_giftBy_8 : decode cX11_giftBy 8 = .ok (.invokevirtual 254, 3) := by decide +kernel
theorem dX11_giftBy_11 : decode cX11_giftBy 11 = .ok (.istore 4, 2) := by decide +kernel
theorem dX11_giftBy_13 : decode cX11_giftBy 13 = .ok (.aload_n 0, 1) := by decide +kernel
theorem dX11_giftBy_14 : decode cX11_giftBy 14 = .ok (.iconst 0, 1) := by decide +kernel
theorem dX11_giftBy_15 : decode cX11_giftBy 15 = .ok (.putfield 184, 3) := by decide +kernel
theorem dX11_giftBy_18 : decode cX11_giftBy 18 = .ok (.iload 4, 2) := by decide +kernel
theorem dX11_giftBy_20 : decode cX11_giftBy 20 = .ok (.ireturn, 1) := by decide +kernel
theorem dX11_read_0 : decode cX11_read 0 = .ok (.aload_n 0, 1) := by decide +kernel
theorem dX11_read_1 : decode cX11_read 1 = .ok (.iload_n 1, 1) := by decide +kernel
theorem dX11_read_2 : decode cX11_read 2 = .ok (.invokevirtual 198, 3) := by decide +kernel
theorem dX11_read_5 : decode cX11_read 5 = .ok (.ifCond .ne 5, 3) := by decide +kernel
theorem dX11_read_8 : decode cX11_read 8 = .ok (.iconst (-1), 1) := by decide +kernel
theorem dX11_read_9 : decode cX11_read 9 = .ok (.ireturn, 1) := by decide +kernel
theorem dX11_read_10 : decode cX11_read 10 = .ok (.iload_n 2, 1) := by decide +kernel
theorem dX11_read_11 : decode cX11_read 11 = .ok (.invokestatic 156, 3) := by decide +kernel
theorem dX11_read_14 : decode cX11_read 14 = .ok (.ifCond .eq 25, 3) := by decide +kernel
theorem dX11_read_17 : decode cX11_read 17 = .ok (.iload_n 3, 1) := by decide +kernel
theorem dX11_read_18 : decode cX11_read 18 = .ok (.i2l, 1) := by decide +kernel
theorem dX11_read_19 : decode cX11_read 19 = .ok (.lconst 0, 1) := by decide +kernel
theorem dX11_read_20 : decode cX11_read 20 = .ok (.ldc2_w 276, 3) := by decide +kernel
theorem dX11_read_23 : decode cX11_read 23 = .ok (.invokestatic 86, 3) := by decide +kernel
theorem dX11_read_26 : decode cX11_read 26 = .ok (.ifCond .eq 13, 3) := by decide +kernel
theorem dX11_read_29 : decode cX11_read 29 = .ok (.aload_n 0, 1) := by decide +kernel
theorem dX11_read_30 : decode cX11_read 30 = .ok (.iload_n 1, 1) := by decide +kernel
theorem dX11_read_31 : decode cX11_read 31 = .ok (.iload_n 2, 1) := by decide +kernel
theorem dX11_read_32 : decode cX11_read 32 = .ok (.iload_n 3, 1) := by decide +kernel
theorem dX11_read_33 : decode cX11_read 33 = .ok (.invokevirtual 278, 3) := by decide +kernel
theorem dX11_read_36 : decode cX11_read 36 = .ok (.goto 5, 3) := by decide +kernel
theorem dX11_read_39 : decode cX11_read 39 = .ok (.bipush (-2), 2) := by decide +kernel
theorem dX11_read_41 : decode cX11_read 41 = .ok (.ireturn, 1) := by decide +kernel
theorem dX11_opens_0 : decode cX11_opens 0 = .ok (.aload_n 0, 1) := by decide +kernel
theorem dX11_opens_1 : decode cX11_opens 1 = .ok (.iconst (-1), 1) := by decide +kernel
theorem dX11_opens_2 : decode cX11_opens 2 = .ok (.invokevirtual 281, 3) := by decide +kernel
theorem dX11_opens_5 : decode cX11_opens 5 = .ok (.istore_n 1, 1) := by decide +kernel
theorem dX11_opens_6 : decode cX11_opens 6 = .ok (.iload_n 1, 1) := by decide +kernel
theorem dX11_opens_7 : decode cX11_opens 7 = .ok (.bipush 8, 2) := by decide +kernel
theorem dX11_opens_9 : decode cX11_opens 9 = .ok (.if_icmp .le 8, 3) := by decide +kernel
theorem dX11_opens_12 : decode cX11_opens 12 = .ok (.bipush 8, 2) := by decide +kernel
theorem dX11_opens_14 : decode cX11_opens 14 = .ok (.goto 4, 3) := by decide +kernel
theorem dX11_opens_17 : decode cX11_opens 17 = .ok (.iload_n 1, 1) := by decide +kernel
theorem dX11_opens_18 : decode cX11_opens 18 = .ok (.ireturn, 1) := by decide +kernel
theorem dX11_clearWere_0 : decode cX11_clearWere 0 = .ok (.iconst 0, 1) := by decide +kernel
theorem dX11_clearWere_1 : decode cX11_clearWere 1 = .ok (.istore_n 1, 1) := by decide +kernel
theorem dX11_clearWere_2 : decode cX11_clearWere 2 = .ok (.iload_n 1, 1) := by decide +kernel
theorem dX11_clearWere_3 : decode cX11_clearWere 3 = .ok (.bipush 102, 2) := by decide +kernel
theorem dX11_clearWere_5 : decode cX11_clearWere 5 = .ok (.if_icmp .ge 16, 3) := by decide +kernel
theorem dX11_clearWere_8 : decode cX11_clearWere 8 = .ok (.aload_n 0, 1) := by decide +kernel
theorem dX11_clearWere_9 : decode cX11_clearWere 9 = .ok (.getfield 71, 3) := by decide +kernel
theorem dX11_clearWere_12 : decode cX11_clearWere 12 = .ok (.iload_n 1, 1) := by decide +kernel
theorem dX11_clearWere_13 : decode cX11_clearWere 13 = .ok (.iconst 0, 1) := by decide +kernel
theorem dX11_clearWere_14 : decode cX11_clearWere 14 = .ok (.bastore, 1) := by decide +kernel
theorem dX11_clearWere_15 : decode cX11_clearWere 15 = .ok (.iinc 1 1, 3) := by decide +kernel
theorem dX11_clearWere_18 : decode cX11_clearWere 18 = .ok (.goto (-16), 3) := by decide +kernel
theorem dX11_clearWere_21 : decode cX11_clearWere 21 = .ok (.return_, 1) := by decide +kernel
theorem dX11_note_0 : decode cX11_note 0 = .ok (.aload_n 0, 1) := by decide +kernel
theorem dX11_note_1 : decode cX11_note 1 = .ok (.getfield 71, 3) := by decide +kernel
theorem dX11_note_4 : decode cX11_note 4 = .ok (.iload_n 1, 1) := by decide +kernel
theorem dX11_note_5 : decode cX11_note 5 = .ok (.ifCond .lt 7, 3) := by decide +kernel
theorem dX11_note_8 : decode cX11_note 8 = .ok (.iload_n 1, 1) := by decide +kernel
theorem dX11_note_9 : decode cX11_note 9 = .ok (.goto 16, 3) := by decide +kernel
theorem dX11_note_12 : decode cX11_note 12 = .ok (.iload_n 1, 1) := by decide +kernel
theorem dX11_note_13 : decode cX11_note 13 = .ok (.bipush (-6), 2) := by decide +kernel
theorem dX11_note_15 : decode cX11_note 15 = .ok (.if_icmp .ne 8, 3) := by decide +kernel
theorem dX11_note_18 : decode cX11_note 18 = .ok (.bipush 100, 2) := by decide +kernel
theorem dX11_note_20 : decode cX11_note 20 = .ok (.goto 5, 3) := by decide +kernel
theorem dX11_note_23 : decode cX11_note 23 = .ok (.bipush 101, 2) := by decide +kernel
theorem dX11_note_25 : decode cX11_note 25 = .ok (.iconst 1, 1) := by decide +kernel
theorem dX11_note_26 : decode cX11_note 26 = .ok (.bastore, 1) := by decide +kernel
theorem dX11_note_27 : decode cX11_note 27 = .ok (.return_, 1) := by decide +kernel
theorem dX11_manyWere_0 : decode cX11_manyWere 0 = .ok (.iconst 0, 1) := by decide +kernel
theorem dX11_manyWere_1 : decode cX11_manyWere 1 = .ok (.istore_n 1, 1) := by decide +kernel
theorem dX11_manyWere_2 : decode cX11_manyWere 2 = .ok (.iconst 0, 1) := by decide +kernel
theorem dX11_manyWere_3 : decode cX11_manyWere 3 = .ok (.istore_n 2, 1) := by decide +kernel
theorem dX11_manyWere_4 : decode cX11_manyWere 4 = .ok (.iload_n 2, 1) := by decide +kernel
theorem dX11_manyWere_5 : decode cX11_manyWere 5 = .ok (.bipush 102, 2) := by decide +kernel
theorem dX11_manyWere_7 : decode cX11_manyWere 7 = .ok (.if_icmp .ge 26, 3) := by decide +kernel
theorem dX11_manyWere_10 : decode cX11_manyWere 10 = .ok (.iload_n 1, 1) := by decide +kernel
theorem dX11_manyWere_11 : decode cX11_manyWere 11 = .ok (.aload_n 0, 1) := by decide +kernel
theorem dX11_manyWere_12 : decode cX11_manyWere 12 = .ok (.getfield 71, 3) := by decide +kernel
theorem dX11_manyWere_15 : decode cX11_manyWere 15 = .ok (.iload_n 2, 1) := by decide +kernel
theorem dX11_manyWere_16 : decode cX11_manyWere 16 = .ok (.baload, 1) := by decide +kernel
theorem dX11_manyWere_17 : decode cX11_manyWere 17 = .ok (.ifCond .eq 7, 3) := by decide +kernel
theorem dX11_manyWere_20 : decode cX11_manyWere 20 = .ok (.iconst 1, 1) := by decide +kernel
theorem dX11_manyWere_21 : decode cX11_manyWere 21 = .ok (.goto 4, 3) := by decide +kernel
theorem dX11_manyWere_24 : decode cX11_manyWere 24 = .ok (.iconst 0, 1) := by decide +kernel
theorem dX11_manyWere_25 : decode cX11_manyWere 25 = .ok (.iadd, 1) := by decide +kernel
theorem dX11_manyWere_26 : decode cX11_manyWere 26 = .ok (.istore_n 1, 1) := by decide +kernel
theorem dX11_manyWere_27 : decode cX11_manyWere 27 = .ok (.iinc 2 1, 3) := by decide +kernel
theorem dX11_manyWere_30 : decode cX11_manyWere 30 = .ok (.goto (-26), 3) := by decide +kernel
theorem dX11_manyWere_33 : decode cX11_manyWere 33 = .ok (.iload_n 1, 1) := by decide +kernel
theorem dX11_manyWere_34 : decode cX11_manyWere 34 = .ok (.ireturn, 1) := by decide +kernel
theorem dX11_ways_0 : decode cX11_ways 0 = .ok (.aload_n 0, 1) := by decide +kernel
theorem dX11_ways_1 : decode cX11_ways 1 = .ok (.iload_n 1, 1) := by decide +kernel
theorem dX11_ways_2 : decode cX11_ways 2 = .ok (.invokevirtual 198, 3) := by decide +kernel
theorem dX11_ways_5 : decode cX11_ways 5 = .ok (.ifCond .ne 5, 3) := by decide +kernel
theorem dX11_ways_8 : decode cX11_ways 8 = .ok (.iconst (-1), 1) := by decide +kernel
theorem dX11_ways_9 : decode cX11_ways 9 = .ok (.ireturn, 1) := by decide +kernel
theorem dX11_ways_10 : decode cX11_ways 10 = .ok (.iload_n 2, 1) := by decide +kernel
theorem dX11_ways_11 : decode cX11_ways 11 = .ok (.invokestatic 156, 3) := by decide +kernel
theorem dX11_ways_14 : decode cX11_ways 14 = .ok (.ifCond .ne 6, 3) := by decide +kernel
theorem dX11_ways_17 : decode cX11_ways 17 = .ok (.bipush (-2), 2) := by decide +kernel
theorem dX11_ways_19 : decode cX11_ways 19 = .ok (.ireturn, 1) := by decide +kernel
theorem dX11_ways_20 : decode cX11_ways 20 = .ok (.aload_n 0, 1) := by decide +kernel
theorem dX11_ways_21 : decode cX11_ways 21 = .ok (.invokevirtual 284, 3) := by decide +kernel
theorem dX11_ways_24 : decode cX11_ways 24 = .ok (.iconst 0, 1) := by decide +kernel
theorem dX11_ways_25 : decode cX11_ways 25 = .ok (.istore_n 3, 1) := by decide +kernel
theorem dX11_ways_26 : decode cX11_ways 26 = .ok (.iload_n 3, 1) := by decide +kernel
theorem dX11_ways_27 : decode cX11_ways 27 = .ok (.iconst 1, 1) := by decide +kernel
theorem dX11_ways_28 : decode cX11_ways 28 = .ok (.aload_n 0, 1) := by decide +kernel
theorem dX11_ways_29 : decode cX11_ways 29 = .ok (.invokevirtual 287, 3) := by decide +kernel
theorem dX11_ways_32 : decode cX11_ways 32 = .ok (.ishl, 1) := by decide +kernel
theorem dX11_ways_33 : decode cX11_ways 33 = .ok (.if_icmp .ge 20, 3) := by decide +kernel
theorem dX11_ways_36 : decode cX11_ways 36 = .ok (.aload_n 0, 1) := by decide +kernel
theorem dX11_ways_37 : decode cX11_ways 37 = .ok (.aload_n 0, 1) := by decide +kernel
theorem dX11_ways_38 : decode cX11_ways 38 = .ok (.iload_n 1, 1) := by decide +kernel
theorem dX11_ways_39 : decode cX11_ways 39 = .ok (.iload_n 2, 1) := by decide +kernel
theorem dX11_ways_40 : decode cX11_ways 40 = .ok (.iload_n 3, 1) := by decide +kernel
theorem dX11_ways_41 : decode cX11_ways 41 = .ok (.invokevirtual 278, 3) := by decide +kernel
theorem dX11_ways_44 : decode cX11_ways 44 = .ok (.invokevirtual 290, 3) := by decide +kernel
theorem dX11_ways_47 : decode cX11_ways 47 = .ok (.iinc 3 1, 3) := by decide +kernel
theorem dX11_ways_50 : decode cX11_ways 50 = .ok (.goto (-24), 3) := by decide +kernel
theorem dX11_ways_53 : decode cX11_ways 53 = .ok (.aload_n 0, 1) := by decide +kernel
theorem dX11_ways_54 : decode cX11_ways 54 = .ok (.invokevirtual 293, 3) := by decide +kernel
theorem dX11_ways_57 : decode cX11_ways 57 = .ok (.ireturn, 1) := by decide +kernel
theorem dX11_hangs_0 : decode cX11_hangs 0 = .ok (.iload_n 1, 1) := by decide +kernel
theorem dX11_hangs_1 : decode cX11_hangs 1 = .ok (.invokestatic 156, 3) := by decide +kernel
theorem dX11_hangs_4 : decode cX11_hangs 4 = .ok (.ifCond .eq 13, 3) := by decide +kernel
theorem dX11_hangs_7 : decode cX11_hangs 7 = .ok (.iload_n 2, 1) := by decide +kernel
theorem dX11_hangs_8 : decode cX11_hangs 8 = .ok (.i2l, 1) := by decide +kernel
theorem dX11_hangs_9 : decode cX11_hangs 9 = .ok (.lconst 0, 1) := by decide +kernel
theorem dX11_hangs_10 : decode cX11_hangs 10 = .ok (.lconst 1, 1) := by decide +kernel
theorem dX11_hangs_11 : decode cX11_hangs 11 = .ok (.invokestatic 86, 3) := by decide +kernel
theorem dX11_hangs_14 : decode cX11_hangs 14 = .ok (.ifCond .ne 6, 3) := by decide +kernel
theorem dX11_hangs_17 : decode cX11_hangs 17 = .ok (.bipush (-2), 2) := by decide +kernel
theorem dX11_hangs_19 : decode cX11_hangs 19 = .ok (.ireturn, 1) := by decide +kernel
theorem dX11_hangs_20 : decode cX11_hangs 20 = .ok (.bipush (-6), 2) := by decide +kernel
theorem dX11_hangs_22 : decode cX11_hangs 22 = .ok (.istore_n 3, 1) := by decide +kernel
theorem dX11_hangs_23 : decode cX11_hangs 23 = .ok (.iconst 0, 1) := by decide +kernel
theorem dX11_hangs_24 : decode cX11_hangs 24 = .ok (.istore 4, 2) := by decide +kernel
theorem dX11_hangs_26 : decode cX11_hangs 26 = .ok (.iconst 0, 1) := by decide +kernel
theorem dX11_hangs_27 : decode cX11_hangs 27 = .ok (.istore 5, 2) := by decide +kernel
theorem dX11_hangs_29 : decode cX11_hangs 29 = .ok (.iload 5, 2) := by decide +kernel
theorem dX11_hangs_31 : decode cX11_hangs 31 = .ok (.aload_n 0, 1) := by decide +kernel
theorem dX11_hangs_32 : decode cX11_hangs 32 = .ok (.invokevirtual 287, 3) := by decide +kernel
theorem dX11_hangs_35 : decode cX11_hangs 35 = .ok (.if_icmp .ge 80, 3) := by decide +kernel
theorem dX11_hangs_38 : decode cX11_hangs 38 = .ok (.iconst 0, 1) := by decide +kernel
theorem dX11_hangs_39 : decode cX11_hangs 39 = .ok (.istore 6, 2) := by decide +kernel
theorem dX11_hangs_41 : decode cX11_hangs 41 = .ok (.iconst 0, 1) := by decide +kernel
theorem dX11_hangs_42 : decode cX11_hangs 42 = .ok (.istore 7, 2) := by decide +kernel
theorem dX11_hangs_44 : decode cX11_hangs 44 = .ok (.iload 7, 2) := by decide +kernel
theorem dX11_hangs_46 : decode cX11_hangs 46 = .ok (.aload_n 0, 1) := by decide +kernel
theorem dX11_hangs_47 : decode cX11_hangs 47 = .ok (.getfield 190, 3) := by decide +kernel
theorem dX11_hangs_50 : decode cX11_hangs 50 = .ok (.if_icmp .ge 41, 3) := by decide +kernel
theorem dX11_hangs_53 : decode cX11_hangs 53 = .ok (.iload 6, 2) := by decide +kernel
theorem dX11_hangs_55 : decode cX11_hangs 55 = .ok (.aload_n 0, 1) := by decide +kernel
theorem dX11_hangs_56 : decode cX11_hangs 56 = .ok (.iload 7, 2) := by decide +kernel
theorem dX11_hangs_58 : decode cX11_hangs 58 = .ok (.iload_n 1, 1) := by decide +kernel
theorem dX11_hangs_59 : decode cX11_hangs 59 = .ok (.iconst 1, 1) := by decide +kernel
theorem dX11_hangs_60 : decode cX11_hangs 60 = .ok (.iload 5, 2) := by decide +kernel
theorem dX11_hangs_62 : decode cX11_hangs 62 = .ok (.ishl, 1) := by decide +kernel
theorem dX11_hangs_63 : decode cX11_hangs 63 = .ok (.invokevirtual 278, 3) := by decide +kernel
theorem dX11_hangs_66 : decode cX11_hangs 66 = .ok (.aload_n 0, 1) := by decide +kernel
theorem dX11_hangs_67 : decode cX11_hangs 67 = .ok (.iload 7, 2) := by decide +kernel
theorem dX11_hangs_69 : decode cX11_hangs 69 = .ok (.iload_n 1, 1) := by decide +kernel
theorem dX11_hangs_70 : decode cX11_hangs 70 = .ok (.iconst 0, 1) := by decide +kernel
theorem dX11_hangs_71 : decode cX11_hangs 71 = .ok (.invokevirtual 278, 3) := by decide +kernel
theorem dX11_hangs_74 : decode cX11_hangs 74 = .ok (.if_icmp .eq 7, 3) := by decide +kernel
theorem dX11_hangs_77 : decode cX11_hangs 77 = .ok (.iconst 1, 1) := by decide +kernel
theorem dX11_hangs_78 : decode cX11_hangs 78 = .ok (.goto 4, 3) := by decide +kernel
theorem dX11_hangs_81 : decode cX11_hangs 81 = .ok (.iconst 0, 1) := by decide +kernel
theorem dX11_hangs_82 : decode cX11_hangs 82 = .ok (.iadd, 1) := by decide +kernel
theorem dX11_hangs_83 : decode cX11_hangs 83 = .ok (.istore 6, 2) := by decide +kernel
theorem dX11_hangs_85 : decode cX11_hangs 85 = .ok (.iinc 7 1, 3) := by decide +kernel
theorem dX11_hangs_88 : decode cX11_hangs 88 = .ok (.goto (-44), 3) := by decide +kernel
theorem dX11_hangs_91 : decode cX11_hangs 91 = .ok (.iload_n 3, 1) := by decide +kernel
theorem dX11_hangs_92 : decode cX11_hangs 92 = .ok (.ifCond .lt 10, 3) := by decide +kernel
theorem dX11_hangs_95 : decode cX11_hangs 95 = .ok (.iload 6, 2) := by decide +kernel
theorem dX11_hangs_97 : decode cX11_hangs 97 = .ok (.iload 4, 2) := by decide +kernel
theorem dX11_hangs_99 : decode cX11_hangs 99 = .ok (.if_icmp .le 10, 3) := by decide +kernel
theorem dX11_hangs_102 : decode cX11_hangs 102 = .ok (.iload 5, 2) := by decide +kernel
theorem dX11_hangs_104 : decode cX11_hangs 104 = .ok (.istore_n 3, 1) := by decide +kernel
theorem dX11_hangs_105 : decode cX11_hangs 105 = .ok (.iload 6, 2) := by decide +kernel
theorem dX11_hangs_107 : decode cX11_hangs 107 = .ok (.istore 4, 2) := by decide +kernel
theorem dX11_hangs_109 : decode cX11_hangs 109 = .ok (.iinc 5 1, 3) := by decide +kernel
theorem dX11_hangs_112 : decode cX11_hangs 112 = .ok (.goto (-83), 3) := by decide +kernel
theorem dX11_hangs_115 : decode cX11_hangs 115 = .ok (.iload_n 2, 1) := by decide +kernel
theorem dX11_hangs_116 : decode cX11_hangs 116 = .ok (.ifCond .ne 7, 3) := by decide +kernel
theorem dX11_hangs_119 : decode cX11_hangs 119 = .ok (.iload_n 3, 1) := by decide +kernel
theorem dX11_hangs_120 : decode cX11_hangs 120 = .ok (.goto 5, 3) := by decide +kernel
theorem dX11_hangs_123 : decode cX11_hangs 123 = .ok (.iload 4, 2) := by decide +kernel
theorem dX11_hangs_125 : decode cX11_hangs 125 = .ok (.ireturn, 1) := by decide +kernel
theorem dX11_wish_0 : decode cX11_wish 0 = .ok (.aload_n 0, 1) := by decide +kernel
theorem dX11_wish_1 : decode cX11_wish 1 = .ok (.iload_n 1, 1) := by decide +kernel
theorem dX11_wish_2 : decode cX11_wish 2 = .ok (.invokevirtual 198, 3) := by decide +kernel
theorem dX11_wish_5 : decode cX11_wish 5 = .ok (.ifCond .ne 5, 3) := by decide +kernel
theorem dX11_wish_8 : decode cX11_wish 8 = .ok (.iconst (-1), 1) := by decide +kernel
theorem dX11_wish_9 : decode cX11_wish 9 = .ok (.ireturn, 1) := by decide +kernel
theorem dX11_wish_10 : decode cX11_wish 10 = .ok (.iload_n 2, 1) := by decide +kernel
theorem dX11_wish_11 : decode cX11_wish 11 = .ok (.i2l, 1) := by decide +kernel
theorem dX11_wish_12 : decode cX11_wish 12 = .ok (.ldc2_w 296, 3) := by decide +kernel
theorem dX11_wish_15 : decode cX11_wish 15 = .ok (.ldc2_w 84, 3) := by decide +kernel
theorem dX11_wish_18 : decode cX11_wish 18 = .ok (.invokestatic 86, 3) := by decide +kernel
theorem dX11_wish_21 : decode cX11_wish 21 = .ok (.ifCond .ne 6, 3) := by decide +kernel
theorem dX11_wish_24 : decode cX11_wish 24 = .ok (.bipush (-2), 2) := by decide +kernel
theorem dX11_wish_26 : decode cX11_wish 26 = .ok (.ireturn, 1) := by decide +kernel
theorem dX11_wish_27 : decode cX11_wish 27 = .ok (.aload_n 0, 1) := by decide +kernel
theorem dX11_wish_28 : decode cX11_wish 28 = .ok (.getfield 65, 3) := by decide +kernel
theorem dX11_wish_31 : decode cX11_wish 31 = .ok (.iload_n 1, 1) := by decide +kernel
theorem dX11_wish_32 : decode cX11_wish 32 = .ok (.iaload, 1) := by decide +kernel
theorem dX11_wish_33 : decode cX11_wish 33 = .ok (.istore_n 3, 1) := by decide +kernel
theorem dX11_wish_34 : decode cX11_wish 34 = .ok (.aload_n 0, 1) := by decide +kernel
theorem dX11_wish_35 : decode cX11_wish 35 = .ok (.getfield 65, 3) := by decide +kernel
theorem dX11_wish_38 : decode cX11_wish 38 = .ok (.iload_n 1, 1) := by decide +kernel
theorem dX11_wish_39 : decode cX11_wish 39 = .ok (.iload_n 2, 1) := by decide +kernel
theorem dX11_wish_40 : decode cX11_wish 40 = .ok (.ifCond .ge 8, 3) := by decide +kernel
theorem dX11_wish_43 : decode cX11_wish 43 = .ok (.bipush (-6), 2) := by decide +kernel
theorem dX11_wish_45 : decode cX11_wish 45 = .ok (.goto 4, 3) := by decide +kernel
theorem dX11_wish_48 : decode cX11_wish 48 = .ok (.iload_n 2, 1) := by decide +kernel
theorem dX11_wish_49 : decode cX11_wish 49 = .ok (.iastore, 1) := by decide +kernel
theorem dX11_wish_50 : decode cX11_wish 50 = .ok (.iload_n 3, 1) := by decide +kernel
theorem dX11_wish_51 : decode cX11_wish 51 = .ok (.ireturn, 1) := by decide +kernel
theorem dX11_areAsWished_0 : decode cX11_areAsWished 0 = .ok (.iconst 1, 1) := by decide +kernel
theorem dX11_areAsWished_1 : decode cX11_areAsWished 1 = .ok (.istore_n 2, 1) := by decide +kernel
theorem dX11_areAsWished_2 : decode cX11_areAsWished 2 = .ok (.iconst 0, 1) := by decide +kernel
theorem dX11_areAsWished_3 : decode cX11_areAsWished 3 = .ok (.istore_n 3, 1) := by decide +kernel
theorem dX11_areAsWished_4 : decode cX11_areAsWished 4 = .ok (.iload_n 3, 1) := by decide +kernel
theorem dX11_areAsWished_5 : decode cX11_areAsWished 5 = .ok (.aload_n 0, 1) := by decide +kernel
theorem dX11_areAsWished_6 : decode cX11_areAsWished 6 = .ok (.getfield 190, 3) := by decide +kernel
theorem dX11_areAsWished_9 : decode cX11_areAsWished 9 = .ok (.if_icmp .ge 52, 3) := by decide +kernel
theorem dX11_areAsWished_12 : decode cX11_areAsWished 12 = .ok (.iload_n 2, 1) := by decide +kernel
theorem dX11_areAsWished_13 : decode cX11_areAsWished 13 = .ok (.ifCond .eq 48, 3) := by decide +kernel
theorem dX11_areAsWished_16 : decode cX11_areAsWished 16 = .ok (.aload_n 0, 1) := by decide +kernel
theorem dX11_areAsWished_17 : decode cX11_areAsWished 17 = .ok (.iload_n 3, 1) := by decide +kernel
theorem dX11_areAsWished_18 : decode cX11_areAsWished 18 = .ok (.iload_n 1, 1) := by decide +kernel
theorem dX11_areAsWished_19 : decode cX11_areAsWished 19 = .ok (.invokevirtual 254, 3) := by decide +kernel
theorem dX11_areAsWished_22 : decode cX11_areAsWished 22 = .ok (.aload_n 0, 1) := by decide +kernel
theorem dX11_areAsWished_23 : decode cX11_areAsWished 23 = .ok (.getfield 65, 3) := by decide +kernel
theorem dX11_areAsWished_26 : decode cX11_areAsWished 26 = .ok (.iload_n 3, 1) := by decide +kernel
theorem dX11_areAsWished_27 : decode cX11_areAsWished 27 = .ok (.iaload, 1) := by decide +kernel
theorem dX11_areAsWished_28 : decode cX11_areAsWished 28 = .ok (.ifCond .lt 12, 3) := by decide +kernel
theorem dX11_areAsWished_31 : decode cX11_areAsWished 31 = .ok (.aload_n 0, 1) := by decide +kernel
theorem dX11_areAsWished_32 : decode cX11_areAsWished 32 = .ok (.getfield 65, 3) := by decide +kernel
theorem dX11_areAsWished_35 : decode cX11_areAsWished 35 = .ok (.iload_n 3, 1) := by decide +kernel
theorem dX11_areAsWished_36 : decode cX11_areAsWished 36 = .ok (.iaload, 1) := by decide +kernel
theorem dX11_areAsWished_37 : decode cX11_areAsWished 37 = .ok (.goto 9, 3) := by decide +kernel
theorem dX11_areAsWished_40 : decode cX11_areAsWished 40 = .ok (.aload_n 0, 1) := by decide +kernel
theorem dX11_areAsWished_41 : decode cX11_areAsWished 41 = .ok (.getfield 75, 3) := by decide +kernel
theorem dX11_areAsWished_44 : decode cX11_areAsWished 44 = .ok (.iload_n 3, 1) := by decide +kernel
theorem dX11_areAsWished_45 : decode cX11_areAsWished 45 = .ok (.iaload, 1) := by decide +kernel
theorem dX11_areAsWished_46 : decode cX11_areAsWished 46 = .ok (.if_icmp .ne 7, 3) := by decide +kernel
theorem dX11_areAsWished_49 : decode cX11_areAsWished 49 = .ok (.iconst 1, 1) := by decide +kernel
theorem dX11_areAsWished_50 : decode cX11_areAsWished 50 = .ok (.goto 4, 3) := by decide +kernel
theorem dX11_areAsWished_53 : decode cX11_areAsWished 53 = .ok (.iconst 0, 1) := by decide +kernel
theorem dX11_areAsWished_54 : decode cX11_areAsWished 54 = .ok (.istore_n 2, 1) := by decide +kernel
theorem dX11_areAsWished_55 : decode cX11_areAsWished 55 = .ok (.iinc 3 1, 3) := by decide +kernel
theorem dX11_areAsWished_58 : decode cX11_areAsWished 58 = .ok (.goto (-54), 3) := by decide +kernel
theorem dX11_areAsWished_61 : decode cX11_areAsWished 61 = .ok (.iload_n 2, 1) := by decide +kernel
theorem dX11_areAsWished_62 : decode cX11_areAsWished 62 = .ok (.ireturn, 1) := by decide +kernel
theorem dX11_timeAt_0 : decode cX11_timeAt 0 = .ok (.iload_n 0, 1) := by decide +kernel
theorem dX11_timeAt_1 : decode cX11_timeAt 1 = .ok (.ifCond .ne 8, 3) := by decide +kernel
theorem dX11_timeAt_4 : decode cX11_timeAt 4 = .ok (.bipush 110, 2) := by decide +kernel
theorem dX11_timeAt_6 : decode cX11_timeAt 6 = .ok (.goto 15, 3) := by decide +kernel
theorem dX11_timeAt_9 : decode cX11_timeAt 9 = .ok (.iload_n 0, 1) := by decide +kernel
theorem dX11_timeAt_10 : decode cX11_timeAt 10 = .ok (.iconst 1, 1) := by decide +kernel
theorem dX11_timeAt_11 : decode cX11_timeAt 11 = .ok (.if_icmp .ne 8, 3) := by decide +kernel
theorem dX11_timeAt_14 : decode cX11_timeAt 14 = .ok (.bipush 104, 2) := by decide +kernel
theorem dX11_timeAt_16 : decode cX11_timeAt 16 = .ok (.goto 5, 3) := by decide +kernel
theorem dX11_timeAt_19 : decode cX11_timeAt 19 = .ok (.bipush 97, 2) := by decide +kernel
theorem dX11_timeAt_21 : decode cX11_timeAt 21 = .ok (.ireturn, 1) := by decide +kernel
theorem dX11_mend_0 : decode cX11_mend 0 = .ok (.aload_n 0, 1) := by decide +kernel
theorem dX11_mend_1 : decode cX11_mend 1 = .ok (.iload_n 1, 1) := by decide +kernel
theorem dX11_mend_2 : decode cX11_mend 2 = .ok (.invokevirtual 169, 3) := by decide +kernel
theorem dX11_mend_5 : decode cX11_mend 5 = .ok (.ifCond .ne 5, 3) := by decide +kernel
theorem dX11_mend_8 : decode cX11_mend 8 = .ok (.iconst (-1), 1) := by decide +kernel
theorem dX11_mend_9 : decode cX11_mend 9 = .ok (.ireturn, 1) := by decide +kernel
theorem dX11_mend_10 : decode cX11_mend 10 = .ok (.iload_n 2, 1) := by decide +kernel
theorem dX11_mend_11 : decode cX11_mend 11 = .ok (.invokestatic 156, 3) := by decide +kernel
theorem dX11_mend_14 : decode cX11_mend 14 = .ok (.ifCond .eq 15, 3) := by decide +kernel
theorem dX11_mend_17 : decode cX11_mend 17 = .ok (.iload_n 3, 1) := by decide +kernel
theorem dX11_mend_18 : decode cX11_mend 18 = .ok (.i2l, 1) := by decide +kernel
theorem dX11_mend_19 : decode cX11_mend 19 = .ok (.lconst 0, 1) := by decide +kernel
theorem dX11_mend_20 : decode cX11_mend 20 = .ok (.ldc2_w 246, 3) := by decide +kernel
theorem dX11_mend_23 : decode cX11_mend 23 = .ok (.invokestatic 86, 3) := by decide +kernel
theorem dX11_mend_26 : decode cX11_mend 26 = .ok (.ifCond .ne 6, 3) := by decide +kernel
theorem dX11_mend_29 : decode cX11_mend 29 = .ok (.bipush (-2), 2) := by decide +kernel
theorem dX11_mend_31 : decode cX11_mend 31 = .ok (.ireturn, 1) := by decide +kernel
theorem dX11_mend_32 : decode cX11_mend 32 = .ok (.iconst 0, 1) := by decide +kernel
theorem dX11_mend_33 : decode cX11_mend 33 = .ok (.istore 4, 2) := by decide +kernel
theorem dX11_mend_35 : decode cX11_mend 35 = .ok (.iload 4, 2) := by decide +kernel
theorem dX11_mend_37 : decode cX11_mend 37 = .ok (.aload_n 0, 1) := by decide +kernel
theorem dX11_mend_38 : decode cX11_mend 38 = .ok (.getfield 190, 3) := by decide +kernel
theorem dX11_mend_41 : decode cX11_mend 41 = .ok (.if_icmp .ge 23, 3) := by decide +kernel
theorem dX11_mend_44 : decode cX11_mend 44 = .ok (.aload_n 0, 1) := by decide +kernel
theorem dX11_mend_45 : decode cX11_mend 45 = .ok (.getfield 75, 3) := by decide +kernel
theorem dX11_mend_48 : decode cX11_mend 48 = .ok (.iload 4, 2) := by decide +kernel
theorem dX11_mend_50 : decode cX11_mend 50 = .ok (.aload_n 0, 1) := by decide +kernel
theorem dX11_mend_51 : decode cX11_mend 51 = .ok (.iload 4, 2) := by decide +kernel
theorem dX11_mend_53 : decode cX11_mend 53 = .ok (.iload_n 2, 1) := by decide +kernel
theorem dX11_mend_54 : decode cX11_mend 54 = .ok (.invokevirtual 254, 3) := by decide +kernel
theorem dX11_mend_57 : decode cX11_mend 57 = .ok (.iastore, 1) := by decide +kernel
theorem dX11_mend_58 : decode cX11_mend 58 = .ok (.iinc 4 1, 3) := by decide +kernel
theorem dX11_mend_61 : decode cX11_mend 61 = .ok (.goto (-26), 3) := by decide +kernel
theorem dX11_mend_64 : decode cX11_mend 64 = .ok (.aload_n 0, 1) := by decide +kernel
theorem dX11_mend_65 : decode cX11_mend 65 = .ok (.getfield 28, 3) := by decide +kernel
theorem dX11_mend_68 : decode cX11_mend 68 = .ok (.iload_n 1, 1) := by decide +kernel
theorem dX11_mend_69 : decode cX11_mend 69 = .ok (.iaload, 1) := by decide +kernel
theorem dX11_mend_70 : decode cX11_mend 70 = .ok (.istore 4, 2) := by decide +kernel
theorem dX11_mend_72 : decode cX11_mend 72 = .ok (.aload_n 0, 1) := by decide +kernel
theorem dX11_mend_73 : decode cX11_mend 73 = .ok (.getfield 31, 3) := by decide +kernel
theorem dX11_mend_76 : decode cX11_mend 76 = .ok (.iload_n 1, 1) := by decide +kernel
theorem dX11_mend_77 : decode cX11_mend 77 = .ok (.iaload, 1) := by decide +kernel
theorem dX11_mend_78 : decode cX11_mend 78 = .ok (.istore 5, 2) := by decide +kernel
theorem dX11_mend_80 : decode cX11_mend 80 = .ok (.aload_n 0, 1) := by decide +kernel
theorem dX11_mend_81 : decode cX11_mend 81 = .ok (.getfield 34, 3) := by decide +kernel
theorem dX11_mend_84 : decode cX11_mend 84 = .ok (.iload_n 1, 1) := by decide +kernel
theorem dX11_mend_85 : decode cX11_mend 85 = .ok (.iaload, 1) := by decide +kernel
theorem dX11_mend_86 : decode cX11_mend 86 = .ok (.istore 6, 2) := by decide +kernel
theorem dX11_mend_88 : decode cX11_mend 88 = .ok (.aload_n 0, 1) := by decide +kernel
theorem dX11_mend_89 : decode cX11_mend 89 = .ok (.getfield 46, 3) := by decide +kernel
theorem dX11_mend_92 : decode cX11_mend 92 = .ok (.iload_n 1, 1) := by decide +kernel
theorem dX11_mend_93 : decode cX11_mend 93 = .ok (.iaload, 1) := by decide +kernel
theorem dX11_mend_94 : decode cX11_mend 94 = .ok (.istore 7, 2) := by decide +kernel
theorem dX11_mend_96 : decode cX11_mend 96 = .ok (.bipush (-6), 2) := by decide +kernel
theorem dX11_mend_98 : decode cX11_mend 98 = .ok (.istore 8, 2) := by decide +kernel
theorem dX11_mend_100 : decode cX11_mend 100 = .ok (.bipush 9, 2) := by decide +kernel
theorem dX11_mend_102 : decode cX11_mend 102 = .ok (.istore 9, 2) := by decide +kernel
theorem dX11_mend_104 : decode cX11_mend 104 = .ok (.iconst 0, 1) := by decide +kernel
theorem dX11_mend_105 : decode cX11_mend 105 = .ok (.istore 10, 2) := by decide +kernel
theorem dX11_mend_107 : decode cX11_mend 107 = .ok (.iload 10, 2) := by decide +kernel
theorem dX11_mend_109 : decode cX11_mend 109 = .ok (.bipush 54, 2) := by decide +kernel
theorem dX11_mend_111 : decode cX11_mend 111 = .ok (.if_icmp .ge 189, 3) := by decide +kernel
theorem dX11_mend_114 : decode cX11_mend 114 = .ok (.iload 10, 2) := by decide +kernel
theorem dX11_mend_116 : decode cX11_mend 116 = .ok (.bipush 9, 2) := by decide +kernel
theorem dX11_mend_118 : decode cX11_mend 118 = .ok (.irem, 1) := by decide +kernel
theorem dX11_mend_119 : decode cX11_mend 119 = .ok (.iconst 1, 1) := by decide +kernel
theorem dX11_mend_120 : decode cX11_mend 120 = .ok (.isub, 1) := by decide +kernel
theorem dX11_mend_121 : decode cX11_mend 121 = .ok (.istore 11, 2) := by decide +kernel
theorem dX11_mend_123 : decode cX11_mend 123 = .ok (.iload 5, 2) := by decide +kernel
theorem dX11_mend_125 : decode cX11_mend 125 = .ok (.ifCond .ge 16, 3) := by decide +kernel
theorem dX11_mend_128 : decode cX11_mend 128 = .ok (.iload 10, 2) := by decide +kernel
theorem dX11_mend_130 : decode cX11_mend 130 = .ok (.bipush 18, 2) := by decide +kernel
theorem dX11_mend_132 : decode cX11_mend 132 = .ok (.idiv, 1) := by decide +kernel
theorem dX11_mend_133 : decode cX11_mend 133 = .ok (.invokestatic 298, 3) := by decide +kernel
theorem dX11_mend_136 : decode cX11_mend 136 = .ok (.iload 4, 2) := by decide +kernel
theorem dX11_mend_138 : decode cX11_mend 138 = .ok (.if_icmp .eq 7, 3) := by decide +kernel
theorem dX11_mend_141 : decode cX11_mend 141 = .ok (.iconst 1, 1) := by decide +kernel
theorem dX11_mend_142 : decode cX11_mend 142 = .ok (.goto 4, 3) := by decide +kernel
theorem dX11_mend_145 : decode cX11_mend 145 = .ok (.iconst 0, 1) := by decide +kernel
theorem dX11_mend_146 : decode cX11_mend 146 = .ok (.iload 10, 2) := by decide +kernel
theorem dX11_mend_148 : decode cX11_mend 148 = .ok (.bipush 9, 2) := by decide +kernel
theorem dX11_mend_150 : decode cX11_mend 150 = .ok (.idiv, 1) := by decide +kernel
theorem dX11_mend_151 : decode cX11_mend 151 = .ok (.iconst 2, 1) := by decide +kernel
theorem dX11_mend_152 : decode cX11_mend 152 = .ok (.irem, 1) := by decide +kernel
theorem dX11_mend_153 : decode cX11_mend 153 = .ok (.iload 6, 2) := by decide +kernel
theorem dX11_mend_155 : decode cX11_mend 155 = .ok (.if_icmp .eq 7, 3) := by decide +kernel
theorem dX11_mend_158 : decode cX11_mend 158 = .ok (.iconst 1, 1) := by decide +kernel
theorem dX11_mend_159 : decode cX11_mend 159 = .ok (.goto 4, 3) := by decide +kernel
theorem dX11_mend_162 : decode cX11_mend 162 = .ok (.iconst 0, 1) := by decide +kernel
theorem dX11_mend_163 : decode cX11_mend 163 = .ok (.iadd, 1) := by decide +kernel
theorem dX11_mend_164 : decode cX11_mend 164 = .ok (.iload 11, 2) := by decide +kernel
theorem dX11_mend_166 : decode cX11_mend 166 = .ok (.ifCond .lt 7, 3) := by decide +kernel
theorem dX11_mend_169 : decode cX11_mend 169 = .ok (.iconst 1, 1) := by decide +kernel
theorem dX11_mend_170 : decode cX11_mend 170 = .ok (.goto 4, 3) := by decide +kernel
theorem dX11_mend_173 : decode cX11_mend 173 = .ok (.iconst 0, 1) := by decide +kernel
theorem dX11_mend_174 : decode cX11_mend 174 = .ok (.iadd, 1) := by decide +kernel
theorem dX11_mend_175 : decode cX11_mend 175 = .ok (.istore 12, 2) := by decide +kernel
theorem dX11_mend_177 : decode cX11_mend 177 = .ok (.iload 12, 2) := by decide +kernel
theorem dX11_mend_179 : decode cX11_mend 179 = .ok (.iload 9, 2) := by decide +kernel
theorem dX11_mend_181 : decode cX11_mend 181 = .ok (.if_icmp .ge 31, 3) := by decide +kernel
theorem dX11_mend_184 : decode cX11_mend 184 = .ok (.iload 11, 2) := by decide +kernel
theorem dX11_mend_186 : decode cX11_mend 186 = .ok (.ifCond .lt 22, 3) := by decide +kernel
theorem dX11_mend_189 : decode cX11_mend 189 = .ok (.aload_n 0, 1) := by decide +kernel
theorem dX11_mend_190 : decode cX11_mend 190 = .ok (.iload 11, 2) := by decide +kernel
theorem dX11_mend_192 : decode cX11_mend 192 = .ok (.invokevirtual 169, 3) := by decide +kernel
theorem dX11_mend_195 : decode cX11_mend 195 = .ok (.ifCond .eq 17, 3) := by decide +kernel
theorem dX11_mend_198 : decode cX11_mend 198 = .ok (.iload 7, 2) := by decide +kernel
theorem dX11_mend_200 : decode cX11_mend 200 = .ok (.iload 11, 2) := by decide +kernel
theorem dX11_mend_202 : decode cX11_mend 202 = .ok (.ishr, 1) := by decide +kernel
theorem dX11_mend_203 : decode cX11_mend 203 = .ok (.iconst 1, 1) := by decide +kernel
theorem dX11_mend_204 : decode cX11_mend 204 = .ok (.iand, 1) := by decide +kernel
theorem dX11_mend_205 : decode cX11_mend 205 = .ok (.ifCond .ne 7, 3) := by decide +kernel
theorem dX11_mend_208 : decode cX11_mend 208 = .ok (.iconst 1, 1) := by decide +kernel
theorem dX11_mend_209 : decode cX11_mend 209 = .ok (.goto 4, 3) := by decide +kernel
theorem dX11_mend_212 : decode cX11_mend 212 = .ok (.iconst 0, 1) := by decide +kernel
theorem dX11_mend_213 : decode cX11_mend 213 = .ok (.istore 13, 2) := by decide +kernel
theorem dX11_mend_215 : decode cX11_mend 215 = .ok (.iload 13, 2) := by decide +kernel
theorem dX11_mend_217 : decode cX11_mend 217 = .ok (.ifCond .eq 77, 3) := by decide +kernel
theorem dX11_mend_220 : decode cX11_mend 220 = .ok (.aload_n 0, 1) := by decide +kernel
theorem dX11_mend_221 : decode cX11_mend 221 = .ok (.getfield 28, 3) := by decide +kernel
theorem dX11_mend_224 : decode cX11_mend 224 = .ok (.iload_n 1, 1) := by decide +kernel
theorem dX11_mend_225 : decode cX11_mend 225 = .ok (.iload 10, 2) := by decide +kernel
theorem dX11_mend_227 : decode cX11_mend 227 = .ok (.bipush 18, 2) := by decide +kernel
theorem dX11_mend_229 : decode cX11_mend 229 = .ok (.idiv, 1) := by decide +kernel
theorem dX11_mend_230 : decode cX11_mend 230 = .ok (.invokestatic 298, 3) := by decide +kernel
theorem dX11_mend_233 : decode cX11_mend 233 = .ok (.iastore, 1) := by decide +kernel
theorem dX11_mend_234 : decode cX11_mend 234 = .ok (.aload_n 0, 1) := by decide +kernel
theorem dX11_mend_235 : decode cX11_mend 235 = .ok (.getfield 31, 3) := by decide +kernel
theorem dX11_mend_238 : decode cX11_mend 238 = .ok (.iload_n 1, 1) := by decide +kernel
theorem dX11_mend_239 : decode cX11_mend 239 = .ok (.bipush (-6), 2) := by decide +kernel
theorem dX11_mend_241 : decode cX11_mend 241 = .ok (.iastore, 1) := by decide +kernel
theorem dX11_mend_242 : decode cX11_mend 242 = .ok (.aload_n 0, 1) := by decide +kernel
theorem dX11_mend_243 : decode cX11_mend 243 = .ok (.getfield 34, 3) := by decide +kernel
theorem dX11_mend_246 : decode cX11_mend 246 = .ok (.iload_n 1, 1) := by decide +kernel
theorem dX11_mend_247 : decode cX11_mend 247 = .ok (.iload 10, 2) := by decide +kernel
theorem dX11_mend_249 : decode cX11_mend 249 = .ok (.bipush 9, 2) := by decide +kernel
theorem dX11_mend_251 : decode cX11_mend 251 = .ok (.idiv, 1) := by decide +kernel
theorem dX11_mend_252 : decode cX11_mend 252 = .ok (.iconst 2, 1) := by decide +kernel
theorem dX11_mend_253 : decode cX11_mend 253 = .ok (.irem, 1) := by decide +kernel
theorem dX11_mend_254 : decode cX11_mend 254 = .ok (.iastore, 1) := by decide +kernel
theorem dX11_mend_255 : decode cX11_mend 255 = .ok (.aload_n 0, 1) := by decide +kernel
theorem dX11_mend_256 : decode cX11_mend 256 = .ok (.getfield 46, 3) := by decide +kernel
theorem dX11_mend_259 : decode cX11_mend 259 = .ok (.iload_n 1, 1) := by decide +kernel
theorem dX11_mend_260 : decode cX11_mend 260 = .ok (.iload 11, 2) := by decide +kernel
theorem dX11_mend_262 : decode cX11_mend 262 = .ok (.ifCond .ge 8, 3) := by decide +kernel
theorem dX11_mend_265 : decode cX11_mend 265 = .ok (.iload 7, 2) := by decide +kernel
theorem dX11_mend_267 : decode cX11_mend 267 = .ok (.goto 10, 3) := by decide +kernel
theorem dX11_mend_270 : decode cX11_mend 270 = .ok (.iload 7, 2) := by decide +kernel
theorem dX11_mend_272 : decode cX11_mend 272 = .ok (.iconst 1, 1) := by decide +kernel
theorem dX11_mend_273 : decode cX11_mend 273 = .ok (.iload 11, 2) := by decide +kernel
theorem dX11_mend_275 : decode cX11_mend 275 = .ok (.ishl, 1) := by decide +kernel
theorem dX11_mend_276 : decode cX11_mend 276 = .ok (.ior, 1) := by decide +kernel
theorem dX11_mend_277 : decode cX11_mend 277 = .ok (.iastore, 1) := by decide +kernel
theorem dX11_mend_278 : decode cX11_mend 278 = .ok (.aload_n 0, 1) := by decide +kernel
theorem dX11_mend_279 : decode cX11_mend 279 = .ok (.iload_n 2, 1) := by decide +kernel
theorem dX11_mend_280 : decode cX11_mend 280 = .ok (.invokevirtual 301, 3) := by decide +kernel
theorem dX11_mend_283 : decode cX11_mend 283 = .ok (.ifCond .eq 11, 3) := by decide +kernel
theorem dX11_mend_286 : decode cX11_mend 286 = .ok (.iload 10, 2) := by decide +kernel
theorem dX11_mend_288 : decode cX11_mend 288 = .ok (.istore 8, 2) := by decide +kernel
theorem dX11_mend_290 : decode cX11_mend 290 = .ok (.iload 12, 2) := by decide +kernel
theorem dX11_mend_292 : decode cX11_mend 292 = .ok (.istore 9, 2) := by decide +kernel
theorem dX11_mend_294 : decode cX11_mend 294 = .ok (.iinc 10 1, 3) := by decide +kernel
theorem dX11_mend_297 : decode cX11_mend 297 = .ok (.goto (-190), 3) := by decide +kernel
theorem dX11_mend_300 : decode cX11_mend 300 = .ok (.aload_n 0, 1) := by decide +kernel
theorem dX11_mend_301 : decode cX11_mend 301 = .ok (.getfield 28, 3) := by decide +kernel
theorem dX11_mend_304 : decode cX11_mend 304 = .ok (.iload_n 1, 1) := by decide +kernel
theorem dX11_mend_305 : decode cX11_mend 305 = .ok (.iload 4, 2) := by decide +kernel
theorem dX11_mend_307 : decode cX11_mend 307 = .ok (.iastore, 1) := by decide +kernel
theorem dX11_mend_308 : decode cX11_mend 308 = .ok (.aload_n 0, 1) := by decide +kernel
theorem dX11_mend_309 : decode cX11_mend 309 = .ok (.getfield 31, 3) := by decide +kernel
theorem dX11_mend_312 : decode cX11_mend 312 = .ok (.iload_n 1, 1) := by decide +kernel
theorem dX11_mend_313 : decode cX11_mend 313 = .ok (.iload 5, 2) := by decide +kernel
theorem dX11_mend_315 : decode cX11_mend 315 = .ok (.iastore, 1) := by decide +kernel
theorem dX11_mend_316 : decode cX11_mend 316 = .ok (.aload_n 0, 1) := by decide +kernel
theorem dX11_mend_317 : decode cX11_mend 317 = .ok (.getfield 34, 3) := by decide +kernel
theorem dX11_mend_320 : decode cX11_mend 320 = .ok (.iload_n 1, 1) := by decide +kernel
theorem dX11_mend_321 : decode cX11_mend 321 = .ok (.iload 6, 2) := by decide +kernel
theorem dX11_mend_323 : decode cX11_mend 323 = .ok (.iastore, 1) := by decide +kernel
theorem dX11_mend_324 : decode cX11_mend 324 = .ok (.aload_n 0, 1) := by decide +kernel
theorem dX11_mend_325 : decode cX11_mend 325 = .ok (.getfield 46, 3) := by decide +kernel
theorem dX11_mend_328 : decode cX11_mend 328 = .ok (.iload_n 1, 1) := by decide +kernel
theorem dX11_mend_329 : decode cX11_mend 329 = .ok (.iload 7, 2) := by decide +kernel
theorem dX11_mend_331 : decode cX11_mend 331 = .ok (.iastore, 1) := by decide +kernel
theorem dX11_mend_332 : decode cX11_mend 332 = .ok (.iload 8, 2) := by decide +kernel
theorem dX11_mend_334 : decode cX11_mend 334 = .ok (.ifCond .ge 6, 3) := by decide +kernel
theorem dX11_mend_337 : decode cX11_mend 337 = .ok (.bipush (-5), 2) := by decide +kernel
theorem dX11_mend_339 : decode cX11_mend 339 = .ok (.ireturn, 1) := by decide +kernel
theorem dX11_mend_340 : decode cX11_mend 340 = .ok (.iload 8, 2) := by decide +kernel
theorem dX11_mend_342 : decode cX11_mend 342 = .ok (.bipush 9, 2) := by decide +kernel
theorem dX11_mend_344 : decode cX11_mend 344 = .ok (.irem, 1) := by decide +kernel
theorem dX11_mend_345 : decode cX11_mend 345 = .ok (.iconst 1, 1) := by decide +kernel
theorem dX11_mend_346 : decode cX11_mend 346 = .ok (.isub, 1) := by decide +kernel
theorem dX11_mend_347 : decode cX11_mend 347 = .ok (.istore 10, 2) := by decide +kernel
theorem dX11_mend_349 : decode cX11_mend 349 = .ok (.iload_n 3, 1) := by decide +kernel
theorem dX11_mend_350 : decode cX11_mend 350 = .ok (.ifCond .ne 8, 3) := by decide +kernel
theorem dX11_mend_353 : decode cX11_mend 353 = .ok (.iload 9, 2) := by decide +kernel
theorem dX11_mend_355 : decode cX11_mend 355 = .ok (.goto 46, 3) := by decide +kernel
theorem dX11_mend_358 : decode cX11_mend 358 = .ok (.iload_n 3, 1) := by decide +kernel
theorem dX11_mend_359 : decode cX11_mend 359 = .ok (.iconst 1, 1) := by decide +kernel
theorem dX11_mend_360 : decode cX11_mend 360 = .ok (.if_icmp .ne 14, 3) := by decide +kernel
theorem dX11_mend_363 : decode cX11_mend 363 = .ok (.iload 8, 2) := by decide +kernel
theorem dX11_mend_365 : decode cX11_mend 365 = .ok (.bipush 18, 2) := by decide +kernel
theorem dX11_mend_367 : decode cX11_mend 367 = .ok (.idiv, 1) := by decide +kernel
theorem dX11_mend_368 : decode cX11_mend 368 = .ok (.invokestatic 298, 3) := by decide +kernel
theorem dX11_mend_371 : decode cX11_mend 371 = .ok (.goto 30, 3) := by decide +kernel
theorem dX11_mend_374 : decode cX11_mend 374 = .ok (.iload_n 3, 1) := by decide +kernel
theorem dX11_mend_375 : decode cX11_mend 375 = .ok (.iconst 2, 1) := by decide +kernel
theorem dX11_mend_376 : decode cX11_mend 376 = .ok (.if_icmp .ne 13, 3) := by decide +kernel
theorem dX11_mend_379 : decode cX11_mend 379 = .ok (.iload 8, 2) := by decide +kernel
theorem dX11_mend_381 : decode cX11_mend 381 = .ok (.bipush 9, 2) := by decide +kernel
theorem dX11_mend_383 : decode cX11_mend 383 = .ok (.idiv, 1) := by decide +kernel
theorem dX11_mend_384 : decode cX11_mend 384 = .ok (.iconst 2, 1) := by decide +kernel
theorem dX11_mend_385 : decode cX11_mend 385 = .ok (.irem, 1) := by decide +kernel
theorem dX11_mend_386 : decode cX11_mend 386 = .ok (.goto 15, 3) := by decide +kernel
theorem dX11_mend_389 : decode cX11_mend 389 = .ok (.iload 10, 2) := by decide +kernel
theorem dX11_mend_391 : decode cX11_mend 391 = .ok (.ifCond .ge 8, 3) := by decide +kernel
theorem dX11_mend_394 : decode cX11_mend 394 = .ok (.bipush (-6), 2) := by decide +kernel
theorem dX11_mend_396 : decode cX11_mend 396 = .ok (.goto 5, 3) := by decide +kernel
theorem dX11_mend_399 : decode cX11_mend 399 = .ok (.iload 10, 2) := by decide +kernel
theorem dX11_mend_401 : decode cX11_mend 401 = .ok (.ireturn, 1) := by decide +kernel
theorem dX11_all_0 : decode cX11_all 0 = .ok (.iload_n 1, 1) := by decide +kernel
theorem dX11_all_1 : decode cX11_all 1 = .ok (.invokestatic 156, 3) := by decide +kernel
theorem dX11_all_4 : decode cX11_all 4 = .ok (.ifCond .eq 13, 3) := by decide +kernel
theorem dX11_all_7 : decode cX11_all 7 = .ok (.iload_n 2, 1) := by decide +kernel
theorem dX11_all_8 : decode cX11_all 8 = .ok (.i2l, 1) := by decide +kernel
theorem dX11_all_9 : decode cX11_all 9 = .ok (.lconst 0, 1) := by decide +kernel
theorem dX11_all_10 : decode cX11_all 10 = .ok (.lconst 1, 1) := by decide +kernel
theorem dX11_all_11 : decode cX11_all 11 = .ok (.invokestatic 86, 3) := by decide +kernel
theorem dX11_all_14 : decode cX11_all 14 = .ok (.ifCond .ne 6, 3) := by decide +kernel
theorem dX11_all_17 : decode cX11_all 17 = .ok (.bipush (-2), 2) := by decide +kernel
theorem dX11_all_19 : decode cX11_all 19 = .ok (.ireturn, 1) := by decide +kernel
theorem dX11_all_20 : decode cX11_all 20 = .ok (.aload_n 0, 1) := by decide +kernel
theorem dX11_all_21 : decode cX11_all 21 = .ok (.invokevirtual 284, 3) := by decide +kernel
theorem dX11_all_24 : decode cX11_all 24 = .ok (.iconst 0, 1) := by decide +kernel
theorem dX11_all_25 : decode cX11_all 25 = .ok (.istore_n 3, 1) := by decide +kernel
theorem dX11_all_26 : decode cX11_all 26 = .ok (.iload_n 3, 1) := by decide +kernel
theorem dX11_all_27 : decode cX11_all 27 = .ok (.iload_n 1, 1) := by decide +kernel
theorem dX11_all_28 : decode cX11_all 28 = .ok (.if_icmp .gt 72, 3) := by decide +kernel
theorem dX11_all_31 : decode cX11_all 31 = .ok (.iconst 0, 1) := by decide +kernel
theorem dX11_all_32 : decode cX11_all 32 = .ok (.istore 4, 2) := by decide +kernel
theorem dX11_all_34 : decode cX11_all 34 = .ok (.iload 4, 2) := by decide +kernel
theorem dX11_all_36 : decode cX11_all 36 = .ok (.bipush 31, 2) := by decide +kernel
theorem dX11_all_38 : decode cX11_all 38 = .ok (.if_icmp .gt 56, 3) := by decide +kernel
theorem dX11_all_41 : decode cX11_all 41 = .ok (.aload_n 0, 1) := by decide +kernel
theorem dX11_all_42 : decode cX11_all 42 = .ok (.bipush 8, 2) := by decide +kernel
theorem dX11_all_44 : decode cX11_all 44 = .ok (.iload_n 3, 1) := by decide +kernel
theorem dX11_all_45 : decode cX11_all 45 = .ok (.iload 4, 2) := by decide +kernel
theorem dX11_all_47 : decode cX11_all 47 = .ok (.invokevirtual 195, 3) := by decide +kernel
theorem dX11_all_50 : decode cX11_all 50 = .ok (.iload_n 2, 1) := by decide +kernel
theorem dX11_all_51 : decode cX11_all 51 = .ok (.iconst 1, 1) := by decide +kernel
theorem dX11_all_52 : decode cX11_all 52 = .ok (.if_icmp .ne 21, 3) := by decide +kernel
theorem dX11_all_55 : decode cX11_all 55 = .ok (.aload_n 0, 1) := by decide +kernel
theorem dX11_all_56 : decode cX11_all 56 = .ok (.bipush 8, 2) := by decide +kernel
theorem dX11_all_58 : decode cX11_all 58 = .ok (.iload_n 1, 1) := by decide +kernel
theorem dX11_all_59 : decode cX11_all 59 = .ok (.invokevirtual 240, 3) := by decide +kernel
theorem dX11_all_62 : decode cX11_all 62 = .ok (.ifCond .ge 11, 3) := by decide +kernel
theorem dX11_all_65 : decode cX11_all 65 = .ok (.bipush 100, 2) := by decide +kernel
theorem dX11_all_67 : decode cX11_all 67 = .ok (.iload_n 3, 1) := by decide +kernel
theorem dX11_all_68 : decode cX11_all 68 = .ok (.imul, 1) := by decide +kernel
theorem dX11_all_69 : decode cX11_all 69 = .ok (.iload 4, 2) := by decide +kernel
theorem dX11_all_71 : decode cX11_all 71 = .ok (.iadd, 1) := by decide +kernel
theorem dX11_all_72 : decode cX11_all 72 = .ok (.ireturn, 1) := by decide +kernel
theorem dX11_all_73 : decode cX11_all 73 = .ok (.iload_n 2, 1) := by decide +kernel
theorem dX11_all_74 : decode cX11_all 74 = .ok (.ifCond .ne 14, 3) := by decide +kernel
theorem dX11_all_77 : decode cX11_all 77 = .ok (.aload_n 0, 1) := by decide +kernel
theorem dX11_all_78 : decode cX11_all 78 = .ok (.aload_n 0, 1) := by decide +kernel
theorem dX11_all_79 : decode cX11_all 79 = .ok (.bipush 8, 2) := by decide +kernel
theorem dX11_all_81 : decode cX11_all 81 = .ok (.iload_n 1, 1) := by decide +kernel
theorem dX11_all_82 : decode cX11_all 82 = .ok (.invokevirtual 254, 3) := by decide +kernel
theorem dX11_all_85 : decode cX11_all 85 = .ok (.invokevirtual 290, 3) := by decide +kernel
theorem dX11_all_88 : decode cX11_all 88 = .ok (.iinc 4 1, 3) := by decide +kernel
theorem dX11_all_91 : decode cX11_all 91 = .ok (.goto (-57), 3) := by decide +kernel
theorem dX11_all_94 : decode cX11_all 94 = .ok (.iinc 3 1, 3) := by decide +kernel
theorem dX11_all_97 : decode cX11_all 97 = .ok (.goto (-71), 3) := by decide +kernel
theorem dX11_all_100 : decode cX11_all 100 = .ok (.iload_n 2, 1) := by decide +kernel
theorem dX11_all_101 : decode cX11_all 101 = .ok (.ifCond .ne 10, 3) := by decide +kernel
theorem dX11_all_104 : decode cX11_all 104 = .ok (.aload_n 0, 1) := by decide +kernel
theorem dX11_all_105 : decode cX11_all 105 = .ok (.invokevirtual 293, 3) := by decide +kernel
theorem dX11_all_108 : decode cX11_all 108 = .ok (.goto 5, 3) := by decide +kernel
theorem dX11_all_111 : decode cX11_all 111 = .ok (.bipush (-6), 2) := by decide +kernel
theorem dX11_all_113 : decode cX11_all 113 = .ok (.ireturn, 1) := by decide +kernel
theorem dX11_pass_0 : decode cX11_pass 0 = .ok (.aload_n 0, 1) := by decide +kernel
theorem dX11_pass_1 : decode cX11_pass 1 = .ok (.getfield 304, 3) := by decide +kernel
theorem dX11_pass_4 : decode cX11_pass 4 = .ok (.ifCond .eq 7, 3) := by decide +kernel
theorem dX11_pass_7 : decode cX11_pass 7 = .ok (.iload_n 1, 1) := by decide +kernel
theorem dX11_pass_8 : decode cX11_pass 8 = .ok (.goto 12, 3) := by decide +kernel
theorem dX11_pass_11 : decode cX11_pass 11 = .ok (.aload_n 0, 1) := by decide +kernel
theorem dX11_pass_12 : decode cX11_pass 12 = .ok (.getfield 78, 3) := by decide +kernel
theorem dX11_pass_15 : decode cX11_pass 15 = .ok (.aload_n 0, 1) := by decide +kernel
theorem dX11_pass_16 : decode cX11_pass 16 = .ok (.getfield 307, 3) := by decide +kernel
theorem dX11_pass_19 : decode cX11_pass 19 = .ok (.iaload, 1) := by decide +kernel
theorem dX11_pass_20 : decode cX11_pass 20 = .ok (.istore_n 2, 1) := by decide +kernel
theorem dX11_pass_21 : decode cX11_pass 21 = .ok (.aload_n 0, 1) := by decide +kernel
theorem dX11_pass_22 : decode cX11_pass 22 = .ok (.getfield 78, 3) := by decide +kernel
theorem dX11_pass_25 : decode cX11_pass 25 = .ok (.aload_n 0, 1) := by decide +kernel
theorem dX11_pass_26 : decode cX11_pass 26 = .ok (.getfield 307, 3) := by decide +kernel
theorem dX11_pass_29 : decode cX11_pass 29 = .ok (.iload_n 2, 1) := by decide +kernel
theorem dX11_pass_30 : decode cX11_pass 30 = .ok (.iastore, 1) := by decide +kernel
theorem dX11_pass_31 : decode cX11_pass 31 = .ok (.aload_n 0, 1) := by decide +kernel
theorem dX11_pass_32 : decode cX11_pass 32 = .ok (.dup, 1) := by decide +kernel
theorem dX11_pass_33 : decode cX11_pass 33 = .ok (.getfield 307, 3) := by decide +kernel
theorem dX11_pass_36 : decode cX11_pass 36 = .ok (.iconst 1, 1) := by decide +kernel
theorem dX11_pass_37 : decode cX11_pass 37 = .ok (.iadd, 1) := by decide +kernel
theorem dX11_pass_38 : decode cX11_pass 38 = .ok (.putfield 307, 3) := by decide +kernel
theorem dX11_pass_41 : decode cX11_pass 41 = .ok (.iload_n 2, 1) := by decide +kernel
theorem dX11_pass_42 : decode cX11_pass 42 = .ok (.ireturn, 1) := by decide +kernel
theorem dX11_passAll_0 : decode cX11_passAll 0 = .ok (.aload_n 0, 1) := by decide +kernel
theorem dX11_passAll_1 : decode cX11_passAll 1 = .ok (.aload_n 0, 1) := by decide +kernel
theorem dX11_passAll_2 : decode cX11_passAll 2 = .ok (.aload_n 0, 1) := by decide +kernel
theorem dX11_passAll_3 : decode cX11_passAll 3 = .ok (.getfield 149, 3) := by decide +kernel
theorem dX11_passAll_6 : decode cX11_passAll 6 = .ok (.invokevirtual 310, 3) := by decide +kernel
theorem dX11_passAll_9 : decode cX11_passAll 9 = .ok (.putfield 149, 3) := by decide +kernel
theorem dX11_passAll_12 : decode cX11_passAll 12 = .ok (.aload_n 0, 1) := by decide +kernel
theorem dX11_passAll_13 : decode cX11_passAll 13 = .ok (.aload_n 0, 1) := by decide +kernel
theorem dX11_passAll_14 : decode cX11_passAll 14 = .ok (.aload_n 0, 1) := by decide +kernel
theorem dX11_passAll_15 : decode cX11_passAll 15 = .ok (.getfield 190, 3) := by decide +kernel
theorem dX11_passAll_18 : decode cX11_passAll 18 = .ok (.invokevirtual 310, 3) := by decide +kernel
theorem dX11_passAll_21 : decode cX11_passAll 21 = .ok (.putfield 190, 3) := by decide +kernel
theorem dX11_passAll_24 : decode cX11_passAll 24 = .ok (.aload_n 0, 1) := by decide +kernel
theorem dX11_passAll_25 : decode cX11_passAll 25 = .ok (.aload_n 0, 1) := by decide +kernel
theorem dX11_passAll_26 : decode cX11_passAll 26 = .ok (.aload_n 0, 1) := by decide +kernel
theorem dX11_passAll_27 : decode cX11_passAll 27 = .ok (.getfield 201, 3) := by decide +kernel
theorem dX11_passAll_30 : decode cX11_passAll 30 = .ok (.invokevirtual 310, 3) := by decide +kernel
theorem dX11_passAll_33 : decode cX11_passAll 33 = .ok (.putfield 201, 3) := by decide +kernel
theorem dX11_passAll_36 : decode cX11_passAll 36 = .ok (.aload_n 0, 1) := by decide +kernel
theorem dX11_passAll_37 : decode cX11_passAll 37 = .ok (.aload_n 0, 1) := by decide +kernel
theorem dX11_passAll_38 : decode cX11_passAll 38 = .ok (.aload_n 0, 1) := by decide +kernel
theorem dX11_passAll_39 : decode cX11_passAll 39 = .ok (.getfield 204, 3) := by decide +kernel
theorem dX11_passAll_42 : decode cX11_passAll 42 = .ok (.invokevirtual 310, 3) := by decide +kernel
theorem dX11_passAll_45 : decode cX11_passAll 45 = .ok (.putfield 204, 3) := by decide +kernel
theorem dX11_passAll_48 : decode cX11_passAll 48 = .ok (.aload_n 0, 1) := by decide +kernel
theorem dX11_passAll_49 : decode cX11_passAll 49 = .ok (.aload_n 0, 1) := by decide +kernel
theorem dX11_passAll_50 : decode cX11_passAll 50 = .ok (.aload_n 0, 1) := by decide +kernel
theorem dX11_passAll_51 : decode cX11_passAll 51 = .ok (.getfield 207, 3) := by decide +kernel
theorem dX11_passAll_54 : decode cX11_passAll 54 = .ok (.invokevirtual 310, 3) := by decide +kernel
theorem dX11_passAll_57 : decode cX11_passAll 57 = .ok (.putfield 207, 3) := by decide +kernel
theorem dX11_passAll_60 : decode cX11_passAll 60 = .ok (.iconst 0, 1) := by decide +kernel
theorem dX11_passAll_61 : decode cX11_passAll 61 = .ok (.istore_n 1, 1) := by decide +kernel
theorem dX11_passAll_62 : decode cX11_passAll 62 = .ok (.iload_n 1, 1) := by decide +kernel
theorem dX11_passAll_63 : decode cX11_passAll 63 = .ok (.bipush 8, 2) := by decide +kernel
theorem dX11_passAll_65 : decode cX11_passAll 65 = .ok (.if_icmp .ge 169, 3) := by decide +kernel
theorem dX11_passAll_68 : decode cX11_passAll 68 = .ok (.aload_n 0, 1) := by decide +kernel
theorem dX11_passAll_69 : decode cX11_passAll 69 = .ok (.getfield 13, 3) := by decide +kernel
theorem dX11_passAll_72 : decode cX11_passAll 72 = .ok (.iload_n 1, 1) := by decide +kernel
theorem dX11_passAll_73 : decode cX11_passAll 73 = .ok (.aload_n 0, 1) := by decide +kernel
theorem dX11_passAll_74 : decode cX11_passAll 74 = .ok (.aload_n 0, 1) := by decide +kernel
theorem dX11_passAll_75 : decode cX11_passAll 75 = .ok (.getfield 13, 3) := by decide +kernel
theorem dX11_passAll_78 : decode cX11_passAll 78 = .ok (.iload_n 1, 1) := by decide +kernel
theorem dX11_passAll_79 : decode cX11_passAll 79 = .ok (.iaload, 1) := by decide +kernel
theorem dX11_passAll_80 : decode cX11_passAll 80 = .ok (.invokevirtual 310, 3) := by decide +kernel
theorem dX11_passAll_83 : decode cX11_passAll 83 = .ok (.iastore, 1) := by decide +kernel
theorem dX11_passAll_84 : decode cX11_passAll 84 = .ok (.aload_n 0, 1) := by decide +kernel
theorem dX11_passAll_85 : decode cX11_passAll 85 = .ok (.getfield 16, 3) := by decide +kernel
theorem dX11_passAll_88 : decode cX11_passAll 88 = .ok (.iload_n 1, 1) := by decide +kernel
theorem dX11_passAll_89 : decode cX11_passAll 89 = .ok (.aload_n 0, 1) := by decide +kernel
theorem dX11_passAll_90 : decode cX11_passAll 90 = .ok (.aload_n 0, 1) := by decide +kernel
theorem dX11_passAll_91 : decode cX11_passAll 91 = .ok (.getfield 16, 3) := by decide +kernel
theorem dX11_passAll_94 : decode cX11_passAll 94 = .ok (.iload_n 1, 1) := by decide +kernel
theorem dX11_passAll_95 : decode cX11_passAll 95 = .ok (.iaload, 1) := by decide +kernel
theorem dX11_passAll_96 : decode cX11_passAll 96 = .ok (.invokevirtual 310, 3) := by decide +kernel
theorem dX11_passAll_99 : decode cX11_passAll 99 = .ok (.iastore, 1) := by decide +kernel
theorem dX11_passAll_100 : decode cX11_passAll 100 = .ok (.aload_n 0, 1) := by decide +kernel
theorem dX11_passAll_101 : decode cX11_passAll 101 = .ok (.getfield 19, 3) := by decide +kernel
theorem dX11_passAll_104 : decode cX11_passAll 104 = .ok (.iload_n 1, 1) := by decide +kernel
theorem dX11_passAll_105 : decode cX11_passAll 105 = .ok (.aload_n 0, 1) := by decide +kernel
theorem dX11_passAll_106 : decode cX11_passAll 106 = .ok (.aload_n 0, 1) := by decide +kernel
theorem dX11_passAll_107 : decode cX11_passAll 107 = .ok (.getfield 19, 3) := by decide +kernel
theorem dX11_passAll_110 : decode cX11_passAll 110 = .ok (.iload_n 1, 1) := by decide +kernel
theorem dX11_passAll_111 : decode cX11_passAll 111 = .ok (.iaload, 1) := by decide +kernel
theorem dX11_passAll_112 : decode cX11_passAll 112 = .ok (.invokevirtual 310, 3) := by decide +kernel
theorem dX11_passAll_115 : decode cX11_passAll 115 = .ok (.iastore, 1) := by decide +kernel
theorem dX11_passAll_116 : decode cX11_passAll 116 = .ok (.aload_n 0, 1) := by decide +kernel
theorem dX11_passAll_117 : decode cX11_passAll 117 = .ok (.getfield 28, 3) := by decide +kernel
theorem dX11_passAll_120 : decode cX11_passAll 120 = .ok (.iload_n 1, 1) := by decide +kernel
theorem dX11_passAll_121 : decode cX11_passAll 121 = .ok (.aload_n 0, 1) := by decide +kernel
theorem dX11_passAll_122 : decode cX11_passAll 122 = .ok (.aload_n 0, 1) := by decide +kernel
theorem dX11_passAll_123 : decode cX11_passAll 123 = .ok (.getfield 28, 3) := by decide +kernel
theorem dX11_passAll_126 : decode cX11_passAll 126 = .ok (.iload_n 1, 1) := by decide +kernel
theorem dX11_passAll_127 : decode cX11_passAll 127 = .ok (.iaload, 1) := by decide +kernel
theorem dX11_passAll_128 : decode cX11_passAll 128 = .ok (.invokevirtual 310, 3) := by decide +kernel
theorem dX11_passAll_131 : decode cX11_passAll 131 = .ok (.iastore, 1) := by decide +kernel
theorem dX11_passAll_132 : decode cX11_passAll 132 = .ok (.aload_n 0, 1) := by decide +kernel
theorem dX11_passAll_133 : decode cX11_passAll 133 = .ok (.getfield 31, 3) := by decide +kernel
theorem dX11_passAll_136 : decode cX11_passAll 136 = .ok (.iload_n 1, 1) := by decide +kernel
theorem dX11_passAll_137 : decode cX11_passAll 137 = .ok (.aload_n 0, 1) := by decide +kernel
theorem dX11_passAll_138 : decode cX11_passAll 138 = .ok (.aload_n 0, 1) := by decide +kernel
theorem dX11_passAll_139 : decode cX11_passAll 139 = .ok (.getfield 31, 3) := by decide +kernel
theorem dX11_passAll_142 : decode cX11_passAll 142 = .ok (.iload_n 1, 1) := by decide +kernel
theorem dX11_passAll_143 : decode cX11_passAll 143 = .ok (.iaload, 1) := by decide +kernel
theorem dX11_passAll_144 : decode cX11_passAll 144 = .ok (.invokevirtual 310, 3) := by decide +kernel
theorem dX11_passAll_147 : decode cX11_passAll 147 = .ok (.iastore, 1) := by decide +kernel
theorem dX11_passAll_148 : decode cX11_passAll 148 = .ok (.aload_n 0, 1) := by decide +kernel
theorem dX11_passAll_149 : decode cX11_passAll 149 = .ok (.getfield 34, 3) := by decide +kernel
theorem dX11_passAll_152 : decode cX11_passAll 152 = .ok (.iload_n 1, 1) := by decide +kernel
theorem dX11_passAll_153 : decode cX11_passAll 153 = .ok (.aload_n 0, 1) := by decide +kernel
theorem dX11_passAll_154 : decode cX11_passAll 154 = .ok (.aload_n 0, 1) := by decide +kernel
theorem dX11_passAll_155 : decode cX11_passAll 155 = .ok (.getfield 34, 3) := by decide +kernel
theorem dX11_passAll_158 : decode cX11_passAll 158 = .ok (.iload_n 1, 1) := by decide +kernel
theorem dX11_passAll_159 : decode cX11_passAll 159 = .ok (.iaload, 1) := by decide +kernel
theorem dX11_passAll_160 : decode cX11_passAll 160 = .ok (.invokevirtual 310, 3) := by decide +kernel
theorem dX11_passAll_163 : decode cX11_passAll 163 = .ok (.iastore, 1) := by decide +kernel
theorem dX11_passAll_164 : decode cX11_passAll 164 = .ok (.aload_n 0, 1) := by decide +kernel
theorem dX11_passAll_165 : decode cX11_passAll 165 = .ok (.getfield 37, 3) := by decide +kernel
theorem dX11_passAll_168 : decode cX11_passAll 168 = .ok (.iload_n 1, 1) := by decide +kernel
theorem dX11_passAll_169 : decode cX11_passAll 169 = .ok (.aload_n 0, 1) := by decide +kernel
theorem dX11_passAll_170 : decode cX11_passAll 170 = .ok (.aload_n 0, 1) := by decide +kernel
theorem dX11_passAll_171 : decode cX11_passAll 171 = .ok (.getfield 37, 3) := by decide +kernel
theorem dX11_passAll_174 : decode cX11_passAll 174 = .ok (.iload_n 1, 1) := by decide +kernel
theorem dX11_passAll_175 : decode cX11_passAll 175 = .ok (.iaload, 1) := by decide +kernel
theorem dX11_passAll_176 : decode cX11_passAll 176 = .ok (.invokevirtual 310, 3) := by decide +kernel
theorem dX11_passAll_179 : decode cX11_passAll 179 = .ok (.iastore, 1) := by decide +kernel
theorem dX11_passAll_180 : decode cX11_passAll 180 = .ok (.aload_n 0, 1) := by decide +kernel
theorem dX11_passAll_181 : decode cX11_passAll 181 = .ok (.getfield 40, 3) := by decide +kernel
theorem dX11_passAll_184 : decode cX11_passAll 184 = .ok (.iload_n 1, 1) := by decide +kernel
theorem dX11_passAll_185 : decode cX11_passAll 185 = .ok (.aload_n 0, 1) := by decide +kernel
theorem dX11_passAll_186 : decode cX11_passAll 186 = .ok (.aload_n 0, 1) := by decide +kernel
theorem dX11_passAll_187 : decode cX11_passAll 187 = .ok (.getfield 40, 3) := by decide +kernel
theorem dX11_passAll_190 : decode cX11_passAll 190 = .ok (.iload_n 1, 1) := by decide +kernel
theorem dX11_passAll_191 : decode cX11_passAll 191 = .ok (.iaload, 1) := by decide +kernel
theorem dX11_passAll_192 : decode cX11_passAll 192 = .ok (.invokevirtual 310, 3) := by decide +kernel
theorem dX11_passAll_195 : decode cX11_passAll 195 = .ok (.iastore, 1) := by decide +kernel
theorem dX11_passAll_196 : decode cX11_passAll 196 = .ok (.aload_n 0, 1) := by decide +kernel
theorem dX11_passAll_197 : decode cX11_passAll 197 = .ok (.getfield 43, 3) := by decide +kernel
theorem dX11_passAll_200 : decode cX11_passAll 200 = .ok (.iload_n 1, 1) := by decide +kernel
theorem dX11_passAll_201 : decode cX11_passAll 201 = .ok (.aload_n 0, 1) := by decide +kernel
theorem dX11_passAll_202 : decode cX11_passAll 202 = .ok (.aload_n 0, 1) := by decide +kernel
theorem dX11_passAll_203 : decode cX11_passAll 203 = .ok (.getfield 43, 3) := by decide +kernel
theorem dX11_passAll_206 : decode cX11_passAll 206 = .ok (.iload_n 1, 1) := by decide +kernel
theorem dX11_passAll_207 : decode cX11_passAll 207 = .ok (.iaload, 1) := by decide +kernel
theorem dX11_passAll_208 : decode cX11_passAll 208 = .ok (.invokevirtual 310, 3) := by decide +kernel
theorem dX11_passAll_211 : decode cX11_passAll 211 = .ok (.iastore, 1) := by decide +kernel
theorem dX11_passAll_212 : decode cX11_passAll 212 = .ok (.aload_n 0, 1) := by decide +kernel
theorem dX11_passAll_213 : decode cX11_passAll 213 = .ok (.getfield 46, 3) := by decide +kernel
theorem dX11_passAll_216 : decode cX11_passAll 216 = .ok (.iload_n 1, 1) := by decide +kernel
theorem dX11_passAll_217 : decode cX11_passAll 217 = .ok (.aload_n 0, 1) := by decide +kernel
theorem dX11_passAll_218 : decode cX11_passAll 218 = .ok (.aload_n 0, 1) := by decide +kernel
theorem dX11_passAll_219 : decode cX11_passAll 219 = .ok (.getfield 46, 3) := by decide +kernel
theorem dX11_passAll_222 : decode cX11_passAll 222 = .ok (.iload_n 1, 1) := by decide +kernel
theorem dX11_passAll_223 : decode cX11_passAll 223 = .ok (.iaload, 1) := by decide +kernel
theorem dX11_passAll_224 : decode cX11_passAll 224 = .ok (.invokevirtual 310, 3) := by decide +kernel
theorem dX11_passAll_227 : decode cX11_passAll 227 = .ok (.iastore, 1) := by decide +kernel
theorem dX11_passAll_228 : decode cX11_passAll 228 = .ok (.iinc 1 1, 3) := by decide +kernel
theorem dX11_passAll_231 : decode cX11_passAll 231 = .ok (.goto (-169), 3) := by decide +kernel
theorem dX11_passAll_234 : decode cX11_passAll 234 = .ok (.iconst 0, 1) := by decide +kernel
theorem dX11_passAll_235 : decode cX11_passAll 235 = .ok (.istore_n 1, 1) := by decide +kernel
theorem dX11_passAll_236 : decode cX11_passAll 236 = .ok (.iload_n 1, 1) := by decide +kernel
theorem dX11_passAll_237 : decode cX11_passAll 237 = .ok (.bipush 48, 2) := by decide +kernel
theorem dX11_passAll_239 : decode cX11_passAll 239 = .ok (.if_icmp .ge 41, 3) := by decide +kernel
theorem dX11_passAll_242 : decode cX11_passAll 242 = .ok (.aload_n 0, 1) := by decide +kernel
theorem dX11_passAll_243 : decode cX11_passAll 243 = .ok (.getfield 22, 3) := by decide +kernel
theorem dX11_passAll_246 : decode cX11_passAll 246 = .ok (.iload_n 1, 1) := by decide +kernel
theorem dX11_passAll_247 : decode cX11_passAll 247 = .ok (.aload_n 0, 1) := by decide +kernel
theorem dX11_passAll_248 : decode cX11_passAll 248 = .ok (.aload_n 0, 1) := by decide +kernel
theorem dX11_passAll_249 : decode cX11_passAll 249 = .ok (.getfield 22, 3) := by decide +kernel
theorem dX11_passAll_252 : decode cX11_passAll 252 = .ok (.iload_n 1, 1) := by decide +kernel
theorem dX11_passAll_253 : decode cX11_passAll 253 = .ok (.iaload, 1) := by decide +kernel
theorem dX11_passAll_254 : decode cX11_passAll 254 = .ok (.invokevirtual 310, 3) := by decide +kernel
theorem dX11_passAll_257 : decode cX11_passAll 257 = .ok (.iastore, 1) := by decide +kernel
theorem dX11_passAll_258 : decode cX11_passAll 258 = .ok (.aload_n 0, 1) := by decide +kernel
theorem dX11_passAll_259 : decode cX11_passAll 259 = .ok (.getfield 25, 3) := by decide +kernel
theorem dX11_passAll_262 : decode cX11_passAll 262 = .ok (.iload_n 1, 1) := by decide +kernel
theorem dX11_passAll_263 : decode cX11_passAll 263 = .ok (.aload_n 0, 1) := by decide +kernel
theorem dX11_passAll_264 : decode cX11_passAll 264 = .ok (.aload_n 0, 1) := by decide +kernel
theorem dX11_passAll_265 : decode cX11_passAll 265 = .ok (.getfield 25, 3) := by decide +kernel
theorem dX11_passAll_268 : decode cX11_passAll 268 = .ok (.iload_n 1, 1) := by decide +kernel
theorem dX11_passAll_269 : decode cX11_passAll 269 = .ok (.iaload, 1) := by decide +kernel
theorem dX11_passAll_270 : decode cX11_passAll 270 = .ok (.invokevirtual 310, 3) := by decide +kernel
theorem dX11_passAll_273 : decode cX11_passAll 273 = .ok (.iastore, 1) := by decide +kernel
theorem dX11_passAll_274 : decode cX11_passAll 274 = .ok (.iinc 1 1, 3) := by decide +kernel
theorem dX11_passAll_277 : decode cX11_passAll 277 = .ok (.goto (-41), 3) := by decide +kernel
theorem dX11_passAll_280 : decode cX11_passAll 280 = .ok (.iconst 0, 1) := by decide +kernel
theorem dX11_passAll_281 : decode cX11_passAll 281 = .ok (.istore_n 1, 1) := by decide +kernel
theorem dX11_passAll_282 : decode cX11_passAll 282 = .ok (.iload_n 1, 1) := by decide +kernel
theorem dX11_passAll_283 : decode cX11_passAll 283 = .ok (.bipush 8, 2) := by decide +kernel
theorem dX11_passAll_285 : decode cX11_passAll 285 = .ok (.if_icmp .ge 89, 3) := by decide +kernel
theorem dX11_passAll_288 : decode cX11_passAll 288 = .ok (.aload_n 0, 1) := by decide +kernel
theorem dX11_passAll_289 : decode cX11_passAll 289 = .ok (.getfield 53, 3) := by decide +kernel
theorem dX11_passAll_292 : decode cX11_passAll 292 = .ok (.iload_n 1, 1) := by decide +kernel
theorem dX11_passAll_293 : decode cX11_passAll 293 = .ok (.aload_n 0, 1) := by decide +kernel
theorem dX11_passAll_294 : decode cX11_passAll 294 = .ok (.aload_n 0, 1) := by decide +kernel
theorem dX11_passAll_295 : decode cX11_passAll 295 = .ok (.getfield 53, 3) := by decide +kernel
theorem dX11_passAll_298 : decode cX11_passAll 298 = .ok (.iload_n 1, 1) := by decide +kernel
theorem dX11_passAll_299 : decode cX11_passAll 299 = .ok (.iaload, 1) := by decide +kernel
theorem dX11_passAll_300 : decode cX11_passAll 300 = .ok (.invokevirtual 310, 3) := by decide +kernel
theorem dX11_passAll_303 : decode cX11_passAll 303 = .ok (.iastore, 1) := by decide +kernel
theorem dX11_passAll_304 : decode cX11_passAll 304 = .ok (.aload_n 0, 1) := by decide +kernel
theorem dX11_passAll_305 : decode cX11_passAll 305 = .ok (.getfield 56, 3) := by decide +kernel
theorem dX11_passAll_308 : decode cX11_passAll 308 = .ok (.iload_n 1, 1) := by decide +kernel
theorem dX11_passAll_309 : decode cX11_passAll 309 = .ok (.aload_n 0, 1) := by decide +kernel
theorem dX11_passAll_310 : decode cX11_passAll 310 = .ok (.aload_n 0, 1) := by decide +kernel
theorem dX11_passAll_311 : decode cX11_passAll 311 = .ok (.getfield 56, 3) := by decide +kernel
theorem dX11_passAll_314 : decode cX11_passAll 314 = .ok (.iload_n 1, 1) := by decide +kernel
theorem dX11_passAll_315 : decode cX11_passAll 315 = .ok (.iaload, 1) := by decide +kernel
theorem dX11_passAll_316 : decode cX11_passAll 316 = .ok (.invokevirtual 310, 3) := by decide +kernel
theorem dX11_passAll_319 : decode cX11_passAll 319 = .ok (.iastore, 1) := by decide +kernel
theorem dX11_passAll_320 : decode cX11_passAll 320 = .ok (.aload_n 0, 1) := by decide +kernel
theorem dX11_passAll_321 : decode cX11_passAll 321 = .ok (.getfield 59, 3) := by decide +kernel
theorem dX11_passAll_324 : decode cX11_passAll 324 = .ok (.iload_n 1, 1) := by decide +kernel
theorem dX11_passAll_325 : decode cX11_passAll 325 = .ok (.aload_n 0, 1) := by decide +kernel
theorem dX11_passAll_326 : decode cX11_passAll 326 = .ok (.aload_n 0, 1) := by decide +kernel
theorem dX11_passAll_327 : decode cX11_passAll 327 = .ok (.getfield 59, 3) := by decide +kernel
theorem dX11_passAll_330 : decode cX11_passAll 330 = .ok (.iload_n 1, 1) := by decide +kernel
theorem dX11_passAll_331 : decode cX11_passAll 331 = .ok (.iaload, 1) := by decide +kernel
theorem dX11_passAll_332 : decode cX11_passAll 332 = .ok (.invokevirtual 310, 3) := by decide +kernel
theorem dX11_passAll_335 : decode cX11_passAll 335 = .ok (.iastore, 1) := by decide +kernel
theorem dX11_passAll_336 : decode cX11_passAll 336 = .ok (.aload_n 0, 1) := by decide +kernel
theorem dX11_passAll_337 : decode cX11_passAll 337 = .ok (.getfield 62, 3) := by decide +kernel
theorem dX11_passAll_340 : decode cX11_passAll 340 = .ok (.iload_n 1, 1) := by decide +kernel
theorem dX11_passAll_341 : decode cX11_passAll 341 = .ok (.aload_n 0, 1) := by decide +kernel
theorem dX11_passAll_342 : decode cX11_passAll 342 = .ok (.aload_n 0, 1) := by decide +kernel
theorem dX11_passAll_343 : decode cX11_passAll 343 = .ok (.getfield 62, 3) := by decide +kernel
theorem dX11_passAll_346 : decode cX11_passAll 346 = .ok (.iload_n 1, 1) := by decide +kernel
theorem dX11_passAll_347 : decode cX11_passAll 347 = .ok (.iaload, 1) := by decide +kernel
theorem dX11_passAll_348 : decode cX11_passAll 348 = .ok (.invokevirtual 310, 3) := by decide +kernel
theorem dX11_passAll_351 : decode cX11_passAll 351 = .ok (.iastore, 1) := by decide +kernel
theorem dX11_passAll_352 : decode cX11_passAll 352 = .ok (.aload_n 0, 1) := by decide +kernel
theorem dX11_passAll_353 : decode cX11_passAll 353 = .ok (.getfield 65, 3) := by decide +kernel
theorem dX11_passAll_356 : decode cX11_passAll 356 = .ok (.iload_n 1, 1) := by decide +kernel
theorem dX11_passAll_357 : decode cX11_passAll 357 = .ok (.aload_n 0, 1) := by decide +kernel
theorem dX11_passAll_358 : decode cX11_passAll 358 = .ok (.aload_n 0, 1) := by decide +kernel
theorem dX11_passAll_359 : decode cX11_passAll 359 = .ok (.getfield 65, 3) := by decide +kernel
theorem dX11_passAll_362 : decode cX11_passAll 362 = .ok (.iload_n 1, 1) := by decide +kernel
theorem dX11_passAll_363 : decode cX11_passAll 363 = .ok (.iaload, 1) := by decide +kernel
theorem dX11_passAll_364 : decode cX11_passAll 364 = .ok (.invokevirtual 310, 3) := by decide +kernel
theorem dX11_passAll_367 : decode cX11_passAll 367 = .ok (.iastore, 1) := by decide +kernel
theorem dX11_passAll_368 : decode cX11_passAll 368 = .ok (.iinc 1 1, 3) := by decide +kernel
theorem dX11_passAll_371 : decode cX11_passAll 371 = .ok (.goto (-89), 3) := by decide +kernel
theorem dX11_passAll_374 : decode cX11_passAll 374 = .ok (.return_, 1) := by decide +kernel
theorem dX11_image_0 : decode cX11_image 0 = .ok (.iload_n 1, 1) := by decide +kernel
theorem dX11_image_1 : decode cX11_image 1 = .ok (.i2l, 1) := by decide +kernel
theorem dX11_image_2 : decode cX11_image 2 = .ok (.lconst 0, 1) := by decide +kernel
theorem dX11_image_3 : decode cX11_image 3 = .ok (.lconst 1, 1) := by decide +kernel
theorem dX11_image_4 : decode cX11_image 4 = .ok (.invokestatic 86, 3) := by decide +kernel
theorem dX11_image_7 : decode cX11_image 7 = .ok (.ifCond .ne 6, 3) := by decide +kernel
theorem dX11_image_10 : decode cX11_image 10 = .ok (.bipush (-2), 2) := by decide +kernel
theorem dX11_image_12 : decode cX11_image 12 = .ok (.ireturn, 1) := by decide +kernel
theorem dX11_image_13 : decode cX11_image 13 = .ok (.aload_n 0, 1) := by decide +kernel
theorem dX11_image_14 : decode cX11_image 14 = .ok (.sipush 400, 3) := by decide +kernel
theorem dX11_image_17 : decode cX11_image 17 = .ok (.iload_n 1, 1) := by decide +kernel
theorem dX11_image_18 : decode cX11_image 18 = .ok (.imul, 1) := by decide +kernel
theorem dX11_image_19 : decode cX11_image 19 = .ok (.putfield 307, 3) := by decide +kernel
theorem dX11_image_22 : decode cX11_image 22 = .ok (.aload_n 0, 1) := by decide +kernel
theorem dX11_image_23 : decode cX11_image 23 = .ok (.iconst 1, 1) := by decide +kernel
theorem dX11_image_24 : decode cX11_image 24 = .ok (.putfield 304, 3) := by decide +kernel
theorem dX11_image_27 : decode cX11_image 27 = .ok (.aload_n 0, 1) := by decide +kernel
theorem dX11_image_28 : decode cX11_image 28 = .ok (.invokevirtual 313, 3) := by decide +kernel
theorem dX11_image_31 : decode cX11_image 31 = .ok (.aload_n 0, 1) := by decide +kernel
theorem dX11_image_32 : decode cX11_image 32 = .ok (.getfield 81, 3) := by decide +kernel
theorem dX11_image_35 : decode cX11_image 35 = .ok (.iload_n 1, 1) := by decide +kernel
theorem dX11_image_36 : decode cX11_image 36 = .ok (.iconst 1, 1) := by decide +kernel
theorem dX11_image_37 : decode cX11_image 37 = .ok (.bastore, 1) := by decide +kernel
theorem dX11_image_38 : decode cX11_image 38 = .ok (.iconst 1, 1) := by decide +kernel
theorem dX11_image_39 : decode cX11_image 39 = .ok (.ireturn, 1) := by decide +kernel
theorem dX11_restore_0 : decode cX11_restore 0 = .ok (.iload_n 1, 1) := by decide +kernel
theorem dX11_restore_1 : decode cX11_restore 1 = .ok (.i2l, 1) := by decide +kernel
theorem dX11_restore_2 : decode cX11_restore 2 = .ok (.lconst 0, 1) := by decide +kernel
theorem dX11_restore_3 : decode cX11_restore 3 = .ok (.lconst 1, 1) := by decide +kernel
theorem dX11_restore_4 : decode cX11_restore 4 = .ok (.invokestatic 86, 3) := by decide +kernel
theorem dX11_restore_7 : decode cX11_restore 7 = .ok (.ifCond .ne 6, 3) := by decide +kernel
theorem dX11_restore_10 : decode cX11_restore 10 = .ok (.bipush (-2), 2) := by decide +kernel
theorem dX11_restore_12 : decode cX11_restore 12 = .ok (.ireturn, 1) := by decide +kernel
theorem dX11_restore_13 : decode cX11_restore 13 = .ok (.aload_n 0, 1) := by decide +kernel
theorem dX11_restore_14 : decode cX11_restore 14 = .ok (.getfield 81, 3) := by decide +kernel
theorem dX11_restore_17 : decode cX11_restore 17 = .ok (.iload_n 1, 1) := by decide +kernel
theorem dX11_restore_18 : decode cX11_restore 18 = .ok (.baload, 1) := by decide +kernel
theorem dX11_restore_19 : decode cX11_restore 19 = .ok (.ifCond .ne 6, 3) := by decide +kernel
theorem dX11_restore_22 : decode cX11_restore 22 = .ok (.bipush (-3), 2) := by decide +kernel
theorem dX11_restore_24 : decode cX11_restore 24 = .ok (.ireturn, 1) := by decide +kernel
theorem dX11_restore_25 : decode cX11_restore 25 = .ok (.aload_n 0, 1) := by decide +kernel
theorem dX11_restore_26 : decode cX11_restore 26 = .ok (.sipush 400, 3) := by decide +kernel
theorem dX11_restore_29 : decode cX11_restore 29 = .ok (.iload_n 1, 1) := by decide +kernel
theorem dX11_restore_30 : decode cX11_restore 30 = .ok (.imul, 1) := by decide +kernel
theorem dX11_restore_31 : decode cX11_restore 31 = .ok (.putfield 307, 3) := by decide +kernel
theorem dX11_restore_34 : decode cX11_restore 34 = .ok (.aload_n 0, 1) := by decide +kernel
theorem dX11_restore_35 : decode cX11_restore 35 = .ok (.iconst 0, 1) := by decide +kernel
theorem dX11_restore_36 : decode cX11_restore 36 = .ok (.putfield 304, 3) := by decide +kernel
theorem dX11_restore_39 : decode cX11_restore 39 = .ok (.aload_n 0, 1) := by decide +kernel
theorem dX11_restore_40 : decode cX11_restore 40 = .ok (.invokevirtual 313, 3) := by decide +kernel
theorem dX11_restore_43 : decode cX11_restore 43 = .ok (.iconst 1, 1) := by decide +kernel
theorem dX11_restore_44 : decode cX11_restore 44 = .ok (.ireturn, 1) := by decide +kernel
theorem dX11_told_0 : decode cX11_told 0 = .ok (.iload_n 1, 1) := by decide +kernel
theorem dX11_told_1 : decode cX11_told 1 = .ok (.tableswitch 69 0 5 #[39, 44, 49, 54, 59, 64], 39) := by decide +kernel
theorem dX11_told_40 : decode cX11_told 40 = .ok (.aload_n 0, 1) := by decide +kernel
theorem dX11_told_41 : decode cX11_told 41 = .ok (.getfield 149, 3) := by decide +kernel
theorem dX11_told_44 : decode cX11_told 44 = .ok (.ireturn, 1) := by decide +kernel
theorem dX11_told_45 : decode cX11_told 45 = .ok (.aload_n 0, 1) := by decide +kernel
theorem dX11_told_46 : decode cX11_told 46 = .ok (.getfield 190, 3) := by decide +kernel
theorem dX11_told_49 : decode cX11_told 49 = .ok (.ireturn, 1) := by decide +kernel
theorem dX11_told_50 : decode cX11_told 50 = .ok (.aload_n 0, 1) := by decide +kernel
theorem dX11_told_51 : decode cX11_told 51 = .ok (.getfield 94, 3) := by decide +kernel
theorem dX11_told_54 : decode cX11_told 54 = .ok (.ireturn, 1) := by decide +kernel
theorem dX11_told_55 : decode cX11_told 55 = .ok (.aload_n 0, 1) := by decide +kernel
theorem dX11_told_56 : decode cX11_told 56 = .ok (.getfield 201, 3) := by decide +kernel
theorem dX11_told_59 : decode cX11_told 59 = .ok (.ireturn, 1) := by decide +kernel
theorem dX11_told_60 : decode cX11_told 60 = .ok (.aload_n 0, 1) := by decide +kernel
theorem dX11_told_61 : decode cX11_told 61 = .ok (.getfield 204, 3) := by decide +kernel
theorem dX11_told_64 : decode cX11_told 64 = .ok (.ireturn, 1) := by decide +kernel
theorem dX11_told_65 : decode cX11_told 65 = .ok (.aload_n 0, 1) := by decide +kernel
theorem dX11_told_66 : decode cX11_told 66 = .ok (.getfield 207, 3) := by decide +kernel
theorem dX11_told_69 : decode cX11_told 69 = .ok (.ireturn, 1) := by decide +kernel
theorem dX11_told_70 : decode cX11_told 70 = .ok (.bipush (-2), 2) := by decide +kernel
theorem dX11_told_72 : decode cX11_told 72 = .ok (.ireturn, 1) := by decide +kernel
